section
-- ===== PART A: goes FIRST, ahead of the names: the tables' words, and 'selects' of the private methods out of them =====
/-- a private method of a class that the tables say can be made, by its rows of tables_1 -/
def lw_okq (q : MethodName × Nat) : Prop := (q.1.cls ≠ "java/lang/invoke/MethodHandle" ∧ q.1.cls ≠ "java/lang/invoke/VarHandle") ∧ Cond.instantiable q.1.cls q.2 ∈ tables_1 ∧ Cond.privateMethod q.1 ∈ tables_1 ∧ Cond.instanceMethod q.1 ∈ tables_1
theorem lw_p0 : lw_okq (⟨"GuestKernel", "makeReady", "(LGuestKernel$Guest;)V"⟩, 13) := ⟨⟨by decide +kernel, by decide +kernel⟩, List.mem_of_getElem? (i := 20) (by decide +kernel), List.mem_of_getElem? (i := 210) (by decide +kernel), List.mem_of_getElem? (i := 211) (by decide +kernel)⟩
theorem lw_p1 : lw_okq (⟨"java/lang/Throwable", "fillInStackTrace", "(I)Ljava/lang/Throwable;"⟩, 6) := ⟨⟨by decide +kernel, by decide +kernel⟩, List.mem_of_getElem? (i := 314) (by decide +kernel), List.mem_of_getElem? (i := 312) (by decide +kernel), List.mem_of_getElem? (i := 313) (by decide +kernel)⟩
theorem lw_p2 : lw_okq (⟨"GuestKernel", "requireNoneBlocked", "()V"⟩, 13) := ⟨⟨by decide +kernel, by decide +kernel⟩, List.mem_of_getElem? (i := 20) (by decide +kernel), List.mem_of_getElem? (i := 360) (by decide +kernel), List.mem_of_getElem? (i := 361) (by decide +kernel)⟩
theorem lw_p3 : lw_okq (⟨"GuestKernel", "takeTurn", "(LGuestKernel$Processor;)V"⟩, 13) := ⟨⟨by decide +kernel, by decide +kernel⟩, List.mem_of_getElem? (i := 20) (by decide +kernel), List.mem_of_getElem? (i := 380) (by decide +kernel), List.mem_of_getElem? (i := 381) (by decide +kernel)⟩
theorem lw_p4 : lw_okq (⟨"GuestKernel", "takeNext", "(LGuestKernel$Processor;)I"⟩, 13) := ⟨⟨by decide +kernel, by decide +kernel⟩, List.mem_of_getElem? (i := 20) (by decide +kernel), List.mem_of_getElem? (i := 384) (by decide +kernel), List.mem_of_getElem? (i := 385) (by decide +kernel)⟩
theorem lw_p5 : lw_okq (⟨"GuestKernel", "perform", "(LGuestKernel$Guest;II)I"⟩, 13) := ⟨⟨by decide +kernel, by decide +kernel⟩, List.mem_of_getElem? (i := 20) (by decide +kernel), List.mem_of_getElem? (i := 397) (by decide +kernel), List.mem_of_getElem? (i := 398) (by decide +kernel)⟩
theorem lw_p6 : lw_okq (⟨"GuestKernel", "end", "(LGuestKernel$Guest;I)V"⟩, 13) := ⟨⟨by decide +kernel, by decide +kernel⟩, List.mem_of_getElem? (i := 20) (by decide +kernel), List.mem_of_getElem? (i := 401) (by decide +kernel), List.mem_of_getElem? (i := 402) (by decide +kernel)⟩
theorem lw_p7 : lw_okq (⟨"GuestKernel", "dropPage", "(LGuestKernel$Guest;I)Z"⟩, 13) := ⟨⟨by decide +kernel, by decide +kernel⟩, List.mem_of_getElem? (i := 20) (by decide +kernel), List.mem_of_getElem? (i := 405) (by decide +kernel), List.mem_of_getElem? (i := 406) (by decide +kernel)⟩
theorem lw_p8 : lw_okq (⟨"GuestKernel", "passOn", "(LGuestKernel$Lock;)V"⟩, 13) := ⟨⟨by decide +kernel, by decide +kernel⟩, List.mem_of_getElem? (i := 20) (by decide +kernel), List.mem_of_getElem? (i := 413) (by decide +kernel), List.mem_of_getElem? (i := 414) (by decide +kernel)⟩
theorem lw_p9 : lw_okq (⟨"GuestKernel", "handOverChildren", "(LGuestKernel$Guest;)V"⟩, 13) := ⟨⟨by decide +kernel, by decide +kernel⟩, List.mem_of_getElem? (i := 20) (by decide +kernel), List.mem_of_getElem? (i := 417) (by decide +kernel), List.mem_of_getElem? (i := 418) (by decide +kernel)⟩
theorem lw_p10 : lw_okq (⟨"GuestKernel", "load", "(LGuestKernel$Guest;II)I"⟩, 13) := ⟨⟨by decide +kernel, by decide +kernel⟩, List.mem_of_getElem? (i := 20) (by decide +kernel), List.mem_of_getElem? (i := 421) (by decide +kernel), List.mem_of_getElem? (i := 422) (by decide +kernel)⟩
theorem lw_p11 : lw_okq (⟨"GuestKernel", "store", "(LGuestKernel$Guest;II)I"⟩, 13) := ⟨⟨by decide +kernel, by decide +kernel⟩, List.mem_of_getElem? (i := 20) (by decide +kernel), List.mem_of_getElem? (i := 432) (by decide +kernel), List.mem_of_getElem? (i := 433) (by decide +kernel)⟩
theorem lw_p12 : lw_okq (⟨"GuestKernel", "map", "(LGuestKernel$Guest;II)I"⟩, 13) := ⟨⟨by decide +kernel, by decide +kernel⟩, List.mem_of_getElem? (i := 20) (by decide +kernel), List.mem_of_getElem? (i := 440) (by decide +kernel), List.mem_of_getElem? (i := 441) (by decide +kernel)⟩
theorem lw_p13 : lw_okq (⟨"GuestKernel$Frames", "clear", "(I)V"⟩, 3) := ⟨⟨by decide +kernel, by decide +kernel⟩, List.mem_of_getElem? (i := 39) (by decide +kernel), List.mem_of_getElem? (i := 452) (by decide +kernel), List.mem_of_getElem? (i := 453) (by decide +kernel)⟩
theorem lw_p14 : lw_okq (⟨"GuestKernel", "unmap", "(LGuestKernel$Guest;II)I"⟩, 13) := ⟨⟨by decide +kernel, by decide +kernel⟩, List.mem_of_getElem? (i := 20) (by decide +kernel), List.mem_of_getElem? (i := 457) (by decide +kernel), List.mem_of_getElem? (i := 458) (by decide +kernel)⟩
theorem lw_p15 : lw_okq (⟨"GuestKernel", "spawn", "(LGuestKernel$Guest;III)I"⟩, 13) := ⟨⟨by decide +kernel, by decide +kernel⟩, List.mem_of_getElem? (i := 20) (by decide +kernel), List.mem_of_getElem? (i := 461) (by decide +kernel), List.mem_of_getElem? (i := 462) (by decide +kernel)⟩
def lw_privs_1 : List (MethodName × Nat) := [(⟨"GuestKernel", "makeReady", "(LGuestKernel$Guest;)V"⟩, 13), (⟨"java/lang/Throwable", "fillInStackTrace", "(I)Ljava/lang/Throwable;"⟩, 6), (⟨"GuestKernel", "requireNoneBlocked", "()V"⟩, 13), (⟨"GuestKernel", "takeTurn", "(LGuestKernel$Processor;)V"⟩, 13), (⟨"GuestKernel", "takeNext", "(LGuestKernel$Processor;)I"⟩, 13), (⟨"GuestKernel", "perform", "(LGuestKernel$Guest;II)I"⟩, 13), (⟨"GuestKernel", "end", "(LGuestKernel$Guest;I)V"⟩, 13), (⟨"GuestKernel", "dropPage", "(LGuestKernel$Guest;I)Z"⟩, 13), (⟨"GuestKernel", "passOn", "(LGuestKernel$Lock;)V"⟩, 13), (⟨"GuestKernel", "handOverChildren", "(LGuestKernel$Guest;)V"⟩, 13), (⟨"GuestKernel", "load", "(LGuestKernel$Guest;II)I"⟩, 13), (⟨"GuestKernel", "store", "(LGuestKernel$Guest;II)I"⟩, 13), (⟨"GuestKernel", "map", "(LGuestKernel$Guest;II)I"⟩, 13), (⟨"GuestKernel$Frames", "clear", "(I)V"⟩, 3), (⟨"GuestKernel", "unmap", "(LGuestKernel$Guest;II)I"⟩, 13), (⟨"GuestKernel", "spawn", "(LGuestKernel$Guest;III)I"⟩, 13)]
theorem lw_r1 : ∀ q ∈ lw_privs_1, lw_okq q := List.forall_mem_cons.mpr ⟨lw_p0, List.forall_mem_cons.mpr ⟨lw_p1, List.forall_mem_cons.mpr ⟨lw_p2, List.forall_mem_cons.mpr ⟨lw_p3, List.forall_mem_cons.mpr ⟨lw_p4, List.forall_mem_cons.mpr ⟨lw_p5, List.forall_mem_cons.mpr ⟨lw_p6, List.forall_mem_cons.mpr ⟨lw_p7, List.forall_mem_cons.mpr ⟨lw_p8, List.forall_mem_cons.mpr ⟨lw_p9, List.forall_mem_cons.mpr ⟨lw_p10, List.forall_mem_cons.mpr ⟨lw_p11, List.forall_mem_cons.mpr ⟨lw_p12, List.forall_mem_cons.mpr ⟨lw_p13, List.forall_mem_cons.mpr ⟨lw_p14, List.forall_mem_cons.mpr ⟨lw_p15, fun _ h => absurd h List.not_mem_nil⟩⟩⟩⟩⟩⟩⟩⟩⟩⟩⟩⟩⟩⟩⟩⟩
theorem lw_p16 : lw_okq (⟨"GuestKernel", "send", "(LGuestKernel$Guest;II)I"⟩, 13) := ⟨⟨by decide +kernel, by decide +kernel⟩, List.mem_of_getElem? (i := 20) (by decide +kernel), List.mem_of_getElem? (i := 465) (by decide +kernel), List.mem_of_getElem? (i := 466) (by decide +kernel)⟩
theorem lw_p17 : lw_okq (⟨"GuestKernel", "receive", "(LGuestKernel$Guest;II)I"⟩, 13) := ⟨⟨by decide +kernel, by decide +kernel⟩, List.mem_of_getElem? (i := 20) (by decide +kernel), List.mem_of_getElem? (i := 481) (by decide +kernel), List.mem_of_getElem? (i := 482) (by decide +kernel)⟩
theorem lw_p18 : lw_okq (⟨"GuestKernel", "lock", "(LGuestKernel$Guest;II)I"⟩, 13) := ⟨⟨by decide +kernel, by decide +kernel⟩, List.mem_of_getElem? (i := 20) (by decide +kernel), List.mem_of_getElem? (i := 492) (by decide +kernel), List.mem_of_getElem? (i := 493) (by decide +kernel)⟩
theorem lw_p19 : lw_okq (⟨"GuestKernel", "unlock", "(LGuestKernel$Guest;I)I"⟩, 13) := ⟨⟨by decide +kernel, by decide +kernel⟩, List.mem_of_getElem? (i := 20) (by decide +kernel), List.mem_of_getElem? (i := 496) (by decide +kernel), List.mem_of_getElem? (i := 497) (by decide +kernel)⟩
theorem lw_p20 : lw_okq (⟨"GuestKernel", "reap", "(LGuestKernel$Guest;II)V"⟩, 13) := ⟨⟨by decide +kernel, by decide +kernel⟩, List.mem_of_getElem? (i := 20) (by decide +kernel), List.mem_of_getElem? (i := 500) (by decide +kernel), List.mem_of_getElem? (i := 501) (by decide +kernel)⟩
theorem lw_p21 : lw_okq (⟨"GuestKernel", "trap", "(LGuestKernel$Guest;II)V"⟩, 13) := ⟨⟨by decide +kernel, by decide +kernel⟩, List.mem_of_getElem? (i := 20) (by decide +kernel), List.mem_of_getElem? (i := 508) (by decide +kernel), List.mem_of_getElem? (i := 509) (by decide +kernel)⟩
theorem lw_p22 : lw_okq (⟨"GuestKernel", "requirePresent", "(I)V"⟩, 13) := ⟨⟨by decide +kernel, by decide +kernel⟩, List.mem_of_getElem? (i := 20) (by decide +kernel), List.mem_of_getElem? (i := 520) (by decide +kernel), List.mem_of_getElem? (i := 521) (by decide +kernel)⟩
theorem lw_p23 : lw_okq (⟨"GuestKernelModel", "begin", "(IIII)V"⟩, 33) := ⟨⟨by decide +kernel, by decide +kernel⟩, List.mem_of_getElem? (i := 575) (by decide +kernel), List.mem_of_getElem? (i := 581) (by decide +kernel), List.mem_of_getElem? (i := 582) (by decide +kernel)⟩
theorem lw_p24 : lw_okq (⟨"GuestKernelModel", "wake", "(I)V"⟩, 33) := ⟨⟨by decide +kernel, by decide +kernel⟩, List.mem_of_getElem? (i := 575) (by decide +kernel), List.mem_of_getElem? (i := 585) (by decide +kernel), List.mem_of_getElem? (i := 586) (by decide +kernel)⟩
theorem lw_p25 : lw_okq (⟨"GuestKernelModel", "add", "(II)V"⟩, 33) := ⟨⟨by decide +kernel, by decide +kernel⟩, List.mem_of_getElem? (i := 575) (by decide +kernel), List.mem_of_getElem? (i := 589) (by decide +kernel), List.mem_of_getElem? (i := 590) (by decide +kernel)⟩
theorem lw_p26 : lw_okq (⟨"GuestKernelModel", "no", "(II)Z"⟩, 33) := ⟨⟨by decide +kernel, by decide +kernel⟩, List.mem_of_getElem? (i := 575) (by decide +kernel), List.mem_of_getElem? (i := 701) (by decide +kernel), List.mem_of_getElem? (i := 702) (by decide +kernel)⟩
theorem lw_p27 : lw_okq (⟨"GuestKernelModel", "many", "(I)I"⟩, 33) := ⟨⟨by decide +kernel, by decide +kernel⟩, List.mem_of_getElem? (i := 575) (by decide +kernel), List.mem_of_getElem? (i := 709) (by decide +kernel), List.mem_of_getElem? (i := 710) (by decide +kernel)⟩
theorem lw_p28 : lw_okq (⟨"GuestKernelModel", "tick", "()V"⟩, 33) := ⟨⟨by decide +kernel, by decide +kernel⟩, List.mem_of_getElem? (i := 575) (by decide +kernel), List.mem_of_getElem? (i := 713) (by decide +kernel), List.mem_of_getElem? (i := 714) (by decide +kernel)⟩
theorem lw_p29 : lw_okq (⟨"GuestKernelModel", "take", "(I)I"⟩, 33) := ⟨⟨by decide +kernel, by decide +kernel⟩, List.mem_of_getElem? (i := 575) (by decide +kernel), List.mem_of_getElem? (i := 717) (by decide +kernel), List.mem_of_getElem? (i := 718) (by decide +kernel)⟩
theorem lw_p30 : lw_okq (⟨"GuestKernelModel", "step", "(I)V"⟩, 33) := ⟨⟨by decide +kernel, by decide +kernel⟩, List.mem_of_getElem? (i := 575) (by decide +kernel), List.mem_of_getElem? (i := 721) (by decide +kernel), List.mem_of_getElem? (i := 722) (by decide +kernel)⟩
theorem lw_p31 : lw_okq (⟨"GuestKernelModel", "die", "(II)V"⟩, 33) := ⟨⟨by decide +kernel, by decide +kernel⟩, List.mem_of_getElem? (i := 575) (by decide +kernel), List.mem_of_getElem? (i := 725) (by decide +kernel), List.mem_of_getElem? (i := 726) (by decide +kernel)⟩
def lw_privs_2 : List (MethodName × Nat) := [(⟨"GuestKernel", "send", "(LGuestKernel$Guest;II)I"⟩, 13), (⟨"GuestKernel", "receive", "(LGuestKernel$Guest;II)I"⟩, 13), (⟨"GuestKernel", "lock", "(LGuestKernel$Guest;II)I"⟩, 13), (⟨"GuestKernel", "unlock", "(LGuestKernel$Guest;I)I"⟩, 13), (⟨"GuestKernel", "reap", "(LGuestKernel$Guest;II)V"⟩, 13), (⟨"GuestKernel", "trap", "(LGuestKernel$Guest;II)V"⟩, 13), (⟨"GuestKernel", "requirePresent", "(I)V"⟩, 13), (⟨"GuestKernelModel", "begin", "(IIII)V"⟩, 33), (⟨"GuestKernelModel", "wake", "(I)V"⟩, 33), (⟨"GuestKernelModel", "add", "(II)V"⟩, 33), (⟨"GuestKernelModel", "no", "(II)Z"⟩, 33), (⟨"GuestKernelModel", "many", "(I)I"⟩, 33), (⟨"GuestKernelModel", "tick", "()V"⟩, 33), (⟨"GuestKernelModel", "take", "(I)I"⟩, 33), (⟨"GuestKernelModel", "step", "(I)V"⟩, 33), (⟨"GuestKernelModel", "die", "(II)V"⟩, 33)]
theorem lw_r2 : ∀ q ∈ lw_privs_2, lw_okq q := List.forall_mem_cons.mpr ⟨lw_p16, List.forall_mem_cons.mpr ⟨lw_p17, List.forall_mem_cons.mpr ⟨lw_p18, List.forall_mem_cons.mpr ⟨lw_p19, List.forall_mem_cons.mpr ⟨lw_p20, List.forall_mem_cons.mpr ⟨lw_p21, List.forall_mem_cons.mpr ⟨lw_p22, List.forall_mem_cons.mpr ⟨lw_p23, List.forall_mem_cons.mpr ⟨lw_p24, List.forall_mem_cons.mpr ⟨lw_p25, List.forall_mem_cons.mpr ⟨lw_p26, List.forall_mem_cons.mpr ⟨lw_p27, List.forall_mem_cons.mpr ⟨lw_p28, List.forall_mem_cons.mpr ⟨lw_p29, List.forall_mem_cons.mpr ⟨lw_p30, List.forall_mem_cons.mpr ⟨lw_p31, fun _ h => absurd h List.not_mem_nil⟩⟩⟩⟩⟩⟩⟩⟩⟩⟩⟩⟩⟩⟩⟩⟩
theorem lw_p32 : lw_okq (⟨"GuestKernelModel", "unmap", "(II)V"⟩, 33) := ⟨⟨by decide +kernel, by decide +kernel⟩, List.mem_of_getElem? (i := 575) (by decide +kernel), List.mem_of_getElem? (i := 729) (by decide +kernel), List.mem_of_getElem? (i := 730) (by decide +kernel)⟩
theorem lw_p33 : lw_okq (⟨"GuestKernelModel", "unlock", "(I)V"⟩, 33) := ⟨⟨by decide +kernel, by decide +kernel⟩, List.mem_of_getElem? (i := 575) (by decide +kernel), List.mem_of_getElem? (i := 733) (by decide +kernel), List.mem_of_getElem? (i := 734) (by decide +kernel)⟩
theorem lw_p34 : lw_okq (⟨"GuestKernelModel", "perform", "(IIIII)I"⟩, 33) := ⟨⟨by decide +kernel, by decide +kernel⟩, List.mem_of_getElem? (i := 575) (by decide +kernel), List.mem_of_getElem? (i := 737) (by decide +kernel), List.mem_of_getElem? (i := 738) (by decide +kernel)⟩
theorem lw_p35 : lw_okq (⟨"GuestKernelModel", "where", "(II)I"⟩, 33) := ⟨⟨by decide +kernel, by decide +kernel⟩, List.mem_of_getElem? (i := 575) (by decide +kernel), List.mem_of_getElem? (i := 741) (by decide +kernel), List.mem_of_getElem? (i := 742) (by decide +kernel)⟩
theorem lw_p36 : lw_okq (⟨"GuestKernelModel", "map", "(II)I"⟩, 33) := ⟨⟨by decide +kernel, by decide +kernel⟩, List.mem_of_getElem? (i := 575) (by decide +kernel), List.mem_of_getElem? (i := 745) (by decide +kernel), List.mem_of_getElem? (i := 746) (by decide +kernel)⟩
theorem lw_p37 : lw_okq (⟨"GuestKernelModel", "spawn", "(IIII)I"⟩, 33) := ⟨⟨by decide +kernel, by decide +kernel⟩, List.mem_of_getElem? (i := 575) (by decide +kernel), List.mem_of_getElem? (i := 749) (by decide +kernel), List.mem_of_getElem? (i := 750) (by decide +kernel)⟩
theorem lw_p38 : lw_okq (⟨"GuestKernelModel", "share", "(IIII)I"⟩, 33) := ⟨⟨by decide +kernel, by decide +kernel⟩, List.mem_of_getElem? (i := 575) (by decide +kernel), List.mem_of_getElem? (i := 753) (by decide +kernel), List.mem_of_getElem? (i := 754) (by decide +kernel)⟩
theorem lw_p39 : lw_okq (⟨"GuestKernelModel", "send", "(III)V"⟩, 33) := ⟨⟨by decide +kernel, by decide +kernel⟩, List.mem_of_getElem? (i := 575) (by decide +kernel), List.mem_of_getElem? (i := 757) (by decide +kernel), List.mem_of_getElem? (i := 758) (by decide +kernel)⟩
theorem lw_p40 : lw_okq (⟨"GuestKernelModel", "block", "(II)V"⟩, 33) := ⟨⟨by decide +kernel, by decide +kernel⟩, List.mem_of_getElem? (i := 575) (by decide +kernel), List.mem_of_getElem? (i := 761) (by decide +kernel), List.mem_of_getElem? (i := 762) (by decide +kernel)⟩
theorem lw_p41 : lw_okq (⟨"GuestKernelModel", "receive", "(III)V"⟩, 33) := ⟨⟨by decide +kernel, by decide +kernel⟩, List.mem_of_getElem? (i := 575) (by decide +kernel), List.mem_of_getElem? (i := 765) (by decide +kernel), List.mem_of_getElem? (i := 766) (by decide +kernel)⟩
theorem lw_p42 : lw_okq (⟨"GuestKernelModel", "reap", "(I)I"⟩, 33) := ⟨⟨by decide +kernel, by decide +kernel⟩, List.mem_of_getElem? (i := 575) (by decide +kernel), List.mem_of_getElem? (i := 769) (by decide +kernel), List.mem_of_getElem? (i := 770) (by decide +kernel)⟩
theorem lw_p43 : lw_okq (⟨"GuestKernelModel", "trap", "(II)V"⟩, 33) := ⟨⟨by decide +kernel, by decide +kernel⟩, List.mem_of_getElem? (i := 575) (by decide +kernel), List.mem_of_getElem? (i := 773) (by decide +kernel), List.mem_of_getElem? (i := 774) (by decide +kernel)⟩
theorem lw_p44 : lw_okq (⟨"GuestKernelModel", "guest", "(IZ)Z"⟩, 33) := ⟨⟨by decide +kernel, by decide +kernel⟩, List.mem_of_getElem? (i := 575) (by decide +kernel), List.mem_of_getElem? (i := 781) (by decide +kernel), List.mem_of_getElem? (i := 782) (by decide +kernel)⟩
def lw_privs_3 : List (MethodName × Nat) := [(⟨"GuestKernelModel", "unmap", "(II)V"⟩, 33), (⟨"GuestKernelModel", "unlock", "(I)V"⟩, 33), (⟨"GuestKernelModel", "perform", "(IIIII)I"⟩, 33), (⟨"GuestKernelModel", "where", "(II)I"⟩, 33), (⟨"GuestKernelModel", "map", "(II)I"⟩, 33), (⟨"GuestKernelModel", "spawn", "(IIII)I"⟩, 33), (⟨"GuestKernelModel", "share", "(IIII)I"⟩, 33), (⟨"GuestKernelModel", "send", "(III)V"⟩, 33), (⟨"GuestKernelModel", "block", "(II)V"⟩, 33), (⟨"GuestKernelModel", "receive", "(III)V"⟩, 33), (⟨"GuestKernelModel", "reap", "(I)I"⟩, 33), (⟨"GuestKernelModel", "trap", "(II)V"⟩, 33), (⟨"GuestKernelModel", "guest", "(IZ)Z"⟩, 33)]
theorem lw_r3 : ∀ q ∈ lw_privs_3, lw_okq q := List.forall_mem_cons.mpr ⟨lw_p32, List.forall_mem_cons.mpr ⟨lw_p33, List.forall_mem_cons.mpr ⟨lw_p34, List.forall_mem_cons.mpr ⟨lw_p35, List.forall_mem_cons.mpr ⟨lw_p36, List.forall_mem_cons.mpr ⟨lw_p37, List.forall_mem_cons.mpr ⟨lw_p38, List.forall_mem_cons.mpr ⟨lw_p39, List.forall_mem_cons.mpr ⟨lw_p40, List.forall_mem_cons.mpr ⟨lw_p41, List.forall_mem_cons.mpr ⟨lw_p42, List.forall_mem_cons.mpr ⟨lw_p43, List.forall_mem_cons.mpr ⟨lw_p44, fun _ h => absurd h List.not_mem_nil⟩⟩⟩⟩⟩⟩⟩⟩⟩⟩⟩⟩⟩
def lw_privs : List (MethodName × Nat) := lw_privs_1 ++ (lw_privs_2 ++ (lw_privs_3))
def lw_tbl : List Cond := k2_sels lw_privs ++ tables_1
theorem lw_privs_ok : ∀ q ∈ lw_privs, lw_okq q := by
  show ∀ q ∈ lw_privs_1 ++ (lw_privs_2 ++ (lw_privs_3)), lw_okq q
  exact List.forall_mem_append.mpr ⟨lw_r1, List.forall_mem_append.mpr ⟨lw_r2, lw_r3⟩⟩
end
section
/-! ===== names: methods and their code (written by a program out of the listing) ===== -/
abbrev b_Ke_init : ByteArray := prog_1_method_1_code
def y_Ke_init : MethodName := ⟨"GuestKernel", "<init>", "()V"⟩
abbrev b_Pg_init : ByteArray := prog_7_method_1_code
def y_Pg_init : MethodName := ⟨"GuestKernel$Program", "<init>", "()V"⟩
abbrev b_Fr_init : ByteArray := prog_3_method_1_code
def y_Fr_init : MethodName := ⟨"GuestKernel$Frames", "<init>", "()V"⟩
abbrev b_Gu_init : ByteArray := prog_4_method_1_code
def y_Gu_init : MethodName := ⟨"GuestKernel$Guest", "<init>", "(I)V"⟩
abbrev b_Pr_init : ByteArray := prog_6_method_1_code
def y_Pr_init : MethodName := ⟨"GuestKernel$Processor", "<init>", "()V"⟩
abbrev b_Ro_init : ByteArray := prog_8_method_1_code
def y_Ro_init : MethodName := ⟨"GuestKernel$Row", "<init>", "()V"⟩
abbrev b_Lo_init : ByteArray := prog_5_method_1_code
def y_Lo_init : MethodName := ⟨"GuestKernel$Lock", "<init>", "()V"⟩
abbrev b_Ch_init : ByteArray := prog_2_method_1_code
def y_Ch_init : MethodName := ⟨"GuestKernel$Channel", "<init>", "()V"⟩
abbrev b_Gu_begin : ByteArray := prog_4_method_2_code
def y_Gu_begin : MethodName := ⟨"GuestKernel$Guest", "begin", "(III)V"⟩
abbrev b_Ar_fill : ByteArray := prog_19_method_103_code
def y_Ar_fill : MethodName := ⟨"java/util/Arrays", "fill", "([II)V"⟩
abbrev b_Gu_goTo : ByteArray := prog_4_method_3_code
def y_Gu_goTo : MethodName := ⟨"GuestKernel$Guest", "goTo", "(I)V"⟩
abbrev b_Ma_floorMod : ByteArray := prog_14_method_50_code
def y_Ma_floorMod : MethodName := ⟨"java/lang/Math", "floorMod", "(II)I"⟩
abbrev b_Ke_makeReady : ByteArray := prog_1_method_35_code
def y_Ke_makeReady : MethodName := ⟨"GuestKernel", "makeReady", "(LGuestKernel$Guest;)V"⟩
abbrev b_Ro_add : ByteArray := prog_8_method_2_code
def y_Ro_add : MethodName := ⟨"GuestKernel$Row", "add", "(I)V"⟩
abbrev b_Ke_count : ByteArray := prog_1_method_10_code
def y_Ke_count : MethodName := ⟨"GuestKernel", "count", "(I)I"⟩
abbrev b_La_code : ByteArray := method_3_code
def y_La_code : MethodName := ⟨"GuestKernelLaw", "code", "(LGuestKernel;IIIII)I"⟩
abbrev b_Ke_code : ByteArray := prog_1_method_2_code
def y_Ke_code : MethodName := ⟨"GuestKernel", "code", "(IIIII)V"⟩
abbrev b_Ke_requireBelow : ByteArray := prog_1_method_12_code
def y_Ke_requireBelow : MethodName := ⟨"GuestKernel", "requireBelow", "(II)V"⟩
abbrev b_Ke_isOutside : ByteArray := prog_1_method_11_code
def y_Ke_isOutside : MethodName := ⟨"GuestKernel", "isOutside", "(II)Z"⟩
abbrev b_Pg_write : ByteArray := prog_7_method_2_code
def y_Pg_write : MethodName := ⟨"GuestKernel$Program", "write", "(IIIII)V"⟩
abbrev b_La_run : ByteArray := method_4_code
def y_La_run : MethodName := ⟨"GuestKernelLaw", "run", "(LGuestKernel;I[J)I"⟩
abbrev b_Ke_run : ByteArray := prog_1_method_3_code
def y_Ke_run : MethodName := ⟨"GuestKernel", "run", "(I)I"⟩
abbrev b_Pr_isEmpty : ByteArray := prog_6_method_2_code
def y_Pr_isEmpty : MethodName := ⟨"GuestKernel$Processor", "isEmpty", "()Z"⟩
abbrev b_Ke_requireNoneBlocked : ByteArray := prog_1_method_14_code
def y_Ke_requireNoneBlocked : MethodName := ⟨"GuestKernel", "requireNoneBlocked", "()V"⟩
abbrev b_Ke_takeTurn : ByteArray := prog_1_method_15_code
def y_Ke_takeTurn : MethodName := ⟨"GuestKernel", "takeTurn", "(LGuestKernel$Processor;)V"⟩
abbrev b_Ke_takeNext : ByteArray := prog_1_method_16_code
def y_Ke_takeNext : MethodName := ⟨"GuestKernel", "takeNext", "(LGuestKernel$Processor;)I"⟩
abbrev b_Ro_takeFirst : ByteArray := prog_8_method_3_code
def y_Ro_takeFirst : MethodName := ⟨"GuestKernel$Row", "takeFirst", "()I"⟩
abbrev b_Pg_part : ByteArray := prog_7_method_3_code
def y_Pg_part : MethodName := ⟨"GuestKernel$Program", "part", "(II)I"⟩
abbrev b_Ke_perform : ByteArray := prog_1_method_17_code
def y_Ke_perform : MethodName := ⟨"GuestKernel", "perform", "(LGuestKernel$Guest;II)I"⟩
abbrev b_Ke_end : ByteArray := prog_1_method_32_code
def y_Ke_end : MethodName := ⟨"GuestKernel", "end", "(LGuestKernel$Guest;I)V"⟩
abbrev b_Ke_dropPage : ByteArray := prog_1_method_24_code
def y_Ke_dropPage : MethodName := ⟨"GuestKernel", "dropPage", "(LGuestKernel$Guest;I)Z"⟩
abbrev b_Fr_giveBack : ByteArray := prog_3_method_6_code
def y_Fr_giveBack : MethodName := ⟨"GuestKernel$Frames", "giveBack", "(I)V"⟩
abbrev b_Ke_passOn : ByteArray := prog_1_method_31_code
def y_Ke_passOn : MethodName := ⟨"GuestKernel", "passOn", "(LGuestKernel$Lock;)V"⟩
abbrev b_Ke_handOverChildren : ByteArray := prog_1_method_33_code
def y_Ke_handOverChildren : MethodName := ⟨"GuestKernel", "handOverChildren", "(LGuestKernel$Guest;)V"⟩
abbrev b_Ke_load : ByteArray := prog_1_method_20_code
def y_Ke_load : MethodName := ⟨"GuestKernel", "load", "(LGuestKernel$Guest;II)I"⟩
abbrev b_Ke_addressTrap : ByteArray := prog_1_method_19_code
def y_Ke_addressTrap : MethodName := ⟨"GuestKernel", "addressTrap", "(LGuestKernel$Guest;I)I"⟩
abbrev b_Fr_read : ByteArray := prog_3_method_2_code
def y_Fr_read : MethodName := ⟨"GuestKernel$Frames", "read", "(II)I"⟩
abbrev b_Ke_store : ByteArray := prog_1_method_21_code
def y_Ke_store : MethodName := ⟨"GuestKernel", "store", "(LGuestKernel$Guest;II)I"⟩
abbrev b_Fr_write : ByteArray := prog_3_method_3_code
def y_Fr_write : MethodName := ⟨"GuestKernel$Frames", "write", "(III)V"⟩
abbrev b_Ke_map : ByteArray := prog_1_method_22_code
def y_Ke_map : MethodName := ⟨"GuestKernel", "map", "(LGuestKernel$Guest;II)I"⟩
abbrev b_Gu_quotaLeft : ByteArray := prog_4_method_4_code
def y_Gu_quotaLeft : MethodName := ⟨"GuestKernel$Guest", "quotaLeft", "()I"⟩
abbrev b_Fr_takeLeast : ByteArray := prog_3_method_4_code
def y_Fr_takeLeast : MethodName := ⟨"GuestKernel$Frames", "takeLeast", "()I"⟩
abbrev b_Fr_clear : ByteArray := prog_3_method_5_code
def y_Fr_clear : MethodName := ⟨"GuestKernel$Frames", "clear", "(I)V"⟩
abbrev b_Ke_unmap : ByteArray := prog_1_method_23_code
def y_Ke_unmap : MethodName := ⟨"GuestKernel", "unmap", "(LGuestKernel$Guest;II)I"⟩
abbrev b_Ke_spawn : ByteArray := prog_1_method_25_code
def y_Ke_spawn : MethodName := ⟨"GuestKernel", "spawn", "(LGuestKernel$Guest;III)I"⟩
abbrev b_Ke_send : ByteArray := prog_1_method_27_code
def y_Ke_send : MethodName := ⟨"GuestKernel", "send", "(LGuestKernel$Guest;II)I"⟩
abbrev b_Ch_isFull : ByteArray := prog_2_method_2_code
def y_Ch_isFull : MethodName := ⟨"GuestKernel$Channel", "isFull", "()Z"⟩
abbrev b_Ke_block : ByteArray := prog_1_method_34_code
def y_Ke_block : MethodName := ⟨"GuestKernel", "block", "(LGuestKernel$Guest;ILGuestKernel$Row;)V"⟩
abbrev b_Ch_put : ByteArray := prog_2_method_3_code
def y_Ch_put : MethodName := ⟨"GuestKernel$Channel", "put", "(I)V"⟩
abbrev b_Ke_receive : ByteArray := prog_1_method_28_code
def y_Ke_receive : MethodName := ⟨"GuestKernel", "receive", "(LGuestKernel$Guest;II)I"⟩
abbrev b_Ch_takeFirst : ByteArray := prog_2_method_4_code
def y_Ch_takeFirst : MethodName := ⟨"GuestKernel$Channel", "takeFirst", "()I"⟩
abbrev b_Ke_lock : ByteArray := prog_1_method_29_code
def y_Ke_lock : MethodName := ⟨"GuestKernel", "lock", "(LGuestKernel$Guest;II)I"⟩
abbrev b_Ke_unlock : ByteArray := prog_1_method_30_code
def y_Ke_unlock : MethodName := ⟨"GuestKernel", "unlock", "(LGuestKernel$Guest;I)I"⟩
abbrev b_Ke_reap : ByteArray := prog_1_method_26_code
def y_Ke_reap : MethodName := ⟨"GuestKernel", "reap", "(LGuestKernel$Guest;II)V"⟩
abbrev b_Gu_calculate : ByteArray := prog_4_method_5_code
def y_Gu_calculate : MethodName := ⟨"GuestKernel$Guest", "calculate", "(IIII)I"⟩
abbrev b_Ke_trap : ByteArray := prog_1_method_18_code
def y_Ke_trap : MethodName := ⟨"GuestKernel", "trap", "(LGuestKernel$Guest;II)V"⟩
abbrev b_La_register : ByteArray := method_5_code
def y_La_register : MethodName := ⟨"GuestKernelLaw", "register", "(LGuestKernel;II[J)I"⟩
abbrev b_Ke_register : ByteArray := prog_1_method_4_code
def y_Ke_register : MethodName := ⟨"GuestKernel", "register", "(II)I"⟩
abbrev b_Ke_requirePresent : ByteArray := prog_1_method_13_code
def y_Ke_requirePresent : MethodName := ⟨"GuestKernel", "requirePresent", "(I)V"⟩
abbrev b_La_told : ByteArray := method_6_code
def y_La_told : MethodName := ⟨"GuestKernelLaw", "told", "(LGuestKernel;II[J)I"⟩
abbrev b_Ke_told : ByteArray := prog_1_method_5_code
def y_Ke_told : MethodName := ⟨"GuestKernel", "told", "(II)I"⟩
abbrev b_La_page : ByteArray := method_7_code
def y_La_page : MethodName := ⟨"GuestKernelLaw", "page", "(LGuestKernel;II[J)I"⟩
abbrev b_Ke_page : ByteArray := prog_1_method_6_code
def y_Ke_page : MethodName := ⟨"GuestKernel", "page", "(II)I"⟩
abbrev b_La_memory : ByteArray := method_8_code
def y_La_memory : MethodName := ⟨"GuestKernelLaw", "memory", "(LGuestKernel;II[J)I"⟩
abbrev b_Ke_memory : ByteArray := prog_1_method_7_code
def y_Ke_memory : MethodName := ⟨"GuestKernel", "memory", "(II)I"⟩
abbrev b_La_object : ByteArray := method_9_code
def y_La_object : MethodName := ⟨"GuestKernelLaw", "object", "(LGuestKernel;II[J)I"⟩
abbrev b_Ke_object : ByteArray := prog_1_method_8_code
def y_Ke_object : MethodName := ⟨"GuestKernel", "object", "(II)I"⟩
abbrev b_La_written : ByteArray := method_10_code
def y_La_written : MethodName := ⟨"GuestKernelLaw", "written", "(LGuestKernel;II[J)I"⟩
abbrev b_Ke_written : ByteArray := prog_1_method_9_code
def y_Ke_written : MethodName := ⟨"GuestKernel", "written", "(II)I"⟩
abbrev b_Mo_init : ByteArray := prog_10_method_1_code
def y_Mo_init : MethodName := ⟨"GuestKernelModel", "<init>", "()V"⟩
abbrev b_Mo_begin : ByteArray := prog_10_method_6_code
def y_Mo_begin : MethodName := ⟨"GuestKernelModel", "begin", "(IIII)V"⟩
abbrev b_Mo_wake : ByteArray := prog_10_method_5_code
def y_Mo_wake : MethodName := ⟨"GuestKernelModel", "wake", "(I)V"⟩
abbrev b_Mo_add : ByteArray := prog_10_method_3_code
def y_Mo_add : MethodName := ⟨"GuestKernelModel", "add", "(II)V"⟩
abbrev b_Mo_thrown : ByteArray := prog_10_method_2_code
def y_Mo_thrown : MethodName := ⟨"GuestKernelModel", "thrown", "()I"⟩
abbrev b_Mo_code : ByteArray := prog_10_method_7_code
def y_Mo_code : MethodName := ⟨"GuestKernelModel", "code", "(IIIII)V"⟩
abbrev b_Mo_no : ByteArray := prog_10_method_8_code
def y_Mo_no : MethodName := ⟨"GuestKernelModel", "no", "(II)Z"⟩
abbrev b_Mo_run : ByteArray := prog_10_method_25_code
def y_Mo_run : MethodName := ⟨"GuestKernelModel", "run", "(I)I"⟩
abbrev b_Mo_many : ByteArray := prog_10_method_24_code
def y_Mo_many : MethodName := ⟨"GuestKernelModel", "many", "(I)I"⟩
abbrev b_Mo_tick : ByteArray := prog_10_method_23_code
def y_Mo_tick : MethodName := ⟨"GuestKernelModel", "tick", "()V"⟩
abbrev b_Mo_take : ByteArray := prog_10_method_4_code
def y_Mo_take : MethodName := ⟨"GuestKernelModel", "take", "(I)I"⟩
abbrev b_Mo_step : ByteArray := prog_10_method_22_code
def y_Mo_step : MethodName := ⟨"GuestKernelModel", "step", "(I)V"⟩
abbrev b_Mo_die : ByteArray := prog_10_method_11_code
def y_Mo_die : MethodName := ⟨"GuestKernelModel", "die", "(II)V"⟩
abbrev b_Mo_unmap : ByteArray := prog_10_method_9_code
def y_Mo_unmap : MethodName := ⟨"GuestKernelModel", "unmap", "(II)V"⟩
abbrev b_Mo_unlock : ByteArray := prog_10_method_10_code
def y_Mo_unlock : MethodName := ⟨"GuestKernelModel", "unlock", "(I)V"⟩
abbrev b_Mo_perform : ByteArray := prog_10_method_20_code
def y_Mo_perform : MethodName := ⟨"GuestKernelModel", "perform", "(IIIII)I"⟩
abbrev b_Mo_where : ByteArray := prog_10_method_13_code
def y_Mo_where : MethodName := ⟨"GuestKernelModel", "where", "(II)I"⟩
abbrev b_Mo_map : ByteArray := prog_10_method_14_code
def y_Mo_map : MethodName := ⟨"GuestKernelModel", "map", "(II)I"⟩
abbrev b_Mo_spawn : ByteArray := prog_10_method_15_code
def y_Mo_spawn : MethodName := ⟨"GuestKernelModel", "spawn", "(IIII)I"⟩
abbrev b_Mo_share : ByteArray := prog_10_method_21_code
def y_Mo_share : MethodName := ⟨"GuestKernelModel", "share", "(IIII)I"⟩
abbrev b_Mo_send : ByteArray := prog_10_method_18_code
def y_Mo_send : MethodName := ⟨"GuestKernelModel", "send", "(III)V"⟩
abbrev b_Mo_block : ByteArray := prog_10_method_17_code
def y_Mo_block : MethodName := ⟨"GuestKernelModel", "block", "(II)V"⟩
abbrev b_Mo_receive : ByteArray := prog_10_method_19_code
def y_Mo_receive : MethodName := ⟨"GuestKernelModel", "receive", "(III)V"⟩
abbrev b_Mo_reap : ByteArray := prog_10_method_16_code
def y_Mo_reap : MethodName := ⟨"GuestKernelModel", "reap", "(I)I"⟩
abbrev b_Mo_trap : ByteArray := prog_10_method_12_code
def y_Mo_trap : MethodName := ⟨"GuestKernelModel", "trap", "(II)V"⟩
abbrev b_Mo_register : ByteArray := prog_10_method_27_code
def y_Mo_register : MethodName := ⟨"GuestKernelModel", "register", "(II)I"⟩
abbrev b_Mo_guest : ByteArray := prog_10_method_26_code
def y_Mo_guest : MethodName := ⟨"GuestKernelModel", "guest", "(IZ)Z"⟩
abbrev b_Mo_told : ByteArray := prog_10_method_28_code
def y_Mo_told : MethodName := ⟨"GuestKernelModel", "told", "(II)I"⟩
abbrev b_Mo_page : ByteArray := prog_10_method_29_code
def y_Mo_page : MethodName := ⟨"GuestKernelModel", "page", "(II)I"⟩
abbrev b_Mo_memory : ByteArray := prog_10_method_30_code
def y_Mo_memory : MethodName := ⟨"GuestKernelModel", "memory", "(II)I"⟩
abbrev b_Mo_object : ByteArray := prog_10_method_31_code
def y_Mo_object : MethodName := ⟨"GuestKernelModel", "object", "(II)I"⟩
abbrev b_Mo_written : ByteArray := prog_10_method_32_code
def y_Mo_written : MethodName := ⟨"GuestKernelModel", "written", "(II)I"⟩
abbrev b_Mo_count : ByteArray := prog_10_method_33_code
def y_Mo_count : MethodName := ⟨"GuestKernelModel", "count", "(I)I"⟩
end
section
theorem d_Ma_floorMod_0 : decode b_Ma_floorMod 0 = .ok (.iload_n 0, 1) := by decide +kernel
theorem d_Ma_floorMod_1 : decode b_Ma_floorMod 1 = .ok (.iload_n 1, 1) := by decide +kernel
theorem d_Ma_floorMod_2 : decode b_Ma_floorMod 2 = .ok (.irem, 1) := by decide +kernel
theorem d_Ma_floorMod_3 : decode b_Ma_floorMod 3 = .ok (.istore_n 2, 1) := by decide +kernel
theorem d_Ma_floorMod_4 : decode b_Ma_floorMod 4 = .ok (.iload_n 0, 1) := by decide +kernel
theorem d_Ma_floorMod_5 : decode b_Ma_floorMod 5 = .ok (.iload_n 1, 1) := by decide +kernel
theorem d_Ma_floorMod_6 : decode b_Ma_floorMod 6 = .ok (.ixor, 1) := by decide +kernel
theorem d_Ma_floorMod_7 : decode b_Ma_floorMod 7 = .ok (.ifCond .ge 11, 3) := by decide +kernel
theorem d_Ma_floorMod_10 : decode b_Ma_floorMod 10 = .ok (.iload_n 2, 1) := by decide +kernel
theorem d_Ma_floorMod_11 : decode b_Ma_floorMod 11 = .ok (.ifCond .eq 7, 3) := by decide +kernel
theorem d_Ma_floorMod_14 : decode b_Ma_floorMod 14 = .ok (.iload_n 2, 1) := by decide +kernel
theorem d_Ma_floorMod_15 : decode b_Ma_floorMod 15 = .ok (.iload_n 1, 1) := by decide +kernel
theorem d_Ma_floorMod_16 : decode b_Ma_floorMod 16 = .ok (.iadd, 1) := by decide +kernel
theorem d_Ma_floorMod_17 : decode b_Ma_floorMod 17 = .ok (.ireturn, 1) := by decide +kernel
theorem d_Ma_floorMod_18 : decode b_Ma_floorMod 18 = .ok (.iload_n 2, 1) := by decide +kernel
theorem d_Ma_floorMod_19 : decode b_Ma_floorMod 19 = .ok (.ireturn, 1) := by decide +kernel
theorem d_Ar_fill_0 : decode b_Ar_fill 0 = .ok (.iconst 0, 1) := by decide +kernel
theorem d_Ar_fill_1 : decode b_Ar_fill 1 = .ok (.istore_n 2, 1) := by decide +kernel
theorem d_Ar_fill_2 : decode b_Ar_fill 2 = .ok (.aload_n 0, 1) := by decide +kernel
theorem d_Ar_fill_3 : decode b_Ar_fill 3 = .ok (.arraylength, 1) := by decide +kernel
theorem d_Ar_fill_4 : decode b_Ar_fill 4 = .ok (.istore_n 3, 1) := by decide +kernel
theorem d_Ar_fill_5 : decode b_Ar_fill 5 = .ok (.iload_n 2, 1) := by decide +kernel
theorem d_Ar_fill_6 : decode b_Ar_fill 6 = .ok (.iload_n 3, 1) := by decide +kernel
theorem d_Ar_fill_7 : decode b_Ar_fill 7 = .ok (.if_icmp .ge 13, 3) := by decide +kernel
theorem d_Ar_fill_10 : decode b_Ar_fill 10 = .ok (.aload_n 0, 1) := by decide +kernel
theorem d_Ar_fill_11 : decode b_Ar_fill 11 = .ok (.iload_n 2, 1) := by decide +kernel
theorem d_Ar_fill_12 : decode b_Ar_fill 12 = .ok (.iload_n 1, 1) := by decide +kernel
theorem d_Ar_fill_13 : decode b_Ar_fill 13 = .ok (.iastore, 1) := by decide +kernel
theorem d_Ar_fill_14 : decode b_Ar_fill 14 = .ok (.iinc 2 1, 3) := by decide +kernel
theorem d_Ar_fill_17 : decode b_Ar_fill 17 = .ok (.goto (-12), 3) := by decide +kernel
theorem d_Ar_fill_20 : decode b_Ar_fill 20 = .ok (.return_, 1) := by decide +kernel
theorem d_Ke_init_0 : decode b_Ke_init 0 = .ok (.aload_n 0, 1) := by decide +kernel
theorem d_Ke_init_1 : decode b_Ke_init 1 = .ok (.invokespecial 3, 3) := by decide +kernel
theorem d_Ke_init_4 : decode b_Ke_init 4 = .ok (.aload_n 0, 1) := by decide +kernel
theorem d_Ke_init_5 : decode b_Ke_init 5 = .ok (.new 9, 3) := by decide +kernel
theorem d_Ke_init_8 : decode b_Ke_init 8 = .ok (.dup, 1) := by decide +kernel
theorem d_Ke_init_9 : decode b_Ke_init 9 = .ok (.invokespecial 11, 3) := by decide +kernel
theorem d_Ke_init_12 : decode b_Ke_init 12 = .ok (.putfield 12, 3) := by decide +kernel
theorem d_Ke_init_15 : decode b_Ke_init 15 = .ok (.aload_n 0, 1) := by decide +kernel
theorem d_Ke_init_16 : decode b_Ke_init 16 = .ok (.new 16, 3) := by decide +kernel
theorem d_Ke_init_19 : decode b_Ke_init 19 = .ok (.dup, 1) := by decide +kernel
theorem d_Ke_init_20 : decode b_Ke_init 20 = .ok (.invokespecial 18, 3) := by decide +kernel
theorem d_Ke_init_23 : decode b_Ke_init 23 = .ok (.putfield 19, 3) := by decide +kernel
theorem d_Ke_init_26 : decode b_Ke_init 26 = .ok (.aload_n 0, 1) := by decide +kernel
theorem d_Ke_init_27 : decode b_Ke_init 27 = .ok (.bipush 6, 2) := by decide +kernel
theorem d_Ke_init_29 : decode b_Ke_init 29 = .ok (.anewarray 23, 3) := by decide +kernel
theorem d_Ke_init_32 : decode b_Ke_init 32 = .ok (.putfield 25, 3) := by decide +kernel
theorem d_Ke_init_35 : decode b_Ke_init 35 = .ok (.aload_n 0, 1) := by decide +kernel
theorem d_Ke_init_36 : decode b_Ke_init 36 = .ok (.iconst 2, 1) := by decide +kernel
theorem d_Ke_init_37 : decode b_Ke_init 37 = .ok (.anewarray 29, 3) := by decide +kernel
theorem d_Ke_init_40 : decode b_Ke_init 40 = .ok (.putfield 31, 3) := by decide +kernel
theorem d_Ke_init_43 : decode b_Ke_init 43 = .ok (.aload_n 0, 1) := by decide +kernel
theorem d_Ke_init_44 : decode b_Ke_init 44 = .ok (.iconst 4, 1) := by decide +kernel
theorem d_Ke_init_45 : decode b_Ke_init 45 = .ok (.anewarray 35, 3) := by decide +kernel
theorem d_Ke_init_48 : decode b_Ke_init 48 = .ok (.putfield 37, 3) := by decide +kernel
theorem d_Ke_init_51 : decode b_Ke_init 51 = .ok (.aload_n 0, 1) := by decide +kernel
theorem d_Ke_init_52 : decode b_Ke_init 52 = .ok (.iconst 4, 1) := by decide +kernel
theorem d_Ke_init_53 : decode b_Ke_init 53 = .ok (.anewarray 41, 3) := by decide +kernel
theorem d_Ke_init_56 : decode b_Ke_init 56 = .ok (.putfield 43, 3) := by decide +kernel
theorem d_Ke_init_59 : decode b_Ke_init 59 = .ok (.iconst 0, 1) := by decide +kernel
theorem d_Ke_init_60 : decode b_Ke_init 60 = .ok (.istore_n 1, 1) := by decide +kernel
theorem d_Ke_init_61 : decode b_Ke_init 61 = .ok (.iload_n 1, 1) := by decide +kernel
theorem d_Ke_init_62 : decode b_Ke_init 62 = .ok (.bipush 6, 2) := by decide +kernel
theorem d_Ke_init_64 : decode b_Ke_init 64 = .ok (.if_icmp .ge 23, 3) := by decide +kernel
theorem d_Ke_init_67 : decode b_Ke_init 67 = .ok (.aload_n 0, 1) := by decide +kernel
theorem d_Ke_init_68 : decode b_Ke_init 68 = .ok (.getfield 25, 3) := by decide +kernel
theorem d_Ke_init_71 : decode b_Ke_init 71 = .ok (.iload_n 1, 1) := by decide +kernel
theorem d_Ke_init_72 : decode b_Ke_init 72 = .ok (.new 23, 3) := by decide +kernel
theorem d_Ke_init_75 : decode b_Ke_init 75 = .ok (.dup, 1) := by decide +kernel
theorem d_Ke_init_76 : decode b_Ke_init 76 = .ok (.iload_n 1, 1) := by decide +kernel
theorem d_Ke_init_77 : decode b_Ke_init 77 = .ok (.invokespecial 47, 3) := by decide +kernel
theorem d_Ke_init_80 : decode b_Ke_init 80 = .ok (.aastore, 1) := by decide +kernel
theorem d_Ke_init_81 : decode b_Ke_init 81 = .ok (.iinc 1 1, 3) := by decide +kernel
theorem d_Ke_init_84 : decode b_Ke_init 84 = .ok (.goto (-23), 3) := by decide +kernel
theorem d_Ke_init_87 : decode b_Ke_init 87 = .ok (.iconst 0, 1) := by decide +kernel
theorem d_Ke_init_88 : decode b_Ke_init 88 = .ok (.istore_n 1, 1) := by decide +kernel
theorem d_Ke_init_89 : decode b_Ke_init 89 = .ok (.iload_n 1, 1) := by decide +kernel
theorem d_Ke_init_90 : decode b_Ke_init 90 = .ok (.iconst 2, 1) := by decide +kernel
theorem d_Ke_init_91 : decode b_Ke_init 91 = .ok (.if_icmp .ge 22, 3) := by decide +kernel
theorem d_Ke_init_94 : decode b_Ke_init 94 = .ok (.aload_n 0, 1) := by decide +kernel
theorem d_Ke_init_95 : decode b_Ke_init 95 = .ok (.getfield 31, 3) := by decide +kernel
theorem d_Ke_init_98 : decode b_Ke_init 98 = .ok (.iload_n 1, 1) := by decide +kernel
theorem d_Ke_init_99 : decode b_Ke_init 99 = .ok (.new 29, 3) := by decide +kernel
theorem d_Ke_init_102 : decode b_Ke_init 102 = .ok (.dup, 1) := by decide +kernel
theorem d_Ke_init_103 : decode b_Ke_init 103 = .ok (.invokespecial 50, 3) := by decide +kernel
theorem d_Ke_init_106 : decode b_Ke_init 106 = .ok (.aastore, 1) := by decide +kernel
theorem d_Ke_init_107 : decode b_Ke_init 107 = .ok (.iinc 1 1, 3) := by decide +kernel
theorem d_Ke_init_110 : decode b_Ke_init 110 = .ok (.goto (-21), 3) := by decide +kernel
theorem d_Ke_init_113 : decode b_Ke_init 113 = .ok (.iconst 0, 1) := by decide +kernel
theorem d_Ke_init_114 : decode b_Ke_init 114 = .ok (.istore_n 1, 1) := by decide +kernel
theorem d_Ke_init_115 : decode b_Ke_init 115 = .ok (.iload_n 1, 1) := by decide +kernel
theorem d_Ke_init_116 : decode b_Ke_init 116 = .ok (.iconst 4, 1) := by decide +kernel
theorem d_Ke_init_117 : decode b_Ke_init 117 = .ok (.if_icmp .ge 35, 3) := by decide +kernel
theorem d_Ke_init_120 : decode b_Ke_init 120 = .ok (.aload_n 0, 1) := by decide +kernel
theorem d_Ke_init_121 : decode b_Ke_init 121 = .ok (.getfield 37, 3) := by decide +kernel
theorem d_Ke_init_124 : decode b_Ke_init 124 = .ok (.iload_n 1, 1) := by decide +kernel
theorem d_Ke_init_125 : decode b_Ke_init 125 = .ok (.new 35, 3) := by decide +kernel
theorem d_Ke_init_128 : decode b_Ke_init 128 = .ok (.dup, 1) := by decide +kernel
theorem d_Ke_init_129 : decode b_Ke_init 129 = .ok (.invokespecial 51, 3) := by decide +kernel
theorem d_Ke_init_132 : decode b_Ke_init 132 = .ok (.aastore, 1) := by decide +kernel
theorem d_Ke_init_133 : decode b_Ke_init 133 = .ok (.aload_n 0, 1) := by decide +kernel
theorem d_Ke_init_134 : decode b_Ke_init 134 = .ok (.getfield 43, 3) := by decide +kernel
theorem d_Ke_init_137 : decode b_Ke_init 137 = .ok (.iload_n 1, 1) := by decide +kernel
theorem d_Ke_init_138 : decode b_Ke_init 138 = .ok (.new 41, 3) := by decide +kernel
theorem d_Ke_init_141 : decode b_Ke_init 141 = .ok (.dup, 1) := by decide +kernel
theorem d_Ke_init_142 : decode b_Ke_init 142 = .ok (.invokespecial 52, 3) := by decide +kernel
theorem d_Ke_init_145 : decode b_Ke_init 145 = .ok (.aastore, 1) := by decide +kernel
theorem d_Ke_init_146 : decode b_Ke_init 146 = .ok (.iinc 1 1, 3) := by decide +kernel
theorem d_Ke_init_149 : decode b_Ke_init 149 = .ok (.goto (-34), 3) := by decide +kernel
theorem d_Ke_init_152 : decode b_Ke_init 152 = .ok (.aload_n 0, 1) := by decide +kernel
theorem d_Ke_init_153 : decode b_Ke_init 153 = .ok (.getfield 25, 3) := by decide +kernel
theorem d_Ke_init_156 : decode b_Ke_init 156 = .ok (.iconst 0, 1) := by decide +kernel
theorem d_Ke_init_157 : decode b_Ke_init 157 = .ok (.aaload, 1) := by decide +kernel
theorem d_Ke_init_158 : decode b_Ke_init 158 = .ok (.iconst 0, 1) := by decide +kernel
theorem d_Ke_init_159 : decode b_Ke_init 159 = .ok (.bipush 12, 2) := by decide +kernel
theorem d_Ke_init_161 : decode b_Ke_init 161 = .ok (.iconst (-1), 1) := by decide +kernel
theorem d_Ke_init_162 : decode b_Ke_init 162 = .ok (.invokevirtual 53, 3) := by decide +kernel
theorem d_Ke_init_165 : decode b_Ke_init 165 = .ok (.aload_n 0, 1) := by decide +kernel
theorem d_Ke_init_166 : decode b_Ke_init 166 = .ok (.aload_n 0, 1) := by decide +kernel
theorem d_Ke_init_167 : decode b_Ke_init 167 = .ok (.getfield 25, 3) := by decide +kernel
theorem d_Ke_init_170 : decode b_Ke_init 170 = .ok (.iconst 0, 1) := by decide +kernel
theorem d_Ke_init_171 : decode b_Ke_init 171 = .ok (.aaload, 1) := by decide +kernel
theorem d_Ke_init_172 : decode b_Ke_init 172 = .ok (.invokevirtual 57, 3) := by decide +kernel
theorem d_Ke_init_175 : decode b_Ke_init 175 = .ok (.return_, 1) := by decide +kernel
theorem d_Ke_code_0 : decode b_Ke_code 0 = .ok (.iload_n 1, 1) := by decide +kernel
theorem d_Ke_code_1 : decode b_Ke_code 1 = .ok (.bipush 32, 2) := by decide +kernel
theorem d_Ke_code_3 : decode b_Ke_code 3 = .ok (.invokestatic 61, 3) := by decide +kernel
theorem d_Ke_code_6 : decode b_Ke_code 6 = .ok (.iload_n 2, 1) := by decide +kernel
theorem d_Ke_code_7 : decode b_Ke_code 7 = .ok (.bipush 22, 2) := by decide +kernel
theorem d_Ke_code_9 : decode b_Ke_code 9 = .ok (.invokestatic 61, 3) := by decide +kernel
theorem d_Ke_code_12 : decode b_Ke_code 12 = .ok (.iload_n 3, 1) := by decide +kernel
theorem d_Ke_code_13 : decode b_Ke_code 13 = .ok (.iconst 4, 1) := by decide +kernel
theorem d_Ke_code_14 : decode b_Ke_code 14 = .ok (.invokestatic 61, 3) := by decide +kernel
theorem d_Ke_code_17 : decode b_Ke_code 17 = .ok (.iload 4, 2) := by decide +kernel
theorem d_Ke_code_19 : decode b_Ke_code 19 = .ok (.iconst 4, 1) := by decide +kernel
theorem d_Ke_code_20 : decode b_Ke_code 20 = .ok (.invokestatic 61, 3) := by decide +kernel
theorem d_Ke_code_23 : decode b_Ke_code 23 = .ok (.aload_n 0, 1) := by decide +kernel
theorem d_Ke_code_24 : decode b_Ke_code 24 = .ok (.getfield 12, 3) := by decide +kernel
theorem d_Ke_code_27 : decode b_Ke_code 27 = .ok (.iload_n 1, 1) := by decide +kernel
theorem d_Ke_code_28 : decode b_Ke_code 28 = .ok (.iload_n 2, 1) := by decide +kernel
theorem d_Ke_code_29 : decode b_Ke_code 29 = .ok (.iload_n 3, 1) := by decide +kernel
theorem d_Ke_code_30 : decode b_Ke_code 30 = .ok (.iload 4, 2) := by decide +kernel
theorem d_Ke_code_32 : decode b_Ke_code 32 = .ok (.iload 5, 2) := by decide +kernel
theorem d_Ke_code_34 : decode b_Ke_code 34 = .ok (.invokevirtual 65, 3) := by decide +kernel
theorem d_Ke_code_37 : decode b_Ke_code 37 = .ok (.return_, 1) := by decide +kernel
theorem d_Ke_run_0 : decode b_Ke_run 0 = .ok (.iload_n 1, 1) := by decide +kernel
theorem d_Ke_run_1 : decode b_Ke_run 1 = .ok (.iconst 1, 1) := by decide +kernel
theorem d_Ke_run_2 : decode b_Ke_run 2 = .ok (.if_icmp .lt 10, 3) := by decide +kernel
theorem d_Ke_run_5 : decode b_Ke_run 5 = .ok (.iload_n 1, 1) := by decide +kernel
theorem d_Ke_run_6 : decode b_Ke_run 6 = .ok (.sipush 300, 3) := by decide +kernel
theorem d_Ke_run_9 : decode b_Ke_run 9 = .ok (.if_icmp .le 13, 3) := by decide +kernel
theorem d_Ke_run_12 : decode b_Ke_run 12 = .ok (.new 69, 3) := by decide +kernel
theorem d_Ke_run_15 : decode b_Ke_run 15 = .ok (.dup, 1) := by decide +kernel
theorem d_Ke_run_16 : decode b_Ke_run 16 = .ok (.ldc 71, 2) := by decide +kernel
theorem d_Ke_run_18 : decode b_Ke_run 18 = .ok (.invokespecial 73, 3) := by decide +kernel
theorem d_Ke_run_21 : decode b_Ke_run 21 = .ok (.athrow, 1) := by decide +kernel
theorem d_Ke_run_22 : decode b_Ke_run 22 = .ok (.iconst 0, 1) := by decide +kernel
theorem d_Ke_run_23 : decode b_Ke_run 23 = .ok (.istore_n 2, 1) := by decide +kernel
theorem d_Ke_run_24 : decode b_Ke_run 24 = .ok (.iload_n 2, 1) := by decide +kernel
theorem d_Ke_run_25 : decode b_Ke_run 25 = .ok (.iload_n 1, 1) := by decide +kernel
theorem d_Ke_run_26 : decode b_Ke_run 26 = .ok (.if_icmp .ge 69, 3) := by decide +kernel
theorem d_Ke_run_29 : decode b_Ke_run 29 = .ok (.aload_n 0, 1) := by decide +kernel
theorem d_Ke_run_30 : decode b_Ke_run 30 = .ok (.getfield 31, 3) := by decide +kernel
theorem d_Ke_run_33 : decode b_Ke_run 33 = .ok (.iconst 0, 1) := by decide +kernel
theorem d_Ke_run_34 : decode b_Ke_run 34 = .ok (.aaload, 1) := by decide +kernel
theorem d_Ke_run_35 : decode b_Ke_run 35 = .ok (.invokevirtual 76, 3) := by decide +kernel
theorem d_Ke_run_38 : decode b_Ke_run 38 = .ok (.ifCond .eq 21, 3) := by decide +kernel
theorem d_Ke_run_41 : decode b_Ke_run 41 = .ok (.aload_n 0, 1) := by decide +kernel
theorem d_Ke_run_42 : decode b_Ke_run 42 = .ok (.getfield 31, 3) := by decide +kernel
theorem d_Ke_run_45 : decode b_Ke_run 45 = .ok (.iconst 1, 1) := by decide +kernel
theorem d_Ke_run_46 : decode b_Ke_run 46 = .ok (.aaload, 1) := by decide +kernel
theorem d_Ke_run_47 : decode b_Ke_run 47 = .ok (.invokevirtual 76, 3) := by decide +kernel
theorem d_Ke_run_50 : decode b_Ke_run 50 = .ok (.ifCond .eq 9, 3) := by decide +kernel
theorem d_Ke_run_53 : decode b_Ke_run 53 = .ok (.aload_n 0, 1) := by decide +kernel
theorem d_Ke_run_54 : decode b_Ke_run 54 = .ok (.invokevirtual 80, 3) := by decide +kernel
theorem d_Ke_run_57 : decode b_Ke_run 57 = .ok (.iload_n 2, 1) := by decide +kernel
theorem d_Ke_run_58 : decode b_Ke_run 58 = .ok (.ireturn, 1) := by decide +kernel
theorem d_Ke_run_59 : decode b_Ke_run 59 = .ok (.aload_n 0, 1) := by decide +kernel
theorem d_Ke_run_60 : decode b_Ke_run 60 = .ok (.dup, 1) := by decide +kernel
theorem d_Ke_run_61 : decode b_Ke_run 61 = .ok (.getfield 83, 3) := by decide +kernel
theorem d_Ke_run_64 : decode b_Ke_run 64 = .ok (.iconst 1, 1) := by decide +kernel
theorem d_Ke_run_65 : decode b_Ke_run 65 = .ok (.iadd, 1) := by decide +kernel
theorem d_Ke_run_66 : decode b_Ke_run 66 = .ok (.putfield 83, 3) := by decide +kernel
theorem d_Ke_run_69 : decode b_Ke_run 69 = .ok (.aload_n 0, 1) := by decide +kernel
theorem d_Ke_run_70 : decode b_Ke_run 70 = .ok (.aload_n 0, 1) := by decide +kernel
theorem d_Ke_run_71 : decode b_Ke_run 71 = .ok (.getfield 31, 3) := by decide +kernel
theorem d_Ke_run_74 : decode b_Ke_run 74 = .ok (.iconst 0, 1) := by decide +kernel
theorem d_Ke_run_75 : decode b_Ke_run 75 = .ok (.aaload, 1) := by decide +kernel
theorem d_Ke_run_76 : decode b_Ke_run 76 = .ok (.invokevirtual 87, 3) := by decide +kernel
theorem d_Ke_run_79 : decode b_Ke_run 79 = .ok (.aload_n 0, 1) := by decide +kernel
theorem d_Ke_run_80 : decode b_Ke_run 80 = .ok (.aload_n 0, 1) := by decide +kernel
theorem d_Ke_run_81 : decode b_Ke_run 81 = .ok (.getfield 31, 3) := by decide +kernel
theorem d_Ke_run_84 : decode b_Ke_run 84 = .ok (.iconst 1, 1) := by decide +kernel
theorem d_Ke_run_85 : decode b_Ke_run 85 = .ok (.aaload, 1) := by decide +kernel
theorem d_Ke_run_86 : decode b_Ke_run 86 = .ok (.invokevirtual 87, 3) := by decide +kernel
theorem d_Ke_run_89 : decode b_Ke_run 89 = .ok (.iinc 2 1, 3) := by decide +kernel
theorem d_Ke_run_92 : decode b_Ke_run 92 = .ok (.goto (-68), 3) := by decide +kernel
theorem d_Ke_run_95 : decode b_Ke_run 95 = .ok (.iload_n 1, 1) := by decide +kernel
theorem d_Ke_run_96 : decode b_Ke_run 96 = .ok (.ireturn, 1) := by decide +kernel
theorem d_Ke_register_0 : decode b_Ke_register 0 = .ok (.iload_n 1, 1) := by decide +kernel
theorem d_Ke_register_1 : decode b_Ke_register 1 = .ok (.bipush 6, 2) := by decide +kernel
theorem d_Ke_register_3 : decode b_Ke_register 3 = .ok (.invokestatic 61, 3) := by decide +kernel
theorem d_Ke_register_6 : decode b_Ke_register 6 = .ok (.iload_n 2, 1) := by decide +kernel
theorem d_Ke_register_7 : decode b_Ke_register 7 = .ok (.iconst 4, 1) := by decide +kernel
theorem d_Ke_register_8 : decode b_Ke_register 8 = .ok (.invokestatic 61, 3) := by decide +kernel
theorem d_Ke_register_11 : decode b_Ke_register 11 = .ok (.aload_n 0, 1) := by decide +kernel
theorem d_Ke_register_12 : decode b_Ke_register 12 = .ok (.iload_n 1, 1) := by decide +kernel
theorem d_Ke_register_13 : decode b_Ke_register 13 = .ok (.invokevirtual 91, 3) := by decide +kernel
theorem d_Ke_register_16 : decode b_Ke_register 16 = .ok (.aload_n 0, 1) := by decide +kernel
theorem d_Ke_register_17 : decode b_Ke_register 17 = .ok (.getfield 25, 3) := by decide +kernel
theorem d_Ke_register_20 : decode b_Ke_register 20 = .ok (.iload_n 1, 1) := by decide +kernel
theorem d_Ke_register_21 : decode b_Ke_register 21 = .ok (.aaload, 1) := by decide +kernel
theorem d_Ke_register_22 : decode b_Ke_register 22 = .ok (.getfield 94, 3) := by decide +kernel
theorem d_Ke_register_25 : decode b_Ke_register 25 = .ok (.iload_n 2, 1) := by decide +kernel
theorem d_Ke_register_26 : decode b_Ke_register 26 = .ok (.iaload, 1) := by decide +kernel
theorem d_Ke_register_27 : decode b_Ke_register 27 = .ok (.ireturn, 1) := by decide +kernel
theorem d_Ke_told_0 : decode b_Ke_told 0 = .ok (.iload_n 1, 1) := by decide +kernel
theorem d_Ke_told_1 : decode b_Ke_told 1 = .ok (.bipush 6, 2) := by decide +kernel
theorem d_Ke_told_3 : decode b_Ke_told 3 = .ok (.invokestatic 61, 3) := by decide +kernel
theorem d_Ke_told_6 : decode b_Ke_told 6 = .ok (.iload_n 2, 1) := by decide +kernel
theorem d_Ke_told_7 : decode b_Ke_told 7 = .ok (.bipush 9, 2) := by decide +kernel
theorem d_Ke_told_9 : decode b_Ke_told 9 = .ok (.invokestatic 61, 3) := by decide +kernel
theorem d_Ke_told_12 : decode b_Ke_told 12 = .ok (.aload_n 0, 1) := by decide +kernel
theorem d_Ke_told_13 : decode b_Ke_told 13 = .ok (.iload_n 1, 1) := by decide +kernel
theorem d_Ke_told_14 : decode b_Ke_told 14 = .ok (.invokevirtual 91, 3) := by decide +kernel
theorem d_Ke_told_17 : decode b_Ke_told 17 = .ok (.aload_n 0, 1) := by decide +kernel
theorem d_Ke_told_18 : decode b_Ke_told 18 = .ok (.getfield 25, 3) := by decide +kernel
theorem d_Ke_told_21 : decode b_Ke_told 21 = .ok (.iload_n 1, 1) := by decide +kernel
theorem d_Ke_told_22 : decode b_Ke_told 22 = .ok (.aaload, 1) := by decide +kernel
theorem d_Ke_told_23 : decode b_Ke_told 23 = .ok (.astore_n 3, 1) := by decide +kernel
theorem d_Ke_told_24 : decode b_Ke_told 24 = .ok (.iload_n 2, 1) := by decide +kernel
theorem d_Ke_told_25 : decode b_Ke_told 25 = .ok (.tableswitch 87 0 7 #[47, 52, 57, 62, 67, 72, 77, 82], 47) := by decide +kernel
theorem d_Ke_told_72 : decode b_Ke_told 72 = .ok (.aload_n 3, 1) := by decide +kernel
theorem d_Ke_told_73 : decode b_Ke_told 73 = .ok (.getfield 98, 3) := by decide +kernel
theorem d_Ke_told_76 : decode b_Ke_told 76 = .ok (.ireturn, 1) := by decide +kernel
theorem d_Ke_told_77 : decode b_Ke_told 77 = .ok (.aload_n 3, 1) := by decide +kernel
theorem d_Ke_told_78 : decode b_Ke_told 78 = .ok (.getfield 101, 3) := by decide +kernel
theorem d_Ke_told_81 : decode b_Ke_told 81 = .ok (.ireturn, 1) := by decide +kernel
theorem d_Ke_told_82 : decode b_Ke_told 82 = .ok (.aload_n 3, 1) := by decide +kernel
theorem d_Ke_told_83 : decode b_Ke_told 83 = .ok (.getfield 104, 3) := by decide +kernel
theorem d_Ke_told_86 : decode b_Ke_told 86 = .ok (.ireturn, 1) := by decide +kernel
theorem d_Ke_told_87 : decode b_Ke_told 87 = .ok (.aload_n 3, 1) := by decide +kernel
theorem d_Ke_told_88 : decode b_Ke_told 88 = .ok (.getfield 107, 3) := by decide +kernel
theorem d_Ke_told_91 : decode b_Ke_told 91 = .ok (.ireturn, 1) := by decide +kernel
theorem d_Ke_told_92 : decode b_Ke_told 92 = .ok (.aload_n 3, 1) := by decide +kernel
theorem d_Ke_told_93 : decode b_Ke_told 93 = .ok (.getfield 110, 3) := by decide +kernel
theorem d_Ke_told_96 : decode b_Ke_told 96 = .ok (.ireturn, 1) := by decide +kernel
theorem d_Ke_told_97 : decode b_Ke_told 97 = .ok (.aload_n 3, 1) := by decide +kernel
theorem d_Ke_told_98 : decode b_Ke_told 98 = .ok (.getfield 113, 3) := by decide +kernel
theorem d_Ke_told_101 : decode b_Ke_told 101 = .ok (.ireturn, 1) := by decide +kernel
theorem d_Ke_told_102 : decode b_Ke_told 102 = .ok (.aload_n 3, 1) := by decide +kernel
theorem d_Ke_told_103 : decode b_Ke_told 103 = .ok (.getfield 116, 3) := by decide +kernel
theorem d_Ke_told_106 : decode b_Ke_told 106 = .ok (.ireturn, 1) := by decide +kernel
theorem d_Ke_told_107 : decode b_Ke_told 107 = .ok (.aload_n 3, 1) := by decide +kernel
theorem d_Ke_told_108 : decode b_Ke_told 108 = .ok (.getfield 119, 3) := by decide +kernel
theorem d_Ke_told_111 : decode b_Ke_told 111 = .ok (.ireturn, 1) := by decide +kernel
theorem d_Ke_told_112 : decode b_Ke_told 112 = .ok (.aload_n 3, 1) := by decide +kernel
theorem d_Ke_told_113 : decode b_Ke_told 113 = .ok (.getfield 122, 3) := by decide +kernel
theorem d_Ke_told_116 : decode b_Ke_told 116 = .ok (.ireturn, 1) := by decide +kernel
theorem d_Ke_page_0 : decode b_Ke_page 0 = .ok (.iload_n 1, 1) := by decide +kernel
theorem d_Ke_page_1 : decode b_Ke_page 1 = .ok (.bipush 6, 2) := by decide +kernel
theorem d_Ke_page_3 : decode b_Ke_page 3 = .ok (.invokestatic 61, 3) := by decide +kernel
theorem d_Ke_page_6 : decode b_Ke_page 6 = .ok (.iload_n 2, 1) := by decide +kernel
theorem d_Ke_page_7 : decode b_Ke_page 7 = .ok (.iconst 4, 1) := by decide +kernel
theorem d_Ke_page_8 : decode b_Ke_page 8 = .ok (.invokestatic 61, 3) := by decide +kernel
theorem d_Ke_page_11 : decode b_Ke_page 11 = .ok (.aload_n 0, 1) := by decide +kernel
theorem d_Ke_page_12 : decode b_Ke_page 12 = .ok (.iload_n 1, 1) := by decide +kernel
theorem d_Ke_page_13 : decode b_Ke_page 13 = .ok (.invokevirtual 91, 3) := by decide +kernel
theorem d_Ke_page_16 : decode b_Ke_page 16 = .ok (.aload_n 0, 1) := by decide +kernel
theorem d_Ke_page_17 : decode b_Ke_page 17 = .ok (.getfield 25, 3) := by decide +kernel
theorem d_Ke_page_20 : decode b_Ke_page 20 = .ok (.iload_n 1, 1) := by decide +kernel
theorem d_Ke_page_21 : decode b_Ke_page 21 = .ok (.aaload, 1) := by decide +kernel
theorem d_Ke_page_22 : decode b_Ke_page 22 = .ok (.getfield 125, 3) := by decide +kernel
theorem d_Ke_page_25 : decode b_Ke_page 25 = .ok (.iload_n 2, 1) := by decide +kernel
theorem d_Ke_page_26 : decode b_Ke_page 26 = .ok (.iaload, 1) := by decide +kernel
theorem d_Ke_page_27 : decode b_Ke_page 27 = .ok (.ireturn, 1) := by decide +kernel
theorem d_Ke_memory_0 : decode b_Ke_memory 0 = .ok (.iload_n 1, 1) := by decide +kernel
theorem d_Ke_memory_1 : decode b_Ke_memory 1 = .ok (.bipush 12, 2) := by decide +kernel
theorem d_Ke_memory_3 : decode b_Ke_memory 3 = .ok (.invokestatic 61, 3) := by decide +kernel
theorem d_Ke_memory_6 : decode b_Ke_memory 6 = .ok (.iload_n 2, 1) := by decide +kernel
theorem d_Ke_memory_7 : decode b_Ke_memory 7 = .ok (.bipush 8, 2) := by decide +kernel
theorem d_Ke_memory_9 : decode b_Ke_memory 9 = .ok (.invokestatic 61, 3) := by decide +kernel
theorem d_Ke_memory_12 : decode b_Ke_memory 12 = .ok (.aload_n 0, 1) := by decide +kernel
theorem d_Ke_memory_13 : decode b_Ke_memory 13 = .ok (.getfield 19, 3) := by decide +kernel
theorem d_Ke_memory_16 : decode b_Ke_memory 16 = .ok (.iload_n 1, 1) := by decide +kernel
theorem d_Ke_memory_17 : decode b_Ke_memory 17 = .ok (.iload_n 2, 1) := by decide +kernel
theorem d_Ke_memory_18 : decode b_Ke_memory 18 = .ok (.invokevirtual 128, 3) := by decide +kernel
theorem d_Ke_memory_21 : decode b_Ke_memory 21 = .ok (.ireturn, 1) := by decide +kernel
theorem d_Ke_object_0 : decode b_Ke_object 0 = .ok (.iload_n 1, 1) := by decide +kernel
theorem d_Ke_object_1 : decode b_Ke_object 1 = .ok (.iconst 4, 1) := by decide +kernel
theorem d_Ke_object_2 : decode b_Ke_object 2 = .ok (.invokestatic 61, 3) := by decide +kernel
theorem d_Ke_object_5 : decode b_Ke_object 5 = .ok (.iload_n 2, 1) := by decide +kernel
theorem d_Ke_object_6 : decode b_Ke_object 6 = .ok (.iconst 5, 1) := by decide +kernel
theorem d_Ke_object_7 : decode b_Ke_object 7 = .ok (.invokestatic 61, 3) := by decide +kernel
theorem d_Ke_object_10 : decode b_Ke_object 10 = .ok (.iload_n 2, 1) := by decide +kernel
theorem d_Ke_object_11 : decode b_Ke_object 11 = .ok (.tableswitch 75 0 3 #[29, 39, 52, 62], 29) := by decide +kernel
theorem d_Ke_object_40 : decode b_Ke_object 40 = .ok (.aload_n 0, 1) := by decide +kernel
theorem d_Ke_object_41 : decode b_Ke_object 41 = .ok (.getfield 37, 3) := by decide +kernel
theorem d_Ke_object_44 : decode b_Ke_object 44 = .ok (.iload_n 1, 1) := by decide +kernel
theorem d_Ke_object_45 : decode b_Ke_object 45 = .ok (.aaload, 1) := by decide +kernel
theorem d_Ke_object_46 : decode b_Ke_object 46 = .ok (.getfield 132, 3) := by decide +kernel
theorem d_Ke_object_49 : decode b_Ke_object 49 = .ok (.ireturn, 1) := by decide +kernel
theorem d_Ke_object_50 : decode b_Ke_object 50 = .ok (.aload_n 0, 1) := by decide +kernel
theorem d_Ke_object_51 : decode b_Ke_object 51 = .ok (.getfield 37, 3) := by decide +kernel
theorem d_Ke_object_54 : decode b_Ke_object 54 = .ok (.iload_n 1, 1) := by decide +kernel
theorem d_Ke_object_55 : decode b_Ke_object 55 = .ok (.aaload, 1) := by decide +kernel
theorem d_Ke_object_56 : decode b_Ke_object 56 = .ok (.getfield 135, 3) := by decide +kernel
theorem d_Ke_object_59 : decode b_Ke_object 59 = .ok (.getfield 139, 3) := by decide +kernel
theorem d_Ke_object_62 : decode b_Ke_object 62 = .ok (.ireturn, 1) := by decide +kernel
theorem d_Ke_object_63 : decode b_Ke_object 63 = .ok (.aload_n 0, 1) := by decide +kernel
theorem d_Ke_object_64 : decode b_Ke_object 64 = .ok (.getfield 43, 3) := by decide +kernel
theorem d_Ke_object_67 : decode b_Ke_object 67 = .ok (.iload_n 1, 1) := by decide +kernel
theorem d_Ke_object_68 : decode b_Ke_object 68 = .ok (.aaload, 1) := by decide +kernel
theorem d_Ke_object_69 : decode b_Ke_object 69 = .ok (.getfield 144, 3) := by decide +kernel
theorem d_Ke_object_72 : decode b_Ke_object 72 = .ok (.ireturn, 1) := by decide +kernel
theorem d_Ke_object_73 : decode b_Ke_object 73 = .ok (.aload_n 0, 1) := by decide +kernel
theorem d_Ke_object_74 : decode b_Ke_object 74 = .ok (.getfield 43, 3) := by decide +kernel
theorem d_Ke_object_77 : decode b_Ke_object 77 = .ok (.iload_n 1, 1) := by decide +kernel
theorem d_Ke_object_78 : decode b_Ke_object 78 = .ok (.aaload, 1) := by decide +kernel
theorem d_Ke_object_79 : decode b_Ke_object 79 = .ok (.getfield 145, 3) := by decide +kernel
theorem d_Ke_object_82 : decode b_Ke_object 82 = .ok (.getfield 139, 3) := by decide +kernel
theorem d_Ke_object_85 : decode b_Ke_object 85 = .ok (.ireturn, 1) := by decide +kernel
theorem d_Ke_object_86 : decode b_Ke_object 86 = .ok (.aload_n 0, 1) := by decide +kernel
theorem d_Ke_object_87 : decode b_Ke_object 87 = .ok (.getfield 43, 3) := by decide +kernel
theorem d_Ke_object_90 : decode b_Ke_object 90 = .ok (.iload_n 1, 1) := by decide +kernel
theorem d_Ke_object_91 : decode b_Ke_object 91 = .ok (.aaload, 1) := by decide +kernel
theorem d_Ke_object_92 : decode b_Ke_object 92 = .ok (.getfield 148, 3) := by decide +kernel
theorem d_Ke_object_95 : decode b_Ke_object 95 = .ok (.getfield 139, 3) := by decide +kernel
theorem d_Ke_object_98 : decode b_Ke_object 98 = .ok (.ireturn, 1) := by decide +kernel
theorem d_Ke_written_0 : decode b_Ke_written 0 = .ok (.iload_n 1, 1) := by decide +kernel
theorem d_Ke_written_1 : decode b_Ke_written 1 = .ok (.bipush 32, 2) := by decide +kernel
theorem d_Ke_written_3 : decode b_Ke_written 3 = .ok (.invokestatic 61, 3) := by decide +kernel
theorem d_Ke_written_6 : decode b_Ke_written 6 = .ok (.iload_n 2, 1) := by decide +kernel
theorem d_Ke_written_7 : decode b_Ke_written 7 = .ok (.iconst 4, 1) := by decide +kernel
theorem d_Ke_written_8 : decode b_Ke_written 8 = .ok (.invokestatic 61, 3) := by decide +kernel
theorem d_Ke_written_11 : decode b_Ke_written 11 = .ok (.aload_n 0, 1) := by decide +kernel
theorem d_Ke_written_12 : decode b_Ke_written 12 = .ok (.getfield 12, 3) := by decide +kernel
theorem d_Ke_written_15 : decode b_Ke_written 15 = .ok (.iload_n 1, 1) := by decide +kernel
theorem d_Ke_written_16 : decode b_Ke_written 16 = .ok (.iload_n 2, 1) := by decide +kernel
theorem d_Ke_written_17 : decode b_Ke_written 17 = .ok (.invokevirtual 151, 3) := by decide +kernel
theorem d_Ke_written_20 : decode b_Ke_written 20 = .ok (.ireturn, 1) := by decide +kernel
theorem d_Ke_count_0 : decode b_Ke_count 0 = .ok (.iload_n 1, 1) := by decide +kernel
theorem d_Ke_count_1 : decode b_Ke_count 1 = .ok (.tableswitch 192 0 21 #[103, 108, 113, 118, 123, 128, 136, 141, 192, 192, 146, 156, 192, 192, 192, 192, 192, 192, 192, 192, 166, 179], 103) := by decide +kernel
theorem d_Ke_count_104 : decode b_Ke_count 104 = .ok (.aload_n 0, 1) := by decide +kernel
theorem d_Ke_count_105 : decode b_Ke_count 105 = .ok (.getfield 83, 3) := by decide +kernel
theorem d_Ke_count_108 : decode b_Ke_count 108 = .ok (.ireturn, 1) := by decide +kernel
theorem d_Ke_count_109 : decode b_Ke_count 109 = .ok (.aload_n 0, 1) := by decide +kernel
theorem d_Ke_count_110 : decode b_Ke_count 110 = .ok (.getfield 154, 3) := by decide +kernel
theorem d_Ke_count_113 : decode b_Ke_count 113 = .ok (.ireturn, 1) := by decide +kernel
theorem d_Ke_count_114 : decode b_Ke_count 114 = .ok (.aload_n 0, 1) := by decide +kernel
theorem d_Ke_count_115 : decode b_Ke_count 115 = .ok (.getfield 157, 3) := by decide +kernel
theorem d_Ke_count_118 : decode b_Ke_count 118 = .ok (.ireturn, 1) := by decide +kernel
theorem d_Ke_count_119 : decode b_Ke_count 119 = .ok (.aload_n 0, 1) := by decide +kernel
theorem d_Ke_count_120 : decode b_Ke_count 120 = .ok (.getfield 158, 3) := by decide +kernel
theorem d_Ke_count_123 : decode b_Ke_count 123 = .ok (.ireturn, 1) := by decide +kernel
theorem d_Ke_count_124 : decode b_Ke_count 124 = .ok (.aload_n 0, 1) := by decide +kernel
theorem d_Ke_count_125 : decode b_Ke_count 125 = .ok (.getfield 161, 3) := by decide +kernel
theorem d_Ke_count_128 : decode b_Ke_count 128 = .ok (.ireturn, 1) := by decide +kernel
theorem d_Ke_count_129 : decode b_Ke_count 129 = .ok (.aload_n 0, 1) := by decide +kernel
theorem d_Ke_count_130 : decode b_Ke_count 130 = .ok (.getfield 19, 3) := by decide +kernel
theorem d_Ke_count_133 : decode b_Ke_count 133 = .ok (.getfield 164, 3) := by decide +kernel
theorem d_Ke_count_136 : decode b_Ke_count 136 = .ok (.ireturn, 1) := by decide +kernel
theorem d_Ke_count_137 : decode b_Ke_count 137 = .ok (.aload_n 0, 1) := by decide +kernel
theorem d_Ke_count_138 : decode b_Ke_count 138 = .ok (.getfield 167, 3) := by decide +kernel
theorem d_Ke_count_141 : decode b_Ke_count 141 = .ok (.ireturn, 1) := by decide +kernel
theorem d_Ke_count_142 : decode b_Ke_count 142 = .ok (.aload_n 0, 1) := by decide +kernel
theorem d_Ke_count_143 : decode b_Ke_count 143 = .ok (.getfield 170, 3) := by decide +kernel
theorem d_Ke_count_146 : decode b_Ke_count 146 = .ok (.ireturn, 1) := by decide +kernel
theorem d_Ke_count_147 : decode b_Ke_count 147 = .ok (.aload_n 0, 1) := by decide +kernel
theorem d_Ke_count_148 : decode b_Ke_count 148 = .ok (.getfield 31, 3) := by decide +kernel
theorem d_Ke_count_151 : decode b_Ke_count 151 = .ok (.iconst 0, 1) := by decide +kernel
theorem d_Ke_count_152 : decode b_Ke_count 152 = .ok (.aaload, 1) := by decide +kernel
theorem d_Ke_count_153 : decode b_Ke_count 153 = .ok (.getfield 173, 3) := by decide +kernel
theorem d_Ke_count_156 : decode b_Ke_count 156 = .ok (.ireturn, 1) := by decide +kernel
theorem d_Ke_count_157 : decode b_Ke_count 157 = .ok (.aload_n 0, 1) := by decide +kernel
theorem d_Ke_count_158 : decode b_Ke_count 158 = .ok (.getfield 31, 3) := by decide +kernel
theorem d_Ke_count_161 : decode b_Ke_count 161 = .ok (.iconst 1, 1) := by decide +kernel
theorem d_Ke_count_162 : decode b_Ke_count 162 = .ok (.aaload, 1) := by decide +kernel
theorem d_Ke_count_163 : decode b_Ke_count 163 = .ok (.getfield 173, 3) := by decide +kernel
theorem d_Ke_count_166 : decode b_Ke_count 166 = .ok (.ireturn, 1) := by decide +kernel
theorem d_Ke_count_167 : decode b_Ke_count 167 = .ok (.aload_n 0, 1) := by decide +kernel
theorem d_Ke_count_168 : decode b_Ke_count 168 = .ok (.getfield 31, 3) := by decide +kernel
theorem d_Ke_count_171 : decode b_Ke_count 171 = .ok (.iconst 0, 1) := by decide +kernel
theorem d_Ke_count_172 : decode b_Ke_count 172 = .ok (.aaload, 1) := by decide +kernel
theorem d_Ke_count_173 : decode b_Ke_count 173 = .ok (.getfield 176, 3) := by decide +kernel
theorem d_Ke_count_176 : decode b_Ke_count 176 = .ok (.getfield 139, 3) := by decide +kernel
theorem d_Ke_count_179 : decode b_Ke_count 179 = .ok (.ireturn, 1) := by decide +kernel
theorem d_Ke_count_180 : decode b_Ke_count 180 = .ok (.aload_n 0, 1) := by decide +kernel
theorem d_Ke_count_181 : decode b_Ke_count 181 = .ok (.getfield 31, 3) := by decide +kernel
theorem d_Ke_count_184 : decode b_Ke_count 184 = .ok (.iconst 1, 1) := by decide +kernel
theorem d_Ke_count_185 : decode b_Ke_count 185 = .ok (.aaload, 1) := by decide +kernel
theorem d_Ke_count_186 : decode b_Ke_count 186 = .ok (.getfield 176, 3) := by decide +kernel
theorem d_Ke_count_189 : decode b_Ke_count 189 = .ok (.getfield 139, 3) := by decide +kernel
theorem d_Ke_count_192 : decode b_Ke_count 192 = .ok (.ireturn, 1) := by decide +kernel
theorem d_Ke_count_193 : decode b_Ke_count 193 = .ok (.bipush (-2), 2) := by decide +kernel
theorem d_Ke_count_195 : decode b_Ke_count 195 = .ok (.ireturn, 1) := by decide +kernel
theorem d_Ke_isOutside_0 : decode b_Ke_isOutside 0 = .ok (.iload_n 0, 1) := by decide +kernel
theorem d_Ke_isOutside_1 : decode b_Ke_isOutside 1 = .ok (.ifCond .lt 8, 3) := by decide +kernel
theorem d_Ke_isOutside_4 : decode b_Ke_isOutside 4 = .ok (.iload_n 0, 1) := by decide +kernel
theorem d_Ke_isOutside_5 : decode b_Ke_isOutside 5 = .ok (.iload_n 1, 1) := by decide +kernel
theorem d_Ke_isOutside_6 : decode b_Ke_isOutside 6 = .ok (.if_icmp .lt 7, 3) := by decide +kernel
theorem d_Ke_isOutside_9 : decode b_Ke_isOutside 9 = .ok (.iconst 1, 1) := by decide +kernel
theorem d_Ke_isOutside_10 : decode b_Ke_isOutside 10 = .ok (.goto 4, 3) := by decide +kernel
theorem d_Ke_isOutside_13 : decode b_Ke_isOutside 13 = .ok (.iconst 0, 1) := by decide +kernel
theorem d_Ke_isOutside_14 : decode b_Ke_isOutside 14 = .ok (.ireturn, 1) := by decide +kernel
theorem d_Ke_requireBelow_0 : decode b_Ke_requireBelow 0 = .ok (.iload_n 0, 1) := by decide +kernel
theorem d_Ke_requireBelow_1 : decode b_Ke_requireBelow 1 = .ok (.iload_n 1, 1) := by decide +kernel
theorem d_Ke_requireBelow_2 : decode b_Ke_requireBelow 2 = .ok (.invokestatic 179, 3) := by decide +kernel
theorem d_Ke_requireBelow_5 : decode b_Ke_requireBelow 5 = .ok (.ifCond .eq 13, 3) := by decide +kernel
theorem d_Ke_requireBelow_8 : decode b_Ke_requireBelow 8 = .ok (.new 69, 3) := by decide +kernel
theorem d_Ke_requireBelow_11 : decode b_Ke_requireBelow 11 = .ok (.dup, 1) := by decide +kernel
theorem d_Ke_requireBelow_12 : decode b_Ke_requireBelow 12 = .ok (.ldc 71, 2) := by decide +kernel
theorem d_Ke_requireBelow_14 : decode b_Ke_requireBelow 14 = .ok (.invokespecial 73, 3) := by decide +kernel
theorem d_Ke_requireBelow_17 : decode b_Ke_requireBelow 17 = .ok (.athrow, 1) := by decide +kernel
theorem d_Ke_requireBelow_18 : decode b_Ke_requireBelow 18 = .ok (.return_, 1) := by decide +kernel
theorem d_Ke_requirePresent_0 : decode b_Ke_requirePresent 0 = .ok (.aload_n 0, 1) := by decide +kernel
theorem d_Ke_requirePresent_1 : decode b_Ke_requirePresent 1 = .ok (.getfield 25, 3) := by decide +kernel
theorem d_Ke_requirePresent_4 : decode b_Ke_requirePresent 4 = .ok (.iload_n 1, 1) := by decide +kernel
theorem d_Ke_requirePresent_5 : decode b_Ke_requirePresent 5 = .ok (.aaload, 1) := by decide +kernel
theorem d_Ke_requirePresent_6 : decode b_Ke_requirePresent 6 = .ok (.getfield 98, 3) := by decide +kernel
theorem d_Ke_requirePresent_9 : decode b_Ke_requirePresent 9 = .ok (.iconst (-1), 1) := by decide +kernel
theorem d_Ke_requirePresent_10 : decode b_Ke_requirePresent 10 = .ok (.if_icmp .ne 13, 3) := by decide +kernel
theorem d_Ke_requirePresent_13 : decode b_Ke_requirePresent 13 = .ok (.new 183, 3) := by decide +kernel
theorem d_Ke_requirePresent_16 : decode b_Ke_requirePresent 16 = .ok (.dup, 1) := by decide +kernel
theorem d_Ke_requirePresent_17 : decode b_Ke_requirePresent 17 = .ok (.ldc 185, 2) := by decide +kernel
theorem d_Ke_requirePresent_19 : decode b_Ke_requirePresent 19 = .ok (.invokespecial 187, 3) := by decide +kernel
theorem d_Ke_requirePresent_22 : decode b_Ke_requirePresent 22 = .ok (.athrow, 1) := by decide +kernel
theorem d_Ke_requirePresent_23 : decode b_Ke_requirePresent 23 = .ok (.return_, 1) := by decide +kernel
theorem d_Ke_requireNoneBlocked_0 : decode b_Ke_requireNoneBlocked 0 = .ok (.iconst 0, 1) := by decide +kernel
theorem d_Ke_requireNoneBlocked_1 : decode b_Ke_requireNoneBlocked 1 = .ok (.istore_n 1, 1) := by decide +kernel
theorem d_Ke_requireNoneBlocked_2 : decode b_Ke_requireNoneBlocked 2 = .ok (.iload_n 1, 1) := by decide +kernel
theorem d_Ke_requireNoneBlocked_3 : decode b_Ke_requireNoneBlocked 3 = .ok (.bipush 6, 2) := by decide +kernel
theorem d_Ke_requireNoneBlocked_5 : decode b_Ke_requireNoneBlocked 5 = .ok (.if_icmp .ge 32, 3) := by decide +kernel
theorem d_Ke_requireNoneBlocked_8 : decode b_Ke_requireNoneBlocked 8 = .ok (.aload_n 0, 1) := by decide +kernel
theorem d_Ke_requireNoneBlocked_9 : decode b_Ke_requireNoneBlocked 9 = .ok (.getfield 25, 3) := by decide +kernel
theorem d_Ke_requireNoneBlocked_12 : decode b_Ke_requireNoneBlocked 12 = .ok (.iload_n 1, 1) := by decide +kernel
theorem d_Ke_requireNoneBlocked_13 : decode b_Ke_requireNoneBlocked 13 = .ok (.aaload, 1) := by decide +kernel
theorem d_Ke_requireNoneBlocked_14 : decode b_Ke_requireNoneBlocked 14 = .ok (.getfield 98, 3) := by decide +kernel
theorem d_Ke_requireNoneBlocked_17 : decode b_Ke_requireNoneBlocked 17 = .ok (.iconst 2, 1) := by decide +kernel
theorem d_Ke_requireNoneBlocked_18 : decode b_Ke_requireNoneBlocked 18 = .ok (.if_icmp .ne 13, 3) := by decide +kernel
theorem d_Ke_requireNoneBlocked_21 : decode b_Ke_requireNoneBlocked 21 = .ok (.new 188, 3) := by decide +kernel
theorem d_Ke_requireNoneBlocked_24 : decode b_Ke_requireNoneBlocked 24 = .ok (.dup, 1) := by decide +kernel
theorem d_Ke_requireNoneBlocked_25 : decode b_Ke_requireNoneBlocked 25 = .ok (.ldc 190, 2) := by decide +kernel
theorem d_Ke_requireNoneBlocked_27 : decode b_Ke_requireNoneBlocked 27 = .ok (.invokespecial 192, 3) := by decide +kernel
theorem d_Ke_requireNoneBlocked_30 : decode b_Ke_requireNoneBlocked 30 = .ok (.athrow, 1) := by decide +kernel
theorem d_Ke_requireNoneBlocked_31 : decode b_Ke_requireNoneBlocked 31 = .ok (.iinc 1 1, 3) := by decide +kernel
theorem d_Ke_requireNoneBlocked_34 : decode b_Ke_requireNoneBlocked 34 = .ok (.goto (-32), 3) := by decide +kernel
theorem d_Ke_requireNoneBlocked_37 : decode b_Ke_requireNoneBlocked 37 = .ok (.return_, 1) := by decide +kernel
theorem d_Ke_takeTurn_0 : decode b_Ke_takeTurn 0 = .ok (.aload_n 1, 1) := by decide +kernel
theorem d_Ke_takeTurn_1 : decode b_Ke_takeTurn 1 = .ok (.getfield 173, 3) := by decide +kernel
theorem d_Ke_takeTurn_4 : decode b_Ke_takeTurn 4 = .ok (.iconst (-1), 1) := by decide +kernel
theorem d_Ke_takeTurn_5 : decode b_Ke_takeTurn 5 = .ok (.if_icmp .ne 11, 3) := by decide +kernel
theorem d_Ke_takeTurn_8 : decode b_Ke_takeTurn 8 = .ok (.aload_n 0, 1) := by decide +kernel
theorem d_Ke_takeTurn_9 : decode b_Ke_takeTurn 9 = .ok (.aload_n 1, 1) := by decide +kernel
theorem d_Ke_takeTurn_10 : decode b_Ke_takeTurn 10 = .ok (.invokevirtual 193, 3) := by decide +kernel
theorem d_Ke_takeTurn_13 : decode b_Ke_takeTurn 13 = .ok (.goto 7, 3) := by decide +kernel
theorem d_Ke_takeTurn_16 : decode b_Ke_takeTurn 16 = .ok (.aload_n 1, 1) := by decide +kernel
theorem d_Ke_takeTurn_17 : decode b_Ke_takeTurn 17 = .ok (.getfield 173, 3) := by decide +kernel
theorem d_Ke_takeTurn_20 : decode b_Ke_takeTurn 20 = .ok (.istore_n 2, 1) := by decide +kernel
theorem d_Ke_takeTurn_21 : decode b_Ke_takeTurn 21 = .ok (.iload_n 2, 1) := by decide +kernel
theorem d_Ke_takeTurn_22 : decode b_Ke_takeTurn 22 = .ok (.iconst (-1), 1) := by decide +kernel
theorem d_Ke_takeTurn_23 : decode b_Ke_takeTurn 23 = .ok (.if_icmp .ne 14, 3) := by decide +kernel
theorem d_Ke_takeTurn_26 : decode b_Ke_takeTurn 26 = .ok (.aload_n 0, 1) := by decide +kernel
theorem d_Ke_takeTurn_27 : decode b_Ke_takeTurn 27 = .ok (.dup, 1) := by decide +kernel
theorem d_Ke_takeTurn_28 : decode b_Ke_takeTurn 28 = .ok (.getfield 167, 3) := by decide +kernel
theorem d_Ke_takeTurn_31 : decode b_Ke_takeTurn 31 = .ok (.iconst 1, 1) := by decide +kernel
theorem d_Ke_takeTurn_32 : decode b_Ke_takeTurn 32 = .ok (.iadd, 1) := by decide +kernel
theorem d_Ke_takeTurn_33 : decode b_Ke_takeTurn 33 = .ok (.putfield 167, 3) := by decide +kernel
theorem d_Ke_takeTurn_36 : decode b_Ke_takeTurn 36 = .ok (.return_, 1) := by decide +kernel
theorem d_Ke_takeTurn_37 : decode b_Ke_takeTurn 37 = .ok (.aload_n 0, 1) := by decide +kernel
theorem d_Ke_takeTurn_38 : decode b_Ke_takeTurn 38 = .ok (.getfield 25, 3) := by decide +kernel
theorem d_Ke_takeTurn_41 : decode b_Ke_takeTurn 41 = .ok (.iload_n 2, 1) := by decide +kernel
theorem d_Ke_takeTurn_42 : decode b_Ke_takeTurn 42 = .ok (.aaload, 1) := by decide +kernel
theorem d_Ke_takeTurn_43 : decode b_Ke_takeTurn 43 = .ok (.astore_n 3, 1) := by decide +kernel
theorem d_Ke_takeTurn_44 : decode b_Ke_takeTurn 44 = .ok (.aload_n 3, 1) := by decide +kernel
theorem d_Ke_takeTurn_45 : decode b_Ke_takeTurn 45 = .ok (.getfield 101, 3) := by decide +kernel
theorem d_Ke_takeTurn_48 : decode b_Ke_takeTurn 48 = .ok (.istore 4, 2) := by decide +kernel
theorem d_Ke_takeTurn_50 : decode b_Ke_takeTurn 50 = .ok (.aload_n 0, 1) := by decide +kernel
theorem d_Ke_takeTurn_51 : decode b_Ke_takeTurn 51 = .ok (.getfield 12, 3) := by decide +kernel
theorem d_Ke_takeTurn_54 : decode b_Ke_takeTurn 54 = .ok (.iload 4, 2) := by decide +kernel
theorem d_Ke_takeTurn_56 : decode b_Ke_takeTurn 56 = .ok (.iconst 0, 1) := by decide +kernel
theorem d_Ke_takeTurn_57 : decode b_Ke_takeTurn 57 = .ok (.invokevirtual 151, 3) := by decide +kernel
theorem d_Ke_takeTurn_60 : decode b_Ke_takeTurn 60 = .ok (.istore 5, 2) := by decide +kernel
theorem d_Ke_takeTurn_62 : decode b_Ke_takeTurn 62 = .ok (.aload_n 3, 1) := by decide +kernel
theorem d_Ke_takeTurn_63 : decode b_Ke_takeTurn 63 = .ok (.iload 4, 2) := by decide +kernel
theorem d_Ke_takeTurn_65 : decode b_Ke_takeTurn 65 = .ok (.iconst 1, 1) := by decide +kernel
theorem d_Ke_takeTurn_66 : decode b_Ke_takeTurn 66 = .ok (.iadd, 1) := by decide +kernel
theorem d_Ke_takeTurn_67 : decode b_Ke_takeTurn 67 = .ok (.invokevirtual 197, 3) := by decide +kernel
theorem d_Ke_takeTurn_70 : decode b_Ke_takeTurn 70 = .ok (.aload_n 1, 1) := by decide +kernel
theorem d_Ke_takeTurn_71 : decode b_Ke_takeTurn 71 = .ok (.dup, 1) := by decide +kernel
theorem d_Ke_takeTurn_72 : decode b_Ke_takeTurn 72 = .ok (.getfield 200, 3) := by decide +kernel
theorem d_Ke_takeTurn_75 : decode b_Ke_takeTurn 75 = .ok (.iconst 1, 1) := by decide +kernel
theorem d_Ke_takeTurn_76 : decode b_Ke_takeTurn 76 = .ok (.isub, 1) := by decide +kernel
theorem d_Ke_takeTurn_77 : decode b_Ke_takeTurn 77 = .ok (.putfield 200, 3) := by decide +kernel
theorem d_Ke_takeTurn_80 : decode b_Ke_takeTurn 80 = .ok (.aload_n 0, 1) := by decide +kernel
theorem d_Ke_takeTurn_81 : decode b_Ke_takeTurn 81 = .ok (.dup, 1) := by decide +kernel
theorem d_Ke_takeTurn_82 : decode b_Ke_takeTurn 82 = .ok (.getfield 154, 3) := by decide +kernel
theorem d_Ke_takeTurn_85 : decode b_Ke_takeTurn 85 = .ok (.iconst 1, 1) := by decide +kernel
theorem d_Ke_takeTurn_86 : decode b_Ke_takeTurn 86 = .ok (.iadd, 1) := by decide +kernel
theorem d_Ke_takeTurn_87 : decode b_Ke_takeTurn 87 = .ok (.putfield 154, 3) := by decide +kernel
theorem d_Ke_takeTurn_90 : decode b_Ke_takeTurn 90 = .ok (.aload_n 0, 1) := by decide +kernel
theorem d_Ke_takeTurn_91 : decode b_Ke_takeTurn 91 = .ok (.aload_n 3, 1) := by decide +kernel
theorem d_Ke_takeTurn_92 : decode b_Ke_takeTurn 92 = .ok (.iload 5, 2) := by decide +kernel
theorem d_Ke_takeTurn_94 : decode b_Ke_takeTurn 94 = .ok (.iload 4, 2) := by decide +kernel
theorem d_Ke_takeTurn_96 : decode b_Ke_takeTurn 96 = .ok (.invokevirtual 203, 3) := by decide +kernel
theorem d_Ke_takeTurn_99 : decode b_Ke_takeTurn 99 = .ok (.istore 6, 2) := by decide +kernel
theorem d_Ke_takeTurn_101 : decode b_Ke_takeTurn 101 = .ok (.iload 6, 2) := by decide +kernel
theorem d_Ke_takeTurn_103 : decode b_Ke_takeTurn 103 = .ok (.ifCond .eq 12, 3) := by decide +kernel
theorem d_Ke_takeTurn_106 : decode b_Ke_takeTurn 106 = .ok (.aload_n 0, 1) := by decide +kernel
theorem d_Ke_takeTurn_107 : decode b_Ke_takeTurn 107 = .ok (.aload_n 3, 1) := by decide +kernel
theorem d_Ke_takeTurn_108 : decode b_Ke_takeTurn 108 = .ok (.iload 6, 2) := by decide +kernel
theorem d_Ke_takeTurn_110 : decode b_Ke_takeTurn 110 = .ok (.iload 4, 2) := by decide +kernel
theorem d_Ke_takeTurn_112 : decode b_Ke_takeTurn 112 = .ok (.invokevirtual 207, 3) := by decide +kernel
theorem d_Ke_takeTurn_115 : decode b_Ke_takeTurn 115 = .ok (.aload_n 3, 1) := by decide +kernel
theorem d_Ke_takeTurn_116 : decode b_Ke_takeTurn 116 = .ok (.getfield 98, 3) := by decide +kernel
theorem d_Ke_takeTurn_119 : decode b_Ke_takeTurn 119 = .ok (.iconst 1, 1) := by decide +kernel
theorem d_Ke_takeTurn_120 : decode b_Ke_takeTurn 120 = .ok (.if_icmp .eq 11, 3) := by decide +kernel
theorem d_Ke_takeTurn_123 : decode b_Ke_takeTurn 123 = .ok (.aload_n 1, 1) := by decide +kernel
theorem d_Ke_takeTurn_124 : decode b_Ke_takeTurn 124 = .ok (.iconst (-1), 1) := by decide +kernel
theorem d_Ke_takeTurn_125 : decode b_Ke_takeTurn 125 = .ok (.putfield 173, 3) := by decide +kernel
theorem d_Ke_takeTurn_128 : decode b_Ke_takeTurn 128 = .ok (.goto 27, 3) := by decide +kernel
theorem d_Ke_takeTurn_131 : decode b_Ke_takeTurn 131 = .ok (.aload_n 1, 1) := by decide +kernel
theorem d_Ke_takeTurn_132 : decode b_Ke_takeTurn 132 = .ok (.getfield 200, 3) := by decide +kernel
theorem d_Ke_takeTurn_135 : decode b_Ke_takeTurn 135 = .ok (.ifCond .le 10, 3) := by decide +kernel
theorem d_Ke_takeTurn_138 : decode b_Ke_takeTurn 138 = .ok (.iload 5, 2) := by decide +kernel
theorem d_Ke_takeTurn_140 : decode b_Ke_takeTurn 140 = .ok (.bipush 12, 2) := by decide +kernel
theorem d_Ke_takeTurn_142 : decode b_Ke_takeTurn 142 = .ok (.if_icmp .ne 13, 3) := by decide +kernel
theorem d_Ke_takeTurn_145 : decode b_Ke_takeTurn 145 = .ok (.aload_n 1, 1) := by decide +kernel
theorem d_Ke_takeTurn_146 : decode b_Ke_takeTurn 146 = .ok (.iconst (-1), 1) := by decide +kernel
theorem d_Ke_takeTurn_147 : decode b_Ke_takeTurn 147 = .ok (.putfield 173, 3) := by decide +kernel
theorem d_Ke_takeTurn_150 : decode b_Ke_takeTurn 150 = .ok (.aload_n 0, 1) := by decide +kernel
theorem d_Ke_takeTurn_151 : decode b_Ke_takeTurn 151 = .ok (.aload_n 3, 1) := by decide +kernel
theorem d_Ke_takeTurn_152 : decode b_Ke_takeTurn 152 = .ok (.invokevirtual 57, 3) := by decide +kernel
theorem d_Ke_takeTurn_155 : decode b_Ke_takeTurn 155 = .ok (.return_, 1) := by decide +kernel
theorem d_Ke_takeNext_0 : decode b_Ke_takeNext 0 = .ok (.aload_n 1, 1) := by decide +kernel
theorem d_Ke_takeNext_1 : decode b_Ke_takeNext 1 = .ok (.getfield 176, 3) := by decide +kernel
theorem d_Ke_takeNext_4 : decode b_Ke_takeNext 4 = .ok (.invokevirtual 211, 3) := by decide +kernel
theorem d_Ke_takeNext_7 : decode b_Ke_takeNext 7 = .ok (.istore_n 2, 1) := by decide +kernel
theorem d_Ke_takeNext_8 : decode b_Ke_takeNext 8 = .ok (.iload_n 2, 1) := by decide +kernel
theorem d_Ke_takeNext_9 : decode b_Ke_takeNext 9 = .ok (.iconst (-1), 1) := by decide +kernel
theorem d_Ke_takeNext_10 : decode b_Ke_takeNext 10 = .ok (.if_icmp .eq 33, 3) := by decide +kernel
theorem d_Ke_takeNext_13 : decode b_Ke_takeNext 13 = .ok (.aload_n 0, 1) := by decide +kernel
theorem d_Ke_takeNext_14 : decode b_Ke_takeNext 14 = .ok (.getfield 25, 3) := by decide +kernel
theorem d_Ke_takeNext_17 : decode b_Ke_takeNext 17 = .ok (.iload_n 2, 1) := by decide +kernel
theorem d_Ke_takeNext_18 : decode b_Ke_takeNext 18 = .ok (.aaload, 1) := by decide +kernel
theorem d_Ke_takeNext_19 : decode b_Ke_takeNext 19 = .ok (.iconst 1, 1) := by decide +kernel
theorem d_Ke_takeNext_20 : decode b_Ke_takeNext 20 = .ok (.putfield 98, 3) := by decide +kernel
theorem d_Ke_takeNext_23 : decode b_Ke_takeNext 23 = .ok (.aload_n 1, 1) := by decide +kernel
theorem d_Ke_takeNext_24 : decode b_Ke_takeNext 24 = .ok (.iload_n 2, 1) := by decide +kernel
theorem d_Ke_takeNext_25 : decode b_Ke_takeNext 25 = .ok (.putfield 173, 3) := by decide +kernel
theorem d_Ke_takeNext_28 : decode b_Ke_takeNext 28 = .ok (.aload_n 1, 1) := by decide +kernel
theorem d_Ke_takeNext_29 : decode b_Ke_takeNext 29 = .ok (.iconst 3, 1) := by decide +kernel
theorem d_Ke_takeNext_30 : decode b_Ke_takeNext 30 = .ok (.putfield 200, 3) := by decide +kernel
theorem d_Ke_takeNext_33 : decode b_Ke_takeNext 33 = .ok (.aload_n 0, 1) := by decide +kernel
theorem d_Ke_takeNext_34 : decode b_Ke_takeNext 34 = .ok (.dup, 1) := by decide +kernel
theorem d_Ke_takeNext_35 : decode b_Ke_takeNext 35 = .ok (.getfield 170, 3) := by decide +kernel
theorem d_Ke_takeNext_38 : decode b_Ke_takeNext 38 = .ok (.iconst 1, 1) := by decide +kernel
theorem d_Ke_takeNext_39 : decode b_Ke_takeNext 39 = .ok (.iadd, 1) := by decide +kernel
theorem d_Ke_takeNext_40 : decode b_Ke_takeNext 40 = .ok (.putfield 170, 3) := by decide +kernel
theorem d_Ke_takeNext_43 : decode b_Ke_takeNext 43 = .ok (.iload_n 2, 1) := by decide +kernel
theorem d_Ke_takeNext_44 : decode b_Ke_takeNext 44 = .ok (.ireturn, 1) := by decide +kernel
theorem d_Ke_perform_0 : decode b_Ke_perform 0 = .ok (.aload_n 0, 1) := by decide +kernel
theorem d_Ke_perform_1 : decode b_Ke_perform 1 = .ok (.getfield 12, 3) := by decide +kernel
theorem d_Ke_perform_4 : decode b_Ke_perform 4 = .ok (.iload_n 3, 1) := by decide +kernel
theorem d_Ke_perform_5 : decode b_Ke_perform 5 = .ok (.iconst 1, 1) := by decide +kernel
theorem d_Ke_perform_6 : decode b_Ke_perform 6 = .ok (.invokevirtual 151, 3) := by decide +kernel
theorem d_Ke_perform_9 : decode b_Ke_perform 9 = .ok (.istore 4, 2) := by decide +kernel
theorem d_Ke_perform_11 : decode b_Ke_perform 11 = .ok (.aload_n 0, 1) := by decide +kernel
theorem d_Ke_perform_12 : decode b_Ke_perform 12 = .ok (.getfield 12, 3) := by decide +kernel
theorem d_Ke_perform_15 : decode b_Ke_perform 15 = .ok (.iload_n 3, 1) := by decide +kernel
theorem d_Ke_perform_16 : decode b_Ke_perform 16 = .ok (.iconst 2, 1) := by decide +kernel
theorem d_Ke_perform_17 : decode b_Ke_perform 17 = .ok (.invokevirtual 151, 3) := by decide +kernel
theorem d_Ke_perform_20 : decode b_Ke_perform 20 = .ok (.istore 5, 2) := by decide +kernel
theorem d_Ke_perform_22 : decode b_Ke_perform 22 = .ok (.aload_n 0, 1) := by decide +kernel
theorem d_Ke_perform_23 : decode b_Ke_perform 23 = .ok (.getfield 12, 3) := by decide +kernel
theorem d_Ke_perform_26 : decode b_Ke_perform 26 = .ok (.iload_n 3, 1) := by decide +kernel
theorem d_Ke_perform_27 : decode b_Ke_perform 27 = .ok (.iconst 3, 1) := by decide +kernel
theorem d_Ke_perform_28 : decode b_Ke_perform 28 = .ok (.invokevirtual 151, 3) := by decide +kernel
theorem d_Ke_perform_31 : decode b_Ke_perform 31 = .ok (.istore 6, 2) := by decide +kernel
theorem d_Ke_perform_33 : decode b_Ke_perform 33 = .ok (.iload_n 2, 1) := by decide +kernel
theorem d_Ke_perform_34 : decode b_Ke_perform 34 = .ok (.tableswitch 259 0 21 #[102, 259, 259, 259, 259, 259, 259, 110, 128, 259, 259, 259, 259, 146, 156, 166, 196, 206, 216, 226, 234, 248], 102) := by decide +kernel
theorem d_Ke_perform_136 : decode b_Ke_perform 136 = .ok (.aload_n 0, 1) := by decide +kernel
theorem d_Ke_perform_137 : decode b_Ke_perform 137 = .ok (.aload_n 1, 1) := by decide +kernel
theorem d_Ke_perform_138 : decode b_Ke_perform 138 = .ok (.iconst 0, 1) := by decide +kernel
theorem d_Ke_perform_139 : decode b_Ke_perform 139 = .ok (.invokevirtual 215, 3) := by decide +kernel
theorem d_Ke_perform_142 : decode b_Ke_perform 142 = .ok (.iconst 0, 1) := by decide +kernel
theorem d_Ke_perform_143 : decode b_Ke_perform 143 = .ok (.ireturn, 1) := by decide +kernel
theorem d_Ke_perform_144 : decode b_Ke_perform 144 = .ok (.aload_n 0, 1) := by decide +kernel
theorem d_Ke_perform_145 : decode b_Ke_perform 145 = .ok (.aload_n 1, 1) := by decide +kernel
theorem d_Ke_perform_146 : decode b_Ke_perform 146 = .ok (.iload 4, 2) := by decide +kernel
theorem d_Ke_perform_148 : decode b_Ke_perform 148 = .ok (.aload_n 1, 1) := by decide +kernel
theorem d_Ke_perform_149 : decode b_Ke_perform 149 = .ok (.getfield 94, 3) := by decide +kernel
theorem d_Ke_perform_152 : decode b_Ke_perform 152 = .ok (.iload 5, 2) := by decide +kernel
theorem d_Ke_perform_154 : decode b_Ke_perform 154 = .ok (.iaload, 1) := by decide +kernel
theorem d_Ke_perform_155 : decode b_Ke_perform 155 = .ok (.iload 6, 2) := by decide +kernel
theorem d_Ke_perform_157 : decode b_Ke_perform 157 = .ok (.iadd, 1) := by decide +kernel
theorem d_Ke_perform_158 : decode b_Ke_perform 158 = .ok (.invokevirtual 219, 3) := by decide +kernel
theorem d_Ke_perform_161 : decode b_Ke_perform 161 = .ok (.ireturn, 1) := by decide +kernel
theorem d_Ke_perform_162 : decode b_Ke_perform 162 = .ok (.aload_n 0, 1) := by decide +kernel
theorem d_Ke_perform_163 : decode b_Ke_perform 163 = .ok (.aload_n 1, 1) := by decide +kernel
theorem d_Ke_perform_164 : decode b_Ke_perform 164 = .ok (.iload 4, 2) := by decide +kernel
theorem d_Ke_perform_166 : decode b_Ke_perform 166 = .ok (.aload_n 1, 1) := by decide +kernel
theorem d_Ke_perform_167 : decode b_Ke_perform 167 = .ok (.getfield 94, 3) := by decide +kernel
theorem d_Ke_perform_170 : decode b_Ke_perform 170 = .ok (.iload 5, 2) := by decide +kernel
theorem d_Ke_perform_172 : decode b_Ke_perform 172 = .ok (.iaload, 1) := by decide +kernel
theorem d_Ke_perform_173 : decode b_Ke_perform 173 = .ok (.iload 6, 2) := by decide +kernel
theorem d_Ke_perform_175 : decode b_Ke_perform 175 = .ok (.iadd, 1) := by decide +kernel
theorem d_Ke_perform_176 : decode b_Ke_perform 176 = .ok (.invokevirtual 222, 3) := by decide +kernel
theorem d_Ke_perform_179 : decode b_Ke_perform 179 = .ok (.ireturn, 1) := by decide +kernel
theorem d_Ke_perform_180 : decode b_Ke_perform 180 = .ok (.aload_n 0, 1) := by decide +kernel
theorem d_Ke_perform_181 : decode b_Ke_perform 181 = .ok (.aload_n 1, 1) := by decide +kernel
theorem d_Ke_perform_182 : decode b_Ke_perform 182 = .ok (.iload 4, 2) := by decide +kernel
theorem d_Ke_perform_184 : decode b_Ke_perform 184 = .ok (.iload 6, 2) := by decide +kernel
theorem d_Ke_perform_186 : decode b_Ke_perform 186 = .ok (.invokevirtual 225, 3) := by decide +kernel
theorem d_Ke_perform_189 : decode b_Ke_perform 189 = .ok (.ireturn, 1) := by decide +kernel
theorem d_Ke_perform_190 : decode b_Ke_perform 190 = .ok (.aload_n 0, 1) := by decide +kernel
theorem d_Ke_perform_191 : decode b_Ke_perform 191 = .ok (.aload_n 1, 1) := by decide +kernel
theorem d_Ke_perform_192 : decode b_Ke_perform 192 = .ok (.iload 4, 2) := by decide +kernel
theorem d_Ke_perform_194 : decode b_Ke_perform 194 = .ok (.iload 6, 2) := by decide +kernel
theorem d_Ke_perform_196 : decode b_Ke_perform 196 = .ok (.invokevirtual 228, 3) := by decide +kernel
theorem d_Ke_perform_199 : decode b_Ke_perform 199 = .ok (.ireturn, 1) := by decide +kernel
theorem d_Ke_perform_200 : decode b_Ke_perform 200 = .ok (.aload_n 1, 1) := by decide +kernel
theorem d_Ke_perform_201 : decode b_Ke_perform 201 = .ok (.getfield 94, 3) := by decide +kernel
theorem d_Ke_perform_204 : decode b_Ke_perform 204 = .ok (.iload 4, 2) := by decide +kernel
theorem d_Ke_perform_206 : decode b_Ke_perform 206 = .ok (.aload_n 0, 1) := by decide +kernel
theorem d_Ke_perform_207 : decode b_Ke_perform 207 = .ok (.aload_n 1, 1) := by decide +kernel
theorem d_Ke_perform_208 : decode b_Ke_perform 208 = .ok (.aload_n 1, 1) := by decide +kernel
theorem d_Ke_perform_209 : decode b_Ke_perform 209 = .ok (.getfield 94, 3) := by decide +kernel
theorem d_Ke_perform_212 : decode b_Ke_perform 212 = .ok (.iload 4, 2) := by decide +kernel
theorem d_Ke_perform_214 : decode b_Ke_perform 214 = .ok (.iaload, 1) := by decide +kernel
theorem d_Ke_perform_215 : decode b_Ke_perform 215 = .ok (.aload_n 1, 1) := by decide +kernel
theorem d_Ke_perform_216 : decode b_Ke_perform 216 = .ok (.getfield 94, 3) := by decide +kernel
theorem d_Ke_perform_219 : decode b_Ke_perform 219 = .ok (.iload 5, 2) := by decide +kernel
theorem d_Ke_perform_221 : decode b_Ke_perform 221 = .ok (.iaload, 1) := by decide +kernel
theorem d_Ke_perform_222 : decode b_Ke_perform 222 = .ok (.iload 6, 2) := by decide +kernel
theorem d_Ke_perform_224 : decode b_Ke_perform 224 = .ok (.invokevirtual 231, 3) := by decide +kernel
theorem d_Ke_perform_227 : decode b_Ke_perform 227 = .ok (.iastore, 1) := by decide +kernel
theorem d_Ke_perform_228 : decode b_Ke_perform 228 = .ok (.iconst 0, 1) := by decide +kernel
theorem d_Ke_perform_229 : decode b_Ke_perform 229 = .ok (.ireturn, 1) := by decide +kernel
theorem d_Ke_perform_230 : decode b_Ke_perform 230 = .ok (.aload_n 0, 1) := by decide +kernel
theorem d_Ke_perform_231 : decode b_Ke_perform 231 = .ok (.aload_n 1, 1) := by decide +kernel
theorem d_Ke_perform_232 : decode b_Ke_perform 232 = .ok (.iload 4, 2) := by decide +kernel
theorem d_Ke_perform_234 : decode b_Ke_perform 234 = .ok (.iload 6, 2) := by decide +kernel
theorem d_Ke_perform_236 : decode b_Ke_perform 236 = .ok (.invokevirtual 235, 3) := by decide +kernel
theorem d_Ke_perform_239 : decode b_Ke_perform 239 = .ok (.ireturn, 1) := by decide +kernel
theorem d_Ke_perform_240 : decode b_Ke_perform 240 = .ok (.aload_n 0, 1) := by decide +kernel
theorem d_Ke_perform_241 : decode b_Ke_perform 241 = .ok (.aload_n 1, 1) := by decide +kernel
theorem d_Ke_perform_242 : decode b_Ke_perform 242 = .ok (.iload 4, 2) := by decide +kernel
theorem d_Ke_perform_244 : decode b_Ke_perform 244 = .ok (.iload 6, 2) := by decide +kernel
theorem d_Ke_perform_246 : decode b_Ke_perform 246 = .ok (.invokevirtual 238, 3) := by decide +kernel
theorem d_Ke_perform_249 : decode b_Ke_perform 249 = .ok (.ireturn, 1) := by decide +kernel
theorem d_Ke_perform_250 : decode b_Ke_perform 250 = .ok (.aload_n 0, 1) := by decide +kernel
theorem d_Ke_perform_251 : decode b_Ke_perform 251 = .ok (.aload_n 1, 1) := by decide +kernel
theorem d_Ke_perform_252 : decode b_Ke_perform 252 = .ok (.iload 4, 2) := by decide +kernel
theorem d_Ke_perform_254 : decode b_Ke_perform 254 = .ok (.iload 6, 2) := by decide +kernel
theorem d_Ke_perform_256 : decode b_Ke_perform 256 = .ok (.invokevirtual 241, 3) := by decide +kernel
theorem d_Ke_perform_259 : decode b_Ke_perform 259 = .ok (.ireturn, 1) := by decide +kernel
theorem d_Ke_perform_260 : decode b_Ke_perform 260 = .ok (.aload_n 0, 1) := by decide +kernel
theorem d_Ke_perform_261 : decode b_Ke_perform 261 = .ok (.aload_n 1, 1) := by decide +kernel
theorem d_Ke_perform_262 : decode b_Ke_perform 262 = .ok (.iload 6, 2) := by decide +kernel
theorem d_Ke_perform_264 : decode b_Ke_perform 264 = .ok (.invokevirtual 244, 3) := by decide +kernel
theorem d_Ke_perform_267 : decode b_Ke_perform 267 = .ok (.ireturn, 1) := by decide +kernel
theorem d_Ke_perform_268 : decode b_Ke_perform 268 = .ok (.aload_n 0, 1) := by decide +kernel
theorem d_Ke_perform_269 : decode b_Ke_perform 269 = .ok (.aload_n 1, 1) := by decide +kernel
theorem d_Ke_perform_270 : decode b_Ke_perform 270 = .ok (.aload_n 1, 1) := by decide +kernel
theorem d_Ke_perform_271 : decode b_Ke_perform 271 = .ok (.getfield 94, 3) := by decide +kernel
theorem d_Ke_perform_274 : decode b_Ke_perform 274 = .ok (.iload 4, 2) := by decide +kernel
theorem d_Ke_perform_276 : decode b_Ke_perform 276 = .ok (.iaload, 1) := by decide +kernel
theorem d_Ke_perform_277 : decode b_Ke_perform 277 = .ok (.invokevirtual 215, 3) := by decide +kernel
theorem d_Ke_perform_280 : decode b_Ke_perform 280 = .ok (.iconst 0, 1) := by decide +kernel
theorem d_Ke_perform_281 : decode b_Ke_perform 281 = .ok (.ireturn, 1) := by decide +kernel
theorem d_Ke_perform_282 : decode b_Ke_perform 282 = .ok (.aload_n 0, 1) := by decide +kernel
theorem d_Ke_perform_283 : decode b_Ke_perform 283 = .ok (.aload_n 1, 1) := by decide +kernel
theorem d_Ke_perform_284 : decode b_Ke_perform 284 = .ok (.iload 4, 2) := by decide +kernel
theorem d_Ke_perform_286 : decode b_Ke_perform 286 = .ok (.iload 5, 2) := by decide +kernel
theorem d_Ke_perform_288 : decode b_Ke_perform 288 = .ok (.invokevirtual 248, 3) := by decide +kernel
theorem d_Ke_perform_291 : decode b_Ke_perform 291 = .ok (.iconst 0, 1) := by decide +kernel
theorem d_Ke_perform_292 : decode b_Ke_perform 292 = .ok (.ireturn, 1) := by decide +kernel
theorem d_Ke_perform_293 : decode b_Ke_perform 293 = .ok (.aload_n 1, 1) := by decide +kernel
theorem d_Ke_perform_294 : decode b_Ke_perform 294 = .ok (.iload_n 2, 1) := by decide +kernel
theorem d_Ke_perform_295 : decode b_Ke_perform 295 = .ok (.iload 4, 2) := by decide +kernel
theorem d_Ke_perform_297 : decode b_Ke_perform 297 = .ok (.iload 5, 2) := by decide +kernel
theorem d_Ke_perform_299 : decode b_Ke_perform 299 = .ok (.iload 6, 2) := by decide +kernel
theorem d_Ke_perform_301 : decode b_Ke_perform 301 = .ok (.invokevirtual 251, 3) := by decide +kernel
theorem d_Ke_perform_304 : decode b_Ke_perform 304 = .ok (.ireturn, 1) := by decide +kernel
theorem d_Ke_trap_0 : decode b_Ke_trap 0 = .ok (.aload_n 0, 1) := by decide +kernel
theorem d_Ke_trap_1 : decode b_Ke_trap 1 = .ok (.dup, 1) := by decide +kernel
theorem d_Ke_trap_2 : decode b_Ke_trap 2 = .ok (.getfield 157, 3) := by decide +kernel
theorem d_Ke_trap_5 : decode b_Ke_trap 5 = .ok (.iconst 1, 1) := by decide +kernel
theorem d_Ke_trap_6 : decode b_Ke_trap 6 = .ok (.iadd, 1) := by decide +kernel
theorem d_Ke_trap_7 : decode b_Ke_trap 7 = .ok (.putfield 157, 3) := by decide +kernel
theorem d_Ke_trap_10 : decode b_Ke_trap 10 = .ok (.aload_n 1, 1) := by decide +kernel
theorem d_Ke_trap_11 : decode b_Ke_trap 11 = .ok (.dup, 1) := by decide +kernel
theorem d_Ke_trap_12 : decode b_Ke_trap 12 = .ok (.getfield 122, 3) := by decide +kernel
theorem d_Ke_trap_15 : decode b_Ke_trap 15 = .ok (.iconst 1, 1) := by decide +kernel
theorem d_Ke_trap_16 : decode b_Ke_trap 16 = .ok (.iadd, 1) := by decide +kernel
theorem d_Ke_trap_17 : decode b_Ke_trap 17 = .ok (.putfield 122, 3) := by decide +kernel
theorem d_Ke_trap_20 : decode b_Ke_trap 20 = .ok (.aload_n 1, 1) := by decide +kernel
theorem d_Ke_trap_21 : decode b_Ke_trap 21 = .ok (.getfield 104, 3) := by decide +kernel
theorem d_Ke_trap_24 : decode b_Ke_trap 24 = .ok (.iconst (-1), 1) := by decide +kernel
theorem d_Ke_trap_25 : decode b_Ke_trap 25 = .ok (.if_icmp .ne 20, 3) := by decide +kernel
theorem d_Ke_trap_28 : decode b_Ke_trap 28 = .ok (.aload_n 1, 1) := by decide +kernel
theorem d_Ke_trap_29 : decode b_Ke_trap 29 = .ok (.iload_n 3, 1) := by decide +kernel
theorem d_Ke_trap_30 : decode b_Ke_trap 30 = .ok (.invokevirtual 197, 3) := by decide +kernel
theorem d_Ke_trap_33 : decode b_Ke_trap 33 = .ok (.aload_n 0, 1) := by decide +kernel
theorem d_Ke_trap_34 : decode b_Ke_trap 34 = .ok (.aload_n 1, 1) := by decide +kernel
theorem d_Ke_trap_35 : decode b_Ke_trap 35 = .ok (.bipush (-100), 2) := by decide +kernel
theorem d_Ke_trap_37 : decode b_Ke_trap 37 = .ok (.iload_n 2, 1) := by decide +kernel
theorem d_Ke_trap_38 : decode b_Ke_trap 38 = .ok (.isub, 1) := by decide +kernel
theorem d_Ke_trap_39 : decode b_Ke_trap 39 = .ok (.invokevirtual 215, 3) := by decide +kernel
theorem d_Ke_trap_42 : decode b_Ke_trap 42 = .ok (.goto 23, 3) := by decide +kernel
theorem d_Ke_trap_45 : decode b_Ke_trap 45 = .ok (.aload_n 1, 1) := by decide +kernel
theorem d_Ke_trap_46 : decode b_Ke_trap 46 = .ok (.getfield 94, 3) := by decide +kernel
theorem d_Ke_trap_49 : decode b_Ke_trap 49 = .ok (.iconst 3, 1) := by decide +kernel
theorem d_Ke_trap_50 : decode b_Ke_trap 50 = .ok (.iload_n 2, 1) := by decide +kernel
theorem d_Ke_trap_51 : decode b_Ke_trap 51 = .ok (.iastore, 1) := by decide +kernel
theorem d_Ke_trap_52 : decode b_Ke_trap 52 = .ok (.aload_n 1, 1) := by decide +kernel
theorem d_Ke_trap_53 : decode b_Ke_trap 53 = .ok (.aload_n 1, 1) := by decide +kernel
theorem d_Ke_trap_54 : decode b_Ke_trap 54 = .ok (.getfield 104, 3) := by decide +kernel
theorem d_Ke_trap_57 : decode b_Ke_trap 57 = .ok (.invokevirtual 197, 3) := by decide +kernel
theorem d_Ke_trap_60 : decode b_Ke_trap 60 = .ok (.aload_n 1, 1) := by decide +kernel
theorem d_Ke_trap_61 : decode b_Ke_trap 61 = .ok (.iconst (-1), 1) := by decide +kernel
theorem d_Ke_trap_62 : decode b_Ke_trap 62 = .ok (.putfield 104, 3) := by decide +kernel
theorem d_Ke_trap_65 : decode b_Ke_trap 65 = .ok (.return_, 1) := by decide +kernel
theorem d_Ke_addressTrap_0 : decode b_Ke_addressTrap 0 = .ok (.iload_n 1, 1) := by decide +kernel
theorem d_Ke_addressTrap_1 : decode b_Ke_addressTrap 1 = .ok (.bipush 32, 2) := by decide +kernel
theorem d_Ke_addressTrap_3 : decode b_Ke_addressTrap 3 = .ok (.invokestatic 179, 3) := by decide +kernel
theorem d_Ke_addressTrap_6 : decode b_Ke_addressTrap 6 = .ok (.ifCond .eq 5, 3) := by decide +kernel
theorem d_Ke_addressTrap_9 : decode b_Ke_addressTrap 9 = .ok (.iconst 2, 1) := by decide +kernel
theorem d_Ke_addressTrap_10 : decode b_Ke_addressTrap 10 = .ok (.ireturn, 1) := by decide +kernel
theorem d_Ke_addressTrap_11 : decode b_Ke_addressTrap 11 = .ok (.aload_n 0, 1) := by decide +kernel
theorem d_Ke_addressTrap_12 : decode b_Ke_addressTrap 12 = .ok (.getfield 125, 3) := by decide +kernel
theorem d_Ke_addressTrap_15 : decode b_Ke_addressTrap 15 = .ok (.iload_n 1, 1) := by decide +kernel
theorem d_Ke_addressTrap_16 : decode b_Ke_addressTrap 16 = .ok (.bipush 8, 2) := by decide +kernel
theorem d_Ke_addressTrap_18 : decode b_Ke_addressTrap 18 = .ok (.idiv, 1) := by decide +kernel
theorem d_Ke_addressTrap_19 : decode b_Ke_addressTrap 19 = .ok (.iaload, 1) := by decide +kernel
theorem d_Ke_addressTrap_20 : decode b_Ke_addressTrap 20 = .ok (.iconst (-1), 1) := by decide +kernel
theorem d_Ke_addressTrap_21 : decode b_Ke_addressTrap 21 = .ok (.if_icmp .ne 7, 3) := by decide +kernel
theorem d_Ke_addressTrap_24 : decode b_Ke_addressTrap 24 = .ok (.iconst 3, 1) := by decide +kernel
theorem d_Ke_addressTrap_25 : decode b_Ke_addressTrap 25 = .ok (.goto 4, 3) := by decide +kernel
theorem d_Ke_addressTrap_28 : decode b_Ke_addressTrap 28 = .ok (.iconst 0, 1) := by decide +kernel
theorem d_Ke_addressTrap_29 : decode b_Ke_addressTrap 29 = .ok (.ireturn, 1) := by decide +kernel
theorem d_Ke_load_0 : decode b_Ke_load 0 = .ok (.aload_n 1, 1) := by decide +kernel
theorem d_Ke_load_1 : decode b_Ke_load 1 = .ok (.iload_n 3, 1) := by decide +kernel
theorem d_Ke_load_2 : decode b_Ke_load 2 = .ok (.invokestatic 255, 3) := by decide +kernel
theorem d_Ke_load_5 : decode b_Ke_load 5 = .ok (.istore 4, 2) := by decide +kernel
theorem d_Ke_load_7 : decode b_Ke_load 7 = .ok (.iload 4, 2) := by decide +kernel
theorem d_Ke_load_9 : decode b_Ke_load 9 = .ok (.ifCond .ne 33, 3) := by decide +kernel
theorem d_Ke_load_12 : decode b_Ke_load 12 = .ok (.aload_n 1, 1) := by decide +kernel
theorem d_Ke_load_13 : decode b_Ke_load 13 = .ok (.getfield 125, 3) := by decide +kernel
theorem d_Ke_load_16 : decode b_Ke_load 16 = .ok (.iload_n 3, 1) := by decide +kernel
theorem d_Ke_load_17 : decode b_Ke_load 17 = .ok (.bipush 8, 2) := by decide +kernel
theorem d_Ke_load_19 : decode b_Ke_load 19 = .ok (.idiv, 1) := by decide +kernel
theorem d_Ke_load_20 : decode b_Ke_load 20 = .ok (.iaload, 1) := by decide +kernel
theorem d_Ke_load_21 : decode b_Ke_load 21 = .ok (.istore 5, 2) := by decide +kernel
theorem d_Ke_load_23 : decode b_Ke_load 23 = .ok (.aload_n 1, 1) := by decide +kernel
theorem d_Ke_load_24 : decode b_Ke_load 24 = .ok (.getfield 94, 3) := by decide +kernel
theorem d_Ke_load_27 : decode b_Ke_load 27 = .ok (.iload_n 2, 1) := by decide +kernel
theorem d_Ke_load_28 : decode b_Ke_load 28 = .ok (.aload_n 0, 1) := by decide +kernel
theorem d_Ke_load_29 : decode b_Ke_load 29 = .ok (.getfield 19, 3) := by decide +kernel
theorem d_Ke_load_32 : decode b_Ke_load 32 = .ok (.iload 5, 2) := by decide +kernel
theorem d_Ke_load_34 : decode b_Ke_load 34 = .ok (.iload_n 3, 1) := by decide +kernel
theorem d_Ke_load_35 : decode b_Ke_load 35 = .ok (.bipush 8, 2) := by decide +kernel
theorem d_Ke_load_37 : decode b_Ke_load 37 = .ok (.irem, 1) := by decide +kernel
theorem d_Ke_load_38 : decode b_Ke_load 38 = .ok (.invokevirtual 128, 3) := by decide +kernel
theorem d_Ke_load_41 : decode b_Ke_load 41 = .ok (.iastore, 1) := by decide +kernel
theorem d_Ke_load_42 : decode b_Ke_load 42 = .ok (.iload 4, 2) := by decide +kernel
theorem d_Ke_load_44 : decode b_Ke_load 44 = .ok (.ireturn, 1) := by decide +kernel
theorem d_Ke_store_0 : decode b_Ke_store 0 = .ok (.aload_n 1, 1) := by decide +kernel
theorem d_Ke_store_1 : decode b_Ke_store 1 = .ok (.iload_n 3, 1) := by decide +kernel
theorem d_Ke_store_2 : decode b_Ke_store 2 = .ok (.invokestatic 255, 3) := by decide +kernel
theorem d_Ke_store_5 : decode b_Ke_store 5 = .ok (.istore 4, 2) := by decide +kernel
theorem d_Ke_store_7 : decode b_Ke_store 7 = .ok (.iload 4, 2) := by decide +kernel
theorem d_Ke_store_9 : decode b_Ke_store 9 = .ok (.ifCond .ne 33, 3) := by decide +kernel
theorem d_Ke_store_12 : decode b_Ke_store 12 = .ok (.aload_n 1, 1) := by decide +kernel
theorem d_Ke_store_13 : decode b_Ke_store 13 = .ok (.getfield 125, 3) := by decide +kernel
theorem d_Ke_store_16 : decode b_Ke_store 16 = .ok (.iload_n 3, 1) := by decide +kernel
theorem d_Ke_store_17 : decode b_Ke_store 17 = .ok (.bipush 8, 2) := by decide +kernel
theorem d_Ke_store_19 : decode b_Ke_store 19 = .ok (.idiv, 1) := by decide +kernel
theorem d_Ke_store_20 : decode b_Ke_store 20 = .ok (.iaload, 1) := by decide +kernel
theorem d_Ke_store_21 : decode b_Ke_store 21 = .ok (.istore 5, 2) := by decide +kernel
theorem d_Ke_store_23 : decode b_Ke_store 23 = .ok (.aload_n 0, 1) := by decide +kernel
theorem d_Ke_store_24 : decode b_Ke_store 24 = .ok (.getfield 19, 3) := by decide +kernel
theorem d_Ke_store_27 : decode b_Ke_store 27 = .ok (.iload 5, 2) := by decide +kernel
theorem d_Ke_store_29 : decode b_Ke_store 29 = .ok (.iload_n 3, 1) := by decide +kernel
theorem d_Ke_store_30 : decode b_Ke_store 30 = .ok (.bipush 8, 2) := by decide +kernel
theorem d_Ke_store_32 : decode b_Ke_store 32 = .ok (.irem, 1) := by decide +kernel
theorem d_Ke_store_33 : decode b_Ke_store 33 = .ok (.aload_n 1, 1) := by decide +kernel
theorem d_Ke_store_34 : decode b_Ke_store 34 = .ok (.getfield 94, 3) := by decide +kernel
theorem d_Ke_store_37 : decode b_Ke_store 37 = .ok (.iload_n 2, 1) := by decide +kernel
theorem d_Ke_store_38 : decode b_Ke_store 38 = .ok (.iaload, 1) := by decide +kernel
theorem d_Ke_store_39 : decode b_Ke_store 39 = .ok (.invokevirtual 258, 3) := by decide +kernel
theorem d_Ke_store_42 : decode b_Ke_store 42 = .ok (.iload 4, 2) := by decide +kernel
theorem d_Ke_store_44 : decode b_Ke_store 44 = .ok (.ireturn, 1) := by decide +kernel
theorem d_Ke_map_0 : decode b_Ke_map 0 = .ok (.iload_n 3, 1) := by decide +kernel
theorem d_Ke_map_1 : decode b_Ke_map 1 = .ok (.iconst 4, 1) := by decide +kernel
theorem d_Ke_map_2 : decode b_Ke_map 2 = .ok (.invokestatic 179, 3) := by decide +kernel
theorem d_Ke_map_5 : decode b_Ke_map 5 = .ok (.ifCond .eq 5, 3) := by decide +kernel
theorem d_Ke_map_8 : decode b_Ke_map 8 = .ok (.iconst 4, 1) := by decide +kernel
theorem d_Ke_map_9 : decode b_Ke_map 9 = .ok (.ireturn, 1) := by decide +kernel
theorem d_Ke_map_10 : decode b_Ke_map 10 = .ok (.iconst (-1), 1) := by decide +kernel
theorem d_Ke_map_11 : decode b_Ke_map 11 = .ok (.istore 4, 2) := by decide +kernel
theorem d_Ke_map_13 : decode b_Ke_map 13 = .ok (.aload_n 1, 1) := by decide +kernel
theorem d_Ke_map_14 : decode b_Ke_map 14 = .ok (.getfield 125, 3) := by decide +kernel
theorem d_Ke_map_17 : decode b_Ke_map 17 = .ok (.iload_n 3, 1) := by decide +kernel
theorem d_Ke_map_18 : decode b_Ke_map 18 = .ok (.iaload, 1) := by decide +kernel
theorem d_Ke_map_19 : decode b_Ke_map 19 = .ok (.iconst (-1), 1) := by decide +kernel
theorem d_Ke_map_20 : decode b_Ke_map 20 = .ok (.if_icmp .ne 19, 3) := by decide +kernel
theorem d_Ke_map_23 : decode b_Ke_map 23 = .ok (.aload_n 1, 1) := by decide +kernel
theorem d_Ke_map_24 : decode b_Ke_map 24 = .ok (.invokevirtual 260, 3) := by decide +kernel
theorem d_Ke_map_27 : decode b_Ke_map 27 = .ok (.ifCond .le 12, 3) := by decide +kernel
theorem d_Ke_map_30 : decode b_Ke_map 30 = .ok (.aload_n 0, 1) := by decide +kernel
theorem d_Ke_map_31 : decode b_Ke_map 31 = .ok (.getfield 19, 3) := by decide +kernel
theorem d_Ke_map_34 : decode b_Ke_map 34 = .ok (.invokevirtual 263, 3) := by decide +kernel
theorem d_Ke_map_37 : decode b_Ke_map 37 = .ok (.istore 4, 2) := by decide +kernel
theorem d_Ke_map_39 : decode b_Ke_map 39 = .ok (.iload 4, 2) := by decide +kernel
theorem d_Ke_map_41 : decode b_Ke_map 41 = .ok (.iconst (-1), 1) := by decide +kernel
theorem d_Ke_map_42 : decode b_Ke_map 42 = .ok (.if_icmp .eq 21, 3) := by decide +kernel
theorem d_Ke_map_45 : decode b_Ke_map 45 = .ok (.aload_n 1, 1) := by decide +kernel
theorem d_Ke_map_46 : decode b_Ke_map 46 = .ok (.getfield 125, 3) := by decide +kernel
theorem d_Ke_map_49 : decode b_Ke_map 49 = .ok (.iload_n 3, 1) := by decide +kernel
theorem d_Ke_map_50 : decode b_Ke_map 50 = .ok (.iload 4, 2) := by decide +kernel
theorem d_Ke_map_52 : decode b_Ke_map 52 = .ok (.iastore, 1) := by decide +kernel
theorem d_Ke_map_53 : decode b_Ke_map 53 = .ok (.aload_n 1, 1) := by decide +kernel
theorem d_Ke_map_54 : decode b_Ke_map 54 = .ok (.dup, 1) := by decide +kernel
theorem d_Ke_map_55 : decode b_Ke_map 55 = .ok (.getfield 110, 3) := by decide +kernel
theorem d_Ke_map_58 : decode b_Ke_map 58 = .ok (.iconst 1, 1) := by decide +kernel
theorem d_Ke_map_59 : decode b_Ke_map 59 = .ok (.iadd, 1) := by decide +kernel
theorem d_Ke_map_60 : decode b_Ke_map 60 = .ok (.putfield 110, 3) := by decide +kernel
theorem d_Ke_map_63 : decode b_Ke_map 63 = .ok (.aload_n 1, 1) := by decide +kernel
theorem d_Ke_map_64 : decode b_Ke_map 64 = .ok (.getfield 94, 3) := by decide +kernel
theorem d_Ke_map_67 : decode b_Ke_map 67 = .ok (.iload_n 2, 1) := by decide +kernel
theorem d_Ke_map_68 : decode b_Ke_map 68 = .ok (.iload 4, 2) := by decide +kernel
theorem d_Ke_map_70 : decode b_Ke_map 70 = .ok (.iconst (-1), 1) := by decide +kernel
theorem d_Ke_map_71 : decode b_Ke_map 71 = .ok (.if_icmp .ne 7, 3) := by decide +kernel
theorem d_Ke_map_74 : decode b_Ke_map 74 = .ok (.iconst 0, 1) := by decide +kernel
theorem d_Ke_map_75 : decode b_Ke_map 75 = .ok (.goto 4, 3) := by decide +kernel
theorem d_Ke_map_78 : decode b_Ke_map 78 = .ok (.iconst 1, 1) := by decide +kernel
theorem d_Ke_map_79 : decode b_Ke_map 79 = .ok (.iastore, 1) := by decide +kernel
theorem d_Ke_map_80 : decode b_Ke_map 80 = .ok (.iconst 0, 1) := by decide +kernel
theorem d_Ke_map_81 : decode b_Ke_map 81 = .ok (.ireturn, 1) := by decide +kernel
theorem d_Ke_unmap_0 : decode b_Ke_unmap 0 = .ok (.iload_n 3, 1) := by decide +kernel
theorem d_Ke_unmap_1 : decode b_Ke_unmap 1 = .ok (.iconst 4, 1) := by decide +kernel
theorem d_Ke_unmap_2 : decode b_Ke_unmap 2 = .ok (.invokestatic 179, 3) := by decide +kernel
theorem d_Ke_unmap_5 : decode b_Ke_unmap 5 = .ok (.ifCond .eq 5, 3) := by decide +kernel
theorem d_Ke_unmap_8 : decode b_Ke_unmap 8 = .ok (.iconst 4, 1) := by decide +kernel
theorem d_Ke_unmap_9 : decode b_Ke_unmap 9 = .ok (.ireturn, 1) := by decide +kernel
theorem d_Ke_unmap_10 : decode b_Ke_unmap 10 = .ok (.aload_n 1, 1) := by decide +kernel
theorem d_Ke_unmap_11 : decode b_Ke_unmap 11 = .ok (.getfield 94, 3) := by decide +kernel
theorem d_Ke_unmap_14 : decode b_Ke_unmap 14 = .ok (.iload_n 2, 1) := by decide +kernel
theorem d_Ke_unmap_15 : decode b_Ke_unmap 15 = .ok (.aload_n 0, 1) := by decide +kernel
theorem d_Ke_unmap_16 : decode b_Ke_unmap 16 = .ok (.aload_n 1, 1) := by decide +kernel
theorem d_Ke_unmap_17 : decode b_Ke_unmap 17 = .ok (.iload_n 3, 1) := by decide +kernel
theorem d_Ke_unmap_18 : decode b_Ke_unmap 18 = .ok (.invokevirtual 266, 3) := by decide +kernel
theorem d_Ke_unmap_21 : decode b_Ke_unmap 21 = .ok (.ifCond .eq 7, 3) := by decide +kernel
theorem d_Ke_unmap_24 : decode b_Ke_unmap 24 = .ok (.iconst 1, 1) := by decide +kernel
theorem d_Ke_unmap_25 : decode b_Ke_unmap 25 = .ok (.goto 4, 3) := by decide +kernel
theorem d_Ke_unmap_28 : decode b_Ke_unmap 28 = .ok (.iconst 0, 1) := by decide +kernel
theorem d_Ke_unmap_29 : decode b_Ke_unmap 29 = .ok (.iastore, 1) := by decide +kernel
theorem d_Ke_unmap_30 : decode b_Ke_unmap 30 = .ok (.iconst 0, 1) := by decide +kernel
theorem d_Ke_unmap_31 : decode b_Ke_unmap 31 = .ok (.ireturn, 1) := by decide +kernel
theorem d_Ke_dropPage_0 : decode b_Ke_dropPage 0 = .ok (.aload_n 1, 1) := by decide +kernel
theorem d_Ke_dropPage_1 : decode b_Ke_dropPage 1 = .ok (.getfield 125, 3) := by decide +kernel
theorem d_Ke_dropPage_4 : decode b_Ke_dropPage 4 = .ok (.iload_n 2, 1) := by decide +kernel
theorem d_Ke_dropPage_5 : decode b_Ke_dropPage 5 = .ok (.iaload, 1) := by decide +kernel
theorem d_Ke_dropPage_6 : decode b_Ke_dropPage 6 = .ok (.istore_n 3, 1) := by decide +kernel
theorem d_Ke_dropPage_7 : decode b_Ke_dropPage 7 = .ok (.iload_n 3, 1) := by decide +kernel
theorem d_Ke_dropPage_8 : decode b_Ke_dropPage 8 = .ok (.iconst (-1), 1) := by decide +kernel
theorem d_Ke_dropPage_9 : decode b_Ke_dropPage 9 = .ok (.if_icmp .ne 5, 3) := by decide +kernel
theorem d_Ke_dropPage_12 : decode b_Ke_dropPage 12 = .ok (.iconst 0, 1) := by decide +kernel
theorem d_Ke_dropPage_13 : decode b_Ke_dropPage 13 = .ok (.ireturn, 1) := by decide +kernel
theorem d_Ke_dropPage_14 : decode b_Ke_dropPage 14 = .ok (.aload_n 1, 1) := by decide +kernel
theorem d_Ke_dropPage_15 : decode b_Ke_dropPage 15 = .ok (.getfield 125, 3) := by decide +kernel
theorem d_Ke_dropPage_18 : decode b_Ke_dropPage 18 = .ok (.iload_n 2, 1) := by decide +kernel
theorem d_Ke_dropPage_19 : decode b_Ke_dropPage 19 = .ok (.iconst (-1), 1) := by decide +kernel
theorem d_Ke_dropPage_20 : decode b_Ke_dropPage 20 = .ok (.iastore, 1) := by decide +kernel
theorem d_Ke_dropPage_21 : decode b_Ke_dropPage 21 = .ok (.aload_n 1, 1) := by decide +kernel
theorem d_Ke_dropPage_22 : decode b_Ke_dropPage 22 = .ok (.dup, 1) := by decide +kernel
theorem d_Ke_dropPage_23 : decode b_Ke_dropPage 23 = .ok (.getfield 110, 3) := by decide +kernel
theorem d_Ke_dropPage_26 : decode b_Ke_dropPage 26 = .ok (.iconst 1, 1) := by decide +kernel
theorem d_Ke_dropPage_27 : decode b_Ke_dropPage 27 = .ok (.isub, 1) := by decide +kernel
theorem d_Ke_dropPage_28 : decode b_Ke_dropPage 28 = .ok (.putfield 110, 3) := by decide +kernel
theorem d_Ke_dropPage_31 : decode b_Ke_dropPage 31 = .ok (.aload_n 0, 1) := by decide +kernel
theorem d_Ke_dropPage_32 : decode b_Ke_dropPage 32 = .ok (.getfield 19, 3) := by decide +kernel
theorem d_Ke_dropPage_35 : decode b_Ke_dropPage 35 = .ok (.iload_n 3, 1) := by decide +kernel
theorem d_Ke_dropPage_36 : decode b_Ke_dropPage 36 = .ok (.invokevirtual 270, 3) := by decide +kernel
theorem d_Ke_dropPage_39 : decode b_Ke_dropPage 39 = .ok (.iconst 1, 1) := by decide +kernel
theorem d_Ke_dropPage_40 : decode b_Ke_dropPage 40 = .ok (.ireturn, 1) := by decide +kernel
theorem d_Ke_spawn_0 : decode b_Ke_spawn 0 = .ok (.iload_n 3, 1) := by decide +kernel
theorem d_Ke_spawn_1 : decode b_Ke_spawn 1 = .ok (.ifCond .lt 11, 3) := by decide +kernel
theorem d_Ke_spawn_4 : decode b_Ke_spawn 4 = .ok (.iload_n 3, 1) := by decide +kernel
theorem d_Ke_spawn_5 : decode b_Ke_spawn 5 = .ok (.aload_n 1, 1) := by decide +kernel
theorem d_Ke_spawn_6 : decode b_Ke_spawn 6 = .ok (.invokevirtual 260, 3) := by decide +kernel
theorem d_Ke_spawn_9 : decode b_Ke_spawn 9 = .ok (.if_icmp .le 5, 3) := by decide +kernel
theorem d_Ke_spawn_12 : decode b_Ke_spawn 12 = .ok (.iconst (-1), 1) := by decide +kernel
theorem d_Ke_spawn_13 : decode b_Ke_spawn 13 = .ok (.ireturn, 1) := by decide +kernel
theorem d_Ke_spawn_14 : decode b_Ke_spawn 14 = .ok (.iconst 0, 1) := by decide +kernel
theorem d_Ke_spawn_15 : decode b_Ke_spawn 15 = .ok (.istore 5, 2) := by decide +kernel
theorem d_Ke_spawn_17 : decode b_Ke_spawn 17 = .ok (.iload 5, 2) := by decide +kernel
theorem d_Ke_spawn_19 : decode b_Ke_spawn 19 = .ok (.bipush 6, 2) := by decide +kernel
end
section
theorem d_Ke_spawn_21 : decode b_Ke_spawn 21 = .ok (.if_icmp .ge 76, 3) := by decide +kernel
theorem d_Ke_spawn_24 : decode b_Ke_spawn 24 = .ok (.aload_n 0, 1) := by decide +kernel
theorem d_Ke_spawn_25 : decode b_Ke_spawn 25 = .ok (.getfield 25, 3) := by decide +kernel
theorem d_Ke_spawn_28 : decode b_Ke_spawn 28 = .ok (.iload 5, 2) := by decide +kernel
theorem d_Ke_spawn_30 : decode b_Ke_spawn 30 = .ok (.aaload, 1) := by decide +kernel
theorem d_Ke_spawn_31 : decode b_Ke_spawn 31 = .ok (.astore 6, 2) := by decide +kernel
theorem d_Ke_spawn_33 : decode b_Ke_spawn 33 = .ok (.aload 6, 2) := by decide +kernel
theorem d_Ke_spawn_35 : decode b_Ke_spawn 35 = .ok (.getfield 98, 3) := by decide +kernel
theorem d_Ke_spawn_38 : decode b_Ke_spawn 38 = .ok (.iconst (-1), 1) := by decide +kernel
theorem d_Ke_spawn_39 : decode b_Ke_spawn 39 = .ok (.if_icmp .ne 52, 3) := by decide +kernel
theorem d_Ke_spawn_42 : decode b_Ke_spawn 42 = .ok (.aload 6, 2) := by decide +kernel
theorem d_Ke_spawn_44 : decode b_Ke_spawn 44 = .ok (.iload 4, 2) := by decide +kernel
theorem d_Ke_spawn_46 : decode b_Ke_spawn 46 = .ok (.iload_n 3, 1) := by decide +kernel
theorem d_Ke_spawn_47 : decode b_Ke_spawn 47 = .ok (.aload_n 1, 1) := by decide +kernel
theorem d_Ke_spawn_48 : decode b_Ke_spawn 48 = .ok (.getfield 273, 3) := by decide +kernel
theorem d_Ke_spawn_51 : decode b_Ke_spawn 51 = .ok (.invokevirtual 53, 3) := by decide +kernel
theorem d_Ke_spawn_54 : decode b_Ke_spawn 54 = .ok (.aload 6, 2) := by decide +kernel
theorem d_Ke_spawn_56 : decode b_Ke_spawn 56 = .ok (.getfield 94, 3) := by decide +kernel
theorem d_Ke_spawn_59 : decode b_Ke_spawn 59 = .ok (.iconst 0, 1) := by decide +kernel
theorem d_Ke_spawn_60 : decode b_Ke_spawn 60 = .ok (.iload_n 2, 1) := by decide +kernel
theorem d_Ke_spawn_61 : decode b_Ke_spawn 61 = .ok (.iastore, 1) := by decide +kernel
theorem d_Ke_spawn_62 : decode b_Ke_spawn 62 = .ok (.aload_n 1, 1) := by decide +kernel
theorem d_Ke_spawn_63 : decode b_Ke_spawn 63 = .ok (.dup, 1) := by decide +kernel
theorem d_Ke_spawn_64 : decode b_Ke_spawn 64 = .ok (.getfield 113, 3) := by decide +kernel
theorem d_Ke_spawn_67 : decode b_Ke_spawn 67 = .ok (.iload_n 3, 1) := by decide +kernel
theorem d_Ke_spawn_68 : decode b_Ke_spawn 68 = .ok (.iadd, 1) := by decide +kernel
theorem d_Ke_spawn_69 : decode b_Ke_spawn 69 = .ok (.putfield 113, 3) := by decide +kernel
theorem d_Ke_spawn_72 : decode b_Ke_spawn 72 = .ok (.aload_n 0, 1) := by decide +kernel
theorem d_Ke_spawn_73 : decode b_Ke_spawn 73 = .ok (.aload 6, 2) := by decide +kernel
theorem d_Ke_spawn_75 : decode b_Ke_spawn 75 = .ok (.invokevirtual 57, 3) := by decide +kernel
theorem d_Ke_spawn_78 : decode b_Ke_spawn 78 = .ok (.aload_n 0, 1) := by decide +kernel
theorem d_Ke_spawn_79 : decode b_Ke_spawn 79 = .ok (.dup, 1) := by decide +kernel
theorem d_Ke_spawn_80 : decode b_Ke_spawn 80 = .ok (.getfield 158, 3) := by decide +kernel
theorem d_Ke_spawn_83 : decode b_Ke_spawn 83 = .ok (.iconst 1, 1) := by decide +kernel
theorem d_Ke_spawn_84 : decode b_Ke_spawn 84 = .ok (.iadd, 1) := by decide +kernel
theorem d_Ke_spawn_85 : decode b_Ke_spawn 85 = .ok (.putfield 158, 3) := by decide +kernel
theorem d_Ke_spawn_88 : decode b_Ke_spawn 88 = .ok (.iload 5, 2) := by decide +kernel
theorem d_Ke_spawn_90 : decode b_Ke_spawn 90 = .ok (.ireturn, 1) := by decide +kernel
theorem d_Ke_spawn_91 : decode b_Ke_spawn 91 = .ok (.iinc 5 1, 3) := by decide +kernel
theorem d_Ke_spawn_94 : decode b_Ke_spawn 94 = .ok (.goto (-77), 3) := by decide +kernel
theorem d_Ke_spawn_97 : decode b_Ke_spawn 97 = .ok (.iconst (-1), 1) := by decide +kernel
theorem d_Ke_spawn_98 : decode b_Ke_spawn 98 = .ok (.ireturn, 1) := by decide +kernel
theorem d_Ke_reap_0 : decode b_Ke_reap 0 = .ok (.iconst 0, 1) := by decide +kernel
theorem d_Ke_reap_1 : decode b_Ke_reap 1 = .ok (.istore 4, 2) := by decide +kernel
theorem d_Ke_reap_3 : decode b_Ke_reap 3 = .ok (.iload 4, 2) := by decide +kernel
theorem d_Ke_reap_5 : decode b_Ke_reap 5 = .ok (.bipush 6, 2) := by decide +kernel
theorem d_Ke_reap_7 : decode b_Ke_reap 7 = .ok (.if_icmp .ge 89, 3) := by decide +kernel
theorem d_Ke_reap_10 : decode b_Ke_reap 10 = .ok (.aload_n 0, 1) := by decide +kernel
theorem d_Ke_reap_11 : decode b_Ke_reap 11 = .ok (.getfield 25, 3) := by decide +kernel
theorem d_Ke_reap_14 : decode b_Ke_reap 14 = .ok (.iload 4, 2) := by decide +kernel
theorem d_Ke_reap_16 : decode b_Ke_reap 16 = .ok (.aaload, 1) := by decide +kernel
theorem d_Ke_reap_17 : decode b_Ke_reap 17 = .ok (.astore 5, 2) := by decide +kernel
theorem d_Ke_reap_19 : decode b_Ke_reap 19 = .ok (.aload 5, 2) := by decide +kernel
theorem d_Ke_reap_21 : decode b_Ke_reap 21 = .ok (.getfield 98, 3) := by decide +kernel
theorem d_Ke_reap_24 : decode b_Ke_reap 24 = .ok (.iconst 3, 1) := by decide +kernel
theorem d_Ke_reap_25 : decode b_Ke_reap 25 = .ok (.if_icmp .ne 65, 3) := by decide +kernel
theorem d_Ke_reap_28 : decode b_Ke_reap 28 = .ok (.aload 5, 2) := by decide +kernel
theorem d_Ke_reap_30 : decode b_Ke_reap 30 = .ok (.getfield 116, 3) := by decide +kernel
theorem d_Ke_reap_33 : decode b_Ke_reap 33 = .ok (.aload_n 1, 1) := by decide +kernel
theorem d_Ke_reap_34 : decode b_Ke_reap 34 = .ok (.getfield 273, 3) := by decide +kernel
theorem d_Ke_reap_37 : decode b_Ke_reap 37 = .ok (.if_icmp .ne 53, 3) := by decide +kernel
theorem d_Ke_reap_40 : decode b_Ke_reap 40 = .ok (.aload 5, 2) := by decide +kernel
theorem d_Ke_reap_42 : decode b_Ke_reap 42 = .ok (.iconst (-1), 1) := by decide +kernel
theorem d_Ke_reap_43 : decode b_Ke_reap 43 = .ok (.putfield 98, 3) := by decide +kernel
theorem d_Ke_reap_46 : decode b_Ke_reap 46 = .ok (.aload_n 1, 1) := by decide +kernel
theorem d_Ke_reap_47 : decode b_Ke_reap 47 = .ok (.dup, 1) := by decide +kernel
theorem d_Ke_reap_48 : decode b_Ke_reap 48 = .ok (.getfield 113, 3) := by decide +kernel
theorem d_Ke_reap_51 : decode b_Ke_reap 51 = .ok (.aload 5, 2) := by decide +kernel
theorem d_Ke_reap_53 : decode b_Ke_reap 53 = .ok (.getfield 107, 3) := by decide +kernel
theorem d_Ke_reap_56 : decode b_Ke_reap 56 = .ok (.isub, 1) := by decide +kernel
theorem d_Ke_reap_57 : decode b_Ke_reap 57 = .ok (.putfield 113, 3) := by decide +kernel
theorem d_Ke_reap_60 : decode b_Ke_reap 60 = .ok (.aload_n 1, 1) := by decide +kernel
theorem d_Ke_reap_61 : decode b_Ke_reap 61 = .ok (.getfield 94, 3) := by decide +kernel
theorem d_Ke_reap_64 : decode b_Ke_reap 64 = .ok (.iload_n 2, 1) := by decide +kernel
theorem d_Ke_reap_65 : decode b_Ke_reap 65 = .ok (.iload 4, 2) := by decide +kernel
theorem d_Ke_reap_67 : decode b_Ke_reap 67 = .ok (.iastore, 1) := by decide +kernel
theorem d_Ke_reap_68 : decode b_Ke_reap 68 = .ok (.aload_n 1, 1) := by decide +kernel
theorem d_Ke_reap_69 : decode b_Ke_reap 69 = .ok (.getfield 94, 3) := by decide +kernel
theorem d_Ke_reap_72 : decode b_Ke_reap 72 = .ok (.iload_n 3, 1) := by decide +kernel
theorem d_Ke_reap_73 : decode b_Ke_reap 73 = .ok (.aload 5, 2) := by decide +kernel
theorem d_Ke_reap_75 : decode b_Ke_reap 75 = .ok (.getfield 119, 3) := by decide +kernel
theorem d_Ke_reap_78 : decode b_Ke_reap 78 = .ok (.iastore, 1) := by decide +kernel
theorem d_Ke_reap_79 : decode b_Ke_reap 79 = .ok (.aload_n 0, 1) := by decide +kernel
theorem d_Ke_reap_80 : decode b_Ke_reap 80 = .ok (.dup, 1) := by decide +kernel
theorem d_Ke_reap_81 : decode b_Ke_reap 81 = .ok (.getfield 161, 3) := by decide +kernel
theorem d_Ke_reap_84 : decode b_Ke_reap 84 = .ok (.iconst 1, 1) := by decide +kernel
theorem d_Ke_reap_85 : decode b_Ke_reap 85 = .ok (.iadd, 1) := by decide +kernel
theorem d_Ke_reap_86 : decode b_Ke_reap 86 = .ok (.putfield 161, 3) := by decide +kernel
theorem d_Ke_reap_89 : decode b_Ke_reap 89 = .ok (.return_, 1) := by decide +kernel
theorem d_Ke_reap_90 : decode b_Ke_reap 90 = .ok (.iinc 4 1, 3) := by decide +kernel
theorem d_Ke_reap_93 : decode b_Ke_reap 93 = .ok (.goto (-90), 3) := by decide +kernel
theorem d_Ke_reap_96 : decode b_Ke_reap 96 = .ok (.aload_n 1, 1) := by decide +kernel
theorem d_Ke_reap_97 : decode b_Ke_reap 97 = .ok (.getfield 94, 3) := by decide +kernel
theorem d_Ke_reap_100 : decode b_Ke_reap 100 = .ok (.iload_n 2, 1) := by decide +kernel
theorem d_Ke_reap_101 : decode b_Ke_reap 101 = .ok (.iconst (-1), 1) := by decide +kernel
theorem d_Ke_reap_102 : decode b_Ke_reap 102 = .ok (.iastore, 1) := by decide +kernel
theorem d_Ke_reap_103 : decode b_Ke_reap 103 = .ok (.return_, 1) := by decide +kernel
theorem d_Ke_send_0 : decode b_Ke_send 0 = .ok (.iload_n 3, 1) := by decide +kernel
theorem d_Ke_send_1 : decode b_Ke_send 1 = .ok (.iconst 4, 1) := by decide +kernel
theorem d_Ke_send_2 : decode b_Ke_send 2 = .ok (.invokestatic 179, 3) := by decide +kernel
theorem d_Ke_send_5 : decode b_Ke_send 5 = .ok (.ifCond .eq 5, 3) := by decide +kernel
theorem d_Ke_send_8 : decode b_Ke_send 8 = .ok (.iconst 4, 1) := by decide +kernel
theorem d_Ke_send_9 : decode b_Ke_send 9 = .ok (.ireturn, 1) := by decide +kernel
theorem d_Ke_send_10 : decode b_Ke_send 10 = .ok (.aload_n 0, 1) := by decide +kernel
theorem d_Ke_send_11 : decode b_Ke_send 11 = .ok (.getfield 43, 3) := by decide +kernel
theorem d_Ke_send_14 : decode b_Ke_send 14 = .ok (.iload_n 3, 1) := by decide +kernel
theorem d_Ke_send_15 : decode b_Ke_send 15 = .ok (.aaload, 1) := by decide +kernel
theorem d_Ke_send_16 : decode b_Ke_send 16 = .ok (.astore 4, 2) := by decide +kernel
theorem d_Ke_send_18 : decode b_Ke_send 18 = .ok (.aload 4, 2) := by decide +kernel
theorem d_Ke_send_20 : decode b_Ke_send 20 = .ok (.invokevirtual 276, 3) := by decide +kernel
theorem d_Ke_send_23 : decode b_Ke_send 23 = .ok (.ifCond .eq 15, 3) := by decide +kernel
theorem d_Ke_send_26 : decode b_Ke_send 26 = .ok (.aload_n 1, 1) := by decide +kernel
theorem d_Ke_send_27 : decode b_Ke_send 27 = .ok (.iload_n 2, 1) := by decide +kernel
theorem d_Ke_send_28 : decode b_Ke_send 28 = .ok (.aload 4, 2) := by decide +kernel
theorem d_Ke_send_30 : decode b_Ke_send 30 = .ok (.getfield 145, 3) := by decide +kernel
theorem d_Ke_send_33 : decode b_Ke_send 33 = .ok (.invokestatic 279, 3) := by decide +kernel
theorem d_Ke_send_36 : decode b_Ke_send 36 = .ok (.iconst 0, 1) := by decide +kernel
theorem d_Ke_send_37 : decode b_Ke_send 37 = .ok (.ireturn, 1) := by decide +kernel
theorem d_Ke_send_38 : decode b_Ke_send 38 = .ok (.aload 4, 2) := by decide +kernel
theorem d_Ke_send_40 : decode b_Ke_send 40 = .ok (.getfield 148, 3) := by decide +kernel
theorem d_Ke_send_43 : decode b_Ke_send 43 = .ok (.invokevirtual 211, 3) := by decide +kernel
theorem d_Ke_send_46 : decode b_Ke_send 46 = .ok (.istore 5, 2) := by decide +kernel
theorem d_Ke_send_48 : decode b_Ke_send 48 = .ok (.iload 5, 2) := by decide +kernel
theorem d_Ke_send_50 : decode b_Ke_send 50 = .ok (.iconst (-1), 1) := by decide +kernel
theorem d_Ke_send_51 : decode b_Ke_send 51 = .ok (.if_icmp .ne 17, 3) := by decide +kernel
theorem d_Ke_send_54 : decode b_Ke_send 54 = .ok (.aload 4, 2) := by decide +kernel
theorem d_Ke_send_56 : decode b_Ke_send 56 = .ok (.aload_n 1, 1) := by decide +kernel
theorem d_Ke_send_57 : decode b_Ke_send 57 = .ok (.getfield 94, 3) := by decide +kernel
theorem d_Ke_send_60 : decode b_Ke_send 60 = .ok (.iload_n 2, 1) := by decide +kernel
theorem d_Ke_send_61 : decode b_Ke_send 61 = .ok (.iaload, 1) := by decide +kernel
theorem d_Ke_send_62 : decode b_Ke_send 62 = .ok (.invokevirtual 283, 3) := by decide +kernel
theorem d_Ke_send_65 : decode b_Ke_send 65 = .ok (.goto 41, 3) := by decide +kernel
theorem d_Ke_send_68 : decode b_Ke_send 68 = .ok (.aload_n 0, 1) := by decide +kernel
theorem d_Ke_send_69 : decode b_Ke_send 69 = .ok (.getfield 25, 3) := by decide +kernel
theorem d_Ke_send_72 : decode b_Ke_send 72 = .ok (.iload 5, 2) := by decide +kernel
theorem d_Ke_send_74 : decode b_Ke_send 74 = .ok (.aaload, 1) := by decide +kernel
theorem d_Ke_send_75 : decode b_Ke_send 75 = .ok (.getfield 94, 3) := by decide +kernel
theorem d_Ke_send_78 : decode b_Ke_send 78 = .ok (.aload_n 0, 1) := by decide +kernel
theorem d_Ke_send_79 : decode b_Ke_send 79 = .ok (.getfield 25, 3) := by decide +kernel
theorem d_Ke_send_82 : decode b_Ke_send 82 = .ok (.iload 5, 2) := by decide +kernel
theorem d_Ke_send_84 : decode b_Ke_send 84 = .ok (.aaload, 1) := by decide +kernel
theorem d_Ke_send_85 : decode b_Ke_send 85 = .ok (.getfield 286, 3) := by decide +kernel
theorem d_Ke_send_88 : decode b_Ke_send 88 = .ok (.aload_n 1, 1) := by decide +kernel
theorem d_Ke_send_89 : decode b_Ke_send 89 = .ok (.getfield 94, 3) := by decide +kernel
theorem d_Ke_send_92 : decode b_Ke_send 92 = .ok (.iload_n 2, 1) := by decide +kernel
theorem d_Ke_send_93 : decode b_Ke_send 93 = .ok (.iaload, 1) := by decide +kernel
theorem d_Ke_send_94 : decode b_Ke_send 94 = .ok (.iastore, 1) := by decide +kernel
theorem d_Ke_send_95 : decode b_Ke_send 95 = .ok (.aload_n 0, 1) := by decide +kernel
theorem d_Ke_send_96 : decode b_Ke_send 96 = .ok (.aload_n 0, 1) := by decide +kernel
theorem d_Ke_send_97 : decode b_Ke_send 97 = .ok (.getfield 25, 3) := by decide +kernel
theorem d_Ke_send_100 : decode b_Ke_send 100 = .ok (.iload 5, 2) := by decide +kernel
theorem d_Ke_send_102 : decode b_Ke_send 102 = .ok (.aaload, 1) := by decide +kernel
theorem d_Ke_send_103 : decode b_Ke_send 103 = .ok (.invokevirtual 57, 3) := by decide +kernel
theorem d_Ke_send_106 : decode b_Ke_send 106 = .ok (.iconst 0, 1) := by decide +kernel
theorem d_Ke_send_107 : decode b_Ke_send 107 = .ok (.ireturn, 1) := by decide +kernel
theorem d_Ke_receive_0 : decode b_Ke_receive 0 = .ok (.iload_n 3, 1) := by decide +kernel
theorem d_Ke_receive_1 : decode b_Ke_receive 1 = .ok (.iconst 4, 1) := by decide +kernel
theorem d_Ke_receive_2 : decode b_Ke_receive 2 = .ok (.invokestatic 179, 3) := by decide +kernel
theorem d_Ke_receive_5 : decode b_Ke_receive 5 = .ok (.ifCond .eq 5, 3) := by decide +kernel
theorem d_Ke_receive_8 : decode b_Ke_receive 8 = .ok (.iconst 4, 1) := by decide +kernel
theorem d_Ke_receive_9 : decode b_Ke_receive 9 = .ok (.ireturn, 1) := by decide +kernel
theorem d_Ke_receive_10 : decode b_Ke_receive 10 = .ok (.aload_n 0, 1) := by decide +kernel
theorem d_Ke_receive_11 : decode b_Ke_receive 11 = .ok (.getfield 43, 3) := by decide +kernel
theorem d_Ke_receive_14 : decode b_Ke_receive 14 = .ok (.iload_n 3, 1) := by decide +kernel
theorem d_Ke_receive_15 : decode b_Ke_receive 15 = .ok (.aaload, 1) := by decide +kernel
theorem d_Ke_receive_16 : decode b_Ke_receive 16 = .ok (.astore 4, 2) := by decide +kernel
theorem d_Ke_receive_18 : decode b_Ke_receive 18 = .ok (.aload 4, 2) := by decide +kernel
theorem d_Ke_receive_20 : decode b_Ke_receive 20 = .ok (.getfield 144, 3) := by decide +kernel
theorem d_Ke_receive_23 : decode b_Ke_receive 23 = .ok (.ifCond .ne 15, 3) := by decide +kernel
theorem d_Ke_receive_26 : decode b_Ke_receive 26 = .ok (.aload_n 1, 1) := by decide +kernel
theorem d_Ke_receive_27 : decode b_Ke_receive 27 = .ok (.iload_n 2, 1) := by decide +kernel
theorem d_Ke_receive_28 : decode b_Ke_receive 28 = .ok (.aload 4, 2) := by decide +kernel
theorem d_Ke_receive_30 : decode b_Ke_receive 30 = .ok (.getfield 148, 3) := by decide +kernel
theorem d_Ke_receive_33 : decode b_Ke_receive 33 = .ok (.invokestatic 279, 3) := by decide +kernel
theorem d_Ke_receive_36 : decode b_Ke_receive 36 = .ok (.iconst 0, 1) := by decide +kernel
theorem d_Ke_receive_37 : decode b_Ke_receive 37 = .ok (.ireturn, 1) := by decide +kernel
theorem d_Ke_receive_38 : decode b_Ke_receive 38 = .ok (.aload_n 1, 1) := by decide +kernel
theorem d_Ke_receive_39 : decode b_Ke_receive 39 = .ok (.getfield 94, 3) := by decide +kernel
theorem d_Ke_receive_42 : decode b_Ke_receive 42 = .ok (.iload_n 2, 1) := by decide +kernel
theorem d_Ke_receive_43 : decode b_Ke_receive 43 = .ok (.aload 4, 2) := by decide +kernel
theorem d_Ke_receive_45 : decode b_Ke_receive 45 = .ok (.invokevirtual 289, 3) := by decide +kernel
theorem d_Ke_receive_48 : decode b_Ke_receive 48 = .ok (.iastore, 1) := by decide +kernel
theorem d_Ke_receive_49 : decode b_Ke_receive 49 = .ok (.aload 4, 2) := by decide +kernel
theorem d_Ke_receive_51 : decode b_Ke_receive 51 = .ok (.getfield 145, 3) := by decide +kernel
theorem d_Ke_receive_54 : decode b_Ke_receive 54 = .ok (.invokevirtual 211, 3) := by decide +kernel
theorem d_Ke_receive_57 : decode b_Ke_receive 57 = .ok (.istore 5, 2) := by decide +kernel
theorem d_Ke_receive_59 : decode b_Ke_receive 59 = .ok (.iload 5, 2) := by decide +kernel
theorem d_Ke_receive_61 : decode b_Ke_receive 61 = .ok (.iconst (-1), 1) := by decide +kernel
theorem d_Ke_receive_62 : decode b_Ke_receive 62 = .ok (.if_icmp .eq 40, 3) := by decide +kernel
theorem d_Ke_receive_65 : decode b_Ke_receive 65 = .ok (.aload 4, 2) := by decide +kernel
theorem d_Ke_receive_67 : decode b_Ke_receive 67 = .ok (.aload_n 0, 1) := by decide +kernel
theorem d_Ke_receive_68 : decode b_Ke_receive 68 = .ok (.getfield 25, 3) := by decide +kernel
theorem d_Ke_receive_71 : decode b_Ke_receive 71 = .ok (.iload 5, 2) := by decide +kernel
theorem d_Ke_receive_73 : decode b_Ke_receive 73 = .ok (.aaload, 1) := by decide +kernel
theorem d_Ke_receive_74 : decode b_Ke_receive 74 = .ok (.getfield 94, 3) := by decide +kernel
theorem d_Ke_receive_77 : decode b_Ke_receive 77 = .ok (.aload_n 0, 1) := by decide +kernel
theorem d_Ke_receive_78 : decode b_Ke_receive 78 = .ok (.getfield 25, 3) := by decide +kernel
theorem d_Ke_receive_81 : decode b_Ke_receive 81 = .ok (.iload 5, 2) := by decide +kernel
theorem d_Ke_receive_83 : decode b_Ke_receive 83 = .ok (.aaload, 1) := by decide +kernel
theorem d_Ke_receive_84 : decode b_Ke_receive 84 = .ok (.getfield 286, 3) := by decide +kernel
theorem d_Ke_receive_87 : decode b_Ke_receive 87 = .ok (.iaload, 1) := by decide +kernel
theorem d_Ke_receive_88 : decode b_Ke_receive 88 = .ok (.invokevirtual 283, 3) := by decide +kernel
theorem d_Ke_receive_91 : decode b_Ke_receive 91 = .ok (.aload_n 0, 1) := by decide +kernel
theorem d_Ke_receive_92 : decode b_Ke_receive 92 = .ok (.aload_n 0, 1) := by decide +kernel
theorem d_Ke_receive_93 : decode b_Ke_receive 93 = .ok (.getfield 25, 3) := by decide +kernel
theorem d_Ke_receive_96 : decode b_Ke_receive 96 = .ok (.iload 5, 2) := by decide +kernel
theorem d_Ke_receive_98 : decode b_Ke_receive 98 = .ok (.aaload, 1) := by decide +kernel
theorem d_Ke_receive_99 : decode b_Ke_receive 99 = .ok (.invokevirtual 57, 3) := by decide +kernel
theorem d_Ke_receive_102 : decode b_Ke_receive 102 = .ok (.iconst 0, 1) := by decide +kernel
theorem d_Ke_receive_103 : decode b_Ke_receive 103 = .ok (.ireturn, 1) := by decide +kernel
theorem d_Ke_lock_0 : decode b_Ke_lock 0 = .ok (.iload_n 3, 1) := by decide +kernel
theorem d_Ke_lock_1 : decode b_Ke_lock 1 = .ok (.iconst 4, 1) := by decide +kernel
theorem d_Ke_lock_2 : decode b_Ke_lock 2 = .ok (.invokestatic 179, 3) := by decide +kernel
theorem d_Ke_lock_5 : decode b_Ke_lock 5 = .ok (.ifCond .eq 5, 3) := by decide +kernel
theorem d_Ke_lock_8 : decode b_Ke_lock 8 = .ok (.iconst 4, 1) := by decide +kernel
theorem d_Ke_lock_9 : decode b_Ke_lock 9 = .ok (.ireturn, 1) := by decide +kernel
theorem d_Ke_lock_10 : decode b_Ke_lock 10 = .ok (.aload_n 0, 1) := by decide +kernel
theorem d_Ke_lock_11 : decode b_Ke_lock 11 = .ok (.getfield 37, 3) := by decide +kernel
theorem d_Ke_lock_14 : decode b_Ke_lock 14 = .ok (.iload_n 3, 1) := by decide +kernel
theorem d_Ke_lock_15 : decode b_Ke_lock 15 = .ok (.aaload, 1) := by decide +kernel
theorem d_Ke_lock_16 : decode b_Ke_lock 16 = .ok (.getfield 132, 3) := by decide +kernel
theorem d_Ke_lock_19 : decode b_Ke_lock 19 = .ok (.iconst (-1), 1) := by decide +kernel
theorem d_Ke_lock_20 : decode b_Ke_lock 20 = .ok (.if_icmp .ne 19, 3) := by decide +kernel
theorem d_Ke_lock_23 : decode b_Ke_lock 23 = .ok (.aload_n 0, 1) := by decide +kernel
theorem d_Ke_lock_24 : decode b_Ke_lock 24 = .ok (.getfield 37, 3) := by decide +kernel
theorem d_Ke_lock_27 : decode b_Ke_lock 27 = .ok (.iload_n 3, 1) := by decide +kernel
theorem d_Ke_lock_28 : decode b_Ke_lock 28 = .ok (.aaload, 1) := by decide +kernel
theorem d_Ke_lock_29 : decode b_Ke_lock 29 = .ok (.aload_n 1, 1) := by decide +kernel
theorem d_Ke_lock_30 : decode b_Ke_lock 30 = .ok (.getfield 273, 3) := by decide +kernel
theorem d_Ke_lock_33 : decode b_Ke_lock 33 = .ok (.putfield 132, 3) := by decide +kernel
theorem d_Ke_lock_36 : decode b_Ke_lock 36 = .ok (.goto 17, 3) := by decide +kernel
theorem d_Ke_lock_39 : decode b_Ke_lock 39 = .ok (.aload_n 1, 1) := by decide +kernel
theorem d_Ke_lock_40 : decode b_Ke_lock 40 = .ok (.iload_n 2, 1) := by decide +kernel
theorem d_Ke_lock_41 : decode b_Ke_lock 41 = .ok (.aload_n 0, 1) := by decide +kernel
theorem d_Ke_lock_42 : decode b_Ke_lock 42 = .ok (.getfield 37, 3) := by decide +kernel
theorem d_Ke_lock_45 : decode b_Ke_lock 45 = .ok (.iload_n 3, 1) := by decide +kernel
theorem d_Ke_lock_46 : decode b_Ke_lock 46 = .ok (.aaload, 1) := by decide +kernel
theorem d_Ke_lock_47 : decode b_Ke_lock 47 = .ok (.getfield 135, 3) := by decide +kernel
theorem d_Ke_lock_50 : decode b_Ke_lock 50 = .ok (.invokestatic 279, 3) := by decide +kernel
theorem d_Ke_lock_53 : decode b_Ke_lock 53 = .ok (.iconst 0, 1) := by decide +kernel
theorem d_Ke_lock_54 : decode b_Ke_lock 54 = .ok (.ireturn, 1) := by decide +kernel
theorem d_Ke_unlock_0 : decode b_Ke_unlock 0 = .ok (.iload_n 2, 1) := by decide +kernel
theorem d_Ke_unlock_1 : decode b_Ke_unlock 1 = .ok (.iconst 4, 1) := by decide +kernel
theorem d_Ke_unlock_2 : decode b_Ke_unlock 2 = .ok (.invokestatic 179, 3) := by decide +kernel
theorem d_Ke_unlock_5 : decode b_Ke_unlock 5 = .ok (.ifCond .eq 5, 3) := by decide +kernel
theorem d_Ke_unlock_8 : decode b_Ke_unlock 8 = .ok (.iconst 4, 1) := by decide +kernel
theorem d_Ke_unlock_9 : decode b_Ke_unlock 9 = .ok (.ireturn, 1) := by decide +kernel
theorem d_Ke_unlock_10 : decode b_Ke_unlock 10 = .ok (.aload_n 0, 1) := by decide +kernel
theorem d_Ke_unlock_11 : decode b_Ke_unlock 11 = .ok (.getfield 37, 3) := by decide +kernel
theorem d_Ke_unlock_14 : decode b_Ke_unlock 14 = .ok (.iload_n 2, 1) := by decide +kernel
theorem d_Ke_unlock_15 : decode b_Ke_unlock 15 = .ok (.aaload, 1) := by decide +kernel
theorem d_Ke_unlock_16 : decode b_Ke_unlock 16 = .ok (.getfield 132, 3) := by decide +kernel
theorem d_Ke_unlock_19 : decode b_Ke_unlock 19 = .ok (.aload_n 1, 1) := by decide +kernel
theorem d_Ke_unlock_20 : decode b_Ke_unlock 20 = .ok (.getfield 273, 3) := by decide +kernel
theorem d_Ke_unlock_23 : decode b_Ke_unlock 23 = .ok (.if_icmp .eq 5, 3) := by decide +kernel
theorem d_Ke_unlock_26 : decode b_Ke_unlock 26 = .ok (.iconst 5, 1) := by decide +kernel
theorem d_Ke_unlock_27 : decode b_Ke_unlock 27 = .ok (.ireturn, 1) := by decide +kernel
theorem d_Ke_unlock_28 : decode b_Ke_unlock 28 = .ok (.aload_n 0, 1) := by decide +kernel
theorem d_Ke_unlock_29 : decode b_Ke_unlock 29 = .ok (.aload_n 0, 1) := by decide +kernel
theorem d_Ke_unlock_30 : decode b_Ke_unlock 30 = .ok (.getfield 37, 3) := by decide +kernel
theorem d_Ke_unlock_33 : decode b_Ke_unlock 33 = .ok (.iload_n 2, 1) := by decide +kernel
theorem d_Ke_unlock_34 : decode b_Ke_unlock 34 = .ok (.aaload, 1) := by decide +kernel
theorem d_Ke_unlock_35 : decode b_Ke_unlock 35 = .ok (.invokevirtual 290, 3) := by decide +kernel
theorem d_Ke_unlock_38 : decode b_Ke_unlock 38 = .ok (.iconst 0, 1) := by decide +kernel
theorem d_Ke_unlock_39 : decode b_Ke_unlock 39 = .ok (.ireturn, 1) := by decide +kernel
theorem d_Ke_passOn_0 : decode b_Ke_passOn 0 = .ok (.aload_n 1, 1) := by decide +kernel
theorem d_Ke_passOn_1 : decode b_Ke_passOn 1 = .ok (.aload_n 1, 1) := by decide +kernel
theorem d_Ke_passOn_2 : decode b_Ke_passOn 2 = .ok (.getfield 135, 3) := by decide +kernel
theorem d_Ke_passOn_5 : decode b_Ke_passOn 5 = .ok (.invokevirtual 211, 3) := by decide +kernel
theorem d_Ke_passOn_8 : decode b_Ke_passOn 8 = .ok (.putfield 132, 3) := by decide +kernel
theorem d_Ke_passOn_11 : decode b_Ke_passOn 11 = .ok (.aload_n 1, 1) := by decide +kernel
theorem d_Ke_passOn_12 : decode b_Ke_passOn 12 = .ok (.getfield 132, 3) := by decide +kernel
theorem d_Ke_passOn_15 : decode b_Ke_passOn 15 = .ok (.iconst (-1), 1) := by decide +kernel
theorem d_Ke_passOn_16 : decode b_Ke_passOn 16 = .ok (.if_icmp .eq 16, 3) := by decide +kernel
theorem d_Ke_passOn_19 : decode b_Ke_passOn 19 = .ok (.aload_n 0, 1) := by decide +kernel
theorem d_Ke_passOn_20 : decode b_Ke_passOn 20 = .ok (.aload_n 0, 1) := by decide +kernel
theorem d_Ke_passOn_21 : decode b_Ke_passOn 21 = .ok (.getfield 25, 3) := by decide +kernel
theorem d_Ke_passOn_24 : decode b_Ke_passOn 24 = .ok (.aload_n 1, 1) := by decide +kernel
theorem d_Ke_passOn_25 : decode b_Ke_passOn 25 = .ok (.getfield 132, 3) := by decide +kernel
theorem d_Ke_passOn_28 : decode b_Ke_passOn 28 = .ok (.aaload, 1) := by decide +kernel
theorem d_Ke_passOn_29 : decode b_Ke_passOn 29 = .ok (.invokevirtual 57, 3) := by decide +kernel
theorem d_Ke_passOn_32 : decode b_Ke_passOn 32 = .ok (.return_, 1) := by decide +kernel
theorem d_Ke_end_0 : decode b_Ke_end 0 = .ok (.aload_n 1, 1) := by decide +kernel
theorem d_Ke_end_1 : decode b_Ke_end 1 = .ok (.iconst 3, 1) := by decide +kernel
theorem d_Ke_end_2 : decode b_Ke_end 2 = .ok (.putfield 98, 3) := by decide +kernel
theorem d_Ke_end_5 : decode b_Ke_end 5 = .ok (.aload_n 1, 1) := by decide +kernel
theorem d_Ke_end_6 : decode b_Ke_end 6 = .ok (.iload_n 2, 1) := by decide +kernel
theorem d_Ke_end_7 : decode b_Ke_end 7 = .ok (.putfield 119, 3) := by decide +kernel
theorem d_Ke_end_10 : decode b_Ke_end 10 = .ok (.iconst 0, 1) := by decide +kernel
theorem d_Ke_end_11 : decode b_Ke_end 11 = .ok (.istore_n 3, 1) := by decide +kernel
theorem d_Ke_end_12 : decode b_Ke_end 12 = .ok (.iload_n 3, 1) := by decide +kernel
theorem d_Ke_end_13 : decode b_Ke_end 13 = .ok (.iconst 4, 1) := by decide +kernel
theorem d_Ke_end_14 : decode b_Ke_end 14 = .ok (.if_icmp .ge 16, 3) := by decide +kernel
theorem d_Ke_end_17 : decode b_Ke_end 17 = .ok (.aload_n 0, 1) := by decide +kernel
theorem d_Ke_end_18 : decode b_Ke_end 18 = .ok (.aload_n 1, 1) := by decide +kernel
theorem d_Ke_end_19 : decode b_Ke_end 19 = .ok (.iload_n 3, 1) := by decide +kernel
theorem d_Ke_end_20 : decode b_Ke_end 20 = .ok (.invokevirtual 266, 3) := by decide +kernel
theorem d_Ke_end_23 : decode b_Ke_end 23 = .ok (.pop, 1) := by decide +kernel
theorem d_Ke_end_24 : decode b_Ke_end 24 = .ok (.iinc 3 1, 3) := by decide +kernel
theorem d_Ke_end_27 : decode b_Ke_end 27 = .ok (.goto (-15), 3) := by decide +kernel
theorem d_Ke_end_30 : decode b_Ke_end 30 = .ok (.iconst 0, 1) := by decide +kernel
theorem d_Ke_end_31 : decode b_Ke_end 31 = .ok (.istore_n 3, 1) := by decide +kernel
theorem d_Ke_end_32 : decode b_Ke_end 32 = .ok (.iload_n 3, 1) := by decide +kernel
theorem d_Ke_end_33 : decode b_Ke_end 33 = .ok (.iconst 4, 1) := by decide +kernel
theorem d_Ke_end_34 : decode b_Ke_end 34 = .ok (.if_icmp .ge 35, 3) := by decide +kernel
theorem d_Ke_end_37 : decode b_Ke_end 37 = .ok (.aload_n 0, 1) := by decide +kernel
theorem d_Ke_end_38 : decode b_Ke_end 38 = .ok (.getfield 37, 3) := by decide +kernel
theorem d_Ke_end_41 : decode b_Ke_end 41 = .ok (.iload_n 3, 1) := by decide +kernel
theorem d_Ke_end_42 : decode b_Ke_end 42 = .ok (.aaload, 1) := by decide +kernel
theorem d_Ke_end_43 : decode b_Ke_end 43 = .ok (.getfield 132, 3) := by decide +kernel
theorem d_Ke_end_46 : decode b_Ke_end 46 = .ok (.aload_n 1, 1) := by decide +kernel
theorem d_Ke_end_47 : decode b_Ke_end 47 = .ok (.getfield 273, 3) := by decide +kernel
theorem d_Ke_end_50 : decode b_Ke_end 50 = .ok (.if_icmp .ne 13, 3) := by decide +kernel
theorem d_Ke_end_53 : decode b_Ke_end 53 = .ok (.aload_n 0, 1) := by decide +kernel
theorem d_Ke_end_54 : decode b_Ke_end 54 = .ok (.aload_n 0, 1) := by decide +kernel
theorem d_Ke_end_55 : decode b_Ke_end 55 = .ok (.getfield 37, 3) := by decide +kernel
theorem d_Ke_end_58 : decode b_Ke_end 58 = .ok (.iload_n 3, 1) := by decide +kernel
theorem d_Ke_end_59 : decode b_Ke_end 59 = .ok (.aaload, 1) := by decide +kernel
theorem d_Ke_end_60 : decode b_Ke_end 60 = .ok (.invokevirtual 290, 3) := by decide +kernel
theorem d_Ke_end_63 : decode b_Ke_end 63 = .ok (.iinc 3 1, 3) := by decide +kernel
theorem d_Ke_end_66 : decode b_Ke_end 66 = .ok (.goto (-34), 3) := by decide +kernel
theorem d_Ke_end_69 : decode b_Ke_end 69 = .ok (.aload_n 0, 1) := by decide +kernel
theorem d_Ke_end_70 : decode b_Ke_end 70 = .ok (.aload_n 1, 1) := by decide +kernel
theorem d_Ke_end_71 : decode b_Ke_end 71 = .ok (.invokevirtual 294, 3) := by decide +kernel
theorem d_Ke_end_74 : decode b_Ke_end 74 = .ok (.return_, 1) := by decide +kernel
theorem d_Ke_handOverChildren_0 : decode b_Ke_handOverChildren 0 = .ok (.iconst 0, 1) := by decide +kernel
theorem d_Ke_handOverChildren_1 : decode b_Ke_handOverChildren 1 = .ok (.istore_n 2, 1) := by decide +kernel
theorem d_Ke_handOverChildren_2 : decode b_Ke_handOverChildren 2 = .ok (.iload_n 2, 1) := by decide +kernel
theorem d_Ke_handOverChildren_3 : decode b_Ke_handOverChildren 3 = .ok (.bipush 6, 2) := by decide +kernel
theorem d_Ke_handOverChildren_5 : decode b_Ke_handOverChildren 5 = .ok (.if_icmp .ge 51, 3) := by decide +kernel
theorem d_Ke_handOverChildren_8 : decode b_Ke_handOverChildren 8 = .ok (.aload_n 0, 1) := by decide +kernel
theorem d_Ke_handOverChildren_9 : decode b_Ke_handOverChildren 9 = .ok (.getfield 25, 3) := by decide +kernel
theorem d_Ke_handOverChildren_12 : decode b_Ke_handOverChildren 12 = .ok (.iload_n 2, 1) := by decide +kernel
theorem d_Ke_handOverChildren_13 : decode b_Ke_handOverChildren 13 = .ok (.aaload, 1) := by decide +kernel
theorem d_Ke_handOverChildren_14 : decode b_Ke_handOverChildren 14 = .ok (.getfield 98, 3) := by decide +kernel
theorem d_Ke_handOverChildren_17 : decode b_Ke_handOverChildren 17 = .ok (.iconst (-1), 1) := by decide +kernel
theorem d_Ke_handOverChildren_18 : decode b_Ke_handOverChildren 18 = .ok (.if_icmp .eq 32, 3) := by decide +kernel
theorem d_Ke_handOverChildren_21 : decode b_Ke_handOverChildren 21 = .ok (.aload_n 0, 1) := by decide +kernel
theorem d_Ke_handOverChildren_22 : decode b_Ke_handOverChildren 22 = .ok (.getfield 25, 3) := by decide +kernel
theorem d_Ke_handOverChildren_25 : decode b_Ke_handOverChildren 25 = .ok (.iload_n 2, 1) := by decide +kernel
theorem d_Ke_handOverChildren_26 : decode b_Ke_handOverChildren 26 = .ok (.aaload, 1) := by decide +kernel
theorem d_Ke_handOverChildren_27 : decode b_Ke_handOverChildren 27 = .ok (.getfield 116, 3) := by decide +kernel
theorem d_Ke_handOverChildren_30 : decode b_Ke_handOverChildren 30 = .ok (.aload_n 1, 1) := by decide +kernel
theorem d_Ke_handOverChildren_31 : decode b_Ke_handOverChildren 31 = .ok (.getfield 273, 3) := by decide +kernel
theorem d_Ke_handOverChildren_34 : decode b_Ke_handOverChildren 34 = .ok (.if_icmp .ne 16, 3) := by decide +kernel
theorem d_Ke_handOverChildren_37 : decode b_Ke_handOverChildren 37 = .ok (.aload_n 0, 1) := by decide +kernel
theorem d_Ke_handOverChildren_38 : decode b_Ke_handOverChildren 38 = .ok (.getfield 25, 3) := by decide +kernel
theorem d_Ke_handOverChildren_41 : decode b_Ke_handOverChildren 41 = .ok (.iload_n 2, 1) := by decide +kernel
theorem d_Ke_handOverChildren_42 : decode b_Ke_handOverChildren 42 = .ok (.aaload, 1) := by decide +kernel
theorem d_Ke_handOverChildren_43 : decode b_Ke_handOverChildren 43 = .ok (.aload_n 1, 1) := by decide +kernel
theorem d_Ke_handOverChildren_44 : decode b_Ke_handOverChildren 44 = .ok (.getfield 116, 3) := by decide +kernel
theorem d_Ke_handOverChildren_47 : decode b_Ke_handOverChildren 47 = .ok (.putfield 116, 3) := by decide +kernel
theorem d_Ke_handOverChildren_50 : decode b_Ke_handOverChildren 50 = .ok (.iinc 2 1, 3) := by decide +kernel
theorem d_Ke_handOverChildren_53 : decode b_Ke_handOverChildren 53 = .ok (.goto (-51), 3) := by decide +kernel
theorem d_Ke_handOverChildren_56 : decode b_Ke_handOverChildren 56 = .ok (.aload_n 1, 1) := by decide +kernel
theorem d_Ke_handOverChildren_57 : decode b_Ke_handOverChildren 57 = .ok (.dup, 1) := by decide +kernel
theorem d_Ke_handOverChildren_58 : decode b_Ke_handOverChildren 58 = .ok (.getfield 107, 3) := by decide +kernel
theorem d_Ke_handOverChildren_61 : decode b_Ke_handOverChildren 61 = .ok (.aload_n 1, 1) := by decide +kernel
theorem d_Ke_handOverChildren_62 : decode b_Ke_handOverChildren 62 = .ok (.getfield 113, 3) := by decide +kernel
theorem d_Ke_handOverChildren_65 : decode b_Ke_handOverChildren 65 = .ok (.isub, 1) := by decide +kernel
theorem d_Ke_handOverChildren_66 : decode b_Ke_handOverChildren 66 = .ok (.putfield 107, 3) := by decide +kernel
theorem d_Ke_handOverChildren_69 : decode b_Ke_handOverChildren 69 = .ok (.aload_n 1, 1) := by decide +kernel
theorem d_Ke_handOverChildren_70 : decode b_Ke_handOverChildren 70 = .ok (.iconst 0, 1) := by decide +kernel
theorem d_Ke_handOverChildren_71 : decode b_Ke_handOverChildren 71 = .ok (.putfield 113, 3) := by decide +kernel
theorem d_Ke_handOverChildren_74 : decode b_Ke_handOverChildren 74 = .ok (.return_, 1) := by decide +kernel
theorem d_Ke_block_0 : decode b_Ke_block 0 = .ok (.aload_n 0, 1) := by decide +kernel
theorem d_Ke_block_1 : decode b_Ke_block 1 = .ok (.iconst 2, 1) := by decide +kernel
theorem d_Ke_block_2 : decode b_Ke_block 2 = .ok (.putfield 98, 3) := by decide +kernel
theorem d_Ke_block_5 : decode b_Ke_block 5 = .ok (.aload_n 0, 1) := by decide +kernel
theorem d_Ke_block_6 : decode b_Ke_block 6 = .ok (.iload_n 1, 1) := by decide +kernel
theorem d_Ke_block_7 : decode b_Ke_block 7 = .ok (.putfield 286, 3) := by decide +kernel
theorem d_Ke_block_10 : decode b_Ke_block 10 = .ok (.aload_n 2, 1) := by decide +kernel
theorem d_Ke_block_11 : decode b_Ke_block 11 = .ok (.aload_n 0, 1) := by decide +kernel
theorem d_Ke_block_12 : decode b_Ke_block 12 = .ok (.getfield 273, 3) := by decide +kernel
theorem d_Ke_block_15 : decode b_Ke_block 15 = .ok (.invokevirtual 297, 3) := by decide +kernel
theorem d_Ke_block_18 : decode b_Ke_block 18 = .ok (.return_, 1) := by decide +kernel
theorem d_Ke_makeReady_0 : decode b_Ke_makeReady 0 = .ok (.aload_n 1, 1) := by decide +kernel
theorem d_Ke_makeReady_1 : decode b_Ke_makeReady 1 = .ok (.iconst 0, 1) := by decide +kernel
theorem d_Ke_makeReady_2 : decode b_Ke_makeReady 2 = .ok (.putfield 98, 3) := by decide +kernel
theorem d_Ke_makeReady_5 : decode b_Ke_makeReady 5 = .ok (.aload_n 0, 1) := by decide +kernel
theorem d_Ke_makeReady_6 : decode b_Ke_makeReady 6 = .ok (.getfield 31, 3) := by decide +kernel
theorem d_Ke_makeReady_9 : decode b_Ke_makeReady 9 = .ok (.aload_n 1, 1) := by decide +kernel
theorem d_Ke_makeReady_10 : decode b_Ke_makeReady 10 = .ok (.getfield 273, 3) := by decide +kernel
theorem d_Ke_makeReady_13 : decode b_Ke_makeReady 13 = .ok (.iconst 2, 1) := by decide +kernel
theorem d_Ke_makeReady_14 : decode b_Ke_makeReady 14 = .ok (.irem, 1) := by decide +kernel
theorem d_Ke_makeReady_15 : decode b_Ke_makeReady 15 = .ok (.aaload, 1) := by decide +kernel
theorem d_Ke_makeReady_16 : decode b_Ke_makeReady 16 = .ok (.getfield 176, 3) := by decide +kernel
theorem d_Ke_makeReady_19 : decode b_Ke_makeReady 19 = .ok (.aload_n 1, 1) := by decide +kernel
theorem d_Ke_makeReady_20 : decode b_Ke_makeReady 20 = .ok (.getfield 273, 3) := by decide +kernel
theorem d_Ke_makeReady_23 : decode b_Ke_makeReady 23 = .ok (.invokevirtual 297, 3) := by decide +kernel
theorem d_Ke_makeReady_26 : decode b_Ke_makeReady 26 = .ok (.return_, 1) := by decide +kernel
theorem d_Ch_init_0 : decode b_Ch_init 0 = .ok (.aload_n 0, 1) := by decide +kernel
theorem d_Ch_init_1 : decode b_Ch_init 1 = .ok (.invokespecial 3, 3) := by decide +kernel
theorem d_Ch_init_4 : decode b_Ch_init 4 = .ok (.aload_n 0, 1) := by decide +kernel
theorem d_Ch_init_5 : decode b_Ch_init 5 = .ok (.new 9, 3) := by decide +kernel
theorem d_Ch_init_8 : decode b_Ch_init 8 = .ok (.dup, 1) := by decide +kernel
theorem d_Ch_init_9 : decode b_Ch_init 9 = .ok (.invokespecial 11, 3) := by decide +kernel
theorem d_Ch_init_12 : decode b_Ch_init 12 = .ok (.putfield 12, 3) := by decide +kernel
theorem d_Ch_init_15 : decode b_Ch_init 15 = .ok (.aload_n 0, 1) := by decide +kernel
theorem d_Ch_init_16 : decode b_Ch_init 16 = .ok (.new 9, 3) := by decide +kernel
theorem d_Ch_init_19 : decode b_Ch_init 19 = .ok (.dup, 1) := by decide +kernel
theorem d_Ch_init_20 : decode b_Ch_init 20 = .ok (.invokespecial 11, 3) := by decide +kernel
theorem d_Ch_init_23 : decode b_Ch_init 23 = .ok (.putfield 18, 3) := by decide +kernel
theorem d_Ch_init_26 : decode b_Ch_init 26 = .ok (.aload_n 0, 1) := by decide +kernel
theorem d_Ch_init_27 : decode b_Ch_init 27 = .ok (.iconst 2, 1) := by decide +kernel
theorem d_Ch_init_28 : decode b_Ch_init 28 = .ok (.newarray .int, 2) := by decide +kernel
theorem d_Ch_init_30 : decode b_Ch_init 30 = .ok (.putfield 21, 3) := by decide +kernel
theorem d_Ch_init_33 : decode b_Ch_init 33 = .ok (.return_, 1) := by decide +kernel
theorem d_Ch_isFull_0 : decode b_Ch_isFull 0 = .ok (.aload_n 0, 1) := by decide +kernel
theorem d_Ch_isFull_1 : decode b_Ch_isFull 1 = .ok (.getfield 25, 3) := by decide +kernel
theorem d_Ch_isFull_4 : decode b_Ch_isFull 4 = .ok (.iconst 2, 1) := by decide +kernel
theorem d_Ch_isFull_5 : decode b_Ch_isFull 5 = .ok (.if_icmp .lt 7, 3) := by decide +kernel
theorem d_Ch_isFull_8 : decode b_Ch_isFull 8 = .ok (.iconst 1, 1) := by decide +kernel
theorem d_Ch_isFull_9 : decode b_Ch_isFull 9 = .ok (.goto 4, 3) := by decide +kernel
theorem d_Ch_isFull_12 : decode b_Ch_isFull 12 = .ok (.iconst 0, 1) := by decide +kernel
theorem d_Ch_isFull_13 : decode b_Ch_isFull 13 = .ok (.ireturn, 1) := by decide +kernel
theorem d_Ch_put_0 : decode b_Ch_put 0 = .ok (.aload_n 0, 1) := by decide +kernel
theorem d_Ch_put_1 : decode b_Ch_put 1 = .ok (.invokevirtual 29, 3) := by decide +kernel
theorem d_Ch_put_4 : decode b_Ch_put 4 = .ok (.ifCond .ne 23, 3) := by decide +kernel
theorem d_Ch_put_7 : decode b_Ch_put 7 = .ok (.aload_n 0, 1) := by decide +kernel
theorem d_Ch_put_8 : decode b_Ch_put 8 = .ok (.getfield 21, 3) := by decide +kernel
theorem d_Ch_put_11 : decode b_Ch_put 11 = .ok (.aload_n 0, 1) := by decide +kernel
theorem d_Ch_put_12 : decode b_Ch_put 12 = .ok (.getfield 25, 3) := by decide +kernel
theorem d_Ch_put_15 : decode b_Ch_put 15 = .ok (.iload_n 1, 1) := by decide +kernel
theorem d_Ch_put_16 : decode b_Ch_put 16 = .ok (.iastore, 1) := by decide +kernel
theorem d_Ch_put_17 : decode b_Ch_put 17 = .ok (.aload_n 0, 1) := by decide +kernel
theorem d_Ch_put_18 : decode b_Ch_put 18 = .ok (.dup, 1) := by decide +kernel
theorem d_Ch_put_19 : decode b_Ch_put 19 = .ok (.getfield 25, 3) := by decide +kernel
theorem d_Ch_put_22 : decode b_Ch_put 22 = .ok (.iconst 1, 1) := by decide +kernel
theorem d_Ch_put_23 : decode b_Ch_put 23 = .ok (.iadd, 1) := by decide +kernel
theorem d_Ch_put_24 : decode b_Ch_put 24 = .ok (.putfield 25, 3) := by decide +kernel
theorem d_Ch_put_27 : decode b_Ch_put 27 = .ok (.return_, 1) := by decide +kernel
theorem d_Ch_takeFirst_0 : decode b_Ch_takeFirst 0 = .ok (.aload_n 0, 1) := by decide +kernel
theorem d_Ch_takeFirst_1 : decode b_Ch_takeFirst 1 = .ok (.getfield 21, 3) := by decide +kernel
theorem d_Ch_takeFirst_4 : decode b_Ch_takeFirst 4 = .ok (.iconst 0, 1) := by decide +kernel
theorem d_Ch_takeFirst_5 : decode b_Ch_takeFirst 5 = .ok (.iaload, 1) := by decide +kernel
theorem d_Ch_takeFirst_6 : decode b_Ch_takeFirst 6 = .ok (.istore_n 1, 1) := by decide +kernel
theorem d_Ch_takeFirst_7 : decode b_Ch_takeFirst 7 = .ok (.aload_n 0, 1) := by decide +kernel
theorem d_Ch_takeFirst_8 : decode b_Ch_takeFirst 8 = .ok (.getfield 25, 3) := by decide +kernel
theorem d_Ch_takeFirst_11 : decode b_Ch_takeFirst 11 = .ok (.ifCond .le 30, 3) := by decide +kernel
theorem d_Ch_takeFirst_14 : decode b_Ch_takeFirst 14 = .ok (.aload_n 0, 1) := by decide +kernel
theorem d_Ch_takeFirst_15 : decode b_Ch_takeFirst 15 = .ok (.dup, 1) := by decide +kernel
theorem d_Ch_takeFirst_16 : decode b_Ch_takeFirst 16 = .ok (.getfield 25, 3) := by decide +kernel
theorem d_Ch_takeFirst_19 : decode b_Ch_takeFirst 19 = .ok (.iconst 1, 1) := by decide +kernel
theorem d_Ch_takeFirst_20 : decode b_Ch_takeFirst 20 = .ok (.isub, 1) := by decide +kernel
theorem d_Ch_takeFirst_21 : decode b_Ch_takeFirst 21 = .ok (.putfield 25, 3) := by decide +kernel
theorem d_Ch_takeFirst_24 : decode b_Ch_takeFirst 24 = .ok (.aload_n 0, 1) := by decide +kernel
theorem d_Ch_takeFirst_25 : decode b_Ch_takeFirst 25 = .ok (.getfield 21, 3) := by decide +kernel
theorem d_Ch_takeFirst_28 : decode b_Ch_takeFirst 28 = .ok (.iconst 1, 1) := by decide +kernel
theorem d_Ch_takeFirst_29 : decode b_Ch_takeFirst 29 = .ok (.aload_n 0, 1) := by decide +kernel
theorem d_Ch_takeFirst_30 : decode b_Ch_takeFirst 30 = .ok (.getfield 21, 3) := by decide +kernel
theorem d_Ch_takeFirst_33 : decode b_Ch_takeFirst 33 = .ok (.iconst 0, 1) := by decide +kernel
theorem d_Ch_takeFirst_34 : decode b_Ch_takeFirst 34 = .ok (.aload_n 0, 1) := by decide +kernel
theorem d_Ch_takeFirst_35 : decode b_Ch_takeFirst 35 = .ok (.getfield 25, 3) := by decide +kernel
theorem d_Ch_takeFirst_38 : decode b_Ch_takeFirst 38 = .ok (.invokestatic 33, 3) := by decide +kernel
theorem d_Ch_takeFirst_41 : decode b_Ch_takeFirst 41 = .ok (.iload_n 1, 1) := by decide +kernel
theorem d_Ch_takeFirst_42 : decode b_Ch_takeFirst 42 = .ok (.ireturn, 1) := by decide +kernel
theorem d_Fr_init_0 : decode b_Fr_init 0 = .ok (.aload_n 0, 1) := by decide +kernel
theorem d_Fr_init_1 : decode b_Fr_init 1 = .ok (.invokespecial 3, 3) := by decide +kernel
theorem d_Fr_init_4 : decode b_Fr_init 4 = .ok (.aload_n 0, 1) := by decide +kernel
theorem d_Fr_init_5 : decode b_Fr_init 5 = .ok (.bipush 96, 2) := by decide +kernel
theorem d_Fr_init_7 : decode b_Fr_init 7 = .ok (.newarray .int, 2) := by decide +kernel
theorem d_Fr_init_9 : decode b_Fr_init 9 = .ok (.putfield 9, 3) := by decide +kernel
theorem d_Fr_init_12 : decode b_Fr_init 12 = .ok (.aload_n 0, 1) := by decide +kernel
theorem d_Fr_init_13 : decode b_Fr_init 13 = .ok (.bipush 12, 2) := by decide +kernel
theorem d_Fr_init_15 : decode b_Fr_init 15 = .ok (.newarray .boolean, 2) := by decide +kernel
theorem d_Fr_init_17 : decode b_Fr_init 17 = .ok (.putfield 15, 3) := by decide +kernel
theorem d_Fr_init_20 : decode b_Fr_init 20 = .ok (.aload_n 0, 1) := by decide +kernel
theorem d_Fr_init_21 : decode b_Fr_init 21 = .ok (.bipush 12, 2) := by decide +kernel
theorem d_Fr_init_23 : decode b_Fr_init 23 = .ok (.putfield 19, 3) := by decide +kernel
theorem d_Fr_init_26 : decode b_Fr_init 26 = .ok (.return_, 1) := by decide +kernel
theorem d_Fr_read_0 : decode b_Fr_read 0 = .ok (.aload_n 0, 1) := by decide +kernel
theorem d_Fr_read_1 : decode b_Fr_read 1 = .ok (.getfield 9, 3) := by decide +kernel
theorem d_Fr_read_4 : decode b_Fr_read 4 = .ok (.iload_n 1, 1) := by decide +kernel
theorem d_Fr_read_5 : decode b_Fr_read 5 = .ok (.bipush 8, 2) := by decide +kernel
theorem d_Fr_read_7 : decode b_Fr_read 7 = .ok (.imul, 1) := by decide +kernel
theorem d_Fr_read_8 : decode b_Fr_read 8 = .ok (.iload_n 2, 1) := by decide +kernel
theorem d_Fr_read_9 : decode b_Fr_read 9 = .ok (.iadd, 1) := by decide +kernel
theorem d_Fr_read_10 : decode b_Fr_read 10 = .ok (.iaload, 1) := by decide +kernel
theorem d_Fr_read_11 : decode b_Fr_read 11 = .ok (.ireturn, 1) := by decide +kernel
theorem d_Fr_write_0 : decode b_Fr_write 0 = .ok (.aload_n 0, 1) := by decide +kernel
theorem d_Fr_write_1 : decode b_Fr_write 1 = .ok (.getfield 9, 3) := by decide +kernel
theorem d_Fr_write_4 : decode b_Fr_write 4 = .ok (.iload_n 1, 1) := by decide +kernel
theorem d_Fr_write_5 : decode b_Fr_write 5 = .ok (.bipush 8, 2) := by decide +kernel
theorem d_Fr_write_7 : decode b_Fr_write 7 = .ok (.imul, 1) := by decide +kernel
theorem d_Fr_write_8 : decode b_Fr_write 8 = .ok (.iload_n 2, 1) := by decide +kernel
theorem d_Fr_write_9 : decode b_Fr_write 9 = .ok (.iadd, 1) := by decide +kernel
theorem d_Fr_write_10 : decode b_Fr_write 10 = .ok (.iload_n 3, 1) := by decide +kernel
theorem d_Fr_write_11 : decode b_Fr_write 11 = .ok (.iastore, 1) := by decide +kernel
theorem d_Fr_write_12 : decode b_Fr_write 12 = .ok (.return_, 1) := by decide +kernel
theorem d_Fr_takeLeast_0 : decode b_Fr_takeLeast 0 = .ok (.iconst 0, 1) := by decide +kernel
theorem d_Fr_takeLeast_1 : decode b_Fr_takeLeast 1 = .ok (.istore_n 1, 1) := by decide +kernel
theorem d_Fr_takeLeast_2 : decode b_Fr_takeLeast 2 = .ok (.iload_n 1, 1) := by decide +kernel
theorem d_Fr_takeLeast_3 : decode b_Fr_takeLeast 3 = .ok (.bipush 12, 2) := by decide +kernel
theorem d_Fr_takeLeast_5 : decode b_Fr_takeLeast 5 = .ok (.if_icmp .ge 42, 3) := by decide +kernel
theorem d_Fr_takeLeast_8 : decode b_Fr_takeLeast 8 = .ok (.aload_n 0, 1) := by decide +kernel
theorem d_Fr_takeLeast_9 : decode b_Fr_takeLeast 9 = .ok (.getfield 15, 3) := by decide +kernel
theorem d_Fr_takeLeast_12 : decode b_Fr_takeLeast 12 = .ok (.iload_n 1, 1) := by decide +kernel
theorem d_Fr_takeLeast_13 : decode b_Fr_takeLeast 13 = .ok (.baload, 1) := by decide +kernel
theorem d_Fr_takeLeast_14 : decode b_Fr_takeLeast 14 = .ok (.ifCond .ne 27, 3) := by decide +kernel
theorem d_Fr_takeLeast_17 : decode b_Fr_takeLeast 17 = .ok (.aload_n 0, 1) := by decide +kernel
theorem d_Fr_takeLeast_18 : decode b_Fr_takeLeast 18 = .ok (.getfield 15, 3) := by decide +kernel
theorem d_Fr_takeLeast_21 : decode b_Fr_takeLeast 21 = .ok (.iload_n 1, 1) := by decide +kernel
theorem d_Fr_takeLeast_22 : decode b_Fr_takeLeast 22 = .ok (.iconst 1, 1) := by decide +kernel
theorem d_Fr_takeLeast_23 : decode b_Fr_takeLeast 23 = .ok (.bastore, 1) := by decide +kernel
theorem d_Fr_takeLeast_24 : decode b_Fr_takeLeast 24 = .ok (.aload_n 0, 1) := by decide +kernel
theorem d_Fr_takeLeast_25 : decode b_Fr_takeLeast 25 = .ok (.dup, 1) := by decide +kernel
theorem d_Fr_takeLeast_26 : decode b_Fr_takeLeast 26 = .ok (.getfield 19, 3) := by decide +kernel
theorem d_Fr_takeLeast_29 : decode b_Fr_takeLeast 29 = .ok (.iconst 1, 1) := by decide +kernel
theorem d_Fr_takeLeast_30 : decode b_Fr_takeLeast 30 = .ok (.isub, 1) := by decide +kernel
theorem d_Fr_takeLeast_31 : decode b_Fr_takeLeast 31 = .ok (.putfield 19, 3) := by decide +kernel
theorem d_Fr_takeLeast_34 : decode b_Fr_takeLeast 34 = .ok (.aload_n 0, 1) := by decide +kernel
theorem d_Fr_takeLeast_35 : decode b_Fr_takeLeast 35 = .ok (.iload_n 1, 1) := by decide +kernel
theorem d_Fr_takeLeast_36 : decode b_Fr_takeLeast 36 = .ok (.invokevirtual 23, 3) := by decide +kernel
theorem d_Fr_takeLeast_39 : decode b_Fr_takeLeast 39 = .ok (.iload_n 1, 1) := by decide +kernel
theorem d_Fr_takeLeast_40 : decode b_Fr_takeLeast 40 = .ok (.ireturn, 1) := by decide +kernel
theorem d_Fr_takeLeast_41 : decode b_Fr_takeLeast 41 = .ok (.iinc 1 1, 3) := by decide +kernel
theorem d_Fr_takeLeast_44 : decode b_Fr_takeLeast 44 = .ok (.goto (-42), 3) := by decide +kernel
theorem d_Fr_takeLeast_47 : decode b_Fr_takeLeast 47 = .ok (.iconst (-1), 1) := by decide +kernel
theorem d_Fr_takeLeast_48 : decode b_Fr_takeLeast 48 = .ok (.ireturn, 1) := by decide +kernel
theorem d_Fr_clear_0 : decode b_Fr_clear 0 = .ok (.iconst 0, 1) := by decide +kernel
theorem d_Fr_clear_1 : decode b_Fr_clear 1 = .ok (.istore_n 2, 1) := by decide +kernel
theorem d_Fr_clear_2 : decode b_Fr_clear 2 = .ok (.iload_n 2, 1) := by decide +kernel
theorem d_Fr_clear_3 : decode b_Fr_clear 3 = .ok (.bipush 8, 2) := by decide +kernel
theorem d_Fr_clear_5 : decode b_Fr_clear 5 = .ok (.if_icmp .ge 16, 3) := by decide +kernel
theorem d_Fr_clear_8 : decode b_Fr_clear 8 = .ok (.aload_n 0, 1) := by decide +kernel
theorem d_Fr_clear_9 : decode b_Fr_clear 9 = .ok (.iload_n 1, 1) := by decide +kernel
theorem d_Fr_clear_10 : decode b_Fr_clear 10 = .ok (.iload_n 2, 1) := by decide +kernel
theorem d_Fr_clear_11 : decode b_Fr_clear 11 = .ok (.iconst 0, 1) := by decide +kernel
theorem d_Fr_clear_12 : decode b_Fr_clear 12 = .ok (.invokevirtual 27, 3) := by decide +kernel
theorem d_Fr_clear_15 : decode b_Fr_clear 15 = .ok (.iinc 2 1, 3) := by decide +kernel
theorem d_Fr_clear_18 : decode b_Fr_clear 18 = .ok (.goto (-16), 3) := by decide +kernel
theorem d_Fr_clear_21 : decode b_Fr_clear 21 = .ok (.return_, 1) := by decide +kernel
theorem d_Fr_giveBack_0 : decode b_Fr_giveBack 0 = .ok (.aload_n 0, 1) := by decide +kernel
theorem d_Fr_giveBack_1 : decode b_Fr_giveBack 1 = .ok (.getfield 15, 3) := by decide +kernel
theorem d_Fr_giveBack_4 : decode b_Fr_giveBack 4 = .ok (.iload_n 1, 1) := by decide +kernel
theorem d_Fr_giveBack_5 : decode b_Fr_giveBack 5 = .ok (.iconst 0, 1) := by decide +kernel
theorem d_Fr_giveBack_6 : decode b_Fr_giveBack 6 = .ok (.bastore, 1) := by decide +kernel
theorem d_Fr_giveBack_7 : decode b_Fr_giveBack 7 = .ok (.aload_n 0, 1) := by decide +kernel
theorem d_Fr_giveBack_8 : decode b_Fr_giveBack 8 = .ok (.dup, 1) := by decide +kernel
theorem d_Fr_giveBack_9 : decode b_Fr_giveBack 9 = .ok (.getfield 19, 3) := by decide +kernel
theorem d_Fr_giveBack_12 : decode b_Fr_giveBack 12 = .ok (.iconst 1, 1) := by decide +kernel
theorem d_Fr_giveBack_13 : decode b_Fr_giveBack 13 = .ok (.iadd, 1) := by decide +kernel
theorem d_Fr_giveBack_14 : decode b_Fr_giveBack 14 = .ok (.putfield 19, 3) := by decide +kernel
theorem d_Fr_giveBack_17 : decode b_Fr_giveBack 17 = .ok (.return_, 1) := by decide +kernel
theorem d_Gu_begin_0 : decode b_Gu_begin 0 = .ok (.aload_n 0, 1) := by decide +kernel
theorem d_Gu_begin_1 : decode b_Gu_begin 1 = .ok (.getfield 9, 3) := by decide +kernel
theorem d_Gu_begin_4 : decode b_Gu_begin 4 = .ok (.iconst 0, 1) := by decide +kernel
theorem d_Gu_begin_5 : decode b_Gu_begin 5 = .ok (.invokestatic 25, 3) := by decide +kernel
theorem d_Gu_begin_8 : decode b_Gu_begin 8 = .ok (.aload_n 0, 1) := by decide +kernel
theorem d_Gu_begin_9 : decode b_Gu_begin 9 = .ok (.getfield 15, 3) := by decide +kernel
theorem d_Gu_begin_12 : decode b_Gu_begin 12 = .ok (.iconst (-1), 1) := by decide +kernel
theorem d_Gu_begin_13 : decode b_Gu_begin 13 = .ok (.invokestatic 25, 3) := by decide +kernel
theorem d_Gu_begin_16 : decode b_Gu_begin 16 = .ok (.aload_n 0, 1) := by decide +kernel
theorem d_Gu_begin_17 : decode b_Gu_begin 17 = .ok (.iload_n 1, 1) := by decide +kernel
theorem d_Gu_begin_18 : decode b_Gu_begin 18 = .ok (.invokevirtual 31, 3) := by decide +kernel
theorem d_Gu_begin_21 : decode b_Gu_begin 21 = .ok (.aload_n 0, 1) := by decide +kernel
theorem d_Gu_begin_22 : decode b_Gu_begin 22 = .ok (.iconst (-1), 1) := by decide +kernel
theorem d_Gu_begin_23 : decode b_Gu_begin 23 = .ok (.putfield 35, 3) := by decide +kernel
theorem d_Gu_begin_26 : decode b_Gu_begin 26 = .ok (.aload_n 0, 1) := by decide +kernel
theorem d_Gu_begin_27 : decode b_Gu_begin 27 = .ok (.iload_n 2, 1) := by decide +kernel
theorem d_Gu_begin_28 : decode b_Gu_begin 28 = .ok (.putfield 38, 3) := by decide +kernel
theorem d_Gu_begin_31 : decode b_Gu_begin 31 = .ok (.aload_n 0, 1) := by decide +kernel
theorem d_Gu_begin_32 : decode b_Gu_begin 32 = .ok (.iconst 0, 1) := by decide +kernel
theorem d_Gu_begin_33 : decode b_Gu_begin 33 = .ok (.putfield 41, 3) := by decide +kernel
theorem d_Gu_begin_36 : decode b_Gu_begin 36 = .ok (.aload_n 0, 1) := by decide +kernel
theorem d_Gu_begin_37 : decode b_Gu_begin 37 = .ok (.iconst 0, 1) := by decide +kernel
theorem d_Gu_begin_38 : decode b_Gu_begin 38 = .ok (.putfield 44, 3) := by decide +kernel
theorem d_Gu_begin_41 : decode b_Gu_begin 41 = .ok (.aload_n 0, 1) := by decide +kernel
theorem d_Gu_begin_42 : decode b_Gu_begin 42 = .ok (.iload_n 3, 1) := by decide +kernel
theorem d_Gu_begin_43 : decode b_Gu_begin 43 = .ok (.putfield 47, 3) := by decide +kernel
theorem d_Gu_begin_46 : decode b_Gu_begin 46 = .ok (.aload_n 0, 1) := by decide +kernel
theorem d_Gu_begin_47 : decode b_Gu_begin 47 = .ok (.iconst 0, 1) := by decide +kernel
theorem d_Gu_begin_48 : decode b_Gu_begin 48 = .ok (.putfield 50, 3) := by decide +kernel
theorem d_Gu_begin_51 : decode b_Gu_begin 51 = .ok (.aload_n 0, 1) := by decide +kernel
theorem d_Gu_begin_52 : decode b_Gu_begin 52 = .ok (.iconst 0, 1) := by decide +kernel
theorem d_Gu_begin_53 : decode b_Gu_begin 53 = .ok (.putfield 53, 3) := by decide +kernel
theorem d_Gu_begin_56 : decode b_Gu_begin 56 = .ok (.return_, 1) := by decide +kernel
theorem d_Gu_goTo_0 : decode b_Gu_goTo 0 = .ok (.aload_n 0, 1) := by decide +kernel
theorem d_Gu_goTo_1 : decode b_Gu_goTo 1 = .ok (.iload_n 1, 1) := by decide +kernel
theorem d_Gu_goTo_2 : decode b_Gu_goTo 2 = .ok (.bipush 32, 2) := by decide +kernel
theorem d_Gu_goTo_4 : decode b_Gu_goTo 4 = .ok (.invokestatic 56, 3) := by decide +kernel
theorem d_Gu_goTo_7 : decode b_Gu_goTo 7 = .ok (.putfield 62, 3) := by decide +kernel
theorem d_Gu_goTo_10 : decode b_Gu_goTo 10 = .ok (.return_, 1) := by decide +kernel
theorem d_Gu_quotaLeft_0 : decode b_Gu_quotaLeft 0 = .ok (.aload_n 0, 1) := by decide +kernel
theorem d_Gu_quotaLeft_1 : decode b_Gu_quotaLeft 1 = .ok (.getfield 38, 3) := by decide +kernel
theorem d_Gu_quotaLeft_4 : decode b_Gu_quotaLeft 4 = .ok (.aload_n 0, 1) := by decide +kernel
theorem d_Gu_quotaLeft_5 : decode b_Gu_quotaLeft 5 = .ok (.getfield 41, 3) := by decide +kernel
theorem d_Gu_quotaLeft_8 : decode b_Gu_quotaLeft 8 = .ok (.isub, 1) := by decide +kernel
theorem d_Gu_quotaLeft_9 : decode b_Gu_quotaLeft 9 = .ok (.aload_n 0, 1) := by decide +kernel
theorem d_Gu_quotaLeft_10 : decode b_Gu_quotaLeft 10 = .ok (.getfield 44, 3) := by decide +kernel
theorem d_Gu_quotaLeft_13 : decode b_Gu_quotaLeft 13 = .ok (.isub, 1) := by decide +kernel
theorem d_Gu_quotaLeft_14 : decode b_Gu_quotaLeft 14 = .ok (.ireturn, 1) := by decide +kernel
theorem d_Gu_calculate_0 : decode b_Gu_calculate 0 = .ok (.iload_n 1, 1) := by decide +kernel
theorem d_Gu_calculate_1 : decode b_Gu_calculate 1 = .ok (.tableswitch 234 1 11 #[59, 70, 88, 106, 124, 142, 234, 234, 171, 195, 213], 59) := by decide +kernel
theorem d_Gu_calculate_60 : decode b_Gu_calculate 60 = .ok (.aload_n 0, 1) := by decide +kernel
theorem d_Gu_calculate_61 : decode b_Gu_calculate 61 = .ok (.getfield 9, 3) := by decide +kernel
theorem d_Gu_calculate_64 : decode b_Gu_calculate 64 = .ok (.iload_n 2, 1) := by decide +kernel
theorem d_Gu_calculate_65 : decode b_Gu_calculate 65 = .ok (.iload 4, 2) := by decide +kernel
theorem d_Gu_calculate_67 : decode b_Gu_calculate 67 = .ok (.iastore, 1) := by decide +kernel
theorem d_Gu_calculate_68 : decode b_Gu_calculate 68 = .ok (.goto 167, 3) := by decide +kernel
theorem d_Gu_calculate_71 : decode b_Gu_calculate 71 = .ok (.aload_n 0, 1) := by decide +kernel
theorem d_Gu_calculate_72 : decode b_Gu_calculate 72 = .ok (.getfield 9, 3) := by decide +kernel
theorem d_Gu_calculate_75 : decode b_Gu_calculate 75 = .ok (.iload_n 2, 1) := by decide +kernel
theorem d_Gu_calculate_76 : decode b_Gu_calculate 76 = .ok (.aload_n 0, 1) := by decide +kernel
theorem d_Gu_calculate_77 : decode b_Gu_calculate 77 = .ok (.getfield 9, 3) := by decide +kernel
theorem d_Gu_calculate_80 : decode b_Gu_calculate 80 = .ok (.iload_n 3, 1) := by decide +kernel
theorem d_Gu_calculate_81 : decode b_Gu_calculate 81 = .ok (.iaload, 1) := by decide +kernel
theorem d_Gu_calculate_82 : decode b_Gu_calculate 82 = .ok (.iload 4, 2) := by decide +kernel
theorem d_Gu_calculate_84 : decode b_Gu_calculate 84 = .ok (.iadd, 1) := by decide +kernel
theorem d_Gu_calculate_85 : decode b_Gu_calculate 85 = .ok (.iastore, 1) := by decide +kernel
theorem d_Gu_calculate_86 : decode b_Gu_calculate 86 = .ok (.goto 149, 3) := by decide +kernel
theorem d_Gu_calculate_89 : decode b_Gu_calculate 89 = .ok (.aload_n 0, 1) := by decide +kernel
theorem d_Gu_calculate_90 : decode b_Gu_calculate 90 = .ok (.getfield 9, 3) := by decide +kernel
theorem d_Gu_calculate_93 : decode b_Gu_calculate 93 = .ok (.iload_n 2, 1) := by decide +kernel
theorem d_Gu_calculate_94 : decode b_Gu_calculate 94 = .ok (.dup2, 1) := by decide +kernel
theorem d_Gu_calculate_95 : decode b_Gu_calculate 95 = .ok (.iaload, 1) := by decide +kernel
theorem d_Gu_calculate_96 : decode b_Gu_calculate 96 = .ok (.aload_n 0, 1) := by decide +kernel
theorem d_Gu_calculate_97 : decode b_Gu_calculate 97 = .ok (.getfield 9, 3) := by decide +kernel
theorem d_Gu_calculate_100 : decode b_Gu_calculate 100 = .ok (.iload_n 3, 1) := by decide +kernel
theorem d_Gu_calculate_101 : decode b_Gu_calculate 101 = .ok (.iaload, 1) := by decide +kernel
theorem d_Gu_calculate_102 : decode b_Gu_calculate 102 = .ok (.iadd, 1) := by decide +kernel
theorem d_Gu_calculate_103 : decode b_Gu_calculate 103 = .ok (.iastore, 1) := by decide +kernel
theorem d_Gu_calculate_104 : decode b_Gu_calculate 104 = .ok (.goto 131, 3) := by decide +kernel
theorem d_Gu_calculate_107 : decode b_Gu_calculate 107 = .ok (.aload_n 0, 1) := by decide +kernel
theorem d_Gu_calculate_108 : decode b_Gu_calculate 108 = .ok (.getfield 9, 3) := by decide +kernel
theorem d_Gu_calculate_111 : decode b_Gu_calculate 111 = .ok (.iload_n 2, 1) := by decide +kernel
theorem d_Gu_calculate_112 : decode b_Gu_calculate 112 = .ok (.dup2, 1) := by decide +kernel
theorem d_Gu_calculate_113 : decode b_Gu_calculate 113 = .ok (.iaload, 1) := by decide +kernel
theorem d_Gu_calculate_114 : decode b_Gu_calculate 114 = .ok (.aload_n 0, 1) := by decide +kernel
theorem d_Gu_calculate_115 : decode b_Gu_calculate 115 = .ok (.getfield 9, 3) := by decide +kernel
theorem d_Gu_calculate_118 : decode b_Gu_calculate 118 = .ok (.iload_n 3, 1) := by decide +kernel
theorem d_Gu_calculate_119 : decode b_Gu_calculate 119 = .ok (.iaload, 1) := by decide +kernel
theorem d_Gu_calculate_120 : decode b_Gu_calculate 120 = .ok (.isub, 1) := by decide +kernel
theorem d_Gu_calculate_121 : decode b_Gu_calculate 121 = .ok (.iastore, 1) := by decide +kernel
theorem d_Gu_calculate_122 : decode b_Gu_calculate 122 = .ok (.goto 113, 3) := by decide +kernel
theorem d_Gu_calculate_125 : decode b_Gu_calculate 125 = .ok (.aload_n 0, 1) := by decide +kernel
theorem d_Gu_calculate_126 : decode b_Gu_calculate 126 = .ok (.getfield 9, 3) := by decide +kernel
theorem d_Gu_calculate_129 : decode b_Gu_calculate 129 = .ok (.iload_n 2, 1) := by decide +kernel
theorem d_Gu_calculate_130 : decode b_Gu_calculate 130 = .ok (.dup2, 1) := by decide +kernel
theorem d_Gu_calculate_131 : decode b_Gu_calculate 131 = .ok (.iaload, 1) := by decide +kernel
theorem d_Gu_calculate_132 : decode b_Gu_calculate 132 = .ok (.aload_n 0, 1) := by decide +kernel
theorem d_Gu_calculate_133 : decode b_Gu_calculate 133 = .ok (.getfield 9, 3) := by decide +kernel
theorem d_Gu_calculate_136 : decode b_Gu_calculate 136 = .ok (.iload_n 3, 1) := by decide +kernel
theorem d_Gu_calculate_137 : decode b_Gu_calculate 137 = .ok (.iaload, 1) := by decide +kernel
theorem d_Gu_calculate_138 : decode b_Gu_calculate 138 = .ok (.imul, 1) := by decide +kernel
theorem d_Gu_calculate_139 : decode b_Gu_calculate 139 = .ok (.iastore, 1) := by decide +kernel
theorem d_Gu_calculate_140 : decode b_Gu_calculate 140 = .ok (.goto 95, 3) := by decide +kernel
theorem d_Gu_calculate_143 : decode b_Gu_calculate 143 = .ok (.aload_n 0, 1) := by decide +kernel
theorem d_Gu_calculate_144 : decode b_Gu_calculate 144 = .ok (.getfield 9, 3) := by decide +kernel
theorem d_Gu_calculate_147 : decode b_Gu_calculate 147 = .ok (.iload_n 3, 1) := by decide +kernel
theorem d_Gu_calculate_148 : decode b_Gu_calculate 148 = .ok (.iaload, 1) := by decide +kernel
theorem d_Gu_calculate_149 : decode b_Gu_calculate 149 = .ok (.ifCond .ne 5, 3) := by decide +kernel
theorem d_Gu_calculate_152 : decode b_Gu_calculate 152 = .ok (.iconst 1, 1) := by decide +kernel
theorem d_Gu_calculate_153 : decode b_Gu_calculate 153 = .ok (.ireturn, 1) := by decide +kernel
theorem d_Gu_calculate_154 : decode b_Gu_calculate 154 = .ok (.aload_n 0, 1) := by decide +kernel
theorem d_Gu_calculate_155 : decode b_Gu_calculate 155 = .ok (.getfield 9, 3) := by decide +kernel
theorem d_Gu_calculate_158 : decode b_Gu_calculate 158 = .ok (.iload_n 2, 1) := by decide +kernel
theorem d_Gu_calculate_159 : decode b_Gu_calculate 159 = .ok (.dup2, 1) := by decide +kernel
theorem d_Gu_calculate_160 : decode b_Gu_calculate 160 = .ok (.iaload, 1) := by decide +kernel
theorem d_Gu_calculate_161 : decode b_Gu_calculate 161 = .ok (.aload_n 0, 1) := by decide +kernel
theorem d_Gu_calculate_162 : decode b_Gu_calculate 162 = .ok (.getfield 9, 3) := by decide +kernel
theorem d_Gu_calculate_165 : decode b_Gu_calculate 165 = .ok (.iload_n 3, 1) := by decide +kernel
theorem d_Gu_calculate_166 : decode b_Gu_calculate 166 = .ok (.iaload, 1) := by decide +kernel
theorem d_Gu_calculate_167 : decode b_Gu_calculate 167 = .ok (.idiv, 1) := by decide +kernel
theorem d_Gu_calculate_168 : decode b_Gu_calculate 168 = .ok (.iastore, 1) := by decide +kernel
theorem d_Gu_calculate_169 : decode b_Gu_calculate 169 = .ok (.goto 66, 3) := by decide +kernel
theorem d_Gu_calculate_172 : decode b_Gu_calculate 172 = .ok (.aload_n 0, 1) := by decide +kernel
theorem d_Gu_calculate_173 : decode b_Gu_calculate 173 = .ok (.getfield 9, 3) := by decide +kernel
theorem d_Gu_calculate_176 : decode b_Gu_calculate 176 = .ok (.iload_n 2, 1) := by decide +kernel
theorem d_Gu_calculate_177 : decode b_Gu_calculate 177 = .ok (.iaload, 1) := by decide +kernel
theorem d_Gu_calculate_178 : decode b_Gu_calculate 178 = .ok (.aload_n 0, 1) := by decide +kernel
theorem d_Gu_calculate_179 : decode b_Gu_calculate 179 = .ok (.getfield 9, 3) := by decide +kernel
theorem d_Gu_calculate_182 : decode b_Gu_calculate 182 = .ok (.iload_n 3, 1) := by decide +kernel
theorem d_Gu_calculate_183 : decode b_Gu_calculate 183 = .ok (.iaload, 1) := by decide +kernel
theorem d_Gu_calculate_184 : decode b_Gu_calculate 184 = .ok (.if_icmp .ge 51, 3) := by decide +kernel
theorem d_Gu_calculate_187 : decode b_Gu_calculate 187 = .ok (.aload_n 0, 1) := by decide +kernel
theorem d_Gu_calculate_188 : decode b_Gu_calculate 188 = .ok (.iload 4, 2) := by decide +kernel
theorem d_Gu_calculate_190 : decode b_Gu_calculate 190 = .ok (.invokevirtual 31, 3) := by decide +kernel
theorem d_Gu_calculate_193 : decode b_Gu_calculate 193 = .ok (.goto 42, 3) := by decide +kernel
theorem d_Gu_calculate_196 : decode b_Gu_calculate 196 = .ok (.aload_n 0, 1) := by decide +kernel
theorem d_Gu_calculate_197 : decode b_Gu_calculate 197 = .ok (.getfield 9, 3) := by decide +kernel
theorem d_Gu_calculate_200 : decode b_Gu_calculate 200 = .ok (.iload_n 2, 1) := by decide +kernel
theorem d_Gu_calculate_201 : decode b_Gu_calculate 201 = .ok (.iaload, 1) := by decide +kernel
theorem d_Gu_calculate_202 : decode b_Gu_calculate 202 = .ok (.ifCond .ne 33, 3) := by decide +kernel
theorem d_Gu_calculate_205 : decode b_Gu_calculate 205 = .ok (.aload_n 0, 1) := by decide +kernel
theorem d_Gu_calculate_206 : decode b_Gu_calculate 206 = .ok (.iload 4, 2) := by decide +kernel
theorem d_Gu_calculate_208 : decode b_Gu_calculate 208 = .ok (.invokevirtual 31, 3) := by decide +kernel
theorem d_Gu_calculate_211 : decode b_Gu_calculate 211 = .ok (.goto 24, 3) := by decide +kernel
theorem d_Gu_calculate_214 : decode b_Gu_calculate 214 = .ok (.aload_n 0, 1) := by decide +kernel
theorem d_Gu_calculate_215 : decode b_Gu_calculate 215 = .ok (.iload 4, 2) := by decide +kernel
theorem d_Gu_calculate_217 : decode b_Gu_calculate 217 = .ok (.ifCond .ge 7, 3) := by decide +kernel
theorem d_Gu_calculate_220 : decode b_Gu_calculate 220 = .ok (.iconst (-1), 1) := by decide +kernel
theorem d_Gu_calculate_221 : decode b_Gu_calculate 221 = .ok (.goto 8, 3) := by decide +kernel
theorem d_Gu_calculate_224 : decode b_Gu_calculate 224 = .ok (.iload 4, 2) := by decide +kernel
theorem d_Gu_calculate_226 : decode b_Gu_calculate 226 = .ok (.bipush 32, 2) := by decide +kernel
theorem d_Gu_calculate_228 : decode b_Gu_calculate 228 = .ok (.irem, 1) := by decide +kernel
theorem d_Gu_calculate_229 : decode b_Gu_calculate 229 = .ok (.putfield 35, 3) := by decide +kernel
theorem d_Gu_calculate_232 : decode b_Gu_calculate 232 = .ok (.goto 3, 3) := by decide +kernel
theorem d_Gu_calculate_235 : decode b_Gu_calculate 235 = .ok (.iconst 0, 1) := by decide +kernel
theorem d_Gu_calculate_236 : decode b_Gu_calculate 236 = .ok (.ireturn, 1) := by decide +kernel
theorem d_Lo_init_0 : decode b_Lo_init 0 = .ok (.aload_n 0, 1) := by decide +kernel
theorem d_Lo_init_1 : decode b_Lo_init 1 = .ok (.invokespecial 3, 3) := by decide +kernel
theorem d_Lo_init_4 : decode b_Lo_init 4 = .ok (.aload_n 0, 1) := by decide +kernel
theorem d_Lo_init_5 : decode b_Lo_init 5 = .ok (.new 9, 3) := by decide +kernel
theorem d_Lo_init_8 : decode b_Lo_init 8 = .ok (.dup, 1) := by decide +kernel
theorem d_Lo_init_9 : decode b_Lo_init 9 = .ok (.invokespecial 11, 3) := by decide +kernel
theorem d_Lo_init_12 : decode b_Lo_init 12 = .ok (.putfield 12, 3) := by decide +kernel
theorem d_Lo_init_15 : decode b_Lo_init 15 = .ok (.aload_n 0, 1) := by decide +kernel
theorem d_Lo_init_16 : decode b_Lo_init 16 = .ok (.iconst (-1), 1) := by decide +kernel
theorem d_Lo_init_17 : decode b_Lo_init 17 = .ok (.putfield 18, 3) := by decide +kernel
theorem d_Lo_init_20 : decode b_Lo_init 20 = .ok (.return_, 1) := by decide +kernel
theorem d_Pr_init_0 : decode b_Pr_init 0 = .ok (.aload_n 0, 1) := by decide +kernel
theorem d_Pr_init_1 : decode b_Pr_init 1 = .ok (.invokespecial 3, 3) := by decide +kernel
theorem d_Pr_init_4 : decode b_Pr_init 4 = .ok (.aload_n 0, 1) := by decide +kernel
theorem d_Pr_init_5 : decode b_Pr_init 5 = .ok (.new 9, 3) := by decide +kernel
theorem d_Pr_init_8 : decode b_Pr_init 8 = .ok (.dup, 1) := by decide +kernel
theorem d_Pr_init_9 : decode b_Pr_init 9 = .ok (.invokespecial 11, 3) := by decide +kernel
theorem d_Pr_init_12 : decode b_Pr_init 12 = .ok (.putfield 12, 3) := by decide +kernel
theorem d_Pr_init_15 : decode b_Pr_init 15 = .ok (.aload_n 0, 1) := by decide +kernel
theorem d_Pr_init_16 : decode b_Pr_init 16 = .ok (.iconst (-1), 1) := by decide +kernel
theorem d_Pr_init_17 : decode b_Pr_init 17 = .ok (.putfield 18, 3) := by decide +kernel
theorem d_Pr_init_20 : decode b_Pr_init 20 = .ok (.return_, 1) := by decide +kernel
theorem d_Pr_isEmpty_0 : decode b_Pr_isEmpty 0 = .ok (.aload_n 0, 1) := by decide +kernel
theorem d_Pr_isEmpty_1 : decode b_Pr_isEmpty 1 = .ok (.getfield 18, 3) := by decide +kernel
theorem d_Pr_isEmpty_4 : decode b_Pr_isEmpty 4 = .ok (.iconst (-1), 1) := by decide +kernel
theorem d_Pr_isEmpty_5 : decode b_Pr_isEmpty 5 = .ok (.if_icmp .ne 17, 3) := by decide +kernel
theorem d_Pr_isEmpty_8 : decode b_Pr_isEmpty 8 = .ok (.aload_n 0, 1) := by decide +kernel
theorem d_Pr_isEmpty_9 : decode b_Pr_isEmpty 9 = .ok (.getfield 12, 3) := by decide +kernel
theorem d_Pr_isEmpty_12 : decode b_Pr_isEmpty 12 = .ok (.getfield 22, 3) := by decide +kernel
theorem d_Pr_isEmpty_15 : decode b_Pr_isEmpty 15 = .ok (.ifCond .ne 7, 3) := by decide +kernel
theorem d_Pr_isEmpty_18 : decode b_Pr_isEmpty 18 = .ok (.iconst 1, 1) := by decide +kernel
theorem d_Pr_isEmpty_19 : decode b_Pr_isEmpty 19 = .ok (.goto 4, 3) := by decide +kernel
theorem d_Pr_isEmpty_22 : decode b_Pr_isEmpty 22 = .ok (.iconst 0, 1) := by decide +kernel
theorem d_Pr_isEmpty_23 : decode b_Pr_isEmpty 23 = .ok (.ireturn, 1) := by decide +kernel
theorem d_Pg_init_0 : decode b_Pg_init 0 = .ok (.aload_n 0, 1) := by decide +kernel
theorem d_Pg_init_1 : decode b_Pg_init 1 = .ok (.invokespecial 3, 3) := by decide +kernel
theorem d_Pg_init_4 : decode b_Pg_init 4 = .ok (.aload_n 0, 1) := by decide +kernel
theorem d_Pg_init_5 : decode b_Pg_init 5 = .ok (.sipush 128, 3) := by decide +kernel
theorem d_Pg_init_8 : decode b_Pg_init 8 = .ok (.newarray .int, 2) := by decide +kernel
theorem d_Pg_init_10 : decode b_Pg_init 10 = .ok (.putfield 11, 3) := by decide +kernel
theorem d_Pg_init_13 : decode b_Pg_init 13 = .ok (.return_, 1) := by decide +kernel
theorem d_Pg_write_0 : decode b_Pg_write 0 = .ok (.iload_n 1, 1) := by decide +kernel
theorem d_Pg_write_1 : decode b_Pg_write 1 = .ok (.iconst 4, 1) := by decide +kernel
theorem d_Pg_write_2 : decode b_Pg_write 2 = .ok (.imul, 1) := by decide +kernel
theorem d_Pg_write_3 : decode b_Pg_write 3 = .ok (.istore 6, 2) := by decide +kernel
theorem d_Pg_write_5 : decode b_Pg_write 5 = .ok (.aload_n 0, 1) := by decide +kernel
theorem d_Pg_write_6 : decode b_Pg_write 6 = .ok (.getfield 11, 3) := by decide +kernel
theorem d_Pg_write_9 : decode b_Pg_write 9 = .ok (.iload 6, 2) := by decide +kernel
theorem d_Pg_write_11 : decode b_Pg_write 11 = .ok (.iconst 0, 1) := by decide +kernel
theorem d_Pg_write_12 : decode b_Pg_write 12 = .ok (.iadd, 1) := by decide +kernel
theorem d_Pg_write_13 : decode b_Pg_write 13 = .ok (.iload_n 2, 1) := by decide +kernel
theorem d_Pg_write_14 : decode b_Pg_write 14 = .ok (.iastore, 1) := by decide +kernel
theorem d_Pg_write_15 : decode b_Pg_write 15 = .ok (.aload_n 0, 1) := by decide +kernel
theorem d_Pg_write_16 : decode b_Pg_write 16 = .ok (.getfield 11, 3) := by decide +kernel
theorem d_Pg_write_19 : decode b_Pg_write 19 = .ok (.iload 6, 2) := by decide +kernel
theorem d_Pg_write_21 : decode b_Pg_write 21 = .ok (.iconst 1, 1) := by decide +kernel
theorem d_Pg_write_22 : decode b_Pg_write 22 = .ok (.iadd, 1) := by decide +kernel
theorem d_Pg_write_23 : decode b_Pg_write 23 = .ok (.iload_n 3, 1) := by decide +kernel
theorem d_Pg_write_24 : decode b_Pg_write 24 = .ok (.iastore, 1) := by decide +kernel
theorem d_Pg_write_25 : decode b_Pg_write 25 = .ok (.aload_n 0, 1) := by decide +kernel
theorem d_Pg_write_26 : decode b_Pg_write 26 = .ok (.getfield 11, 3) := by decide +kernel
theorem d_Pg_write_29 : decode b_Pg_write 29 = .ok (.iload 6, 2) := by decide +kernel
theorem d_Pg_write_31 : decode b_Pg_write 31 = .ok (.iconst 2, 1) := by decide +kernel
theorem d_Pg_write_32 : decode b_Pg_write 32 = .ok (.iadd, 1) := by decide +kernel
theorem d_Pg_write_33 : decode b_Pg_write 33 = .ok (.iload 4, 2) := by decide +kernel
theorem d_Pg_write_35 : decode b_Pg_write 35 = .ok (.iastore, 1) := by decide +kernel
theorem d_Pg_write_36 : decode b_Pg_write 36 = .ok (.aload_n 0, 1) := by decide +kernel
theorem d_Pg_write_37 : decode b_Pg_write 37 = .ok (.getfield 11, 3) := by decide +kernel
theorem d_Pg_write_40 : decode b_Pg_write 40 = .ok (.iload 6, 2) := by decide +kernel
theorem d_Pg_write_42 : decode b_Pg_write 42 = .ok (.iconst 3, 1) := by decide +kernel
theorem d_Pg_write_43 : decode b_Pg_write 43 = .ok (.iadd, 1) := by decide +kernel
theorem d_Pg_write_44 : decode b_Pg_write 44 = .ok (.iload 5, 2) := by decide +kernel
theorem d_Pg_write_46 : decode b_Pg_write 46 = .ok (.iastore, 1) := by decide +kernel
theorem d_Pg_write_47 : decode b_Pg_write 47 = .ok (.return_, 1) := by decide +kernel
theorem d_Pg_part_0 : decode b_Pg_part 0 = .ok (.aload_n 0, 1) := by decide +kernel
theorem d_Pg_part_1 : decode b_Pg_part 1 = .ok (.getfield 11, 3) := by decide +kernel
theorem d_Pg_part_4 : decode b_Pg_part 4 = .ok (.iload_n 1, 1) := by decide +kernel
theorem d_Pg_part_5 : decode b_Pg_part 5 = .ok (.iconst 4, 1) := by decide +kernel
theorem d_Pg_part_6 : decode b_Pg_part 6 = .ok (.imul, 1) := by decide +kernel
theorem d_Pg_part_7 : decode b_Pg_part 7 = .ok (.iload_n 2, 1) := by decide +kernel
theorem d_Pg_part_8 : decode b_Pg_part 8 = .ok (.iadd, 1) := by decide +kernel
theorem d_Pg_part_9 : decode b_Pg_part 9 = .ok (.iaload, 1) := by decide +kernel
theorem d_Pg_part_10 : decode b_Pg_part 10 = .ok (.ireturn, 1) := by decide +kernel
theorem d_Ro_init_0 : decode b_Ro_init 0 = .ok (.aload_n 0, 1) := by decide +kernel
theorem d_Ro_init_1 : decode b_Ro_init 1 = .ok (.invokespecial 3, 3) := by decide +kernel
theorem d_Ro_init_4 : decode b_Ro_init 4 = .ok (.aload_n 0, 1) := by decide +kernel
theorem d_Ro_init_5 : decode b_Ro_init 5 = .ok (.bipush 6, 2) := by decide +kernel
theorem d_Ro_init_7 : decode b_Ro_init 7 = .ok (.newarray .int, 2) := by decide +kernel
theorem d_Ro_init_9 : decode b_Ro_init 9 = .ok (.putfield 9, 3) := by decide +kernel
theorem d_Ro_init_12 : decode b_Ro_init 12 = .ok (.return_, 1) := by decide +kernel
theorem d_Ro_add_0 : decode b_Ro_add 0 = .ok (.aload_n 0, 1) := by decide +kernel
theorem d_Ro_add_1 : decode b_Ro_add 1 = .ok (.getfield 15, 3) := by decide +kernel
theorem d_Ro_add_4 : decode b_Ro_add 4 = .ok (.bipush 6, 2) := by decide +kernel
theorem d_Ro_add_6 : decode b_Ro_add 6 = .ok (.if_icmp .ge 31, 3) := by decide +kernel
theorem d_Ro_add_9 : decode b_Ro_add 9 = .ok (.aload_n 0, 1) := by decide +kernel
theorem d_Ro_add_10 : decode b_Ro_add 10 = .ok (.getfield 9, 3) := by decide +kernel
theorem d_Ro_add_13 : decode b_Ro_add 13 = .ok (.aload_n 0, 1) := by decide +kernel
theorem d_Ro_add_14 : decode b_Ro_add 14 = .ok (.getfield 19, 3) := by decide +kernel
theorem d_Ro_add_17 : decode b_Ro_add 17 = .ok (.aload_n 0, 1) := by decide +kernel
theorem d_Ro_add_18 : decode b_Ro_add 18 = .ok (.getfield 15, 3) := by decide +kernel
theorem d_Ro_add_21 : decode b_Ro_add 21 = .ok (.iadd, 1) := by decide +kernel
theorem d_Ro_add_22 : decode b_Ro_add 22 = .ok (.bipush 6, 2) := by decide +kernel
theorem d_Ro_add_24 : decode b_Ro_add 24 = .ok (.irem, 1) := by decide +kernel
theorem d_Ro_add_25 : decode b_Ro_add 25 = .ok (.iload_n 1, 1) := by decide +kernel
theorem d_Ro_add_26 : decode b_Ro_add 26 = .ok (.iastore, 1) := by decide +kernel
theorem d_Ro_add_27 : decode b_Ro_add 27 = .ok (.aload_n 0, 1) := by decide +kernel
theorem d_Ro_add_28 : decode b_Ro_add 28 = .ok (.dup, 1) := by decide +kernel
theorem d_Ro_add_29 : decode b_Ro_add 29 = .ok (.getfield 15, 3) := by decide +kernel
theorem d_Ro_add_32 : decode b_Ro_add 32 = .ok (.iconst 1, 1) := by decide +kernel
theorem d_Ro_add_33 : decode b_Ro_add 33 = .ok (.iadd, 1) := by decide +kernel
theorem d_Ro_add_34 : decode b_Ro_add 34 = .ok (.putfield 15, 3) := by decide +kernel
theorem d_Ro_add_37 : decode b_Ro_add 37 = .ok (.return_, 1) := by decide +kernel
theorem d_Ro_takeFirst_0 : decode b_Ro_takeFirst 0 = .ok (.aload_n 0, 1) := by decide +kernel
theorem d_Ro_takeFirst_1 : decode b_Ro_takeFirst 1 = .ok (.getfield 15, 3) := by decide +kernel
theorem d_Ro_takeFirst_4 : decode b_Ro_takeFirst 4 = .ok (.ifCond .ne 5, 3) := by decide +kernel
theorem d_Ro_takeFirst_7 : decode b_Ro_takeFirst 7 = .ok (.iconst (-1), 1) := by decide +kernel
theorem d_Ro_takeFirst_8 : decode b_Ro_takeFirst 8 = .ok (.ireturn, 1) := by decide +kernel
theorem d_Ro_takeFirst_9 : decode b_Ro_takeFirst 9 = .ok (.aload_n 0, 1) := by decide +kernel
theorem d_Ro_takeFirst_10 : decode b_Ro_takeFirst 10 = .ok (.getfield 9, 3) := by decide +kernel
theorem d_Ro_takeFirst_13 : decode b_Ro_takeFirst 13 = .ok (.aload_n 0, 1) := by decide +kernel
theorem d_Ro_takeFirst_14 : decode b_Ro_takeFirst 14 = .ok (.getfield 19, 3) := by decide +kernel
theorem d_Ro_takeFirst_17 : decode b_Ro_takeFirst 17 = .ok (.iaload, 1) := by decide +kernel
theorem d_Ro_takeFirst_18 : decode b_Ro_takeFirst 18 = .ok (.istore_n 1, 1) := by decide +kernel
theorem d_Ro_takeFirst_19 : decode b_Ro_takeFirst 19 = .ok (.aload_n 0, 1) := by decide +kernel
theorem d_Ro_takeFirst_20 : decode b_Ro_takeFirst 20 = .ok (.aload_n 0, 1) := by decide +kernel
theorem d_Ro_takeFirst_21 : decode b_Ro_takeFirst 21 = .ok (.getfield 19, 3) := by decide +kernel
theorem d_Ro_takeFirst_24 : decode b_Ro_takeFirst 24 = .ok (.iconst 1, 1) := by decide +kernel
theorem d_Ro_takeFirst_25 : decode b_Ro_takeFirst 25 = .ok (.iadd, 1) := by decide +kernel
theorem d_Ro_takeFirst_26 : decode b_Ro_takeFirst 26 = .ok (.bipush 6, 2) := by decide +kernel
theorem d_Ro_takeFirst_28 : decode b_Ro_takeFirst 28 = .ok (.irem, 1) := by decide +kernel
theorem d_Ro_takeFirst_29 : decode b_Ro_takeFirst 29 = .ok (.putfield 19, 3) := by decide +kernel
theorem d_Ro_takeFirst_32 : decode b_Ro_takeFirst 32 = .ok (.aload_n 0, 1) := by decide +kernel
theorem d_Ro_takeFirst_33 : decode b_Ro_takeFirst 33 = .ok (.dup, 1) := by decide +kernel
theorem d_Ro_takeFirst_34 : decode b_Ro_takeFirst 34 = .ok (.getfield 15, 3) := by decide +kernel
theorem d_Ro_takeFirst_37 : decode b_Ro_takeFirst 37 = .ok (.iconst 1, 1) := by decide +kernel
theorem d_Ro_takeFirst_38 : decode b_Ro_takeFirst 38 = .ok (.isub, 1) := by decide +kernel
theorem d_Ro_takeFirst_39 : decode b_Ro_takeFirst 39 = .ok (.putfield 15, 3) := by decide +kernel
theorem d_Ro_takeFirst_42 : decode b_Ro_takeFirst 42 = .ok (.iload_n 1, 1) := by decide +kernel
theorem d_Ro_takeFirst_43 : decode b_Ro_takeFirst 43 = .ok (.ireturn, 1) := by decide +kernel
end
section
theorem d_Mo_init_0 : decode b_Mo_init 0 = .ok (.aload_n 0, 1) := by decide +kernel
theorem d_Mo_init_1 : decode b_Mo_init 1 = .ok (.invokespecial 1, 3) := by decide +kernel
theorem d_Mo_init_4 : decode b_Mo_init 4 = .ok (.aload_n 0, 1) := by decide +kernel
theorem d_Mo_init_5 : decode b_Mo_init 5 = .ok (.bipush 32, 2) := by decide +kernel
theorem d_Mo_init_7 : decode b_Mo_init 7 = .ok (.newarray .int, 2) := by decide +kernel
theorem d_Mo_init_9 : decode b_Mo_init 9 = .ok (.putfield 7, 3) := by decide +kernel
theorem d_Mo_init_12 : decode b_Mo_init 12 = .ok (.aload_n 0, 1) := by decide +kernel
theorem d_Mo_init_13 : decode b_Mo_init 13 = .ok (.bipush 32, 2) := by decide +kernel
theorem d_Mo_init_15 : decode b_Mo_init 15 = .ok (.newarray .int, 2) := by decide +kernel
theorem d_Mo_init_17 : decode b_Mo_init 17 = .ok (.putfield 13, 3) := by decide +kernel
theorem d_Mo_init_20 : decode b_Mo_init 20 = .ok (.aload_n 0, 1) := by decide +kernel
theorem d_Mo_init_21 : decode b_Mo_init 21 = .ok (.bipush 32, 2) := by decide +kernel
theorem d_Mo_init_23 : decode b_Mo_init 23 = .ok (.newarray .int, 2) := by decide +kernel
theorem d_Mo_init_25 : decode b_Mo_init 25 = .ok (.putfield 16, 3) := by decide +kernel
theorem d_Mo_init_28 : decode b_Mo_init 28 = .ok (.aload_n 0, 1) := by decide +kernel
theorem d_Mo_init_29 : decode b_Mo_init 29 = .ok (.bipush 32, 2) := by decide +kernel
theorem d_Mo_init_31 : decode b_Mo_init 31 = .ok (.newarray .int, 2) := by decide +kernel
theorem d_Mo_init_33 : decode b_Mo_init 33 = .ok (.putfield 19, 3) := by decide +kernel
theorem d_Mo_init_36 : decode b_Mo_init 36 = .ok (.aload_n 0, 1) := by decide +kernel
theorem d_Mo_init_37 : decode b_Mo_init 37 = .ok (.bipush 6, 2) := by decide +kernel
theorem d_Mo_init_39 : decode b_Mo_init 39 = .ok (.newarray .int, 2) := by decide +kernel
theorem d_Mo_init_41 : decode b_Mo_init 41 = .ok (.putfield 22, 3) := by decide +kernel
theorem d_Mo_init_44 : decode b_Mo_init 44 = .ok (.aload_n 0, 1) := by decide +kernel
theorem d_Mo_init_45 : decode b_Mo_init 45 = .ok (.bipush 6, 2) := by decide +kernel
theorem d_Mo_init_47 : decode b_Mo_init 47 = .ok (.newarray .int, 2) := by decide +kernel
theorem d_Mo_init_49 : decode b_Mo_init 49 = .ok (.putfield 25, 3) := by decide +kernel
theorem d_Mo_init_52 : decode b_Mo_init 52 = .ok (.aload_n 0, 1) := by decide +kernel
theorem d_Mo_init_53 : decode b_Mo_init 53 = .ok (.bipush 6, 2) := by decide +kernel
theorem d_Mo_init_55 : decode b_Mo_init 55 = .ok (.newarray .int, 2) := by decide +kernel
theorem d_Mo_init_57 : decode b_Mo_init 57 = .ok (.putfield 28, 3) := by decide +kernel
theorem d_Mo_init_60 : decode b_Mo_init 60 = .ok (.aload_n 0, 1) := by decide +kernel
theorem d_Mo_init_61 : decode b_Mo_init 61 = .ok (.bipush 6, 2) := by decide +kernel
theorem d_Mo_init_63 : decode b_Mo_init 63 = .ok (.newarray .int, 2) := by decide +kernel
theorem d_Mo_init_65 : decode b_Mo_init 65 = .ok (.putfield 31, 3) := by decide +kernel
theorem d_Mo_init_68 : decode b_Mo_init 68 = .ok (.aload_n 0, 1) := by decide +kernel
theorem d_Mo_init_69 : decode b_Mo_init 69 = .ok (.bipush 6, 2) := by decide +kernel
theorem d_Mo_init_71 : decode b_Mo_init 71 = .ok (.newarray .int, 2) := by decide +kernel
theorem d_Mo_init_73 : decode b_Mo_init 73 = .ok (.putfield 34, 3) := by decide +kernel
theorem d_Mo_init_76 : decode b_Mo_init 76 = .ok (.aload_n 0, 1) := by decide +kernel
theorem d_Mo_init_77 : decode b_Mo_init 77 = .ok (.bipush 6, 2) := by decide +kernel
theorem d_Mo_init_79 : decode b_Mo_init 79 = .ok (.newarray .int, 2) := by decide +kernel
theorem d_Mo_init_81 : decode b_Mo_init 81 = .ok (.putfield 37, 3) := by decide +kernel
theorem d_Mo_init_84 : decode b_Mo_init 84 = .ok (.aload_n 0, 1) := by decide +kernel
theorem d_Mo_init_85 : decode b_Mo_init 85 = .ok (.bipush 6, 2) := by decide +kernel
theorem d_Mo_init_87 : decode b_Mo_init 87 = .ok (.newarray .int, 2) := by decide +kernel
theorem d_Mo_init_89 : decode b_Mo_init 89 = .ok (.putfield 40, 3) := by decide +kernel
theorem d_Mo_init_92 : decode b_Mo_init 92 = .ok (.aload_n 0, 1) := by decide +kernel
theorem d_Mo_init_93 : decode b_Mo_init 93 = .ok (.bipush 6, 2) := by decide +kernel
theorem d_Mo_init_95 : decode b_Mo_init 95 = .ok (.newarray .int, 2) := by decide +kernel
theorem d_Mo_init_97 : decode b_Mo_init 97 = .ok (.putfield 43, 3) := by decide +kernel
theorem d_Mo_init_100 : decode b_Mo_init 100 = .ok (.aload_n 0, 1) := by decide +kernel
theorem d_Mo_init_101 : decode b_Mo_init 101 = .ok (.bipush 6, 2) := by decide +kernel
theorem d_Mo_init_103 : decode b_Mo_init 103 = .ok (.newarray .int, 2) := by decide +kernel
theorem d_Mo_init_105 : decode b_Mo_init 105 = .ok (.putfield 46, 3) := by decide +kernel
theorem d_Mo_init_108 : decode b_Mo_init 108 = .ok (.aload_n 0, 1) := by decide +kernel
theorem d_Mo_init_109 : decode b_Mo_init 109 = .ok (.bipush 6, 2) := by decide +kernel
theorem d_Mo_init_111 : decode b_Mo_init 111 = .ok (.newarray .int, 2) := by decide +kernel
theorem d_Mo_init_113 : decode b_Mo_init 113 = .ok (.putfield 49, 3) := by decide +kernel
theorem d_Mo_init_116 : decode b_Mo_init 116 = .ok (.aload_n 0, 1) := by decide +kernel
theorem d_Mo_init_117 : decode b_Mo_init 117 = .ok (.bipush 24, 2) := by decide +kernel
theorem d_Mo_init_119 : decode b_Mo_init 119 = .ok (.newarray .int, 2) := by decide +kernel
theorem d_Mo_init_121 : decode b_Mo_init 121 = .ok (.putfield 52, 3) := by decide +kernel
theorem d_Mo_init_124 : decode b_Mo_init 124 = .ok (.aload_n 0, 1) := by decide +kernel
theorem d_Mo_init_125 : decode b_Mo_init 125 = .ok (.bipush 24, 2) := by decide +kernel
theorem d_Mo_init_127 : decode b_Mo_init 127 = .ok (.newarray .int, 2) := by decide +kernel
theorem d_Mo_init_129 : decode b_Mo_init 129 = .ok (.putfield 55, 3) := by decide +kernel
theorem d_Mo_init_132 : decode b_Mo_init 132 = .ok (.aload_n 0, 1) := by decide +kernel
theorem d_Mo_init_133 : decode b_Mo_init 133 = .ok (.bipush 96, 2) := by decide +kernel
theorem d_Mo_init_135 : decode b_Mo_init 135 = .ok (.newarray .int, 2) := by decide +kernel
theorem d_Mo_init_137 : decode b_Mo_init 137 = .ok (.putfield 58, 3) := by decide +kernel
theorem d_Mo_init_140 : decode b_Mo_init 140 = .ok (.aload_n 0, 1) := by decide +kernel
theorem d_Mo_init_141 : decode b_Mo_init 141 = .ok (.bipush 12, 2) := by decide +kernel
theorem d_Mo_init_143 : decode b_Mo_init 143 = .ok (.newarray .boolean, 2) := by decide +kernel
theorem d_Mo_init_145 : decode b_Mo_init 145 = .ok (.putfield 61, 3) := by decide +kernel
theorem d_Mo_init_148 : decode b_Mo_init 148 = .ok (.aload_n 0, 1) := by decide +kernel
theorem d_Mo_init_149 : decode b_Mo_init 149 = .ok (.bipush 84, 2) := by decide +kernel
theorem d_Mo_init_151 : decode b_Mo_init 151 = .ok (.newarray .int, 2) := by decide +kernel
theorem d_Mo_init_153 : decode b_Mo_init 153 = .ok (.putfield 65, 3) := by decide +kernel
theorem d_Mo_init_156 : decode b_Mo_init 156 = .ok (.aload_n 0, 1) := by decide +kernel
theorem d_Mo_init_157 : decode b_Mo_init 157 = .ok (.bipush 14, 2) := by decide +kernel
theorem d_Mo_init_159 : decode b_Mo_init 159 = .ok (.newarray .int, 2) := by decide +kernel
theorem d_Mo_init_161 : decode b_Mo_init 161 = .ok (.putfield 68, 3) := by decide +kernel
theorem d_Mo_init_164 : decode b_Mo_init 164 = .ok (.aload_n 0, 1) := by decide +kernel
theorem d_Mo_init_165 : decode b_Mo_init 165 = .ok (.bipush 8, 2) := by decide +kernel
theorem d_Mo_init_167 : decode b_Mo_init 167 = .ok (.newarray .int, 2) := by decide +kernel
theorem d_Mo_init_169 : decode b_Mo_init 169 = .ok (.putfield 71, 3) := by decide +kernel
theorem d_Mo_init_172 : decode b_Mo_init 172 = .ok (.aload_n 0, 1) := by decide +kernel
theorem d_Mo_init_173 : decode b_Mo_init 173 = .ok (.iconst 4, 1) := by decide +kernel
theorem d_Mo_init_174 : decode b_Mo_init 174 = .ok (.newarray .int, 2) := by decide +kernel
theorem d_Mo_init_176 : decode b_Mo_init 176 = .ok (.putfield 74, 3) := by decide +kernel
theorem d_Mo_init_179 : decode b_Mo_init 179 = .ok (.aload_n 0, 1) := by decide +kernel
theorem d_Mo_init_180 : decode b_Mo_init 180 = .ok (.iconst 4, 1) := by decide +kernel
theorem d_Mo_init_181 : decode b_Mo_init 181 = .ok (.newarray .int, 2) := by decide +kernel
theorem d_Mo_init_183 : decode b_Mo_init 183 = .ok (.putfield 77, 3) := by decide +kernel
theorem d_Mo_init_186 : decode b_Mo_init 186 = .ok (.aload_n 0, 1) := by decide +kernel
theorem d_Mo_init_187 : decode b_Mo_init 187 = .ok (.iconst 2, 1) := by decide +kernel
theorem d_Mo_init_188 : decode b_Mo_init 188 = .ok (.newarray .int, 2) := by decide +kernel
theorem d_Mo_init_190 : decode b_Mo_init 190 = .ok (.putfield 80, 3) := by decide +kernel
theorem d_Mo_init_193 : decode b_Mo_init 193 = .ok (.aload_n 0, 1) := by decide +kernel
theorem d_Mo_init_194 : decode b_Mo_init 194 = .ok (.iconst 2, 1) := by decide +kernel
theorem d_Mo_init_195 : decode b_Mo_init 195 = .ok (.newarray .int, 2) := by decide +kernel
theorem d_Mo_init_197 : decode b_Mo_init 197 = .ok (.putfield 83, 3) := by decide +kernel
theorem d_Mo_init_200 : decode b_Mo_init 200 = .ok (.iconst 0, 1) := by decide +kernel
theorem d_Mo_init_201 : decode b_Mo_init 201 = .ok (.istore_n 1, 1) := by decide +kernel
theorem d_Mo_init_202 : decode b_Mo_init 202 = .ok (.iload_n 1, 1) := by decide +kernel
theorem d_Mo_init_203 : decode b_Mo_init 203 = .ok (.bipush 6, 2) := by decide +kernel
theorem d_Mo_init_205 : decode b_Mo_init 205 = .ok (.if_icmp .ge 16, 3) := by decide +kernel
theorem d_Mo_init_208 : decode b_Mo_init 208 = .ok (.aload_n 0, 1) := by decide +kernel
theorem d_Mo_init_209 : decode b_Mo_init 209 = .ok (.getfield 22, 3) := by decide +kernel
theorem d_Mo_init_212 : decode b_Mo_init 212 = .ok (.iload_n 1, 1) := by decide +kernel
theorem d_Mo_init_213 : decode b_Mo_init 213 = .ok (.iconst (-1), 1) := by decide +kernel
theorem d_Mo_init_214 : decode b_Mo_init 214 = .ok (.iastore, 1) := by decide +kernel
theorem d_Mo_init_215 : decode b_Mo_init 215 = .ok (.iinc 1 1, 3) := by decide +kernel
theorem d_Mo_init_218 : decode b_Mo_init 218 = .ok (.goto (-16), 3) := by decide +kernel
theorem d_Mo_init_221 : decode b_Mo_init 221 = .ok (.iconst 0, 1) := by decide +kernel
theorem d_Mo_init_222 : decode b_Mo_init 222 = .ok (.istore_n 1, 1) := by decide +kernel
theorem d_Mo_init_223 : decode b_Mo_init 223 = .ok (.iload_n 1, 1) := by decide +kernel
theorem d_Mo_init_224 : decode b_Mo_init 224 = .ok (.iconst 4, 1) := by decide +kernel
theorem d_Mo_init_225 : decode b_Mo_init 225 = .ok (.if_icmp .ge 16, 3) := by decide +kernel
theorem d_Mo_init_228 : decode b_Mo_init 228 = .ok (.aload_n 0, 1) := by decide +kernel
theorem d_Mo_init_229 : decode b_Mo_init 229 = .ok (.getfield 77, 3) := by decide +kernel
theorem d_Mo_init_232 : decode b_Mo_init 232 = .ok (.iload_n 1, 1) := by decide +kernel
theorem d_Mo_init_233 : decode b_Mo_init 233 = .ok (.iconst (-1), 1) := by decide +kernel
theorem d_Mo_init_234 : decode b_Mo_init 234 = .ok (.iastore, 1) := by decide +kernel
theorem d_Mo_init_235 : decode b_Mo_init 235 = .ok (.iinc 1 1, 3) := by decide +kernel
theorem d_Mo_init_238 : decode b_Mo_init 238 = .ok (.goto (-15), 3) := by decide +kernel
theorem d_Mo_init_241 : decode b_Mo_init 241 = .ok (.aload_n 0, 1) := by decide +kernel
theorem d_Mo_init_242 : decode b_Mo_init 242 = .ok (.getfield 80, 3) := by decide +kernel
theorem d_Mo_init_245 : decode b_Mo_init 245 = .ok (.iconst 0, 1) := by decide +kernel
theorem d_Mo_init_246 : decode b_Mo_init 246 = .ok (.iconst (-1), 1) := by decide +kernel
theorem d_Mo_init_247 : decode b_Mo_init 247 = .ok (.iastore, 1) := by decide +kernel
theorem d_Mo_init_248 : decode b_Mo_init 248 = .ok (.aload_n 0, 1) := by decide +kernel
theorem d_Mo_init_249 : decode b_Mo_init 249 = .ok (.getfield 80, 3) := by decide +kernel
theorem d_Mo_init_252 : decode b_Mo_init 252 = .ok (.iconst 1, 1) := by decide +kernel
theorem d_Mo_init_253 : decode b_Mo_init 253 = .ok (.iconst (-1), 1) := by decide +kernel
theorem d_Mo_init_254 : decode b_Mo_init 254 = .ok (.iastore, 1) := by decide +kernel
theorem d_Mo_init_255 : decode b_Mo_init 255 = .ok (.aload_n 0, 1) := by decide +kernel
theorem d_Mo_init_256 : decode b_Mo_init 256 = .ok (.iconst 0, 1) := by decide +kernel
theorem d_Mo_init_257 : decode b_Mo_init 257 = .ok (.iconst 0, 1) := by decide +kernel
theorem d_Mo_init_258 : decode b_Mo_init 258 = .ok (.bipush 12, 2) := by decide +kernel
theorem d_Mo_init_260 : decode b_Mo_init 260 = .ok (.iconst (-1), 1) := by decide +kernel
theorem d_Mo_init_261 : decode b_Mo_init 261 = .ok (.invokevirtual 86, 3) := by decide +kernel
theorem d_Mo_init_264 : decode b_Mo_init 264 = .ok (.return_, 1) := by decide +kernel
theorem d_Mo_thrown_0 : decode b_Mo_thrown 0 = .ok (.aload_n 0, 1) := by decide +kernel
theorem d_Mo_thrown_1 : decode b_Mo_thrown 1 = .ok (.getfield 90, 3) := by decide +kernel
theorem d_Mo_thrown_4 : decode b_Mo_thrown 4 = .ok (.ireturn, 1) := by decide +kernel
theorem d_Mo_add_0 : decode b_Mo_add 0 = .ok (.aload_n 0, 1) := by decide +kernel
theorem d_Mo_add_1 : decode b_Mo_add 1 = .ok (.getfield 65, 3) := by decide +kernel
theorem d_Mo_add_4 : decode b_Mo_add 4 = .ok (.iload_n 1, 1) := by decide +kernel
theorem d_Mo_add_5 : decode b_Mo_add 5 = .ok (.bipush 6, 2) := by decide +kernel
theorem d_Mo_add_7 : decode b_Mo_add 7 = .ok (.imul, 1) := by decide +kernel
theorem d_Mo_add_8 : decode b_Mo_add 8 = .ok (.aload_n 0, 1) := by decide +kernel
theorem d_Mo_add_9 : decode b_Mo_add 9 = .ok (.getfield 68, 3) := by decide +kernel
theorem d_Mo_add_12 : decode b_Mo_add 12 = .ok (.iload_n 1, 1) := by decide +kernel
theorem d_Mo_add_13 : decode b_Mo_add 13 = .ok (.iaload, 1) := by decide +kernel
theorem d_Mo_add_14 : decode b_Mo_add 14 = .ok (.iadd, 1) := by decide +kernel
theorem d_Mo_add_15 : decode b_Mo_add 15 = .ok (.iload_n 2, 1) := by decide +kernel
theorem d_Mo_add_16 : decode b_Mo_add 16 = .ok (.iastore, 1) := by decide +kernel
theorem d_Mo_add_17 : decode b_Mo_add 17 = .ok (.aload_n 0, 1) := by decide +kernel
theorem d_Mo_add_18 : decode b_Mo_add 18 = .ok (.getfield 68, 3) := by decide +kernel
theorem d_Mo_add_21 : decode b_Mo_add 21 = .ok (.iload_n 1, 1) := by decide +kernel
theorem d_Mo_add_22 : decode b_Mo_add 22 = .ok (.dup2, 1) := by decide +kernel
theorem d_Mo_add_23 : decode b_Mo_add 23 = .ok (.iaload, 1) := by decide +kernel
theorem d_Mo_add_24 : decode b_Mo_add 24 = .ok (.iconst 1, 1) := by decide +kernel
theorem d_Mo_add_25 : decode b_Mo_add 25 = .ok (.iadd, 1) := by decide +kernel
theorem d_Mo_add_26 : decode b_Mo_add 26 = .ok (.iastore, 1) := by decide +kernel
theorem d_Mo_add_27 : decode b_Mo_add 27 = .ok (.return_, 1) := by decide +kernel
theorem d_Mo_take_0 : decode b_Mo_take 0 = .ok (.aload_n 0, 1) := by decide +kernel
theorem d_Mo_take_1 : decode b_Mo_take 1 = .ok (.getfield 65, 3) := by decide +kernel
theorem d_Mo_take_4 : decode b_Mo_take 4 = .ok (.iload_n 1, 1) := by decide +kernel
theorem d_Mo_take_5 : decode b_Mo_take 5 = .ok (.bipush 6, 2) := by decide +kernel
theorem d_Mo_take_7 : decode b_Mo_take 7 = .ok (.imul, 1) := by decide +kernel
theorem d_Mo_take_8 : decode b_Mo_take 8 = .ok (.iaload, 1) := by decide +kernel
theorem d_Mo_take_9 : decode b_Mo_take 9 = .ok (.istore_n 2, 1) := by decide +kernel
theorem d_Mo_take_10 : decode b_Mo_take 10 = .ok (.aload_n 0, 1) := by decide +kernel
theorem d_Mo_take_11 : decode b_Mo_take 11 = .ok (.getfield 68, 3) := by decide +kernel
theorem d_Mo_take_14 : decode b_Mo_take 14 = .ok (.iload_n 1, 1) := by decide +kernel
theorem d_Mo_take_15 : decode b_Mo_take 15 = .ok (.dup2, 1) := by decide +kernel
theorem d_Mo_take_16 : decode b_Mo_take 16 = .ok (.iaload, 1) := by decide +kernel
theorem d_Mo_take_17 : decode b_Mo_take 17 = .ok (.iconst 1, 1) := by decide +kernel
theorem d_Mo_take_18 : decode b_Mo_take 18 = .ok (.isub, 1) := by decide +kernel
theorem d_Mo_take_19 : decode b_Mo_take 19 = .ok (.iastore, 1) := by decide +kernel
theorem d_Mo_take_20 : decode b_Mo_take 20 = .ok (.iconst 0, 1) := by decide +kernel
theorem d_Mo_take_21 : decode b_Mo_take 21 = .ok (.istore_n 3, 1) := by decide +kernel
theorem d_Mo_take_22 : decode b_Mo_take 22 = .ok (.iload_n 3, 1) := by decide +kernel
theorem d_Mo_take_23 : decode b_Mo_take 23 = .ok (.aload_n 0, 1) := by decide +kernel
theorem d_Mo_take_24 : decode b_Mo_take 24 = .ok (.getfield 68, 3) := by decide +kernel
theorem d_Mo_take_27 : decode b_Mo_take 27 = .ok (.iload_n 1, 1) := by decide +kernel
theorem d_Mo_take_28 : decode b_Mo_take 28 = .ok (.iaload, 1) := by decide +kernel
theorem d_Mo_take_29 : decode b_Mo_take 29 = .ok (.if_icmp .ge 33, 3) := by decide +kernel
theorem d_Mo_take_32 : decode b_Mo_take 32 = .ok (.aload_n 0, 1) := by decide +kernel
theorem d_Mo_take_33 : decode b_Mo_take 33 = .ok (.getfield 65, 3) := by decide +kernel
theorem d_Mo_take_36 : decode b_Mo_take 36 = .ok (.iload_n 1, 1) := by decide +kernel
theorem d_Mo_take_37 : decode b_Mo_take 37 = .ok (.bipush 6, 2) := by decide +kernel
theorem d_Mo_take_39 : decode b_Mo_take 39 = .ok (.imul, 1) := by decide +kernel
theorem d_Mo_take_40 : decode b_Mo_take 40 = .ok (.iload_n 3, 1) := by decide +kernel
theorem d_Mo_take_41 : decode b_Mo_take 41 = .ok (.iadd, 1) := by decide +kernel
theorem d_Mo_take_42 : decode b_Mo_take 42 = .ok (.aload_n 0, 1) := by decide +kernel
theorem d_Mo_take_43 : decode b_Mo_take 43 = .ok (.getfield 65, 3) := by decide +kernel
theorem d_Mo_take_46 : decode b_Mo_take 46 = .ok (.iload_n 1, 1) := by decide +kernel
theorem d_Mo_take_47 : decode b_Mo_take 47 = .ok (.bipush 6, 2) := by decide +kernel
theorem d_Mo_take_49 : decode b_Mo_take 49 = .ok (.imul, 1) := by decide +kernel
theorem d_Mo_take_50 : decode b_Mo_take 50 = .ok (.iload_n 3, 1) := by decide +kernel
theorem d_Mo_take_51 : decode b_Mo_take 51 = .ok (.iadd, 1) := by decide +kernel
theorem d_Mo_take_52 : decode b_Mo_take 52 = .ok (.iconst 1, 1) := by decide +kernel
theorem d_Mo_take_53 : decode b_Mo_take 53 = .ok (.iadd, 1) := by decide +kernel
theorem d_Mo_take_54 : decode b_Mo_take 54 = .ok (.iaload, 1) := by decide +kernel
theorem d_Mo_take_55 : decode b_Mo_take 55 = .ok (.iastore, 1) := by decide +kernel
theorem d_Mo_take_56 : decode b_Mo_take 56 = .ok (.iinc 3 1, 3) := by decide +kernel
theorem d_Mo_take_59 : decode b_Mo_take 59 = .ok (.goto (-37), 3) := by decide +kernel
theorem d_Mo_take_62 : decode b_Mo_take 62 = .ok (.iload_n 2, 1) := by decide +kernel
theorem d_Mo_take_63 : decode b_Mo_take 63 = .ok (.ireturn, 1) := by decide +kernel
theorem d_Mo_wake_0 : decode b_Mo_wake 0 = .ok (.aload_n 0, 1) := by decide +kernel
theorem d_Mo_wake_1 : decode b_Mo_wake 1 = .ok (.getfield 22, 3) := by decide +kernel
theorem d_Mo_wake_4 : decode b_Mo_wake 4 = .ok (.iload_n 1, 1) := by decide +kernel
theorem d_Mo_wake_5 : decode b_Mo_wake 5 = .ok (.iconst 0, 1) := by decide +kernel
theorem d_Mo_wake_6 : decode b_Mo_wake 6 = .ok (.iastore, 1) := by decide +kernel
theorem d_Mo_wake_7 : decode b_Mo_wake 7 = .ok (.aload_n 0, 1) := by decide +kernel
theorem d_Mo_wake_8 : decode b_Mo_wake 8 = .ok (.iload_n 1, 1) := by decide +kernel
theorem d_Mo_wake_9 : decode b_Mo_wake 9 = .ok (.iconst 2, 1) := by decide +kernel
theorem d_Mo_wake_10 : decode b_Mo_wake 10 = .ok (.irem, 1) := by decide +kernel
theorem d_Mo_wake_11 : decode b_Mo_wake 11 = .ok (.iload_n 1, 1) := by decide +kernel
theorem d_Mo_wake_12 : decode b_Mo_wake 12 = .ok (.invokevirtual 94, 3) := by decide +kernel
theorem d_Mo_wake_15 : decode b_Mo_wake 15 = .ok (.return_, 1) := by decide +kernel
theorem d_Mo_begin_0 : decode b_Mo_begin 0 = .ok (.aload_n 0, 1) := by decide +kernel
theorem d_Mo_begin_1 : decode b_Mo_begin 1 = .ok (.getfield 25, 3) := by decide +kernel
theorem d_Mo_begin_4 : decode b_Mo_begin 4 = .ok (.iload_n 1, 1) := by decide +kernel
theorem d_Mo_begin_5 : decode b_Mo_begin 5 = .ok (.iload_n 2, 1) := by decide +kernel
theorem d_Mo_begin_6 : decode b_Mo_begin 6 = .ok (.iastore, 1) := by decide +kernel
theorem d_Mo_begin_7 : decode b_Mo_begin 7 = .ok (.aload_n 0, 1) := by decide +kernel
theorem d_Mo_begin_8 : decode b_Mo_begin 8 = .ok (.getfield 31, 3) := by decide +kernel
theorem d_Mo_begin_11 : decode b_Mo_begin 11 = .ok (.iload_n 1, 1) := by decide +kernel
theorem d_Mo_begin_12 : decode b_Mo_begin 12 = .ok (.iload_n 3, 1) := by decide +kernel
theorem d_Mo_begin_13 : decode b_Mo_begin 13 = .ok (.iastore, 1) := by decide +kernel
theorem d_Mo_begin_14 : decode b_Mo_begin 14 = .ok (.aload_n 0, 1) := by decide +kernel
theorem d_Mo_begin_15 : decode b_Mo_begin 15 = .ok (.getfield 40, 3) := by decide +kernel
theorem d_Mo_begin_18 : decode b_Mo_begin 18 = .ok (.iload_n 1, 1) := by decide +kernel
theorem d_Mo_begin_19 : decode b_Mo_begin 19 = .ok (.iload 4, 2) := by decide +kernel
theorem d_Mo_begin_21 : decode b_Mo_begin 21 = .ok (.iastore, 1) := by decide +kernel
theorem d_Mo_begin_22 : decode b_Mo_begin 22 = .ok (.aload_n 0, 1) := by decide +kernel
theorem d_Mo_begin_23 : decode b_Mo_begin 23 = .ok (.getfield 28, 3) := by decide +kernel
theorem d_Mo_begin_26 : decode b_Mo_begin 26 = .ok (.iload_n 1, 1) := by decide +kernel
theorem d_Mo_begin_27 : decode b_Mo_begin 27 = .ok (.iconst (-1), 1) := by decide +kernel
theorem d_Mo_begin_28 : decode b_Mo_begin 28 = .ok (.iastore, 1) := by decide +kernel
theorem d_Mo_begin_29 : decode b_Mo_begin 29 = .ok (.aload_n 0, 1) := by decide +kernel
theorem d_Mo_begin_30 : decode b_Mo_begin 30 = .ok (.getfield 34, 3) := by decide +kernel
theorem d_Mo_begin_33 : decode b_Mo_begin 33 = .ok (.iload_n 1, 1) := by decide +kernel
theorem d_Mo_begin_34 : decode b_Mo_begin 34 = .ok (.iconst 0, 1) := by decide +kernel
theorem d_Mo_begin_35 : decode b_Mo_begin 35 = .ok (.iastore, 1) := by decide +kernel
theorem d_Mo_begin_36 : decode b_Mo_begin 36 = .ok (.aload_n 0, 1) := by decide +kernel
theorem d_Mo_begin_37 : decode b_Mo_begin 37 = .ok (.getfield 37, 3) := by decide +kernel
theorem d_Mo_begin_40 : decode b_Mo_begin 40 = .ok (.iload_n 1, 1) := by decide +kernel
theorem d_Mo_begin_41 : decode b_Mo_begin 41 = .ok (.iconst 0, 1) := by decide +kernel
theorem d_Mo_begin_42 : decode b_Mo_begin 42 = .ok (.iastore, 1) := by decide +kernel
theorem d_Mo_begin_43 : decode b_Mo_begin 43 = .ok (.aload_n 0, 1) := by decide +kernel
theorem d_Mo_begin_44 : decode b_Mo_begin 44 = .ok (.getfield 43, 3) := by decide +kernel
theorem d_Mo_begin_47 : decode b_Mo_begin 47 = .ok (.iload_n 1, 1) := by decide +kernel
theorem d_Mo_begin_48 : decode b_Mo_begin 48 = .ok (.iconst 0, 1) := by decide +kernel
theorem d_Mo_begin_49 : decode b_Mo_begin 49 = .ok (.iastore, 1) := by decide +kernel
theorem d_Mo_begin_50 : decode b_Mo_begin 50 = .ok (.aload_n 0, 1) := by decide +kernel
theorem d_Mo_begin_51 : decode b_Mo_begin 51 = .ok (.getfield 46, 3) := by decide +kernel
theorem d_Mo_begin_54 : decode b_Mo_begin 54 = .ok (.iload_n 1, 1) := by decide +kernel
theorem d_Mo_begin_55 : decode b_Mo_begin 55 = .ok (.iconst 0, 1) := by decide +kernel
theorem d_Mo_begin_56 : decode b_Mo_begin 56 = .ok (.iastore, 1) := by decide +kernel
theorem d_Mo_begin_57 : decode b_Mo_begin 57 = .ok (.iconst 0, 1) := by decide +kernel
theorem d_Mo_begin_58 : decode b_Mo_begin 58 = .ok (.istore 5, 2) := by decide +kernel
theorem d_Mo_begin_60 : decode b_Mo_begin 60 = .ok (.iload 5, 2) := by decide +kernel
theorem d_Mo_begin_62 : decode b_Mo_begin 62 = .ok (.iconst 4, 1) := by decide +kernel
theorem d_Mo_begin_63 : decode b_Mo_begin 63 = .ok (.if_icmp .ge 33, 3) := by decide +kernel
theorem d_Mo_begin_66 : decode b_Mo_begin 66 = .ok (.aload_n 0, 1) := by decide +kernel
theorem d_Mo_begin_67 : decode b_Mo_begin 67 = .ok (.getfield 52, 3) := by decide +kernel
theorem d_Mo_begin_70 : decode b_Mo_begin 70 = .ok (.iload_n 1, 1) := by decide +kernel
theorem d_Mo_begin_71 : decode b_Mo_begin 71 = .ok (.iconst 4, 1) := by decide +kernel
theorem d_Mo_begin_72 : decode b_Mo_begin 72 = .ok (.imul, 1) := by decide +kernel
theorem d_Mo_begin_73 : decode b_Mo_begin 73 = .ok (.iload 5, 2) := by decide +kernel
theorem d_Mo_begin_75 : decode b_Mo_begin 75 = .ok (.iadd, 1) := by decide +kernel
theorem d_Mo_begin_76 : decode b_Mo_begin 76 = .ok (.iconst 0, 1) := by decide +kernel
theorem d_Mo_begin_77 : decode b_Mo_begin 77 = .ok (.iastore, 1) := by decide +kernel
theorem d_Mo_begin_78 : decode b_Mo_begin 78 = .ok (.aload_n 0, 1) := by decide +kernel
theorem d_Mo_begin_79 : decode b_Mo_begin 79 = .ok (.getfield 55, 3) := by decide +kernel
theorem d_Mo_begin_82 : decode b_Mo_begin 82 = .ok (.iload_n 1, 1) := by decide +kernel
theorem d_Mo_begin_83 : decode b_Mo_begin 83 = .ok (.iconst 4, 1) := by decide +kernel
theorem d_Mo_begin_84 : decode b_Mo_begin 84 = .ok (.imul, 1) := by decide +kernel
theorem d_Mo_begin_85 : decode b_Mo_begin 85 = .ok (.iload 5, 2) := by decide +kernel
theorem d_Mo_begin_87 : decode b_Mo_begin 87 = .ok (.iadd, 1) := by decide +kernel
theorem d_Mo_begin_88 : decode b_Mo_begin 88 = .ok (.iconst (-1), 1) := by decide +kernel
theorem d_Mo_begin_89 : decode b_Mo_begin 89 = .ok (.iastore, 1) := by decide +kernel
theorem d_Mo_begin_90 : decode b_Mo_begin 90 = .ok (.iinc 5 1, 3) := by decide +kernel
theorem d_Mo_begin_93 : decode b_Mo_begin 93 = .ok (.goto (-33), 3) := by decide +kernel
theorem d_Mo_begin_96 : decode b_Mo_begin 96 = .ok (.aload_n 0, 1) := by decide +kernel
theorem d_Mo_begin_97 : decode b_Mo_begin 97 = .ok (.iload_n 1, 1) := by decide +kernel
theorem d_Mo_begin_98 : decode b_Mo_begin 98 = .ok (.invokevirtual 98, 3) := by decide +kernel
theorem d_Mo_begin_101 : decode b_Mo_begin 101 = .ok (.return_, 1) := by decide +kernel
theorem d_Mo_code_0 : decode b_Mo_code 0 = .ok (.aload_n 0, 1) := by decide +kernel
theorem d_Mo_code_1 : decode b_Mo_code 1 = .ok (.aload_n 0, 1) := by decide +kernel
theorem d_Mo_code_2 : decode b_Mo_code 2 = .ok (.iload_n 1, 1) := by decide +kernel
theorem d_Mo_code_3 : decode b_Mo_code 3 = .ok (.bipush 31, 2) := by decide +kernel
theorem d_Mo_code_5 : decode b_Mo_code 5 = .ok (.invokevirtual 102, 3) := by decide +kernel
theorem d_Mo_code_8 : decode b_Mo_code 8 = .ok (.ifCond .ne 32, 3) := by decide +kernel
theorem d_Mo_code_11 : decode b_Mo_code 11 = .ok (.aload_n 0, 1) := by decide +kernel
theorem d_Mo_code_12 : decode b_Mo_code 12 = .ok (.iload_n 2, 1) := by decide +kernel
theorem d_Mo_code_13 : decode b_Mo_code 13 = .ok (.bipush 21, 2) := by decide +kernel
theorem d_Mo_code_15 : decode b_Mo_code 15 = .ok (.invokevirtual 102, 3) := by decide +kernel
theorem d_Mo_code_18 : decode b_Mo_code 18 = .ok (.ifCond .ne 22, 3) := by decide +kernel
theorem d_Mo_code_21 : decode b_Mo_code 21 = .ok (.aload_n 0, 1) := by decide +kernel
theorem d_Mo_code_22 : decode b_Mo_code 22 = .ok (.iload_n 3, 1) := by decide +kernel
theorem d_Mo_code_23 : decode b_Mo_code 23 = .ok (.iconst 3, 1) := by decide +kernel
theorem d_Mo_code_24 : decode b_Mo_code 24 = .ok (.invokevirtual 102, 3) := by decide +kernel
theorem d_Mo_code_27 : decode b_Mo_code 27 = .ok (.ifCond .ne 13, 3) := by decide +kernel
theorem d_Mo_code_30 : decode b_Mo_code 30 = .ok (.aload_n 0, 1) := by decide +kernel
theorem d_Mo_code_31 : decode b_Mo_code 31 = .ok (.iload 4, 2) := by decide +kernel
theorem d_Mo_code_33 : decode b_Mo_code 33 = .ok (.iconst 3, 1) := by decide +kernel
theorem d_Mo_code_34 : decode b_Mo_code 34 = .ok (.invokevirtual 102, 3) := by decide +kernel
theorem d_Mo_code_37 : decode b_Mo_code 37 = .ok (.ifCond .eq 7, 3) := by decide +kernel
theorem d_Mo_code_40 : decode b_Mo_code 40 = .ok (.iconst 1, 1) := by decide +kernel
theorem d_Mo_code_41 : decode b_Mo_code 41 = .ok (.goto 4, 3) := by decide +kernel
theorem d_Mo_code_44 : decode b_Mo_code 44 = .ok (.iconst 0, 1) := by decide +kernel
theorem d_Mo_code_45 : decode b_Mo_code 45 = .ok (.putfield 90, 3) := by decide +kernel
theorem d_Mo_code_48 : decode b_Mo_code 48 = .ok (.aload_n 0, 1) := by decide +kernel
theorem d_Mo_code_49 : decode b_Mo_code 49 = .ok (.getfield 90, 3) := by decide +kernel
theorem d_Mo_code_52 : decode b_Mo_code 52 = .ok (.ifCond .eq 4, 3) := by decide +kernel
theorem d_Mo_code_55 : decode b_Mo_code 55 = .ok (.return_, 1) := by decide +kernel
theorem d_Mo_code_56 : decode b_Mo_code 56 = .ok (.aload_n 0, 1) := by decide +kernel
theorem d_Mo_code_57 : decode b_Mo_code 57 = .ok (.getfield 7, 3) := by decide +kernel
theorem d_Mo_code_60 : decode b_Mo_code 60 = .ok (.iload_n 1, 1) := by decide +kernel
theorem d_Mo_code_61 : decode b_Mo_code 61 = .ok (.iload_n 2, 1) := by decide +kernel
theorem d_Mo_code_62 : decode b_Mo_code 62 = .ok (.iastore, 1) := by decide +kernel
theorem d_Mo_code_63 : decode b_Mo_code 63 = .ok (.aload_n 0, 1) := by decide +kernel
theorem d_Mo_code_64 : decode b_Mo_code 64 = .ok (.getfield 13, 3) := by decide +kernel
theorem d_Mo_code_67 : decode b_Mo_code 67 = .ok (.iload_n 1, 1) := by decide +kernel
theorem d_Mo_code_68 : decode b_Mo_code 68 = .ok (.iload_n 3, 1) := by decide +kernel
theorem d_Mo_code_69 : decode b_Mo_code 69 = .ok (.iastore, 1) := by decide +kernel
theorem d_Mo_code_70 : decode b_Mo_code 70 = .ok (.aload_n 0, 1) := by decide +kernel
theorem d_Mo_code_71 : decode b_Mo_code 71 = .ok (.getfield 16, 3) := by decide +kernel
theorem d_Mo_code_74 : decode b_Mo_code 74 = .ok (.iload_n 1, 1) := by decide +kernel
theorem d_Mo_code_75 : decode b_Mo_code 75 = .ok (.iload 4, 2) := by decide +kernel
theorem d_Mo_code_77 : decode b_Mo_code 77 = .ok (.iastore, 1) := by decide +kernel
theorem d_Mo_code_78 : decode b_Mo_code 78 = .ok (.aload_n 0, 1) := by decide +kernel
theorem d_Mo_code_79 : decode b_Mo_code 79 = .ok (.getfield 19, 3) := by decide +kernel
theorem d_Mo_code_82 : decode b_Mo_code 82 = .ok (.iload_n 1, 1) := by decide +kernel
theorem d_Mo_code_83 : decode b_Mo_code 83 = .ok (.iload 5, 2) := by decide +kernel
theorem d_Mo_code_85 : decode b_Mo_code 85 = .ok (.iastore, 1) := by decide +kernel
theorem d_Mo_code_86 : decode b_Mo_code 86 = .ok (.return_, 1) := by decide +kernel
theorem d_Mo_no_0 : decode b_Mo_no 0 = .ok (.iload_n 1, 1) := by decide +kernel
theorem d_Mo_no_1 : decode b_Mo_no 1 = .ok (.ifCond .lt 8, 3) := by decide +kernel
theorem d_Mo_no_4 : decode b_Mo_no 4 = .ok (.iload_n 1, 1) := by decide +kernel
theorem d_Mo_no_5 : decode b_Mo_no 5 = .ok (.iload_n 2, 1) := by decide +kernel
theorem d_Mo_no_6 : decode b_Mo_no 6 = .ok (.if_icmp .le 7, 3) := by decide +kernel
theorem d_Mo_no_9 : decode b_Mo_no 9 = .ok (.iconst 1, 1) := by decide +kernel
theorem d_Mo_no_10 : decode b_Mo_no 10 = .ok (.goto 4, 3) := by decide +kernel
theorem d_Mo_no_13 : decode b_Mo_no 13 = .ok (.iconst 0, 1) := by decide +kernel
theorem d_Mo_no_14 : decode b_Mo_no 14 = .ok (.ireturn, 1) := by decide +kernel
theorem d_Mo_unmap_0 : decode b_Mo_unmap 0 = .ok (.aload_n 0, 1) := by decide +kernel
theorem d_Mo_unmap_1 : decode b_Mo_unmap 1 = .ok (.getfield 55, 3) := by decide +kernel
theorem d_Mo_unmap_4 : decode b_Mo_unmap 4 = .ok (.iload_n 1, 1) := by decide +kernel
theorem d_Mo_unmap_5 : decode b_Mo_unmap 5 = .ok (.iconst 4, 1) := by decide +kernel
theorem d_Mo_unmap_6 : decode b_Mo_unmap 6 = .ok (.imul, 1) := by decide +kernel
theorem d_Mo_unmap_7 : decode b_Mo_unmap 7 = .ok (.iload_n 2, 1) := by decide +kernel
theorem d_Mo_unmap_8 : decode b_Mo_unmap 8 = .ok (.iadd, 1) := by decide +kernel
theorem d_Mo_unmap_9 : decode b_Mo_unmap 9 = .ok (.iaload, 1) := by decide +kernel
theorem d_Mo_unmap_10 : decode b_Mo_unmap 10 = .ok (.ifCond .ge 4, 3) := by decide +kernel
theorem d_Mo_unmap_13 : decode b_Mo_unmap 13 = .ok (.return_, 1) := by decide +kernel
theorem d_Mo_unmap_14 : decode b_Mo_unmap 14 = .ok (.aload_n 0, 1) := by decide +kernel
theorem d_Mo_unmap_15 : decode b_Mo_unmap 15 = .ok (.getfield 61, 3) := by decide +kernel
theorem d_Mo_unmap_18 : decode b_Mo_unmap 18 = .ok (.aload_n 0, 1) := by decide +kernel
theorem d_Mo_unmap_19 : decode b_Mo_unmap 19 = .ok (.getfield 55, 3) := by decide +kernel
theorem d_Mo_unmap_22 : decode b_Mo_unmap 22 = .ok (.iload_n 1, 1) := by decide +kernel
theorem d_Mo_unmap_23 : decode b_Mo_unmap 23 = .ok (.iconst 4, 1) := by decide +kernel
theorem d_Mo_unmap_24 : decode b_Mo_unmap 24 = .ok (.imul, 1) := by decide +kernel
theorem d_Mo_unmap_25 : decode b_Mo_unmap 25 = .ok (.iload_n 2, 1) := by decide +kernel
theorem d_Mo_unmap_26 : decode b_Mo_unmap 26 = .ok (.iadd, 1) := by decide +kernel
theorem d_Mo_unmap_27 : decode b_Mo_unmap 27 = .ok (.iaload, 1) := by decide +kernel
theorem d_Mo_unmap_28 : decode b_Mo_unmap 28 = .ok (.iconst 0, 1) := by decide +kernel
theorem d_Mo_unmap_29 : decode b_Mo_unmap 29 = .ok (.bastore, 1) := by decide +kernel
theorem d_Mo_unmap_30 : decode b_Mo_unmap 30 = .ok (.aload_n 0, 1) := by decide +kernel
theorem d_Mo_unmap_31 : decode b_Mo_unmap 31 = .ok (.getfield 55, 3) := by decide +kernel
theorem d_Mo_unmap_34 : decode b_Mo_unmap 34 = .ok (.iload_n 1, 1) := by decide +kernel
theorem d_Mo_unmap_35 : decode b_Mo_unmap 35 = .ok (.iconst 4, 1) := by decide +kernel
theorem d_Mo_unmap_36 : decode b_Mo_unmap 36 = .ok (.imul, 1) := by decide +kernel
theorem d_Mo_unmap_37 : decode b_Mo_unmap 37 = .ok (.iload_n 2, 1) := by decide +kernel
theorem d_Mo_unmap_38 : decode b_Mo_unmap 38 = .ok (.iadd, 1) := by decide +kernel
theorem d_Mo_unmap_39 : decode b_Mo_unmap 39 = .ok (.iconst (-1), 1) := by decide +kernel
theorem d_Mo_unmap_40 : decode b_Mo_unmap 40 = .ok (.iastore, 1) := by decide +kernel
theorem d_Mo_unmap_41 : decode b_Mo_unmap 41 = .ok (.aload_n 0, 1) := by decide +kernel
theorem d_Mo_unmap_42 : decode b_Mo_unmap 42 = .ok (.getfield 34, 3) := by decide +kernel
theorem d_Mo_unmap_45 : decode b_Mo_unmap 45 = .ok (.iload_n 1, 1) := by decide +kernel
theorem d_Mo_unmap_46 : decode b_Mo_unmap 46 = .ok (.dup2, 1) := by decide +kernel
theorem d_Mo_unmap_47 : decode b_Mo_unmap 47 = .ok (.iaload, 1) := by decide +kernel
theorem d_Mo_unmap_48 : decode b_Mo_unmap 48 = .ok (.iconst 1, 1) := by decide +kernel
theorem d_Mo_unmap_49 : decode b_Mo_unmap 49 = .ok (.isub, 1) := by decide +kernel
theorem d_Mo_unmap_50 : decode b_Mo_unmap 50 = .ok (.iastore, 1) := by decide +kernel
theorem d_Mo_unmap_51 : decode b_Mo_unmap 51 = .ok (.return_, 1) := by decide +kernel
theorem d_Mo_unlock_0 : decode b_Mo_unlock 0 = .ok (.aload_n 0, 1) := by decide +kernel
theorem d_Mo_unlock_1 : decode b_Mo_unlock 1 = .ok (.getfield 77, 3) := by decide +kernel
theorem d_Mo_unlock_4 : decode b_Mo_unlock 4 = .ok (.iload_n 1, 1) := by decide +kernel
theorem d_Mo_unlock_5 : decode b_Mo_unlock 5 = .ok (.aload_n 0, 1) := by decide +kernel
theorem d_Mo_unlock_6 : decode b_Mo_unlock 6 = .ok (.getfield 68, 3) := by decide +kernel
theorem d_Mo_unlock_9 : decode b_Mo_unlock 9 = .ok (.bipush 10, 2) := by decide +kernel
theorem d_Mo_unlock_11 : decode b_Mo_unlock 11 = .ok (.iload_n 1, 1) := by decide +kernel
theorem d_Mo_unlock_12 : decode b_Mo_unlock 12 = .ok (.iadd, 1) := by decide +kernel
theorem d_Mo_unlock_13 : decode b_Mo_unlock 13 = .ok (.iaload, 1) := by decide +kernel
theorem d_Mo_unlock_14 : decode b_Mo_unlock 14 = .ok (.ifCond .le 14, 3) := by decide +kernel
theorem d_Mo_unlock_17 : decode b_Mo_unlock 17 = .ok (.aload_n 0, 1) := by decide +kernel
theorem d_Mo_unlock_18 : decode b_Mo_unlock 18 = .ok (.bipush 10, 2) := by decide +kernel
theorem d_Mo_unlock_20 : decode b_Mo_unlock 20 = .ok (.iload_n 1, 1) := by decide +kernel
theorem d_Mo_unlock_21 : decode b_Mo_unlock 21 = .ok (.iadd, 1) := by decide +kernel
theorem d_Mo_unlock_22 : decode b_Mo_unlock 22 = .ok (.invokevirtual 106, 3) := by decide +kernel
theorem d_Mo_unlock_25 : decode b_Mo_unlock 25 = .ok (.goto 4, 3) := by decide +kernel
theorem d_Mo_unlock_28 : decode b_Mo_unlock 28 = .ok (.iconst (-1), 1) := by decide +kernel
theorem d_Mo_unlock_29 : decode b_Mo_unlock 29 = .ok (.iastore, 1) := by decide +kernel
theorem d_Mo_unlock_30 : decode b_Mo_unlock 30 = .ok (.aload_n 0, 1) := by decide +kernel
theorem d_Mo_unlock_31 : decode b_Mo_unlock 31 = .ok (.getfield 77, 3) := by decide +kernel
theorem d_Mo_unlock_34 : decode b_Mo_unlock 34 = .ok (.iload_n 1, 1) := by decide +kernel
theorem d_Mo_unlock_35 : decode b_Mo_unlock 35 = .ok (.iaload, 1) := by decide +kernel
theorem d_Mo_unlock_36 : decode b_Mo_unlock 36 = .ok (.ifCond .lt 13, 3) := by decide +kernel
theorem d_Mo_unlock_39 : decode b_Mo_unlock 39 = .ok (.aload_n 0, 1) := by decide +kernel
theorem d_Mo_unlock_40 : decode b_Mo_unlock 40 = .ok (.aload_n 0, 1) := by decide +kernel
theorem d_Mo_unlock_41 : decode b_Mo_unlock 41 = .ok (.getfield 77, 3) := by decide +kernel
theorem d_Mo_unlock_44 : decode b_Mo_unlock 44 = .ok (.iload_n 1, 1) := by decide +kernel
theorem d_Mo_unlock_45 : decode b_Mo_unlock 45 = .ok (.iaload, 1) := by decide +kernel
theorem d_Mo_unlock_46 : decode b_Mo_unlock 46 = .ok (.invokevirtual 98, 3) := by decide +kernel
theorem d_Mo_unlock_49 : decode b_Mo_unlock 49 = .ok (.return_, 1) := by decide +kernel
theorem d_Mo_die_0 : decode b_Mo_die 0 = .ok (.aload_n 0, 1) := by decide +kernel
theorem d_Mo_die_1 : decode b_Mo_die 1 = .ok (.getfield 22, 3) := by decide +kernel
theorem d_Mo_die_4 : decode b_Mo_die 4 = .ok (.iload_n 1, 1) := by decide +kernel
theorem d_Mo_die_5 : decode b_Mo_die 5 = .ok (.iconst 3, 1) := by decide +kernel
theorem d_Mo_die_6 : decode b_Mo_die 6 = .ok (.iastore, 1) := by decide +kernel
theorem d_Mo_die_7 : decode b_Mo_die 7 = .ok (.aload_n 0, 1) := by decide +kernel
theorem d_Mo_die_8 : decode b_Mo_die 8 = .ok (.getfield 43, 3) := by decide +kernel
theorem d_Mo_die_11 : decode b_Mo_die 11 = .ok (.iload_n 1, 1) := by decide +kernel
theorem d_Mo_die_12 : decode b_Mo_die 12 = .ok (.iload_n 2, 1) := by decide +kernel
theorem d_Mo_die_13 : decode b_Mo_die 13 = .ok (.iastore, 1) := by decide +kernel
theorem d_Mo_die_14 : decode b_Mo_die 14 = .ok (.iconst 0, 1) := by decide +kernel
theorem d_Mo_die_15 : decode b_Mo_die 15 = .ok (.istore_n 3, 1) := by decide +kernel
theorem d_Mo_die_16 : decode b_Mo_die 16 = .ok (.iload_n 3, 1) := by decide +kernel
theorem d_Mo_die_17 : decode b_Mo_die 17 = .ok (.iconst 4, 1) := by decide +kernel
theorem d_Mo_die_18 : decode b_Mo_die 18 = .ok (.if_icmp .ge 15, 3) := by decide +kernel
theorem d_Mo_die_21 : decode b_Mo_die 21 = .ok (.aload_n 0, 1) := by decide +kernel
theorem d_Mo_die_22 : decode b_Mo_die 22 = .ok (.iload_n 1, 1) := by decide +kernel
theorem d_Mo_die_23 : decode b_Mo_die 23 = .ok (.iload_n 3, 1) := by decide +kernel
theorem d_Mo_die_24 : decode b_Mo_die 24 = .ok (.invokevirtual 110, 3) := by decide +kernel
theorem d_Mo_die_27 : decode b_Mo_die 27 = .ok (.iinc 3 1, 3) := by decide +kernel
theorem d_Mo_die_30 : decode b_Mo_die 30 = .ok (.goto (-14), 3) := by decide +kernel
theorem d_Mo_die_33 : decode b_Mo_die 33 = .ok (.iconst 0, 1) := by decide +kernel
theorem d_Mo_die_34 : decode b_Mo_die 34 = .ok (.istore_n 3, 1) := by decide +kernel
theorem d_Mo_die_35 : decode b_Mo_die 35 = .ok (.iload_n 3, 1) := by decide +kernel
theorem d_Mo_die_36 : decode b_Mo_die 36 = .ok (.iconst 4, 1) := by decide +kernel
theorem d_Mo_die_37 : decode b_Mo_die 37 = .ok (.if_icmp .ge 24, 3) := by decide +kernel
theorem d_Mo_die_40 : decode b_Mo_die 40 = .ok (.aload_n 0, 1) := by decide +kernel
theorem d_Mo_die_41 : decode b_Mo_die 41 = .ok (.getfield 77, 3) := by decide +kernel
theorem d_Mo_die_44 : decode b_Mo_die 44 = .ok (.iload_n 3, 1) := by decide +kernel
theorem d_Mo_die_45 : decode b_Mo_die 45 = .ok (.iaload, 1) := by decide +kernel
theorem d_Mo_die_46 : decode b_Mo_die 46 = .ok (.iload_n 1, 1) := by decide +kernel
theorem d_Mo_die_47 : decode b_Mo_die 47 = .ok (.if_icmp .ne 8, 3) := by decide +kernel
theorem d_Mo_die_50 : decode b_Mo_die 50 = .ok (.aload_n 0, 1) := by decide +kernel
theorem d_Mo_die_51 : decode b_Mo_die 51 = .ok (.iload_n 3, 1) := by decide +kernel
theorem d_Mo_die_52 : decode b_Mo_die 52 = .ok (.invokevirtual 113, 3) := by decide +kernel
theorem d_Mo_die_55 : decode b_Mo_die 55 = .ok (.iinc 3 1, 3) := by decide +kernel
theorem d_Mo_die_58 : decode b_Mo_die 58 = .ok (.goto (-23), 3) := by decide +kernel
theorem d_Mo_die_61 : decode b_Mo_die 61 = .ok (.iconst 0, 1) := by decide +kernel
theorem d_Mo_die_62 : decode b_Mo_die 62 = .ok (.istore_n 3, 1) := by decide +kernel
theorem d_Mo_die_63 : decode b_Mo_die 63 = .ok (.iload_n 3, 1) := by decide +kernel
theorem d_Mo_die_64 : decode b_Mo_die 64 = .ok (.bipush 6, 2) := by decide +kernel
theorem d_Mo_die_66 : decode b_Mo_die 66 = .ok (.if_icmp .ge 55, 3) := by decide +kernel
theorem d_Mo_die_69 : decode b_Mo_die 69 = .ok (.aload_n 0, 1) := by decide +kernel
theorem d_Mo_die_70 : decode b_Mo_die 70 = .ok (.getfield 22, 3) := by decide +kernel
theorem d_Mo_die_73 : decode b_Mo_die 73 = .ok (.iload_n 3, 1) := by decide +kernel
theorem d_Mo_die_74 : decode b_Mo_die 74 = .ok (.iaload, 1) := by decide +kernel
theorem d_Mo_die_75 : decode b_Mo_die 75 = .ok (.ifCond .lt 40, 3) := by decide +kernel
theorem d_Mo_die_78 : decode b_Mo_die 78 = .ok (.aload_n 0, 1) := by decide +kernel
theorem d_Mo_die_79 : decode b_Mo_die 79 = .ok (.getfield 40, 3) := by decide +kernel
theorem d_Mo_die_82 : decode b_Mo_die 82 = .ok (.iload_n 3, 1) := by decide +kernel
theorem d_Mo_die_83 : decode b_Mo_die 83 = .ok (.iaload, 1) := by decide +kernel
theorem d_Mo_die_84 : decode b_Mo_die 84 = .ok (.iload_n 1, 1) := by decide +kernel
theorem d_Mo_die_85 : decode b_Mo_die 85 = .ok (.if_icmp .ne 30, 3) := by decide +kernel
theorem d_Mo_die_88 : decode b_Mo_die 88 = .ok (.aload_n 0, 1) := by decide +kernel
theorem d_Mo_die_89 : decode b_Mo_die 89 = .ok (.getfield 40, 3) := by decide +kernel
theorem d_Mo_die_92 : decode b_Mo_die 92 = .ok (.iload_n 3, 1) := by decide +kernel
theorem d_Mo_die_93 : decode b_Mo_die 93 = .ok (.aload_n 0, 1) := by decide +kernel
theorem d_Mo_die_94 : decode b_Mo_die 94 = .ok (.getfield 40, 3) := by decide +kernel
theorem d_Mo_die_97 : decode b_Mo_die 97 = .ok (.iload_n 1, 1) := by decide +kernel
theorem d_Mo_die_98 : decode b_Mo_die 98 = .ok (.iaload, 1) := by decide +kernel
theorem d_Mo_die_99 : decode b_Mo_die 99 = .ok (.iastore, 1) := by decide +kernel
theorem d_Mo_die_100 : decode b_Mo_die 100 = .ok (.aload_n 0, 1) := by decide +kernel
theorem d_Mo_die_101 : decode b_Mo_die 101 = .ok (.getfield 31, 3) := by decide +kernel
theorem d_Mo_die_104 : decode b_Mo_die 104 = .ok (.iload_n 1, 1) := by decide +kernel
theorem d_Mo_die_105 : decode b_Mo_die 105 = .ok (.dup2, 1) := by decide +kernel
theorem d_Mo_die_106 : decode b_Mo_die 106 = .ok (.iaload, 1) := by decide +kernel
theorem d_Mo_die_107 : decode b_Mo_die 107 = .ok (.aload_n 0, 1) := by decide +kernel
theorem d_Mo_die_108 : decode b_Mo_die 108 = .ok (.getfield 31, 3) := by decide +kernel
theorem d_Mo_die_111 : decode b_Mo_die 111 = .ok (.iload_n 3, 1) := by decide +kernel
theorem d_Mo_die_112 : decode b_Mo_die 112 = .ok (.iaload, 1) := by decide +kernel
theorem d_Mo_die_113 : decode b_Mo_die 113 = .ok (.isub, 1) := by decide +kernel
theorem d_Mo_die_114 : decode b_Mo_die 114 = .ok (.iastore, 1) := by decide +kernel
theorem d_Mo_die_115 : decode b_Mo_die 115 = .ok (.iinc 3 1, 3) := by decide +kernel
theorem d_Mo_die_118 : decode b_Mo_die 118 = .ok (.goto (-55), 3) := by decide +kernel
theorem d_Mo_die_121 : decode b_Mo_die 121 = .ok (.aload_n 0, 1) := by decide +kernel
theorem d_Mo_die_122 : decode b_Mo_die 122 = .ok (.getfield 37, 3) := by decide +kernel
theorem d_Mo_die_125 : decode b_Mo_die 125 = .ok (.iload_n 1, 1) := by decide +kernel
theorem d_Mo_die_126 : decode b_Mo_die 126 = .ok (.iconst 0, 1) := by decide +kernel
theorem d_Mo_die_127 : decode b_Mo_die 127 = .ok (.iastore, 1) := by decide +kernel
theorem d_Mo_die_128 : decode b_Mo_die 128 = .ok (.return_, 1) := by decide +kernel
theorem d_Mo_trap_0 : decode b_Mo_trap 0 = .ok (.aload_n 0, 1) := by decide +kernel
theorem d_Mo_trap_1 : decode b_Mo_trap 1 = .ok (.getfield 46, 3) := by decide +kernel
theorem d_Mo_trap_4 : decode b_Mo_trap 4 = .ok (.iload_n 1, 1) := by decide +kernel
theorem d_Mo_trap_5 : decode b_Mo_trap 5 = .ok (.dup2, 1) := by decide +kernel
theorem d_Mo_trap_6 : decode b_Mo_trap 6 = .ok (.iaload, 1) := by decide +kernel
theorem d_Mo_trap_7 : decode b_Mo_trap 7 = .ok (.iconst 1, 1) := by decide +kernel
theorem d_Mo_trap_8 : decode b_Mo_trap 8 = .ok (.iadd, 1) := by decide +kernel
theorem d_Mo_trap_9 : decode b_Mo_trap 9 = .ok (.iastore, 1) := by decide +kernel
theorem d_Mo_trap_10 : decode b_Mo_trap 10 = .ok (.aload_n 0, 1) := by decide +kernel
theorem d_Mo_trap_11 : decode b_Mo_trap 11 = .ok (.dup, 1) := by decide +kernel
theorem d_Mo_trap_12 : decode b_Mo_trap 12 = .ok (.getfield 116, 3) := by decide +kernel
theorem d_Mo_trap_15 : decode b_Mo_trap 15 = .ok (.iconst 1, 1) := by decide +kernel
theorem d_Mo_trap_16 : decode b_Mo_trap 16 = .ok (.iadd, 1) := by decide +kernel
theorem d_Mo_trap_17 : decode b_Mo_trap 17 = .ok (.putfield 116, 3) := by decide +kernel
theorem d_Mo_trap_20 : decode b_Mo_trap 20 = .ok (.aload_n 0, 1) := by decide +kernel
theorem d_Mo_trap_21 : decode b_Mo_trap 21 = .ok (.getfield 28, 3) := by decide +kernel
theorem d_Mo_trap_24 : decode b_Mo_trap 24 = .ok (.iload_n 1, 1) := by decide +kernel
theorem d_Mo_trap_25 : decode b_Mo_trap 25 = .ok (.iaload, 1) := by decide +kernel
theorem d_Mo_trap_26 : decode b_Mo_trap 26 = .ok (.ifCond .ge 15, 3) := by decide +kernel
theorem d_Mo_trap_29 : decode b_Mo_trap 29 = .ok (.aload_n 0, 1) := by decide +kernel
theorem d_Mo_trap_30 : decode b_Mo_trap 30 = .ok (.iload_n 1, 1) := by decide +kernel
theorem d_Mo_trap_31 : decode b_Mo_trap 31 = .ok (.bipush (-100), 2) := by decide +kernel
theorem d_Mo_trap_33 : decode b_Mo_trap 33 = .ok (.iload_n 2, 1) := by decide +kernel
theorem d_Mo_trap_34 : decode b_Mo_trap 34 = .ok (.isub, 1) := by decide +kernel
theorem d_Mo_trap_35 : decode b_Mo_trap 35 = .ok (.invokevirtual 119, 3) := by decide +kernel
theorem d_Mo_trap_38 : decode b_Mo_trap 38 = .ok (.goto 33, 3) := by decide +kernel
theorem d_Mo_trap_41 : decode b_Mo_trap 41 = .ok (.aload_n 0, 1) := by decide +kernel
theorem d_Mo_trap_42 : decode b_Mo_trap 42 = .ok (.getfield 52, 3) := by decide +kernel
theorem d_Mo_trap_45 : decode b_Mo_trap 45 = .ok (.iload_n 1, 1) := by decide +kernel
theorem d_Mo_trap_46 : decode b_Mo_trap 46 = .ok (.iconst 4, 1) := by decide +kernel
theorem d_Mo_trap_47 : decode b_Mo_trap 47 = .ok (.imul, 1) := by decide +kernel
theorem d_Mo_trap_48 : decode b_Mo_trap 48 = .ok (.iconst 3, 1) := by decide +kernel
theorem d_Mo_trap_49 : decode b_Mo_trap 49 = .ok (.iadd, 1) := by decide +kernel
theorem d_Mo_trap_50 : decode b_Mo_trap 50 = .ok (.iload_n 2, 1) := by decide +kernel
theorem d_Mo_trap_51 : decode b_Mo_trap 51 = .ok (.iastore, 1) := by decide +kernel
theorem d_Mo_trap_52 : decode b_Mo_trap 52 = .ok (.aload_n 0, 1) := by decide +kernel
theorem d_Mo_trap_53 : decode b_Mo_trap 53 = .ok (.getfield 25, 3) := by decide +kernel
theorem d_Mo_trap_56 : decode b_Mo_trap 56 = .ok (.iload_n 1, 1) := by decide +kernel
theorem d_Mo_trap_57 : decode b_Mo_trap 57 = .ok (.aload_n 0, 1) := by decide +kernel
theorem d_Mo_trap_58 : decode b_Mo_trap 58 = .ok (.getfield 28, 3) := by decide +kernel
theorem d_Mo_trap_61 : decode b_Mo_trap 61 = .ok (.iload_n 1, 1) := by decide +kernel
theorem d_Mo_trap_62 : decode b_Mo_trap 62 = .ok (.iaload, 1) := by decide +kernel
theorem d_Mo_trap_63 : decode b_Mo_trap 63 = .ok (.iastore, 1) := by decide +kernel
theorem d_Mo_trap_64 : decode b_Mo_trap 64 = .ok (.aload_n 0, 1) := by decide +kernel
theorem d_Mo_trap_65 : decode b_Mo_trap 65 = .ok (.getfield 28, 3) := by decide +kernel
theorem d_Mo_trap_68 : decode b_Mo_trap 68 = .ok (.iload_n 1, 1) := by decide +kernel
theorem d_Mo_trap_69 : decode b_Mo_trap 69 = .ok (.iconst (-1), 1) := by decide +kernel
theorem d_Mo_trap_70 : decode b_Mo_trap 70 = .ok (.iastore, 1) := by decide +kernel
theorem d_Mo_trap_71 : decode b_Mo_trap 71 = .ok (.return_, 1) := by decide +kernel
theorem d_Mo_where_0 : decode b_Mo_where 0 = .ok (.aload_n 0, 1) := by decide +kernel
theorem d_Mo_where_1 : decode b_Mo_where 1 = .ok (.iload_n 2, 1) := by decide +kernel
theorem d_Mo_where_2 : decode b_Mo_where 2 = .ok (.bipush 31, 2) := by decide +kernel
theorem d_Mo_where_4 : decode b_Mo_where 4 = .ok (.invokevirtual 102, 3) := by decide +kernel
theorem d_Mo_where_7 : decode b_Mo_where 7 = .ok (.ifCond .eq 6, 3) := by decide +kernel
theorem d_Mo_where_10 : decode b_Mo_where 10 = .ok (.bipush (-2), 2) := by decide +kernel
theorem d_Mo_where_12 : decode b_Mo_where 12 = .ok (.ireturn, 1) := by decide +kernel
theorem d_Mo_where_13 : decode b_Mo_where 13 = .ok (.aload_n 0, 1) := by decide +kernel
theorem d_Mo_where_14 : decode b_Mo_where 14 = .ok (.getfield 55, 3) := by decide +kernel
theorem d_Mo_where_17 : decode b_Mo_where 17 = .ok (.iload_n 1, 1) := by decide +kernel
theorem d_Mo_where_18 : decode b_Mo_where 18 = .ok (.iconst 4, 1) := by decide +kernel
theorem d_Mo_where_19 : decode b_Mo_where 19 = .ok (.imul, 1) := by decide +kernel
theorem d_Mo_where_20 : decode b_Mo_where 20 = .ok (.iload_n 2, 1) := by decide +kernel
theorem d_Mo_where_21 : decode b_Mo_where 21 = .ok (.bipush 8, 2) := by decide +kernel
theorem d_Mo_where_23 : decode b_Mo_where 23 = .ok (.idiv, 1) := by decide +kernel
theorem d_Mo_where_24 : decode b_Mo_where 24 = .ok (.iadd, 1) := by decide +kernel
theorem d_Mo_where_25 : decode b_Mo_where 25 = .ok (.iaload, 1) := by decide +kernel
theorem d_Mo_where_26 : decode b_Mo_where 26 = .ok (.istore_n 3, 1) := by decide +kernel
theorem d_Mo_where_27 : decode b_Mo_where 27 = .ok (.iload_n 3, 1) := by decide +kernel
theorem d_Mo_where_28 : decode b_Mo_where 28 = .ok (.ifCond .ge 8, 3) := by decide +kernel
theorem d_Mo_where_31 : decode b_Mo_where 31 = .ok (.bipush (-3), 2) := by decide +kernel
theorem d_Mo_where_33 : decode b_Mo_where 33 = .ok (.goto 12, 3) := by decide +kernel
theorem d_Mo_where_36 : decode b_Mo_where 36 = .ok (.iload_n 3, 1) := by decide +kernel
theorem d_Mo_where_37 : decode b_Mo_where 37 = .ok (.bipush 8, 2) := by decide +kernel
theorem d_Mo_where_39 : decode b_Mo_where 39 = .ok (.imul, 1) := by decide +kernel
theorem d_Mo_where_40 : decode b_Mo_where 40 = .ok (.iload_n 2, 1) := by decide +kernel
theorem d_Mo_where_41 : decode b_Mo_where 41 = .ok (.bipush 8, 2) := by decide +kernel
theorem d_Mo_where_43 : decode b_Mo_where 43 = .ok (.irem, 1) := by decide +kernel
theorem d_Mo_where_44 : decode b_Mo_where 44 = .ok (.iadd, 1) := by decide +kernel
theorem d_Mo_where_45 : decode b_Mo_where 45 = .ok (.ireturn, 1) := by decide +kernel
theorem d_Mo_map_0 : decode b_Mo_map 0 = .ok (.iconst 0, 1) := by decide +kernel
theorem d_Mo_map_1 : decode b_Mo_map 1 = .ok (.istore_n 3, 1) := by decide +kernel
theorem d_Mo_map_2 : decode b_Mo_map 2 = .ok (.iload_n 3, 1) := by decide +kernel
theorem d_Mo_map_3 : decode b_Mo_map 3 = .ok (.bipush 12, 2) := by decide +kernel
theorem d_Mo_map_5 : decode b_Mo_map 5 = .ok (.if_icmp .ge 18, 3) := by decide +kernel
theorem d_Mo_map_8 : decode b_Mo_map 8 = .ok (.aload_n 0, 1) := by decide +kernel
theorem d_Mo_map_9 : decode b_Mo_map 9 = .ok (.getfield 61, 3) := by decide +kernel
theorem d_Mo_map_12 : decode b_Mo_map 12 = .ok (.iload_n 3, 1) := by decide +kernel
theorem d_Mo_map_13 : decode b_Mo_map 13 = .ok (.baload, 1) := by decide +kernel
theorem d_Mo_map_14 : decode b_Mo_map 14 = .ok (.ifCond .eq 9, 3) := by decide +kernel
theorem d_Mo_map_17 : decode b_Mo_map 17 = .ok (.iinc 3 1, 3) := by decide +kernel
theorem d_Mo_map_20 : decode b_Mo_map 20 = .ok (.goto (-18), 3) := by decide +kernel
theorem d_Mo_map_23 : decode b_Mo_map 23 = .ok (.aload_n 0, 1) := by decide +kernel
theorem d_Mo_map_24 : decode b_Mo_map 24 = .ok (.getfield 55, 3) := by decide +kernel
theorem d_Mo_map_27 : decode b_Mo_map 27 = .ok (.iload_n 1, 1) := by decide +kernel
theorem d_Mo_map_28 : decode b_Mo_map 28 = .ok (.iconst 4, 1) := by decide +kernel
theorem d_Mo_map_29 : decode b_Mo_map 29 = .ok (.imul, 1) := by decide +kernel
theorem d_Mo_map_30 : decode b_Mo_map 30 = .ok (.iload_n 2, 1) := by decide +kernel
theorem d_Mo_map_31 : decode b_Mo_map 31 = .ok (.iadd, 1) := by decide +kernel
theorem d_Mo_map_32 : decode b_Mo_map 32 = .ok (.iaload, 1) := by decide +kernel
theorem d_Mo_map_33 : decode b_Mo_map 33 = .ok (.ifCond .ge 31, 3) := by decide +kernel
theorem d_Mo_map_36 : decode b_Mo_map 36 = .ok (.aload_n 0, 1) := by decide +kernel
theorem d_Mo_map_37 : decode b_Mo_map 37 = .ok (.getfield 34, 3) := by decide +kernel
theorem d_Mo_map_40 : decode b_Mo_map 40 = .ok (.iload_n 1, 1) := by decide +kernel
theorem d_Mo_map_41 : decode b_Mo_map 41 = .ok (.iaload, 1) := by decide +kernel
theorem d_Mo_map_42 : decode b_Mo_map 42 = .ok (.aload_n 0, 1) := by decide +kernel
theorem d_Mo_map_43 : decode b_Mo_map 43 = .ok (.getfield 37, 3) := by decide +kernel
theorem d_Mo_map_46 : decode b_Mo_map 46 = .ok (.iload_n 1, 1) := by decide +kernel
theorem d_Mo_map_47 : decode b_Mo_map 47 = .ok (.iaload, 1) := by decide +kernel
theorem d_Mo_map_48 : decode b_Mo_map 48 = .ok (.iadd, 1) := by decide +kernel
theorem d_Mo_map_49 : decode b_Mo_map 49 = .ok (.aload_n 0, 1) := by decide +kernel
theorem d_Mo_map_50 : decode b_Mo_map 50 = .ok (.getfield 31, 3) := by decide +kernel
theorem d_Mo_map_53 : decode b_Mo_map 53 = .ok (.iload_n 1, 1) := by decide +kernel
theorem d_Mo_map_54 : decode b_Mo_map 54 = .ok (.iaload, 1) := by decide +kernel
theorem d_Mo_map_55 : decode b_Mo_map 55 = .ok (.if_icmp .ge 9, 3) := by decide +kernel
theorem d_Mo_map_58 : decode b_Mo_map 58 = .ok (.iload_n 3, 1) := by decide +kernel
theorem d_Mo_map_59 : decode b_Mo_map 59 = .ok (.bipush 12, 2) := by decide +kernel
theorem d_Mo_map_61 : decode b_Mo_map 61 = .ok (.if_icmp .ne 5, 3) := by decide +kernel
theorem d_Mo_map_64 : decode b_Mo_map 64 = .ok (.iconst 0, 1) := by decide +kernel
theorem d_Mo_map_65 : decode b_Mo_map 65 = .ok (.ireturn, 1) := by decide +kernel
theorem d_Mo_map_66 : decode b_Mo_map 66 = .ok (.aload_n 0, 1) := by decide +kernel
theorem d_Mo_map_67 : decode b_Mo_map 67 = .ok (.getfield 61, 3) := by decide +kernel
theorem d_Mo_map_70 : decode b_Mo_map 70 = .ok (.iload_n 3, 1) := by decide +kernel
theorem d_Mo_map_71 : decode b_Mo_map 71 = .ok (.iconst 1, 1) := by decide +kernel
theorem d_Mo_map_72 : decode b_Mo_map 72 = .ok (.bastore, 1) := by decide +kernel
theorem d_Mo_map_73 : decode b_Mo_map 73 = .ok (.iconst 0, 1) := by decide +kernel
theorem d_Mo_map_74 : decode b_Mo_map 74 = .ok (.istore 4, 2) := by decide +kernel
theorem d_Mo_map_76 : decode b_Mo_map 76 = .ok (.iload 4, 2) := by decide +kernel
theorem d_Mo_map_78 : decode b_Mo_map 78 = .ok (.bipush 8, 2) := by decide +kernel
theorem d_Mo_map_80 : decode b_Mo_map 80 = .ok (.if_icmp .ge 22, 3) := by decide +kernel
theorem d_Mo_map_83 : decode b_Mo_map 83 = .ok (.aload_n 0, 1) := by decide +kernel
theorem d_Mo_map_84 : decode b_Mo_map 84 = .ok (.getfield 58, 3) := by decide +kernel
theorem d_Mo_map_87 : decode b_Mo_map 87 = .ok (.iload_n 3, 1) := by decide +kernel
theorem d_Mo_map_88 : decode b_Mo_map 88 = .ok (.bipush 8, 2) := by decide +kernel
theorem d_Mo_map_90 : decode b_Mo_map 90 = .ok (.imul, 1) := by decide +kernel
theorem d_Mo_map_91 : decode b_Mo_map 91 = .ok (.iload 4, 2) := by decide +kernel
theorem d_Mo_map_93 : decode b_Mo_map 93 = .ok (.iadd, 1) := by decide +kernel
theorem d_Mo_map_94 : decode b_Mo_map 94 = .ok (.iconst 0, 1) := by decide +kernel
theorem d_Mo_map_95 : decode b_Mo_map 95 = .ok (.iastore, 1) := by decide +kernel
theorem d_Mo_map_96 : decode b_Mo_map 96 = .ok (.iinc 4 1, 3) := by decide +kernel
theorem d_Mo_map_99 : decode b_Mo_map 99 = .ok (.goto (-23), 3) := by decide +kernel
theorem d_Mo_map_102 : decode b_Mo_map 102 = .ok (.aload_n 0, 1) := by decide +kernel
theorem d_Mo_map_103 : decode b_Mo_map 103 = .ok (.getfield 55, 3) := by decide +kernel
theorem d_Mo_map_106 : decode b_Mo_map 106 = .ok (.iload_n 1, 1) := by decide +kernel
theorem d_Mo_map_107 : decode b_Mo_map 107 = .ok (.iconst 4, 1) := by decide +kernel
theorem d_Mo_map_108 : decode b_Mo_map 108 = .ok (.imul, 1) := by decide +kernel
theorem d_Mo_map_109 : decode b_Mo_map 109 = .ok (.iload_n 2, 1) := by decide +kernel
theorem d_Mo_map_110 : decode b_Mo_map 110 = .ok (.iadd, 1) := by decide +kernel
theorem d_Mo_map_111 : decode b_Mo_map 111 = .ok (.iload_n 3, 1) := by decide +kernel
theorem d_Mo_map_112 : decode b_Mo_map 112 = .ok (.iastore, 1) := by decide +kernel
theorem d_Mo_map_113 : decode b_Mo_map 113 = .ok (.aload_n 0, 1) := by decide +kernel
theorem d_Mo_map_114 : decode b_Mo_map 114 = .ok (.getfield 34, 3) := by decide +kernel
theorem d_Mo_map_117 : decode b_Mo_map 117 = .ok (.iload_n 1, 1) := by decide +kernel
theorem d_Mo_map_118 : decode b_Mo_map 118 = .ok (.dup2, 1) := by decide +kernel
theorem d_Mo_map_119 : decode b_Mo_map 119 = .ok (.iaload, 1) := by decide +kernel
theorem d_Mo_map_120 : decode b_Mo_map 120 = .ok (.iconst 1, 1) := by decide +kernel
theorem d_Mo_map_121 : decode b_Mo_map 121 = .ok (.iadd, 1) := by decide +kernel
theorem d_Mo_map_122 : decode b_Mo_map 122 = .ok (.iastore, 1) := by decide +kernel
theorem d_Mo_map_123 : decode b_Mo_map 123 = .ok (.iconst 1, 1) := by decide +kernel
theorem d_Mo_map_124 : decode b_Mo_map 124 = .ok (.ireturn, 1) := by decide +kernel
theorem d_Mo_spawn_0 : decode b_Mo_spawn 0 = .ok (.iconst 0, 1) := by decide +kernel
theorem d_Mo_spawn_1 : decode b_Mo_spawn 1 = .ok (.istore 5, 2) := by decide +kernel
theorem d_Mo_spawn_3 : decode b_Mo_spawn 3 = .ok (.iload 5, 2) := by decide +kernel
theorem d_Mo_spawn_5 : decode b_Mo_spawn 5 = .ok (.bipush 6, 2) := by decide +kernel
theorem d_Mo_spawn_7 : decode b_Mo_spawn 7 = .ok (.if_icmp .ge 19, 3) := by decide +kernel
theorem d_Mo_spawn_10 : decode b_Mo_spawn 10 = .ok (.aload_n 0, 1) := by decide +kernel
theorem d_Mo_spawn_11 : decode b_Mo_spawn 11 = .ok (.getfield 22, 3) := by decide +kernel
theorem d_Mo_spawn_14 : decode b_Mo_spawn 14 = .ok (.iload 5, 2) := by decide +kernel
theorem d_Mo_spawn_16 : decode b_Mo_spawn 16 = .ok (.iaload, 1) := by decide +kernel
theorem d_Mo_spawn_17 : decode b_Mo_spawn 17 = .ok (.ifCond .lt 9, 3) := by decide +kernel
theorem d_Mo_spawn_20 : decode b_Mo_spawn 20 = .ok (.iinc 5 1, 3) := by decide +kernel
theorem d_Mo_spawn_23 : decode b_Mo_spawn 23 = .ok (.goto (-20), 3) := by decide +kernel
theorem d_Mo_spawn_26 : decode b_Mo_spawn 26 = .ok (.iload_n 3, 1) := by decide +kernel
theorem d_Mo_spawn_27 : decode b_Mo_spawn 27 = .ok (.ifCond .lt 34, 3) := by decide +kernel
theorem d_Mo_spawn_30 : decode b_Mo_spawn 30 = .ok (.iload_n 3, 1) := by decide +kernel
theorem d_Mo_spawn_31 : decode b_Mo_spawn 31 = .ok (.aload_n 0, 1) := by decide +kernel
theorem d_Mo_spawn_32 : decode b_Mo_spawn 32 = .ok (.getfield 31, 3) := by decide +kernel
theorem d_Mo_spawn_35 : decode b_Mo_spawn 35 = .ok (.iload_n 1, 1) := by decide +kernel
theorem d_Mo_spawn_36 : decode b_Mo_spawn 36 = .ok (.iaload, 1) := by decide +kernel
theorem d_Mo_spawn_37 : decode b_Mo_spawn 37 = .ok (.aload_n 0, 1) := by decide +kernel
theorem d_Mo_spawn_38 : decode b_Mo_spawn 38 = .ok (.getfield 34, 3) := by decide +kernel
theorem d_Mo_spawn_41 : decode b_Mo_spawn 41 = .ok (.iload_n 1, 1) := by decide +kernel
theorem d_Mo_spawn_42 : decode b_Mo_spawn 42 = .ok (.iaload, 1) := by decide +kernel
theorem d_Mo_spawn_43 : decode b_Mo_spawn 43 = .ok (.isub, 1) := by decide +kernel
theorem d_Mo_spawn_44 : decode b_Mo_spawn 44 = .ok (.aload_n 0, 1) := by decide +kernel
theorem d_Mo_spawn_45 : decode b_Mo_spawn 45 = .ok (.getfield 37, 3) := by decide +kernel
theorem d_Mo_spawn_48 : decode b_Mo_spawn 48 = .ok (.iload_n 1, 1) := by decide +kernel
theorem d_Mo_spawn_49 : decode b_Mo_spawn 49 = .ok (.iaload, 1) := by decide +kernel
theorem d_Mo_spawn_50 : decode b_Mo_spawn 50 = .ok (.isub, 1) := by decide +kernel
theorem d_Mo_spawn_51 : decode b_Mo_spawn 51 = .ok (.if_icmp .gt 10, 3) := by decide +kernel
theorem d_Mo_spawn_54 : decode b_Mo_spawn 54 = .ok (.iload 5, 2) := by decide +kernel
theorem d_Mo_spawn_56 : decode b_Mo_spawn 56 = .ok (.bipush 6, 2) := by decide +kernel
theorem d_Mo_spawn_58 : decode b_Mo_spawn 58 = .ok (.if_icmp .ne 5, 3) := by decide +kernel
theorem d_Mo_spawn_61 : decode b_Mo_spawn 61 = .ok (.iconst (-1), 1) := by decide +kernel
theorem d_Mo_spawn_62 : decode b_Mo_spawn 62 = .ok (.ireturn, 1) := by decide +kernel
theorem d_Mo_spawn_63 : decode b_Mo_spawn 63 = .ok (.aload_n 0, 1) := by decide +kernel
theorem d_Mo_spawn_64 : decode b_Mo_spawn 64 = .ok (.getfield 37, 3) := by decide +kernel
theorem d_Mo_spawn_67 : decode b_Mo_spawn 67 = .ok (.iload_n 1, 1) := by decide +kernel
theorem d_Mo_spawn_68 : decode b_Mo_spawn 68 = .ok (.dup2, 1) := by decide +kernel
theorem d_Mo_spawn_69 : decode b_Mo_spawn 69 = .ok (.iaload, 1) := by decide +kernel
theorem d_Mo_spawn_70 : decode b_Mo_spawn 70 = .ok (.iload_n 3, 1) := by decide +kernel
theorem d_Mo_spawn_71 : decode b_Mo_spawn 71 = .ok (.iadd, 1) := by decide +kernel
theorem d_Mo_spawn_72 : decode b_Mo_spawn 72 = .ok (.iastore, 1) := by decide +kernel
theorem d_Mo_spawn_73 : decode b_Mo_spawn 73 = .ok (.aload_n 0, 1) := by decide +kernel
theorem d_Mo_spawn_74 : decode b_Mo_spawn 74 = .ok (.iload 5, 2) := by decide +kernel
theorem d_Mo_spawn_76 : decode b_Mo_spawn 76 = .ok (.iload_n 2, 1) := by decide +kernel
theorem d_Mo_spawn_77 : decode b_Mo_spawn 77 = .ok (.iload_n 3, 1) := by decide +kernel
theorem d_Mo_spawn_78 : decode b_Mo_spawn 78 = .ok (.iload_n 1, 1) := by decide +kernel
theorem d_Mo_spawn_79 : decode b_Mo_spawn 79 = .ok (.invokevirtual 86, 3) := by decide +kernel
theorem d_Mo_spawn_82 : decode b_Mo_spawn 82 = .ok (.aload_n 0, 1) := by decide +kernel
theorem d_Mo_spawn_83 : decode b_Mo_spawn 83 = .ok (.getfield 52, 3) := by decide +kernel
theorem d_Mo_spawn_86 : decode b_Mo_spawn 86 = .ok (.iload 5, 2) := by decide +kernel
theorem d_Mo_spawn_88 : decode b_Mo_spawn 88 = .ok (.iconst 4, 1) := by decide +kernel
theorem d_Mo_spawn_89 : decode b_Mo_spawn 89 = .ok (.imul, 1) := by decide +kernel
theorem d_Mo_spawn_90 : decode b_Mo_spawn 90 = .ok (.iload 4, 2) := by decide +kernel
theorem d_Mo_spawn_92 : decode b_Mo_spawn 92 = .ok (.iastore, 1) := by decide +kernel
theorem d_Mo_spawn_93 : decode b_Mo_spawn 93 = .ok (.aload_n 0, 1) := by decide +kernel
theorem d_Mo_spawn_94 : decode b_Mo_spawn 94 = .ok (.dup, 1) := by decide +kernel
theorem d_Mo_spawn_95 : decode b_Mo_spawn 95 = .ok (.getfield 122, 3) := by decide +kernel
theorem d_Mo_spawn_98 : decode b_Mo_spawn 98 = .ok (.iconst 1, 1) := by decide +kernel
theorem d_Mo_spawn_99 : decode b_Mo_spawn 99 = .ok (.iadd, 1) := by decide +kernel
theorem d_Mo_spawn_100 : decode b_Mo_spawn 100 = .ok (.putfield 122, 3) := by decide +kernel
theorem d_Mo_spawn_103 : decode b_Mo_spawn 103 = .ok (.iload 5, 2) := by decide +kernel
theorem d_Mo_spawn_105 : decode b_Mo_spawn 105 = .ok (.ireturn, 1) := by decide +kernel
theorem d_Mo_reap_0 : decode b_Mo_reap 0 = .ok (.iconst 0, 1) := by decide +kernel
theorem d_Mo_reap_1 : decode b_Mo_reap 1 = .ok (.istore_n 2, 1) := by decide +kernel
theorem d_Mo_reap_2 : decode b_Mo_reap 2 = .ok (.iload_n 2, 1) := by decide +kernel
theorem d_Mo_reap_3 : decode b_Mo_reap 3 = .ok (.bipush 6, 2) := by decide +kernel
theorem d_Mo_reap_5 : decode b_Mo_reap 5 = .ok (.if_icmp .ge 63, 3) := by decide +kernel
theorem d_Mo_reap_8 : decode b_Mo_reap 8 = .ok (.aload_n 0, 1) := by decide +kernel
theorem d_Mo_reap_9 : decode b_Mo_reap 9 = .ok (.getfield 22, 3) := by decide +kernel
theorem d_Mo_reap_12 : decode b_Mo_reap 12 = .ok (.iload_n 2, 1) := by decide +kernel
theorem d_Mo_reap_13 : decode b_Mo_reap 13 = .ok (.iaload, 1) := by decide +kernel
theorem d_Mo_reap_14 : decode b_Mo_reap 14 = .ok (.iconst 3, 1) := by decide +kernel
theorem d_Mo_reap_15 : decode b_Mo_reap 15 = .ok (.if_icmp .ne 47, 3) := by decide +kernel
theorem d_Mo_reap_18 : decode b_Mo_reap 18 = .ok (.aload_n 0, 1) := by decide +kernel
theorem d_Mo_reap_19 : decode b_Mo_reap 19 = .ok (.getfield 40, 3) := by decide +kernel
theorem d_Mo_reap_22 : decode b_Mo_reap 22 = .ok (.iload_n 2, 1) := by decide +kernel
theorem d_Mo_reap_23 : decode b_Mo_reap 23 = .ok (.iaload, 1) := by decide +kernel
theorem d_Mo_reap_24 : decode b_Mo_reap 24 = .ok (.iload_n 1, 1) := by decide +kernel
theorem d_Mo_reap_25 : decode b_Mo_reap 25 = .ok (.if_icmp .ne 37, 3) := by decide +kernel
theorem d_Mo_reap_28 : decode b_Mo_reap 28 = .ok (.aload_n 0, 1) := by decide +kernel
theorem d_Mo_reap_29 : decode b_Mo_reap 29 = .ok (.getfield 22, 3) := by decide +kernel
theorem d_Mo_reap_32 : decode b_Mo_reap 32 = .ok (.iload_n 2, 1) := by decide +kernel
theorem d_Mo_reap_33 : decode b_Mo_reap 33 = .ok (.iconst (-1), 1) := by decide +kernel
theorem d_Mo_reap_34 : decode b_Mo_reap 34 = .ok (.iastore, 1) := by decide +kernel
theorem d_Mo_reap_35 : decode b_Mo_reap 35 = .ok (.aload_n 0, 1) := by decide +kernel
theorem d_Mo_reap_36 : decode b_Mo_reap 36 = .ok (.getfield 37, 3) := by decide +kernel
theorem d_Mo_reap_39 : decode b_Mo_reap 39 = .ok (.iload_n 1, 1) := by decide +kernel
theorem d_Mo_reap_40 : decode b_Mo_reap 40 = .ok (.dup2, 1) := by decide +kernel
theorem d_Mo_reap_41 : decode b_Mo_reap 41 = .ok (.iaload, 1) := by decide +kernel
theorem d_Mo_reap_42 : decode b_Mo_reap 42 = .ok (.aload_n 0, 1) := by decide +kernel
theorem d_Mo_reap_43 : decode b_Mo_reap 43 = .ok (.getfield 31, 3) := by decide +kernel
theorem d_Mo_reap_46 : decode b_Mo_reap 46 = .ok (.iload_n 2, 1) := by decide +kernel
theorem d_Mo_reap_47 : decode b_Mo_reap 47 = .ok (.iaload, 1) := by decide +kernel
theorem d_Mo_reap_48 : decode b_Mo_reap 48 = .ok (.isub, 1) := by decide +kernel
theorem d_Mo_reap_49 : decode b_Mo_reap 49 = .ok (.iastore, 1) := by decide +kernel
theorem d_Mo_reap_50 : decode b_Mo_reap 50 = .ok (.aload_n 0, 1) := by decide +kernel
theorem d_Mo_reap_51 : decode b_Mo_reap 51 = .ok (.dup, 1) := by decide +kernel
theorem d_Mo_reap_52 : decode b_Mo_reap 52 = .ok (.getfield 125, 3) := by decide +kernel
theorem d_Mo_reap_55 : decode b_Mo_reap 55 = .ok (.iconst 1, 1) := by decide +kernel
theorem d_Mo_reap_56 : decode b_Mo_reap 56 = .ok (.iadd, 1) := by decide +kernel
theorem d_Mo_reap_57 : decode b_Mo_reap 57 = .ok (.putfield 125, 3) := by decide +kernel
theorem d_Mo_reap_60 : decode b_Mo_reap 60 = .ok (.iload_n 2, 1) := by decide +kernel
theorem d_Mo_reap_61 : decode b_Mo_reap 61 = .ok (.ireturn, 1) := by decide +kernel
theorem d_Mo_reap_62 : decode b_Mo_reap 62 = .ok (.iinc 2 1, 3) := by decide +kernel
theorem d_Mo_reap_65 : decode b_Mo_reap 65 = .ok (.goto (-63), 3) := by decide +kernel
theorem d_Mo_reap_68 : decode b_Mo_reap 68 = .ok (.iconst (-1), 1) := by decide +kernel
theorem d_Mo_reap_69 : decode b_Mo_reap 69 = .ok (.ireturn, 1) := by decide +kernel
theorem d_Mo_block_0 : decode b_Mo_block 0 = .ok (.aload_n 0, 1) := by decide +kernel
theorem d_Mo_block_1 : decode b_Mo_block 1 = .ok (.getfield 22, 3) := by decide +kernel
theorem d_Mo_block_4 : decode b_Mo_block 4 = .ok (.iload_n 1, 1) := by decide +kernel
theorem d_Mo_block_5 : decode b_Mo_block 5 = .ok (.iconst 2, 1) := by decide +kernel
theorem d_Mo_block_6 : decode b_Mo_block 6 = .ok (.iastore, 1) := by decide +kernel
theorem d_Mo_block_7 : decode b_Mo_block 7 = .ok (.aload_n 0, 1) := by decide +kernel
theorem d_Mo_block_8 : decode b_Mo_block 8 = .ok (.iload_n 2, 1) := by decide +kernel
theorem d_Mo_block_9 : decode b_Mo_block 9 = .ok (.iload_n 1, 1) := by decide +kernel
theorem d_Mo_block_10 : decode b_Mo_block 10 = .ok (.invokevirtual 94, 3) := by decide +kernel
theorem d_Mo_block_13 : decode b_Mo_block 13 = .ok (.return_, 1) := by decide +kernel
theorem d_Mo_send_0 : decode b_Mo_send 0 = .ok (.aload_n 0, 1) := by decide +kernel
theorem d_Mo_send_1 : decode b_Mo_send 1 = .ok (.getfield 74, 3) := by decide +kernel
theorem d_Mo_send_4 : decode b_Mo_send 4 = .ok (.iload_n 2, 1) := by decide +kernel
theorem d_Mo_send_5 : decode b_Mo_send 5 = .ok (.iaload, 1) := by decide +kernel
theorem d_Mo_send_6 : decode b_Mo_send 6 = .ok (.ifCond .ne 52, 3) := by decide +kernel
theorem d_Mo_send_9 : decode b_Mo_send 9 = .ok (.aload_n 0, 1) := by decide +kernel
theorem d_Mo_send_10 : decode b_Mo_send 10 = .ok (.getfield 68, 3) := by decide +kernel
theorem d_Mo_send_13 : decode b_Mo_send 13 = .ok (.bipush 6, 2) := by decide +kernel
theorem d_Mo_send_15 : decode b_Mo_send 15 = .ok (.iload_n 2, 1) := by decide +kernel
theorem d_Mo_send_16 : decode b_Mo_send 16 = .ok (.iadd, 1) := by decide +kernel
theorem d_Mo_send_17 : decode b_Mo_send 17 = .ok (.iaload, 1) := by decide +kernel
theorem d_Mo_send_18 : decode b_Mo_send 18 = .ok (.ifCond .le 40, 3) := by decide +kernel
theorem d_Mo_send_21 : decode b_Mo_send 21 = .ok (.aload_n 0, 1) := by decide +kernel
theorem d_Mo_send_22 : decode b_Mo_send 22 = .ok (.bipush 6, 2) := by decide +kernel
theorem d_Mo_send_24 : decode b_Mo_send 24 = .ok (.iload_n 2, 1) := by decide +kernel
theorem d_Mo_send_25 : decode b_Mo_send 25 = .ok (.iadd, 1) := by decide +kernel
theorem d_Mo_send_26 : decode b_Mo_send 26 = .ok (.invokevirtual 106, 3) := by decide +kernel
theorem d_Mo_send_29 : decode b_Mo_send 29 = .ok (.istore 4, 2) := by decide +kernel
theorem d_Mo_send_31 : decode b_Mo_send 31 = .ok (.aload_n 0, 1) := by decide +kernel
theorem d_Mo_send_32 : decode b_Mo_send 32 = .ok (.getfield 52, 3) := by decide +kernel
theorem d_Mo_send_35 : decode b_Mo_send 35 = .ok (.iload 4, 2) := by decide +kernel
theorem d_Mo_send_37 : decode b_Mo_send 37 = .ok (.iconst 4, 1) := by decide +kernel
theorem d_Mo_send_38 : decode b_Mo_send 38 = .ok (.imul, 1) := by decide +kernel
theorem d_Mo_send_39 : decode b_Mo_send 39 = .ok (.aload_n 0, 1) := by decide +kernel
theorem d_Mo_send_40 : decode b_Mo_send 40 = .ok (.getfield 49, 3) := by decide +kernel
theorem d_Mo_send_43 : decode b_Mo_send 43 = .ok (.iload 4, 2) := by decide +kernel
theorem d_Mo_send_45 : decode b_Mo_send 45 = .ok (.iaload, 1) := by decide +kernel
theorem d_Mo_send_46 : decode b_Mo_send 46 = .ok (.iadd, 1) := by decide +kernel
theorem d_Mo_send_47 : decode b_Mo_send 47 = .ok (.iload_n 3, 1) := by decide +kernel
theorem d_Mo_send_48 : decode b_Mo_send 48 = .ok (.iastore, 1) := by decide +kernel
theorem d_Mo_send_49 : decode b_Mo_send 49 = .ok (.aload_n 0, 1) := by decide +kernel
theorem d_Mo_send_50 : decode b_Mo_send 50 = .ok (.iload 4, 2) := by decide +kernel
theorem d_Mo_send_52 : decode b_Mo_send 52 = .ok (.invokevirtual 98, 3) := by decide +kernel
theorem d_Mo_send_55 : decode b_Mo_send 55 = .ok (.goto 57, 3) := by decide +kernel
theorem d_Mo_send_58 : decode b_Mo_send 58 = .ok (.aload_n 0, 1) := by decide +kernel
theorem d_Mo_send_59 : decode b_Mo_send 59 = .ok (.getfield 74, 3) := by decide +kernel
theorem d_Mo_send_62 : decode b_Mo_send 62 = .ok (.iload_n 2, 1) := by decide +kernel
theorem d_Mo_send_63 : decode b_Mo_send 63 = .ok (.iaload, 1) := by decide +kernel
theorem d_Mo_send_64 : decode b_Mo_send 64 = .ok (.iconst 2, 1) := by decide +kernel
theorem d_Mo_send_65 : decode b_Mo_send 65 = .ok (.if_icmp .ge 32, 3) := by decide +kernel
theorem d_Mo_send_68 : decode b_Mo_send 68 = .ok (.aload_n 0, 1) := by decide +kernel
theorem d_Mo_send_69 : decode b_Mo_send 69 = .ok (.getfield 71, 3) := by decide +kernel
theorem d_Mo_send_72 : decode b_Mo_send 72 = .ok (.iload_n 2, 1) := by decide +kernel
theorem d_Mo_send_73 : decode b_Mo_send 73 = .ok (.iconst 2, 1) := by decide +kernel
theorem d_Mo_send_74 : decode b_Mo_send 74 = .ok (.imul, 1) := by decide +kernel
theorem d_Mo_send_75 : decode b_Mo_send 75 = .ok (.aload_n 0, 1) := by decide +kernel
theorem d_Mo_send_76 : decode b_Mo_send 76 = .ok (.getfield 74, 3) := by decide +kernel
theorem d_Mo_send_79 : decode b_Mo_send 79 = .ok (.iload_n 2, 1) := by decide +kernel
theorem d_Mo_send_80 : decode b_Mo_send 80 = .ok (.iaload, 1) := by decide +kernel
theorem d_Mo_send_81 : decode b_Mo_send 81 = .ok (.iadd, 1) := by decide +kernel
theorem d_Mo_send_82 : decode b_Mo_send 82 = .ok (.iload_n 3, 1) := by decide +kernel
theorem d_Mo_send_83 : decode b_Mo_send 83 = .ok (.iastore, 1) := by decide +kernel
theorem d_Mo_send_84 : decode b_Mo_send 84 = .ok (.aload_n 0, 1) := by decide +kernel
theorem d_Mo_send_85 : decode b_Mo_send 85 = .ok (.getfield 74, 3) := by decide +kernel
theorem d_Mo_send_88 : decode b_Mo_send 88 = .ok (.iload_n 2, 1) := by decide +kernel
theorem d_Mo_send_89 : decode b_Mo_send 89 = .ok (.dup2, 1) := by decide +kernel
theorem d_Mo_send_90 : decode b_Mo_send 90 = .ok (.iaload, 1) := by decide +kernel
theorem d_Mo_send_91 : decode b_Mo_send 91 = .ok (.iconst 1, 1) := by decide +kernel
theorem d_Mo_send_92 : decode b_Mo_send 92 = .ok (.iadd, 1) := by decide +kernel
theorem d_Mo_send_93 : decode b_Mo_send 93 = .ok (.iastore, 1) := by decide +kernel
theorem d_Mo_send_94 : decode b_Mo_send 94 = .ok (.goto 18, 3) := by decide +kernel
theorem d_Mo_send_97 : decode b_Mo_send 97 = .ok (.aload_n 0, 1) := by decide +kernel
theorem d_Mo_send_98 : decode b_Mo_send 98 = .ok (.getfield 49, 3) := by decide +kernel
theorem d_Mo_send_101 : decode b_Mo_send 101 = .ok (.iload_n 1, 1) := by decide +kernel
theorem d_Mo_send_102 : decode b_Mo_send 102 = .ok (.iload_n 3, 1) := by decide +kernel
theorem d_Mo_send_103 : decode b_Mo_send 103 = .ok (.iastore, 1) := by decide +kernel
theorem d_Mo_send_104 : decode b_Mo_send 104 = .ok (.aload_n 0, 1) := by decide +kernel
theorem d_Mo_send_105 : decode b_Mo_send 105 = .ok (.iload_n 1, 1) := by decide +kernel
theorem d_Mo_send_106 : decode b_Mo_send 106 = .ok (.iconst 2, 1) := by decide +kernel
theorem d_Mo_send_107 : decode b_Mo_send 107 = .ok (.iload_n 2, 1) := by decide +kernel
theorem d_Mo_send_108 : decode b_Mo_send 108 = .ok (.iadd, 1) := by decide +kernel
theorem d_Mo_send_109 : decode b_Mo_send 109 = .ok (.invokevirtual 128, 3) := by decide +kernel
theorem d_Mo_send_112 : decode b_Mo_send 112 = .ok (.return_, 1) := by decide +kernel
theorem d_Mo_receive_0 : decode b_Mo_receive 0 = .ok (.aload_n 0, 1) := by decide +kernel
theorem d_Mo_receive_1 : decode b_Mo_receive 1 = .ok (.getfield 74, 3) := by decide +kernel
theorem d_Mo_receive_4 : decode b_Mo_receive 4 = .ok (.iload_n 2, 1) := by decide +kernel
theorem d_Mo_receive_5 : decode b_Mo_receive 5 = .ok (.iaload, 1) := by decide +kernel
theorem d_Mo_receive_6 : decode b_Mo_receive 6 = .ok (.ifCond .ne 20, 3) := by decide +kernel
theorem d_Mo_receive_9 : decode b_Mo_receive 9 = .ok (.aload_n 0, 1) := by decide +kernel
theorem d_Mo_receive_10 : decode b_Mo_receive 10 = .ok (.getfield 49, 3) := by decide +kernel
theorem d_Mo_receive_13 : decode b_Mo_receive 13 = .ok (.iload_n 1, 1) := by decide +kernel
theorem d_Mo_receive_14 : decode b_Mo_receive 14 = .ok (.iload_n 3, 1) := by decide +kernel
theorem d_Mo_receive_15 : decode b_Mo_receive 15 = .ok (.iastore, 1) := by decide +kernel
theorem d_Mo_receive_16 : decode b_Mo_receive 16 = .ok (.aload_n 0, 1) := by decide +kernel
theorem d_Mo_receive_17 : decode b_Mo_receive 17 = .ok (.iload_n 1, 1) := by decide +kernel
theorem d_Mo_receive_18 : decode b_Mo_receive 18 = .ok (.bipush 6, 2) := by decide +kernel
theorem d_Mo_receive_20 : decode b_Mo_receive 20 = .ok (.iload_n 2, 1) := by decide +kernel
theorem d_Mo_receive_21 : decode b_Mo_receive 21 = .ok (.iadd, 1) := by decide +kernel
theorem d_Mo_receive_22 : decode b_Mo_receive 22 = .ok (.invokevirtual 128, 3) := by decide +kernel
theorem d_Mo_receive_25 : decode b_Mo_receive 25 = .ok (.return_, 1) := by decide +kernel
theorem d_Mo_receive_26 : decode b_Mo_receive 26 = .ok (.aload_n 0, 1) := by decide +kernel
theorem d_Mo_receive_27 : decode b_Mo_receive 27 = .ok (.getfield 52, 3) := by decide +kernel
theorem d_Mo_receive_30 : decode b_Mo_receive 30 = .ok (.iload_n 1, 1) := by decide +kernel
theorem d_Mo_receive_31 : decode b_Mo_receive 31 = .ok (.iconst 4, 1) := by decide +kernel
theorem d_Mo_receive_32 : decode b_Mo_receive 32 = .ok (.imul, 1) := by decide +kernel
theorem d_Mo_receive_33 : decode b_Mo_receive 33 = .ok (.iload_n 3, 1) := by decide +kernel
theorem d_Mo_receive_34 : decode b_Mo_receive 34 = .ok (.iadd, 1) := by decide +kernel
theorem d_Mo_receive_35 : decode b_Mo_receive 35 = .ok (.aload_n 0, 1) := by decide +kernel
theorem d_Mo_receive_36 : decode b_Mo_receive 36 = .ok (.getfield 71, 3) := by decide +kernel
theorem d_Mo_receive_39 : decode b_Mo_receive 39 = .ok (.iload_n 2, 1) := by decide +kernel
theorem d_Mo_receive_40 : decode b_Mo_receive 40 = .ok (.iconst 2, 1) := by decide +kernel
theorem d_Mo_receive_41 : decode b_Mo_receive 41 = .ok (.imul, 1) := by decide +kernel
theorem d_Mo_receive_42 : decode b_Mo_receive 42 = .ok (.iaload, 1) := by decide +kernel
theorem d_Mo_receive_43 : decode b_Mo_receive 43 = .ok (.iastore, 1) := by decide +kernel
theorem d_Mo_receive_44 : decode b_Mo_receive 44 = .ok (.aload_n 0, 1) := by decide +kernel
theorem d_Mo_receive_45 : decode b_Mo_receive 45 = .ok (.getfield 71, 3) := by decide +kernel
theorem d_Mo_receive_48 : decode b_Mo_receive 48 = .ok (.iload_n 2, 1) := by decide +kernel
theorem d_Mo_receive_49 : decode b_Mo_receive 49 = .ok (.iconst 2, 1) := by decide +kernel
theorem d_Mo_receive_50 : decode b_Mo_receive 50 = .ok (.imul, 1) := by decide +kernel
theorem d_Mo_receive_51 : decode b_Mo_receive 51 = .ok (.aload_n 0, 1) := by decide +kernel
theorem d_Mo_receive_52 : decode b_Mo_receive 52 = .ok (.getfield 71, 3) := by decide +kernel
theorem d_Mo_receive_55 : decode b_Mo_receive 55 = .ok (.iload_n 2, 1) := by decide +kernel
theorem d_Mo_receive_56 : decode b_Mo_receive 56 = .ok (.iconst 2, 1) := by decide +kernel
theorem d_Mo_receive_57 : decode b_Mo_receive 57 = .ok (.imul, 1) := by decide +kernel
theorem d_Mo_receive_58 : decode b_Mo_receive 58 = .ok (.iconst 1, 1) := by decide +kernel
theorem d_Mo_receive_59 : decode b_Mo_receive 59 = .ok (.iadd, 1) := by decide +kernel
theorem d_Mo_receive_60 : decode b_Mo_receive 60 = .ok (.iaload, 1) := by decide +kernel
theorem d_Mo_receive_61 : decode b_Mo_receive 61 = .ok (.iastore, 1) := by decide +kernel
theorem d_Mo_receive_62 : decode b_Mo_receive 62 = .ok (.aload_n 0, 1) := by decide +kernel
theorem d_Mo_receive_63 : decode b_Mo_receive 63 = .ok (.getfield 74, 3) := by decide +kernel
theorem d_Mo_receive_66 : decode b_Mo_receive 66 = .ok (.iload_n 2, 1) := by decide +kernel
theorem d_Mo_receive_67 : decode b_Mo_receive 67 = .ok (.dup2, 1) := by decide +kernel
theorem d_Mo_receive_68 : decode b_Mo_receive 68 = .ok (.iaload, 1) := by decide +kernel
theorem d_Mo_receive_69 : decode b_Mo_receive 69 = .ok (.iconst 1, 1) := by decide +kernel
theorem d_Mo_receive_70 : decode b_Mo_receive 70 = .ok (.isub, 1) := by decide +kernel
theorem d_Mo_receive_71 : decode b_Mo_receive 71 = .ok (.iastore, 1) := by decide +kernel
theorem d_Mo_receive_72 : decode b_Mo_receive 72 = .ok (.aload_n 0, 1) := by decide +kernel
theorem d_Mo_receive_73 : decode b_Mo_receive 73 = .ok (.getfield 74, 3) := by decide +kernel
theorem d_Mo_receive_76 : decode b_Mo_receive 76 = .ok (.iload_n 2, 1) := by decide +kernel
theorem d_Mo_receive_77 : decode b_Mo_receive 77 = .ok (.iaload, 1) := by decide +kernel
theorem d_Mo_receive_78 : decode b_Mo_receive 78 = .ok (.iconst 1, 1) := by decide +kernel
theorem d_Mo_receive_79 : decode b_Mo_receive 79 = .ok (.if_icmp .ne 53, 3) := by decide +kernel
theorem d_Mo_receive_82 : decode b_Mo_receive 82 = .ok (.aload_n 0, 1) := by decide +kernel
theorem d_Mo_receive_83 : decode b_Mo_receive 83 = .ok (.getfield 68, 3) := by decide +kernel
theorem d_Mo_receive_86 : decode b_Mo_receive 86 = .ok (.iconst 2, 1) := by decide +kernel
theorem d_Mo_receive_87 : decode b_Mo_receive 87 = .ok (.iload_n 2, 1) := by decide +kernel
theorem d_Mo_receive_88 : decode b_Mo_receive 88 = .ok (.iadd, 1) := by decide +kernel
theorem d_Mo_receive_89 : decode b_Mo_receive 89 = .ok (.iaload, 1) := by decide +kernel
theorem d_Mo_receive_90 : decode b_Mo_receive 90 = .ok (.ifCond .le 42, 3) := by decide +kernel
theorem d_Mo_receive_93 : decode b_Mo_receive 93 = .ok (.aload_n 0, 1) := by decide +kernel
theorem d_Mo_receive_94 : decode b_Mo_receive 94 = .ok (.iconst 2, 1) := by decide +kernel
theorem d_Mo_receive_95 : decode b_Mo_receive 95 = .ok (.iload_n 2, 1) := by decide +kernel
theorem d_Mo_receive_96 : decode b_Mo_receive 96 = .ok (.iadd, 1) := by decide +kernel
theorem d_Mo_receive_97 : decode b_Mo_receive 97 = .ok (.invokevirtual 106, 3) := by decide +kernel
theorem d_Mo_receive_100 : decode b_Mo_receive 100 = .ok (.istore 4, 2) := by decide +kernel
theorem d_Mo_receive_102 : decode b_Mo_receive 102 = .ok (.aload_n 0, 1) := by decide +kernel
theorem d_Mo_receive_103 : decode b_Mo_receive 103 = .ok (.getfield 71, 3) := by decide +kernel
theorem d_Mo_receive_106 : decode b_Mo_receive 106 = .ok (.iload_n 2, 1) := by decide +kernel
theorem d_Mo_receive_107 : decode b_Mo_receive 107 = .ok (.iconst 2, 1) := by decide +kernel
theorem d_Mo_receive_108 : decode b_Mo_receive 108 = .ok (.imul, 1) := by decide +kernel
theorem d_Mo_receive_109 : decode b_Mo_receive 109 = .ok (.iconst 1, 1) := by decide +kernel
theorem d_Mo_receive_110 : decode b_Mo_receive 110 = .ok (.iadd, 1) := by decide +kernel
theorem d_Mo_receive_111 : decode b_Mo_receive 111 = .ok (.aload_n 0, 1) := by decide +kernel
theorem d_Mo_receive_112 : decode b_Mo_receive 112 = .ok (.getfield 49, 3) := by decide +kernel
theorem d_Mo_receive_115 : decode b_Mo_receive 115 = .ok (.iload 4, 2) := by decide +kernel
theorem d_Mo_receive_117 : decode b_Mo_receive 117 = .ok (.iaload, 1) := by decide +kernel
theorem d_Mo_receive_118 : decode b_Mo_receive 118 = .ok (.iastore, 1) := by decide +kernel
theorem d_Mo_receive_119 : decode b_Mo_receive 119 = .ok (.aload_n 0, 1) := by decide +kernel
theorem d_Mo_receive_120 : decode b_Mo_receive 120 = .ok (.getfield 74, 3) := by decide +kernel
theorem d_Mo_receive_123 : decode b_Mo_receive 123 = .ok (.iload_n 2, 1) := by decide +kernel
theorem d_Mo_receive_124 : decode b_Mo_receive 124 = .ok (.iconst 2, 1) := by decide +kernel
theorem d_Mo_receive_125 : decode b_Mo_receive 125 = .ok (.iastore, 1) := by decide +kernel
theorem d_Mo_receive_126 : decode b_Mo_receive 126 = .ok (.aload_n 0, 1) := by decide +kernel
theorem d_Mo_receive_127 : decode b_Mo_receive 127 = .ok (.iload 4, 2) := by decide +kernel
theorem d_Mo_receive_129 : decode b_Mo_receive 129 = .ok (.invokevirtual 98, 3) := by decide +kernel
theorem d_Mo_receive_132 : decode b_Mo_receive 132 = .ok (.return_, 1) := by decide +kernel
theorem d_Mo_perform_0 : decode b_Mo_perform 0 = .ok (.iload_n 1, 1) := by decide +kernel
theorem d_Mo_perform_1 : decode b_Mo_perform 1 = .ok (.iconst 4, 1) := by decide +kernel
theorem d_Mo_perform_2 : decode b_Mo_perform 2 = .ok (.imul, 1) := by decide +kernel
theorem d_Mo_perform_3 : decode b_Mo_perform 3 = .ok (.iload_n 3, 1) := by decide +kernel
end
section
theorem d_Mo_perform_4 : decode b_Mo_perform 4 = .ok (.iadd, 1) := by decide +kernel
theorem d_Mo_perform_5 : decode b_Mo_perform 5 = .ok (.istore 6, 2) := by decide +kernel
theorem d_Mo_perform_7 : decode b_Mo_perform 7 = .ok (.aload_n 0, 1) := by decide +kernel
theorem d_Mo_perform_8 : decode b_Mo_perform 8 = .ok (.getfield 52, 3) := by decide +kernel
theorem d_Mo_perform_11 : decode b_Mo_perform 11 = .ok (.iload_n 1, 1) := by decide +kernel
theorem d_Mo_perform_12 : decode b_Mo_perform 12 = .ok (.iconst 4, 1) := by decide +kernel
theorem d_Mo_perform_13 : decode b_Mo_perform 13 = .ok (.imul, 1) := by decide +kernel
theorem d_Mo_perform_14 : decode b_Mo_perform 14 = .ok (.iload 4, 2) := by decide +kernel
theorem d_Mo_perform_16 : decode b_Mo_perform 16 = .ok (.iadd, 1) := by decide +kernel
theorem d_Mo_perform_17 : decode b_Mo_perform 17 = .ok (.iaload, 1) := by decide +kernel
theorem d_Mo_perform_18 : decode b_Mo_perform 18 = .ok (.istore 7, 2) := by decide +kernel
theorem d_Mo_perform_20 : decode b_Mo_perform 20 = .ok (.iload_n 2, 1) := by decide +kernel
theorem d_Mo_perform_21 : decode b_Mo_perform 21 = .ok (.tableswitch 435 1 21 #[99, 110, 124, 138, 152, 166, 187, 187, 435, 435, 247, 435, 269, 269, 342, 370, 370, 370, 370, 435, 394], 99) := by decide +kernel
theorem d_Mo_perform_120 : decode b_Mo_perform 120 = .ok (.aload_n 0, 1) := by decide +kernel
theorem d_Mo_perform_121 : decode b_Mo_perform 121 = .ok (.getfield 52, 3) := by decide +kernel
theorem d_Mo_perform_124 : decode b_Mo_perform 124 = .ok (.iload 6, 2) := by decide +kernel
theorem d_Mo_perform_126 : decode b_Mo_perform 126 = .ok (.iload 5, 2) := by decide +kernel
theorem d_Mo_perform_128 : decode b_Mo_perform 128 = .ok (.iastore, 1) := by decide +kernel
theorem d_Mo_perform_129 : decode b_Mo_perform 129 = .ok (.iconst 0, 1) := by decide +kernel
theorem d_Mo_perform_130 : decode b_Mo_perform 130 = .ok (.ireturn, 1) := by decide +kernel
theorem d_Mo_perform_131 : decode b_Mo_perform 131 = .ok (.aload_n 0, 1) := by decide +kernel
theorem d_Mo_perform_132 : decode b_Mo_perform 132 = .ok (.getfield 52, 3) := by decide +kernel
theorem d_Mo_perform_135 : decode b_Mo_perform 135 = .ok (.iload 6, 2) := by decide +kernel
theorem d_Mo_perform_137 : decode b_Mo_perform 137 = .ok (.iload 7, 2) := by decide +kernel
theorem d_Mo_perform_139 : decode b_Mo_perform 139 = .ok (.iload 5, 2) := by decide +kernel
theorem d_Mo_perform_141 : decode b_Mo_perform 141 = .ok (.iadd, 1) := by decide +kernel
theorem d_Mo_perform_142 : decode b_Mo_perform 142 = .ok (.iastore, 1) := by decide +kernel
theorem d_Mo_perform_143 : decode b_Mo_perform 143 = .ok (.iconst 0, 1) := by decide +kernel
theorem d_Mo_perform_144 : decode b_Mo_perform 144 = .ok (.ireturn, 1) := by decide +kernel
theorem d_Mo_perform_145 : decode b_Mo_perform 145 = .ok (.aload_n 0, 1) := by decide +kernel
theorem d_Mo_perform_146 : decode b_Mo_perform 146 = .ok (.getfield 52, 3) := by decide +kernel
theorem d_Mo_perform_149 : decode b_Mo_perform 149 = .ok (.iload 6, 2) := by decide +kernel
theorem d_Mo_perform_151 : decode b_Mo_perform 151 = .ok (.dup2, 1) := by decide +kernel
theorem d_Mo_perform_152 : decode b_Mo_perform 152 = .ok (.iaload, 1) := by decide +kernel
theorem d_Mo_perform_153 : decode b_Mo_perform 153 = .ok (.iload 7, 2) := by decide +kernel
theorem d_Mo_perform_155 : decode b_Mo_perform 155 = .ok (.iadd, 1) := by decide +kernel
theorem d_Mo_perform_156 : decode b_Mo_perform 156 = .ok (.iastore, 1) := by decide +kernel
theorem d_Mo_perform_157 : decode b_Mo_perform 157 = .ok (.iconst 0, 1) := by decide +kernel
theorem d_Mo_perform_158 : decode b_Mo_perform 158 = .ok (.ireturn, 1) := by decide +kernel
theorem d_Mo_perform_159 : decode b_Mo_perform 159 = .ok (.aload_n 0, 1) := by decide +kernel
theorem d_Mo_perform_160 : decode b_Mo_perform 160 = .ok (.getfield 52, 3) := by decide +kernel
theorem d_Mo_perform_163 : decode b_Mo_perform 163 = .ok (.iload 6, 2) := by decide +kernel
theorem d_Mo_perform_165 : decode b_Mo_perform 165 = .ok (.dup2, 1) := by decide +kernel
theorem d_Mo_perform_166 : decode b_Mo_perform 166 = .ok (.iaload, 1) := by decide +kernel
theorem d_Mo_perform_167 : decode b_Mo_perform 167 = .ok (.iload 7, 2) := by decide +kernel
theorem d_Mo_perform_169 : decode b_Mo_perform 169 = .ok (.isub, 1) := by decide +kernel
theorem d_Mo_perform_170 : decode b_Mo_perform 170 = .ok (.iastore, 1) := by decide +kernel
theorem d_Mo_perform_171 : decode b_Mo_perform 171 = .ok (.iconst 0, 1) := by decide +kernel
theorem d_Mo_perform_172 : decode b_Mo_perform 172 = .ok (.ireturn, 1) := by decide +kernel
theorem d_Mo_perform_173 : decode b_Mo_perform 173 = .ok (.aload_n 0, 1) := by decide +kernel
theorem d_Mo_perform_174 : decode b_Mo_perform 174 = .ok (.getfield 52, 3) := by decide +kernel
theorem d_Mo_perform_177 : decode b_Mo_perform 177 = .ok (.iload 6, 2) := by decide +kernel
theorem d_Mo_perform_179 : decode b_Mo_perform 179 = .ok (.dup2, 1) := by decide +kernel
theorem d_Mo_perform_180 : decode b_Mo_perform 180 = .ok (.iaload, 1) := by decide +kernel
theorem d_Mo_perform_181 : decode b_Mo_perform 181 = .ok (.iload 7, 2) := by decide +kernel
theorem d_Mo_perform_183 : decode b_Mo_perform 183 = .ok (.imul, 1) := by decide +kernel
theorem d_Mo_perform_184 : decode b_Mo_perform 184 = .ok (.iastore, 1) := by decide +kernel
theorem d_Mo_perform_185 : decode b_Mo_perform 185 = .ok (.iconst 0, 1) := by decide +kernel
theorem d_Mo_perform_186 : decode b_Mo_perform 186 = .ok (.ireturn, 1) := by decide +kernel
theorem d_Mo_perform_187 : decode b_Mo_perform 187 = .ok (.iload 7, 2) := by decide +kernel
theorem d_Mo_perform_189 : decode b_Mo_perform 189 = .ok (.ifCond .ne 5, 3) := by decide +kernel
theorem d_Mo_perform_192 : decode b_Mo_perform 192 = .ok (.iconst 1, 1) := by decide +kernel
theorem d_Mo_perform_193 : decode b_Mo_perform 193 = .ok (.ireturn, 1) := by decide +kernel
theorem d_Mo_perform_194 : decode b_Mo_perform 194 = .ok (.aload_n 0, 1) := by decide +kernel
theorem d_Mo_perform_195 : decode b_Mo_perform 195 = .ok (.getfield 52, 3) := by decide +kernel
theorem d_Mo_perform_198 : decode b_Mo_perform 198 = .ok (.iload 6, 2) := by decide +kernel
theorem d_Mo_perform_200 : decode b_Mo_perform 200 = .ok (.dup2, 1) := by decide +kernel
theorem d_Mo_perform_201 : decode b_Mo_perform 201 = .ok (.iaload, 1) := by decide +kernel
theorem d_Mo_perform_202 : decode b_Mo_perform 202 = .ok (.iload 7, 2) := by decide +kernel
theorem d_Mo_perform_204 : decode b_Mo_perform 204 = .ok (.idiv, 1) := by decide +kernel
theorem d_Mo_perform_205 : decode b_Mo_perform 205 = .ok (.iastore, 1) := by decide +kernel
theorem d_Mo_perform_206 : decode b_Mo_perform 206 = .ok (.iconst 0, 1) := by decide +kernel
theorem d_Mo_perform_207 : decode b_Mo_perform 207 = .ok (.ireturn, 1) := by decide +kernel
theorem d_Mo_perform_208 : decode b_Mo_perform 208 = .ok (.aload_n 0, 1) := by decide +kernel
theorem d_Mo_perform_209 : decode b_Mo_perform 209 = .ok (.iload_n 1, 1) := by decide +kernel
theorem d_Mo_perform_210 : decode b_Mo_perform 210 = .ok (.iload 7, 2) := by decide +kernel
theorem d_Mo_perform_212 : decode b_Mo_perform 212 = .ok (.iload 5, 2) := by decide +kernel
theorem d_Mo_perform_214 : decode b_Mo_perform 214 = .ok (.iadd, 1) := by decide +kernel
theorem d_Mo_perform_215 : decode b_Mo_perform 215 = .ok (.invokevirtual 131, 3) := by decide +kernel
theorem d_Mo_perform_218 : decode b_Mo_perform 218 = .ok (.istore 8, 2) := by decide +kernel
theorem d_Mo_perform_220 : decode b_Mo_perform 220 = .ok (.iload 8, 2) := by decide +kernel
theorem d_Mo_perform_222 : decode b_Mo_perform 222 = .ok (.ifCond .ge 7, 3) := by decide +kernel
theorem d_Mo_perform_225 : decode b_Mo_perform 225 = .ok (.iload 8, 2) := by decide +kernel
theorem d_Mo_perform_227 : decode b_Mo_perform 227 = .ok (.ineg, 1) := by decide +kernel
theorem d_Mo_perform_228 : decode b_Mo_perform 228 = .ok (.ireturn, 1) := by decide +kernel
theorem d_Mo_perform_229 : decode b_Mo_perform 229 = .ok (.iload_n 2, 1) := by decide +kernel
theorem d_Mo_perform_230 : decode b_Mo_perform 230 = .ok (.bipush 7, 2) := by decide +kernel
theorem d_Mo_perform_232 : decode b_Mo_perform 232 = .ok (.if_icmp .ne 20, 3) := by decide +kernel
theorem d_Mo_perform_235 : decode b_Mo_perform 235 = .ok (.aload_n 0, 1) := by decide +kernel
theorem d_Mo_perform_236 : decode b_Mo_perform 236 = .ok (.getfield 52, 3) := by decide +kernel
theorem d_Mo_perform_239 : decode b_Mo_perform 239 = .ok (.iload 6, 2) := by decide +kernel
theorem d_Mo_perform_241 : decode b_Mo_perform 241 = .ok (.aload_n 0, 1) := by decide +kernel
theorem d_Mo_perform_242 : decode b_Mo_perform 242 = .ok (.getfield 58, 3) := by decide +kernel
theorem d_Mo_perform_245 : decode b_Mo_perform 245 = .ok (.iload 8, 2) := by decide +kernel
theorem d_Mo_perform_247 : decode b_Mo_perform 247 = .ok (.iaload, 1) := by decide +kernel
theorem d_Mo_perform_248 : decode b_Mo_perform 248 = .ok (.iastore, 1) := by decide +kernel
theorem d_Mo_perform_249 : decode b_Mo_perform 249 = .ok (.goto 17, 3) := by decide +kernel
theorem d_Mo_perform_252 : decode b_Mo_perform 252 = .ok (.aload_n 0, 1) := by decide +kernel
theorem d_Mo_perform_253 : decode b_Mo_perform 253 = .ok (.getfield 58, 3) := by decide +kernel
theorem d_Mo_perform_256 : decode b_Mo_perform 256 = .ok (.iload 8, 2) := by decide +kernel
theorem d_Mo_perform_258 : decode b_Mo_perform 258 = .ok (.aload_n 0, 1) := by decide +kernel
theorem d_Mo_perform_259 : decode b_Mo_perform 259 = .ok (.getfield 52, 3) := by decide +kernel
theorem d_Mo_perform_262 : decode b_Mo_perform 262 = .ok (.iload 6, 2) := by decide +kernel
theorem d_Mo_perform_264 : decode b_Mo_perform 264 = .ok (.iaload, 1) := by decide +kernel
theorem d_Mo_perform_265 : decode b_Mo_perform 265 = .ok (.iastore, 1) := by decide +kernel
theorem d_Mo_perform_266 : decode b_Mo_perform 266 = .ok (.iconst 0, 1) := by decide +kernel
theorem d_Mo_perform_267 : decode b_Mo_perform 267 = .ok (.ireturn, 1) := by decide +kernel
theorem d_Mo_perform_268 : decode b_Mo_perform 268 = .ok (.aload_n 0, 1) := by decide +kernel
theorem d_Mo_perform_269 : decode b_Mo_perform 269 = .ok (.getfield 28, 3) := by decide +kernel
theorem d_Mo_perform_272 : decode b_Mo_perform 272 = .ok (.iload_n 1, 1) := by decide +kernel
theorem d_Mo_perform_273 : decode b_Mo_perform 273 = .ok (.iload 5, 2) := by decide +kernel
theorem d_Mo_perform_275 : decode b_Mo_perform 275 = .ok (.ifCond .ge 7, 3) := by decide +kernel
theorem d_Mo_perform_278 : decode b_Mo_perform 278 = .ok (.iconst (-1), 1) := by decide +kernel
theorem d_Mo_perform_279 : decode b_Mo_perform 279 = .ok (.goto 8, 3) := by decide +kernel
theorem d_Mo_perform_282 : decode b_Mo_perform 282 = .ok (.iload 5, 2) := by decide +kernel
theorem d_Mo_perform_284 : decode b_Mo_perform 284 = .ok (.bipush 31, 2) := by decide +kernel
theorem d_Mo_perform_286 : decode b_Mo_perform 286 = .ok (.iand, 1) := by decide +kernel
theorem d_Mo_perform_287 : decode b_Mo_perform 287 = .ok (.iastore, 1) := by decide +kernel
theorem d_Mo_perform_288 : decode b_Mo_perform 288 = .ok (.iconst 0, 1) := by decide +kernel
theorem d_Mo_perform_289 : decode b_Mo_perform 289 = .ok (.ireturn, 1) := by decide +kernel
theorem d_Mo_perform_290 : decode b_Mo_perform 290 = .ok (.aload_n 0, 1) := by decide +kernel
theorem d_Mo_perform_291 : decode b_Mo_perform 291 = .ok (.iload 5, 2) := by decide +kernel
theorem d_Mo_perform_293 : decode b_Mo_perform 293 = .ok (.iconst 3, 1) := by decide +kernel
theorem d_Mo_perform_294 : decode b_Mo_perform 294 = .ok (.invokevirtual 102, 3) := by decide +kernel
theorem d_Mo_perform_297 : decode b_Mo_perform 297 = .ok (.ifCond .eq 5, 3) := by decide +kernel
theorem d_Mo_perform_300 : decode b_Mo_perform 300 = .ok (.iconst 4, 1) := by decide +kernel
theorem d_Mo_perform_301 : decode b_Mo_perform 301 = .ok (.ireturn, 1) := by decide +kernel
theorem d_Mo_perform_302 : decode b_Mo_perform 302 = .ok (.aload_n 0, 1) := by decide +kernel
theorem d_Mo_perform_303 : decode b_Mo_perform 303 = .ok (.getfield 55, 3) := by decide +kernel
theorem d_Mo_perform_306 : decode b_Mo_perform 306 = .ok (.iload_n 1, 1) := by decide +kernel
theorem d_Mo_perform_307 : decode b_Mo_perform 307 = .ok (.iconst 4, 1) := by decide +kernel
theorem d_Mo_perform_308 : decode b_Mo_perform 308 = .ok (.imul, 1) := by decide +kernel
theorem d_Mo_perform_309 : decode b_Mo_perform 309 = .ok (.iload 5, 2) := by decide +kernel
theorem d_Mo_perform_311 : decode b_Mo_perform 311 = .ok (.iadd, 1) := by decide +kernel
theorem d_Mo_perform_312 : decode b_Mo_perform 312 = .ok (.iaload, 1) := by decide +kernel
theorem d_Mo_perform_313 : decode b_Mo_perform 313 = .ok (.ifCond .ge 7, 3) := by decide +kernel
theorem d_Mo_perform_316 : decode b_Mo_perform 316 = .ok (.iconst 0, 1) := by decide +kernel
theorem d_Mo_perform_317 : decode b_Mo_perform 317 = .ok (.goto 4, 3) := by decide +kernel
theorem d_Mo_perform_320 : decode b_Mo_perform 320 = .ok (.iconst 1, 1) := by decide +kernel
theorem d_Mo_perform_321 : decode b_Mo_perform 321 = .ok (.istore 9, 2) := by decide +kernel
theorem d_Mo_perform_323 : decode b_Mo_perform 323 = .ok (.iload_n 2, 1) := by decide +kernel
theorem d_Mo_perform_324 : decode b_Mo_perform 324 = .ok (.bipush 14, 2) := by decide +kernel
theorem d_Mo_perform_326 : decode b_Mo_perform 326 = .ok (.if_icmp .ne 10, 3) := by decide +kernel
theorem d_Mo_perform_329 : decode b_Mo_perform 329 = .ok (.aload_n 0, 1) := by decide +kernel
theorem d_Mo_perform_330 : decode b_Mo_perform 330 = .ok (.iload_n 1, 1) := by decide +kernel
theorem d_Mo_perform_331 : decode b_Mo_perform 331 = .ok (.iload 5, 2) := by decide +kernel
theorem d_Mo_perform_333 : decode b_Mo_perform 333 = .ok (.invokevirtual 110, 3) := by decide +kernel
theorem d_Mo_perform_336 : decode b_Mo_perform 336 = .ok (.aload_n 0, 1) := by decide +kernel
theorem d_Mo_perform_337 : decode b_Mo_perform 337 = .ok (.getfield 52, 3) := by decide +kernel
theorem d_Mo_perform_340 : decode b_Mo_perform 340 = .ok (.iload 6, 2) := by decide +kernel
theorem d_Mo_perform_342 : decode b_Mo_perform 342 = .ok (.iload_n 2, 1) := by decide +kernel
theorem d_Mo_perform_343 : decode b_Mo_perform 343 = .ok (.bipush 13, 2) := by decide +kernel
theorem d_Mo_perform_345 : decode b_Mo_perform 345 = .ok (.if_icmp .ne 13, 3) := by decide +kernel
theorem d_Mo_perform_348 : decode b_Mo_perform 348 = .ok (.aload_n 0, 1) := by decide +kernel
theorem d_Mo_perform_349 : decode b_Mo_perform 349 = .ok (.iload_n 1, 1) := by decide +kernel
theorem d_Mo_perform_350 : decode b_Mo_perform 350 = .ok (.iload 5, 2) := by decide +kernel
theorem d_Mo_perform_352 : decode b_Mo_perform 352 = .ok (.invokevirtual 135, 3) := by decide +kernel
theorem d_Mo_perform_355 : decode b_Mo_perform 355 = .ok (.goto 5, 3) := by decide +kernel
theorem d_Mo_perform_358 : decode b_Mo_perform 358 = .ok (.iload 9, 2) := by decide +kernel
theorem d_Mo_perform_360 : decode b_Mo_perform 360 = .ok (.iastore, 1) := by decide +kernel
theorem d_Mo_perform_361 : decode b_Mo_perform 361 = .ok (.iconst 0, 1) := by decide +kernel
theorem d_Mo_perform_362 : decode b_Mo_perform 362 = .ok (.ireturn, 1) := by decide +kernel
theorem d_Mo_perform_363 : decode b_Mo_perform 363 = .ok (.aload_n 0, 1) := by decide +kernel
theorem d_Mo_perform_364 : decode b_Mo_perform 364 = .ok (.getfield 52, 3) := by decide +kernel
theorem d_Mo_perform_367 : decode b_Mo_perform 367 = .ok (.iload 6, 2) := by decide +kernel
theorem d_Mo_perform_369 : decode b_Mo_perform 369 = .ok (.aload_n 0, 1) := by decide +kernel
theorem d_Mo_perform_370 : decode b_Mo_perform 370 = .ok (.iload_n 1, 1) := by decide +kernel
theorem d_Mo_perform_371 : decode b_Mo_perform 371 = .ok (.iload 5, 2) := by decide +kernel
theorem d_Mo_perform_373 : decode b_Mo_perform 373 = .ok (.bipush 31, 2) := by decide +kernel
theorem d_Mo_perform_375 : decode b_Mo_perform 375 = .ok (.iand, 1) := by decide +kernel
theorem d_Mo_perform_376 : decode b_Mo_perform 376 = .ok (.iload 7, 2) := by decide +kernel
theorem d_Mo_perform_378 : decode b_Mo_perform 378 = .ok (.aload_n 0, 1) := by decide +kernel
theorem d_Mo_perform_379 : decode b_Mo_perform 379 = .ok (.getfield 52, 3) := by decide +kernel
theorem d_Mo_perform_382 : decode b_Mo_perform 382 = .ok (.iload 6, 2) := by decide +kernel
theorem d_Mo_perform_384 : decode b_Mo_perform 384 = .ok (.iaload, 1) := by decide +kernel
theorem d_Mo_perform_385 : decode b_Mo_perform 385 = .ok (.invokevirtual 138, 3) := by decide +kernel
theorem d_Mo_perform_388 : decode b_Mo_perform 388 = .ok (.iastore, 1) := by decide +kernel
theorem d_Mo_perform_389 : decode b_Mo_perform 389 = .ok (.iconst 0, 1) := by decide +kernel
theorem d_Mo_perform_390 : decode b_Mo_perform 390 = .ok (.ireturn, 1) := by decide +kernel
theorem d_Mo_perform_391 : decode b_Mo_perform 391 = .ok (.aload_n 0, 1) := by decide +kernel
theorem d_Mo_perform_392 : decode b_Mo_perform 392 = .ok (.iload 5, 2) := by decide +kernel
theorem d_Mo_perform_394 : decode b_Mo_perform 394 = .ok (.iconst 3, 1) := by decide +kernel
theorem d_Mo_perform_395 : decode b_Mo_perform 395 = .ok (.invokevirtual 102, 3) := by decide +kernel
theorem d_Mo_perform_398 : decode b_Mo_perform 398 = .ok (.ifCond .eq 7, 3) := by decide +kernel
theorem d_Mo_perform_401 : decode b_Mo_perform 401 = .ok (.iconst 4, 1) := by decide +kernel
theorem d_Mo_perform_402 : decode b_Mo_perform 402 = .ok (.goto 12, 3) := by decide +kernel
theorem d_Mo_perform_405 : decode b_Mo_perform 405 = .ok (.aload_n 0, 1) := by decide +kernel
theorem d_Mo_perform_406 : decode b_Mo_perform 406 = .ok (.iload_n 1, 1) := by decide +kernel
theorem d_Mo_perform_407 : decode b_Mo_perform 407 = .ok (.iload_n 2, 1) := by decide +kernel
theorem d_Mo_perform_408 : decode b_Mo_perform 408 = .ok (.iload_n 3, 1) := by decide +kernel
theorem d_Mo_perform_409 : decode b_Mo_perform 409 = .ok (.iload 5, 2) := by decide +kernel
theorem d_Mo_perform_411 : decode b_Mo_perform 411 = .ok (.invokevirtual 142, 3) := by decide +kernel
theorem d_Mo_perform_414 : decode b_Mo_perform 414 = .ok (.ireturn, 1) := by decide +kernel
theorem d_Mo_perform_415 : decode b_Mo_perform 415 = .ok (.aload_n 0, 1) := by decide +kernel
theorem d_Mo_perform_416 : decode b_Mo_perform 416 = .ok (.iload_n 1, 1) := by decide +kernel
theorem d_Mo_perform_417 : decode b_Mo_perform 417 = .ok (.invokevirtual 145, 3) := by decide +kernel
theorem d_Mo_perform_420 : decode b_Mo_perform 420 = .ok (.istore 10, 2) := by decide +kernel
theorem d_Mo_perform_422 : decode b_Mo_perform 422 = .ok (.aload_n 0, 1) := by decide +kernel
theorem d_Mo_perform_423 : decode b_Mo_perform 423 = .ok (.getfield 52, 3) := by decide +kernel
theorem d_Mo_perform_426 : decode b_Mo_perform 426 = .ok (.iload 6, 2) := by decide +kernel
theorem d_Mo_perform_428 : decode b_Mo_perform 428 = .ok (.iload 10, 2) := by decide +kernel
theorem d_Mo_perform_430 : decode b_Mo_perform 430 = .ok (.iastore, 1) := by decide +kernel
theorem d_Mo_perform_431 : decode b_Mo_perform 431 = .ok (.iload 10, 2) := by decide +kernel
theorem d_Mo_perform_433 : decode b_Mo_perform 433 = .ok (.ifCond .lt 21, 3) := by decide +kernel
theorem d_Mo_perform_436 : decode b_Mo_perform 436 = .ok (.aload_n 0, 1) := by decide +kernel
theorem d_Mo_perform_437 : decode b_Mo_perform 437 = .ok (.getfield 52, 3) := by decide +kernel
theorem d_Mo_perform_440 : decode b_Mo_perform 440 = .ok (.iload_n 1, 1) := by decide +kernel
theorem d_Mo_perform_441 : decode b_Mo_perform 441 = .ok (.iconst 4, 1) := by decide +kernel
theorem d_Mo_perform_442 : decode b_Mo_perform 442 = .ok (.imul, 1) := by decide +kernel
theorem d_Mo_perform_443 : decode b_Mo_perform 443 = .ok (.iload 4, 2) := by decide +kernel
theorem d_Mo_perform_445 : decode b_Mo_perform 445 = .ok (.iadd, 1) := by decide +kernel
theorem d_Mo_perform_446 : decode b_Mo_perform 446 = .ok (.aload_n 0, 1) := by decide +kernel
theorem d_Mo_perform_447 : decode b_Mo_perform 447 = .ok (.getfield 43, 3) := by decide +kernel
theorem d_Mo_perform_450 : decode b_Mo_perform 450 = .ok (.iload 10, 2) := by decide +kernel
theorem d_Mo_perform_452 : decode b_Mo_perform 452 = .ok (.iaload, 1) := by decide +kernel
theorem d_Mo_perform_453 : decode b_Mo_perform 453 = .ok (.iastore, 1) := by decide +kernel
theorem d_Mo_perform_454 : decode b_Mo_perform 454 = .ok (.iconst 0, 1) := by decide +kernel
theorem d_Mo_perform_455 : decode b_Mo_perform 455 = .ok (.ireturn, 1) := by decide +kernel
theorem d_Mo_perform_456 : decode b_Mo_perform 456 = .ok (.iconst 0, 1) := by decide +kernel
theorem d_Mo_perform_457 : decode b_Mo_perform 457 = .ok (.ireturn, 1) := by decide +kernel
theorem d_Mo_share_0 : decode b_Mo_share 0 = .ok (.iload_n 2, 1) := by decide +kernel
theorem d_Mo_share_1 : decode b_Mo_share 1 = .ok (.bipush 16, 2) := by decide +kernel
theorem d_Mo_share_3 : decode b_Mo_share 3 = .ok (.if_icmp .ne 23, 3) := by decide +kernel
theorem d_Mo_share_6 : decode b_Mo_share 6 = .ok (.aload_n 0, 1) := by decide +kernel
theorem d_Mo_share_7 : decode b_Mo_share 7 = .ok (.iload_n 1, 1) := by decide +kernel
theorem d_Mo_share_8 : decode b_Mo_share 8 = .ok (.iload 4, 2) := by decide +kernel
theorem d_Mo_share_10 : decode b_Mo_share 10 = .ok (.aload_n 0, 1) := by decide +kernel
theorem d_Mo_share_11 : decode b_Mo_share 11 = .ok (.getfield 52, 3) := by decide +kernel
theorem d_Mo_share_14 : decode b_Mo_share 14 = .ok (.iload_n 1, 1) := by decide +kernel
theorem d_Mo_share_15 : decode b_Mo_share 15 = .ok (.iconst 4, 1) := by decide +kernel
theorem d_Mo_share_16 : decode b_Mo_share 16 = .ok (.imul, 1) := by decide +kernel
theorem d_Mo_share_17 : decode b_Mo_share 17 = .ok (.iload_n 3, 1) := by decide +kernel
theorem d_Mo_share_18 : decode b_Mo_share 18 = .ok (.iadd, 1) := by decide +kernel
theorem d_Mo_share_19 : decode b_Mo_share 19 = .ok (.iaload, 1) := by decide +kernel
theorem d_Mo_share_20 : decode b_Mo_share 20 = .ok (.invokevirtual 148, 3) := by decide +kernel
theorem d_Mo_share_23 : decode b_Mo_share 23 = .ok (.goto 79, 3) := by decide +kernel
theorem d_Mo_share_26 : decode b_Mo_share 26 = .ok (.iload_n 2, 1) := by decide +kernel
theorem d_Mo_share_27 : decode b_Mo_share 27 = .ok (.bipush 17, 2) := by decide +kernel
theorem d_Mo_share_29 : decode b_Mo_share 29 = .ok (.if_icmp .ne 14, 3) := by decide +kernel
theorem d_Mo_share_32 : decode b_Mo_share 32 = .ok (.aload_n 0, 1) := by decide +kernel
theorem d_Mo_share_33 : decode b_Mo_share 33 = .ok (.iload_n 1, 1) := by decide +kernel
theorem d_Mo_share_34 : decode b_Mo_share 34 = .ok (.iload 4, 2) := by decide +kernel
theorem d_Mo_share_36 : decode b_Mo_share 36 = .ok (.iload_n 3, 1) := by decide +kernel
theorem d_Mo_share_37 : decode b_Mo_share 37 = .ok (.invokevirtual 152, 3) := by decide +kernel
theorem d_Mo_share_40 : decode b_Mo_share 40 = .ok (.goto 62, 3) := by decide +kernel
theorem d_Mo_share_43 : decode b_Mo_share 43 = .ok (.iload_n 2, 1) := by decide +kernel
theorem d_Mo_share_44 : decode b_Mo_share 44 = .ok (.bipush 19, 2) := by decide +kernel
theorem d_Mo_share_46 : decode b_Mo_share 46 = .ok (.if_icmp .ne 25, 3) := by decide +kernel
theorem d_Mo_share_49 : decode b_Mo_share 49 = .ok (.aload_n 0, 1) := by decide +kernel
theorem d_Mo_share_50 : decode b_Mo_share 50 = .ok (.getfield 77, 3) := by decide +kernel
theorem d_Mo_share_53 : decode b_Mo_share 53 = .ok (.iload 4, 2) := by decide +kernel
theorem d_Mo_share_55 : decode b_Mo_share 55 = .ok (.iaload, 1) := by decide +kernel
theorem d_Mo_share_56 : decode b_Mo_share 56 = .ok (.iload_n 1, 1) := by decide +kernel
theorem d_Mo_share_57 : decode b_Mo_share 57 = .ok (.if_icmp .eq 5, 3) := by decide +kernel
theorem d_Mo_share_60 : decode b_Mo_share 60 = .ok (.iconst 5, 1) := by decide +kernel
theorem d_Mo_share_61 : decode b_Mo_share 61 = .ok (.ireturn, 1) := by decide +kernel
theorem d_Mo_share_62 : decode b_Mo_share 62 = .ok (.aload_n 0, 1) := by decide +kernel
theorem d_Mo_share_63 : decode b_Mo_share 63 = .ok (.iload 4, 2) := by decide +kernel
theorem d_Mo_share_65 : decode b_Mo_share 65 = .ok (.invokevirtual 113, 3) := by decide +kernel
theorem d_Mo_share_68 : decode b_Mo_share 68 = .ok (.goto 34, 3) := by decide +kernel
theorem d_Mo_share_71 : decode b_Mo_share 71 = .ok (.aload_n 0, 1) := by decide +kernel
theorem d_Mo_share_72 : decode b_Mo_share 72 = .ok (.getfield 77, 3) := by decide +kernel
theorem d_Mo_share_75 : decode b_Mo_share 75 = .ok (.iload 4, 2) := by decide +kernel
theorem d_Mo_share_77 : decode b_Mo_share 77 = .ok (.iaload, 1) := by decide +kernel
theorem d_Mo_share_78 : decode b_Mo_share 78 = .ok (.ifCond .ge 14, 3) := by decide +kernel
theorem d_Mo_share_81 : decode b_Mo_share 81 = .ok (.aload_n 0, 1) := by decide +kernel
theorem d_Mo_share_82 : decode b_Mo_share 82 = .ok (.getfield 77, 3) := by decide +kernel
theorem d_Mo_share_85 : decode b_Mo_share 85 = .ok (.iload 4, 2) := by decide +kernel
theorem d_Mo_share_87 : decode b_Mo_share 87 = .ok (.iload_n 1, 1) := by decide +kernel
theorem d_Mo_share_88 : decode b_Mo_share 88 = .ok (.iastore, 1) := by decide +kernel
theorem d_Mo_share_89 : decode b_Mo_share 89 = .ok (.goto 13, 3) := by decide +kernel
theorem d_Mo_share_92 : decode b_Mo_share 92 = .ok (.aload_n 0, 1) := by decide +kernel
theorem d_Mo_share_93 : decode b_Mo_share 93 = .ok (.iload_n 1, 1) := by decide +kernel
theorem d_Mo_share_94 : decode b_Mo_share 94 = .ok (.bipush 10, 2) := by decide +kernel
theorem d_Mo_share_96 : decode b_Mo_share 96 = .ok (.iload 4, 2) := by decide +kernel
theorem d_Mo_share_98 : decode b_Mo_share 98 = .ok (.iadd, 1) := by decide +kernel
theorem d_Mo_share_99 : decode b_Mo_share 99 = .ok (.invokevirtual 128, 3) := by decide +kernel
theorem d_Mo_share_102 : decode b_Mo_share 102 = .ok (.iconst 0, 1) := by decide +kernel
theorem d_Mo_share_103 : decode b_Mo_share 103 = .ok (.ireturn, 1) := by decide +kernel
theorem d_Mo_step_0 : decode b_Mo_step 0 = .ok (.aload_n 0, 1) := by decide +kernel
theorem d_Mo_step_1 : decode b_Mo_step 1 = .ok (.getfield 80, 3) := by decide +kernel
theorem d_Mo_step_4 : decode b_Mo_step 4 = .ok (.iload_n 1, 1) := by decide +kernel
theorem d_Mo_step_5 : decode b_Mo_step 5 = .ok (.iaload, 1) := by decide +kernel
theorem d_Mo_step_6 : decode b_Mo_step 6 = .ok (.istore_n 2, 1) := by decide +kernel
theorem d_Mo_step_7 : decode b_Mo_step 7 = .ok (.aload_n 0, 1) := by decide +kernel
theorem d_Mo_step_8 : decode b_Mo_step 8 = .ok (.getfield 25, 3) := by decide +kernel
theorem d_Mo_step_11 : decode b_Mo_step 11 = .ok (.iload_n 2, 1) := by decide +kernel
theorem d_Mo_step_12 : decode b_Mo_step 12 = .ok (.iaload, 1) := by decide +kernel
theorem d_Mo_step_13 : decode b_Mo_step 13 = .ok (.istore_n 3, 1) := by decide +kernel
theorem d_Mo_step_14 : decode b_Mo_step 14 = .ok (.aload_n 0, 1) := by decide +kernel
theorem d_Mo_step_15 : decode b_Mo_step 15 = .ok (.getfield 7, 3) := by decide +kernel
theorem d_Mo_step_18 : decode b_Mo_step 18 = .ok (.iload_n 3, 1) := by decide +kernel
theorem d_Mo_step_19 : decode b_Mo_step 19 = .ok (.iaload, 1) := by decide +kernel
theorem d_Mo_step_20 : decode b_Mo_step 20 = .ok (.istore 4, 2) := by decide +kernel
theorem d_Mo_step_22 : decode b_Mo_step 22 = .ok (.aload_n 0, 1) := by decide +kernel
theorem d_Mo_step_23 : decode b_Mo_step 23 = .ok (.dup, 1) := by decide +kernel
theorem d_Mo_step_24 : decode b_Mo_step 24 = .ok (.getfield 155, 3) := by decide +kernel
theorem d_Mo_step_27 : decode b_Mo_step 27 = .ok (.iconst 1, 1) := by decide +kernel
theorem d_Mo_step_28 : decode b_Mo_step 28 = .ok (.iadd, 1) := by decide +kernel
theorem d_Mo_step_29 : decode b_Mo_step 29 = .ok (.putfield 155, 3) := by decide +kernel
theorem d_Mo_step_32 : decode b_Mo_step 32 = .ok (.aload_n 0, 1) := by decide +kernel
theorem d_Mo_step_33 : decode b_Mo_step 33 = .ok (.getfield 83, 3) := by decide +kernel
theorem d_Mo_step_36 : decode b_Mo_step 36 = .ok (.iload_n 1, 1) := by decide +kernel
theorem d_Mo_step_37 : decode b_Mo_step 37 = .ok (.dup2, 1) := by decide +kernel
theorem d_Mo_step_38 : decode b_Mo_step 38 = .ok (.iaload, 1) := by decide +kernel
theorem d_Mo_step_39 : decode b_Mo_step 39 = .ok (.iconst 1, 1) := by decide +kernel
theorem d_Mo_step_40 : decode b_Mo_step 40 = .ok (.isub, 1) := by decide +kernel
theorem d_Mo_step_41 : decode b_Mo_step 41 = .ok (.iastore, 1) := by decide +kernel
theorem d_Mo_step_42 : decode b_Mo_step 42 = .ok (.iload 4, 2) := by decide +kernel
theorem d_Mo_step_44 : decode b_Mo_step 44 = .ok (.ifCond .eq 10, 3) := by decide +kernel
theorem d_Mo_step_47 : decode b_Mo_step 47 = .ok (.iload 4, 2) := by decide +kernel
theorem d_Mo_step_49 : decode b_Mo_step 49 = .ok (.bipush 20, 2) := by decide +kernel
theorem d_Mo_step_51 : decode b_Mo_step 51 = .ok (.if_icmp .ne 47, 3) := by decide +kernel
theorem d_Mo_step_54 : decode b_Mo_step 54 = .ok (.aload_n 0, 1) := by decide +kernel
theorem d_Mo_step_55 : decode b_Mo_step 55 = .ok (.getfield 25, 3) := by decide +kernel
theorem d_Mo_step_58 : decode b_Mo_step 58 = .ok (.iload_n 2, 1) := by decide +kernel
theorem d_Mo_step_59 : decode b_Mo_step 59 = .ok (.iload_n 3, 1) := by decide +kernel
theorem d_Mo_step_60 : decode b_Mo_step 60 = .ok (.iconst 1, 1) := by decide +kernel
theorem d_Mo_step_61 : decode b_Mo_step 61 = .ok (.iadd, 1) := by decide +kernel
theorem d_Mo_step_62 : decode b_Mo_step 62 = .ok (.bipush 31, 2) := by decide +kernel
theorem d_Mo_step_64 : decode b_Mo_step 64 = .ok (.iand, 1) := by decide +kernel
theorem d_Mo_step_65 : decode b_Mo_step 65 = .ok (.iastore, 1) := by decide +kernel
theorem d_Mo_step_66 : decode b_Mo_step 66 = .ok (.aload_n 0, 1) := by decide +kernel
theorem d_Mo_step_67 : decode b_Mo_step 67 = .ok (.iload_n 2, 1) := by decide +kernel
theorem d_Mo_step_68 : decode b_Mo_step 68 = .ok (.iload 4, 2) := by decide +kernel
theorem d_Mo_step_70 : decode b_Mo_step 70 = .ok (.ifCond .ne 7, 3) := by decide +kernel
theorem d_Mo_step_73 : decode b_Mo_step 73 = .ok (.iconst 0, 1) := by decide +kernel
theorem d_Mo_step_74 : decode b_Mo_step 74 = .ok (.goto 18, 3) := by decide +kernel
theorem d_Mo_step_77 : decode b_Mo_step 77 = .ok (.aload_n 0, 1) := by decide +kernel
theorem d_Mo_step_78 : decode b_Mo_step 78 = .ok (.getfield 52, 3) := by decide +kernel
theorem d_Mo_step_81 : decode b_Mo_step 81 = .ok (.iload_n 2, 1) := by decide +kernel
theorem d_Mo_step_82 : decode b_Mo_step 82 = .ok (.iconst 4, 1) := by decide +kernel
theorem d_Mo_step_83 : decode b_Mo_step 83 = .ok (.imul, 1) := by decide +kernel
theorem d_Mo_step_84 : decode b_Mo_step 84 = .ok (.aload_n 0, 1) := by decide +kernel
theorem d_Mo_step_85 : decode b_Mo_step 85 = .ok (.getfield 13, 3) := by decide +kernel
theorem d_Mo_step_88 : decode b_Mo_step 88 = .ok (.iload_n 3, 1) := by decide +kernel
theorem d_Mo_step_89 : decode b_Mo_step 89 = .ok (.iaload, 1) := by decide +kernel
theorem d_Mo_step_90 : decode b_Mo_step 90 = .ok (.iadd, 1) := by decide +kernel
theorem d_Mo_step_91 : decode b_Mo_step 91 = .ok (.iaload, 1) := by decide +kernel
theorem d_Mo_step_92 : decode b_Mo_step 92 = .ok (.invokevirtual 119, 3) := by decide +kernel
theorem d_Mo_step_95 : decode b_Mo_step 95 = .ok (.goto 146, 3) := by decide +kernel
theorem d_Mo_step_98 : decode b_Mo_step 98 = .ok (.iload 4, 2) := by decide +kernel
theorem d_Mo_step_100 : decode b_Mo_step 100 = .ok (.bipush 9, 2) := by decide +kernel
theorem d_Mo_step_102 : decode b_Mo_step 102 = .ok (.if_icmp .ne 36, 3) := by decide +kernel
theorem d_Mo_step_105 : decode b_Mo_step 105 = .ok (.aload_n 0, 1) := by decide +kernel
theorem d_Mo_step_106 : decode b_Mo_step 106 = .ok (.getfield 52, 3) := by decide +kernel
theorem d_Mo_step_109 : decode b_Mo_step 109 = .ok (.iload_n 2, 1) := by decide +kernel
theorem d_Mo_step_110 : decode b_Mo_step 110 = .ok (.iconst 4, 1) := by decide +kernel
theorem d_Mo_step_111 : decode b_Mo_step 111 = .ok (.imul, 1) := by decide +kernel
theorem d_Mo_step_112 : decode b_Mo_step 112 = .ok (.aload_n 0, 1) := by decide +kernel
theorem d_Mo_step_113 : decode b_Mo_step 113 = .ok (.getfield 13, 3) := by decide +kernel
theorem d_Mo_step_116 : decode b_Mo_step 116 = .ok (.iload_n 3, 1) := by decide +kernel
theorem d_Mo_step_117 : decode b_Mo_step 117 = .ok (.iaload, 1) := by decide +kernel
theorem d_Mo_step_118 : decode b_Mo_step 118 = .ok (.iadd, 1) := by decide +kernel
theorem d_Mo_step_119 : decode b_Mo_step 119 = .ok (.iaload, 1) := by decide +kernel
theorem d_Mo_step_120 : decode b_Mo_step 120 = .ok (.aload_n 0, 1) := by decide +kernel
theorem d_Mo_step_121 : decode b_Mo_step 121 = .ok (.getfield 52, 3) := by decide +kernel
theorem d_Mo_step_124 : decode b_Mo_step 124 = .ok (.iload_n 2, 1) := by decide +kernel
theorem d_Mo_step_125 : decode b_Mo_step 125 = .ok (.iconst 4, 1) := by decide +kernel
theorem d_Mo_step_126 : decode b_Mo_step 126 = .ok (.imul, 1) := by decide +kernel
theorem d_Mo_step_127 : decode b_Mo_step 127 = .ok (.aload_n 0, 1) := by decide +kernel
theorem d_Mo_step_128 : decode b_Mo_step 128 = .ok (.getfield 16, 3) := by decide +kernel
theorem d_Mo_step_131 : decode b_Mo_step 131 = .ok (.iload_n 3, 1) := by decide +kernel
theorem d_Mo_step_132 : decode b_Mo_step 132 = .ok (.iaload, 1) := by decide +kernel
theorem d_Mo_step_133 : decode b_Mo_step 133 = .ok (.iadd, 1) := by decide +kernel
theorem d_Mo_step_134 : decode b_Mo_step 134 = .ok (.iaload, 1) := by decide +kernel
theorem d_Mo_step_135 : decode b_Mo_step 135 = .ok (.if_icmp .lt 28, 3) := by decide +kernel
theorem d_Mo_step_138 : decode b_Mo_step 138 = .ok (.iload 4, 2) := by decide +kernel
theorem d_Mo_step_140 : decode b_Mo_step 140 = .ok (.bipush 10, 2) := by decide +kernel
theorem d_Mo_step_142 : decode b_Mo_step 142 = .ok (.if_icmp .ne 25, 3) := by decide +kernel
theorem d_Mo_step_145 : decode b_Mo_step 145 = .ok (.aload_n 0, 1) := by decide +kernel
theorem d_Mo_step_146 : decode b_Mo_step 146 = .ok (.getfield 52, 3) := by decide +kernel
theorem d_Mo_step_149 : decode b_Mo_step 149 = .ok (.iload_n 2, 1) := by decide +kernel
theorem d_Mo_step_150 : decode b_Mo_step 150 = .ok (.iconst 4, 1) := by decide +kernel
theorem d_Mo_step_151 : decode b_Mo_step 151 = .ok (.imul, 1) := by decide +kernel
theorem d_Mo_step_152 : decode b_Mo_step 152 = .ok (.aload_n 0, 1) := by decide +kernel
theorem d_Mo_step_153 : decode b_Mo_step 153 = .ok (.getfield 13, 3) := by decide +kernel
theorem d_Mo_step_156 : decode b_Mo_step 156 = .ok (.iload_n 3, 1) := by decide +kernel
theorem d_Mo_step_157 : decode b_Mo_step 157 = .ok (.iaload, 1) := by decide +kernel
theorem d_Mo_step_158 : decode b_Mo_step 158 = .ok (.iadd, 1) := by decide +kernel
theorem d_Mo_step_159 : decode b_Mo_step 159 = .ok (.iaload, 1) := by decide +kernel
theorem d_Mo_step_160 : decode b_Mo_step 160 = .ok (.ifCond .ne 7, 3) := by decide +kernel
theorem d_Mo_step_163 : decode b_Mo_step 163 = .ok (.iconst 1, 1) := by decide +kernel
theorem d_Mo_step_164 : decode b_Mo_step 164 = .ok (.goto 4, 3) := by decide +kernel
theorem d_Mo_step_167 : decode b_Mo_step 167 = .ok (.iconst 0, 1) := by decide +kernel
theorem d_Mo_step_168 : decode b_Mo_step 168 = .ok (.istore 5, 2) := by decide +kernel
theorem d_Mo_step_170 : decode b_Mo_step 170 = .ok (.aload_n 0, 1) := by decide +kernel
theorem d_Mo_step_171 : decode b_Mo_step 171 = .ok (.iload_n 2, 1) := by decide +kernel
theorem d_Mo_step_172 : decode b_Mo_step 172 = .ok (.iload 4, 2) := by decide +kernel
theorem d_Mo_step_174 : decode b_Mo_step 174 = .ok (.aload_n 0, 1) := by decide +kernel
theorem d_Mo_step_175 : decode b_Mo_step 175 = .ok (.getfield 13, 3) := by decide +kernel
theorem d_Mo_step_178 : decode b_Mo_step 178 = .ok (.iload_n 3, 1) := by decide +kernel
theorem d_Mo_step_179 : decode b_Mo_step 179 = .ok (.iaload, 1) := by decide +kernel
theorem d_Mo_step_180 : decode b_Mo_step 180 = .ok (.aload_n 0, 1) := by decide +kernel
theorem d_Mo_step_181 : decode b_Mo_step 181 = .ok (.getfield 16, 3) := by decide +kernel
theorem d_Mo_step_184 : decode b_Mo_step 184 = .ok (.iload_n 3, 1) := by decide +kernel
theorem d_Mo_step_185 : decode b_Mo_step 185 = .ok (.iaload, 1) := by decide +kernel
theorem d_Mo_step_186 : decode b_Mo_step 186 = .ok (.aload_n 0, 1) := by decide +kernel
theorem d_Mo_step_187 : decode b_Mo_step 187 = .ok (.getfield 19, 3) := by decide +kernel
theorem d_Mo_step_190 : decode b_Mo_step 190 = .ok (.iload_n 3, 1) := by decide +kernel
theorem d_Mo_step_191 : decode b_Mo_step 191 = .ok (.iaload, 1) := by decide +kernel
theorem d_Mo_step_192 : decode b_Mo_step 192 = .ok (.invokevirtual 158, 3) := by decide +kernel
theorem d_Mo_step_195 : decode b_Mo_step 195 = .ok (.istore 6, 2) := by decide +kernel
theorem d_Mo_step_197 : decode b_Mo_step 197 = .ok (.iload 6, 2) := by decide +kernel
theorem d_Mo_step_199 : decode b_Mo_step 199 = .ok (.ifCond .eq 13, 3) := by decide +kernel
theorem d_Mo_step_202 : decode b_Mo_step 202 = .ok (.aload_n 0, 1) := by decide +kernel
theorem d_Mo_step_203 : decode b_Mo_step 203 = .ok (.iload_n 2, 1) := by decide +kernel
theorem d_Mo_step_204 : decode b_Mo_step 204 = .ok (.iload 6, 2) := by decide +kernel
theorem d_Mo_step_206 : decode b_Mo_step 206 = .ok (.invokevirtual 162, 3) := by decide +kernel
theorem d_Mo_step_209 : decode b_Mo_step 209 = .ok (.goto 32, 3) := by decide +kernel
theorem d_Mo_step_212 : decode b_Mo_step 212 = .ok (.aload_n 0, 1) := by decide +kernel
theorem d_Mo_step_213 : decode b_Mo_step 213 = .ok (.getfield 25, 3) := by decide +kernel
theorem d_Mo_step_216 : decode b_Mo_step 216 = .ok (.iload_n 2, 1) := by decide +kernel
theorem d_Mo_step_217 : decode b_Mo_step 217 = .ok (.iload 5, 2) := by decide +kernel
theorem d_Mo_step_219 : decode b_Mo_step 219 = .ok (.ifCond .eq 15, 3) := by decide +kernel
theorem d_Mo_step_222 : decode b_Mo_step 222 = .ok (.aload_n 0, 1) := by decide +kernel
theorem d_Mo_step_223 : decode b_Mo_step 223 = .ok (.getfield 19, 3) := by decide +kernel
theorem d_Mo_step_226 : decode b_Mo_step 226 = .ok (.iload_n 3, 1) := by decide +kernel
theorem d_Mo_step_227 : decode b_Mo_step 227 = .ok (.iaload, 1) := by decide +kernel
theorem d_Mo_step_228 : decode b_Mo_step 228 = .ok (.bipush 31, 2) := by decide +kernel
theorem d_Mo_step_230 : decode b_Mo_step 230 = .ok (.iand, 1) := by decide +kernel
theorem d_Mo_step_231 : decode b_Mo_step 231 = .ok (.goto 9, 3) := by decide +kernel
theorem d_Mo_step_234 : decode b_Mo_step 234 = .ok (.iload_n 3, 1) := by decide +kernel
theorem d_Mo_step_235 : decode b_Mo_step 235 = .ok (.iconst 1, 1) := by decide +kernel
theorem d_Mo_step_236 : decode b_Mo_step 236 = .ok (.iadd, 1) := by decide +kernel
theorem d_Mo_step_237 : decode b_Mo_step 237 = .ok (.bipush 31, 2) := by decide +kernel
theorem d_Mo_step_239 : decode b_Mo_step 239 = .ok (.iand, 1) := by decide +kernel
theorem d_Mo_step_240 : decode b_Mo_step 240 = .ok (.iastore, 1) := by decide +kernel
theorem d_Mo_step_241 : decode b_Mo_step 241 = .ok (.aload_n 0, 1) := by decide +kernel
theorem d_Mo_step_242 : decode b_Mo_step 242 = .ok (.getfield 22, 3) := by decide +kernel
theorem d_Mo_step_245 : decode b_Mo_step 245 = .ok (.iload_n 2, 1) := by decide +kernel
theorem d_Mo_step_246 : decode b_Mo_step 246 = .ok (.iaload, 1) := by decide +kernel
theorem d_Mo_step_247 : decode b_Mo_step 247 = .ok (.iconst 1, 1) := by decide +kernel
theorem d_Mo_step_248 : decode b_Mo_step 248 = .ok (.if_icmp .ne 20, 3) := by decide +kernel
theorem d_Mo_step_251 : decode b_Mo_step 251 = .ok (.aload_n 0, 1) := by decide +kernel
theorem d_Mo_step_252 : decode b_Mo_step 252 = .ok (.getfield 83, 3) := by decide +kernel
theorem d_Mo_step_255 : decode b_Mo_step 255 = .ok (.iload_n 1, 1) := by decide +kernel
theorem d_Mo_step_256 : decode b_Mo_step 256 = .ok (.iaload, 1) := by decide +kernel
theorem d_Mo_step_257 : decode b_Mo_step 257 = .ok (.ifCond .le 11, 3) := by decide +kernel
theorem d_Mo_step_260 : decode b_Mo_step 260 = .ok (.iload 4, 2) := by decide +kernel
theorem d_Mo_step_262 : decode b_Mo_step 262 = .ok (.bipush 12, 2) := by decide +kernel
theorem d_Mo_step_264 : decode b_Mo_step 264 = .ok (.if_icmp .eq 4, 3) := by decide +kernel
theorem d_Mo_step_267 : decode b_Mo_step 267 = .ok (.return_, 1) := by decide +kernel
theorem d_Mo_step_268 : decode b_Mo_step 268 = .ok (.aload_n 0, 1) := by decide +kernel
theorem d_Mo_step_269 : decode b_Mo_step 269 = .ok (.getfield 80, 3) := by decide +kernel
theorem d_Mo_step_272 : decode b_Mo_step 272 = .ok (.iload_n 1, 1) := by decide +kernel
theorem d_Mo_step_273 : decode b_Mo_step 273 = .ok (.iconst (-1), 1) := by decide +kernel
theorem d_Mo_step_274 : decode b_Mo_step 274 = .ok (.iastore, 1) := by decide +kernel
theorem d_Mo_step_275 : decode b_Mo_step 275 = .ok (.aload_n 0, 1) := by decide +kernel
theorem d_Mo_step_276 : decode b_Mo_step 276 = .ok (.getfield 22, 3) := by decide +kernel
theorem d_Mo_step_279 : decode b_Mo_step 279 = .ok (.iload_n 2, 1) := by decide +kernel
theorem d_Mo_step_280 : decode b_Mo_step 280 = .ok (.iaload, 1) := by decide +kernel
theorem d_Mo_step_281 : decode b_Mo_step 281 = .ok (.iconst 1, 1) := by decide +kernel
theorem d_Mo_step_282 : decode b_Mo_step 282 = .ok (.if_icmp .ne 8, 3) := by decide +kernel
theorem d_Mo_step_285 : decode b_Mo_step 285 = .ok (.aload_n 0, 1) := by decide +kernel
theorem d_Mo_step_286 : decode b_Mo_step 286 = .ok (.iload_n 2, 1) := by decide +kernel
theorem d_Mo_step_287 : decode b_Mo_step 287 = .ok (.invokevirtual 98, 3) := by decide +kernel
theorem d_Mo_step_290 : decode b_Mo_step 290 = .ok (.return_, 1) := by decide +kernel
theorem d_Mo_tick_0 : decode b_Mo_tick 0 = .ok (.aload_n 0, 1) := by decide +kernel
theorem d_Mo_tick_1 : decode b_Mo_tick 1 = .ok (.dup, 1) := by decide +kernel
theorem d_Mo_tick_2 : decode b_Mo_tick 2 = .ok (.getfield 165, 3) := by decide +kernel
theorem d_Mo_tick_5 : decode b_Mo_tick 5 = .ok (.iconst 1, 1) := by decide +kernel
theorem d_Mo_tick_6 : decode b_Mo_tick 6 = .ok (.iadd, 1) := by decide +kernel
theorem d_Mo_tick_7 : decode b_Mo_tick 7 = .ok (.putfield 165, 3) := by decide +kernel
theorem d_Mo_tick_10 : decode b_Mo_tick 10 = .ok (.iconst 0, 1) := by decide +kernel
theorem d_Mo_tick_11 : decode b_Mo_tick 11 = .ok (.istore_n 1, 1) := by decide +kernel
theorem d_Mo_tick_12 : decode b_Mo_tick 12 = .ok (.iload_n 1, 1) := by decide +kernel
theorem d_Mo_tick_13 : decode b_Mo_tick 13 = .ok (.iconst 2, 1) := by decide +kernel
theorem d_Mo_tick_14 : decode b_Mo_tick 14 = .ok (.if_icmp .ge 94, 3) := by decide +kernel
theorem d_Mo_tick_17 : decode b_Mo_tick 17 = .ok (.aload_n 0, 1) := by decide +kernel
theorem d_Mo_tick_18 : decode b_Mo_tick 18 = .ok (.getfield 80, 3) := by decide +kernel
theorem d_Mo_tick_21 : decode b_Mo_tick 21 = .ok (.iload_n 1, 1) := by decide +kernel
theorem d_Mo_tick_22 : decode b_Mo_tick 22 = .ok (.iaload, 1) := by decide +kernel
theorem d_Mo_tick_23 : decode b_Mo_tick 23 = .ok (.ifCond .ge 52, 3) := by decide +kernel
theorem d_Mo_tick_26 : decode b_Mo_tick 26 = .ok (.aload_n 0, 1) := by decide +kernel
theorem d_Mo_tick_27 : decode b_Mo_tick 27 = .ok (.getfield 68, 3) := by decide +kernel
theorem d_Mo_tick_30 : decode b_Mo_tick 30 = .ok (.iload_n 1, 1) := by decide +kernel
theorem d_Mo_tick_31 : decode b_Mo_tick 31 = .ok (.iaload, 1) := by decide +kernel
theorem d_Mo_tick_32 : decode b_Mo_tick 32 = .ok (.ifCond .le 43, 3) := by decide +kernel
theorem d_Mo_tick_35 : decode b_Mo_tick 35 = .ok (.aload_n 0, 1) := by decide +kernel
theorem d_Mo_tick_36 : decode b_Mo_tick 36 = .ok (.getfield 80, 3) := by decide +kernel
theorem d_Mo_tick_39 : decode b_Mo_tick 39 = .ok (.iload_n 1, 1) := by decide +kernel
theorem d_Mo_tick_40 : decode b_Mo_tick 40 = .ok (.aload_n 0, 1) := by decide +kernel
theorem d_Mo_tick_41 : decode b_Mo_tick 41 = .ok (.iload_n 1, 1) := by decide +kernel
theorem d_Mo_tick_42 : decode b_Mo_tick 42 = .ok (.invokevirtual 106, 3) := by decide +kernel
theorem d_Mo_tick_45 : decode b_Mo_tick 45 = .ok (.iastore, 1) := by decide +kernel
theorem d_Mo_tick_46 : decode b_Mo_tick 46 = .ok (.aload_n 0, 1) := by decide +kernel
theorem d_Mo_tick_47 : decode b_Mo_tick 47 = .ok (.getfield 22, 3) := by decide +kernel
theorem d_Mo_tick_50 : decode b_Mo_tick 50 = .ok (.aload_n 0, 1) := by decide +kernel
theorem d_Mo_tick_51 : decode b_Mo_tick 51 = .ok (.getfield 80, 3) := by decide +kernel
theorem d_Mo_tick_54 : decode b_Mo_tick 54 = .ok (.iload_n 1, 1) := by decide +kernel
theorem d_Mo_tick_55 : decode b_Mo_tick 55 = .ok (.iaload, 1) := by decide +kernel
theorem d_Mo_tick_56 : decode b_Mo_tick 56 = .ok (.iconst 1, 1) := by decide +kernel
theorem d_Mo_tick_57 : decode b_Mo_tick 57 = .ok (.iastore, 1) := by decide +kernel
theorem d_Mo_tick_58 : decode b_Mo_tick 58 = .ok (.aload_n 0, 1) := by decide +kernel
theorem d_Mo_tick_59 : decode b_Mo_tick 59 = .ok (.getfield 83, 3) := by decide +kernel
theorem d_Mo_tick_62 : decode b_Mo_tick 62 = .ok (.iload_n 1, 1) := by decide +kernel
theorem d_Mo_tick_63 : decode b_Mo_tick 63 = .ok (.iconst 3, 1) := by decide +kernel
theorem d_Mo_tick_64 : decode b_Mo_tick 64 = .ok (.iastore, 1) := by decide +kernel
theorem d_Mo_tick_65 : decode b_Mo_tick 65 = .ok (.aload_n 0, 1) := by decide +kernel
theorem d_Mo_tick_66 : decode b_Mo_tick 66 = .ok (.dup, 1) := by decide +kernel
theorem d_Mo_tick_67 : decode b_Mo_tick 67 = .ok (.getfield 168, 3) := by decide +kernel
theorem d_Mo_tick_70 : decode b_Mo_tick 70 = .ok (.iconst 1, 1) := by decide +kernel
theorem d_Mo_tick_71 : decode b_Mo_tick 71 = .ok (.iadd, 1) := by decide +kernel
theorem d_Mo_tick_72 : decode b_Mo_tick 72 = .ok (.putfield 168, 3) := by decide +kernel
theorem d_Mo_tick_75 : decode b_Mo_tick 75 = .ok (.aload_n 0, 1) := by decide +kernel
theorem d_Mo_tick_76 : decode b_Mo_tick 76 = .ok (.getfield 80, 3) := by decide +kernel
theorem d_Mo_tick_79 : decode b_Mo_tick 79 = .ok (.iload_n 1, 1) := by decide +kernel
theorem d_Mo_tick_80 : decode b_Mo_tick 80 = .ok (.iaload, 1) := by decide +kernel
theorem d_Mo_tick_81 : decode b_Mo_tick 81 = .ok (.ifCond .ge 16, 3) := by decide +kernel
theorem d_Mo_tick_84 : decode b_Mo_tick 84 = .ok (.aload_n 0, 1) := by decide +kernel
theorem d_Mo_tick_85 : decode b_Mo_tick 85 = .ok (.dup, 1) := by decide +kernel
theorem d_Mo_tick_86 : decode b_Mo_tick 86 = .ok (.getfield 171, 3) := by decide +kernel
theorem d_Mo_tick_89 : decode b_Mo_tick 89 = .ok (.iconst 1, 1) := by decide +kernel
theorem d_Mo_tick_90 : decode b_Mo_tick 90 = .ok (.iadd, 1) := by decide +kernel
theorem d_Mo_tick_91 : decode b_Mo_tick 91 = .ok (.putfield 171, 3) := by decide +kernel
theorem d_Mo_tick_94 : decode b_Mo_tick 94 = .ok (.goto 8, 3) := by decide +kernel
theorem d_Mo_tick_97 : decode b_Mo_tick 97 = .ok (.aload_n 0, 1) := by decide +kernel
theorem d_Mo_tick_98 : decode b_Mo_tick 98 = .ok (.iload_n 1, 1) := by decide +kernel
theorem d_Mo_tick_99 : decode b_Mo_tick 99 = .ok (.invokevirtual 174, 3) := by decide +kernel
theorem d_Mo_tick_102 : decode b_Mo_tick 102 = .ok (.iinc 1 1, 3) := by decide +kernel
theorem d_Mo_tick_105 : decode b_Mo_tick 105 = .ok (.goto (-93), 3) := by decide +kernel
theorem d_Mo_tick_108 : decode b_Mo_tick 108 = .ok (.return_, 1) := by decide +kernel
theorem d_Mo_many_0 : decode b_Mo_many 0 = .ok (.iconst 0, 1) := by decide +kernel
theorem d_Mo_many_1 : decode b_Mo_many 1 = .ok (.istore_n 2, 1) := by decide +kernel
theorem d_Mo_many_2 : decode b_Mo_many 2 = .ok (.iconst 0, 1) := by decide +kernel
theorem d_Mo_many_3 : decode b_Mo_many 3 = .ok (.istore_n 3, 1) := by decide +kernel
theorem d_Mo_many_4 : decode b_Mo_many 4 = .ok (.iload_n 3, 1) := by decide +kernel
theorem d_Mo_many_5 : decode b_Mo_many 5 = .ok (.bipush 6, 2) := by decide +kernel
theorem d_Mo_many_7 : decode b_Mo_many 7 = .ok (.if_icmp .ge 22, 3) := by decide +kernel
theorem d_Mo_many_10 : decode b_Mo_many 10 = .ok (.aload_n 0, 1) := by decide +kernel
theorem d_Mo_many_11 : decode b_Mo_many 11 = .ok (.getfield 22, 3) := by decide +kernel
theorem d_Mo_many_14 : decode b_Mo_many 14 = .ok (.iload_n 3, 1) := by decide +kernel
theorem d_Mo_many_15 : decode b_Mo_many 15 = .ok (.iaload, 1) := by decide +kernel
theorem d_Mo_many_16 : decode b_Mo_many 16 = .ok (.iload_n 1, 1) := by decide +kernel
theorem d_Mo_many_17 : decode b_Mo_many 17 = .ok (.if_icmp .ne 6, 3) := by decide +kernel
theorem d_Mo_many_20 : decode b_Mo_many 20 = .ok (.iinc 2 1, 3) := by decide +kernel
theorem d_Mo_many_23 : decode b_Mo_many 23 = .ok (.iinc 3 1, 3) := by decide +kernel
theorem d_Mo_many_26 : decode b_Mo_many 26 = .ok (.goto (-22), 3) := by decide +kernel
theorem d_Mo_many_29 : decode b_Mo_many 29 = .ok (.iload_n 2, 1) := by decide +kernel
theorem d_Mo_many_30 : decode b_Mo_many 30 = .ok (.ireturn, 1) := by decide +kernel
theorem d_Mo_run_0 : decode b_Mo_run 0 = .ok (.aload_n 0, 1) := by decide +kernel
theorem d_Mo_run_1 : decode b_Mo_run 1 = .ok (.iload_n 1, 1) := by decide +kernel
theorem d_Mo_run_2 : decode b_Mo_run 2 = .ok (.iconst 1, 1) := by decide +kernel
theorem d_Mo_run_3 : decode b_Mo_run 3 = .ok (.if_icmp .lt 10, 3) := by decide +kernel
theorem d_Mo_run_6 : decode b_Mo_run 6 = .ok (.iload_n 1, 1) := by decide +kernel
theorem d_Mo_run_7 : decode b_Mo_run 7 = .ok (.sipush 300, 3) := by decide +kernel
theorem d_Mo_run_10 : decode b_Mo_run 10 = .ok (.if_icmp .le 7, 3) := by decide +kernel
theorem d_Mo_run_13 : decode b_Mo_run 13 = .ok (.iconst 1, 1) := by decide +kernel
theorem d_Mo_run_14 : decode b_Mo_run 14 = .ok (.goto 4, 3) := by decide +kernel
theorem d_Mo_run_17 : decode b_Mo_run 17 = .ok (.iconst 0, 1) := by decide +kernel
theorem d_Mo_run_18 : decode b_Mo_run 18 = .ok (.putfield 90, 3) := by decide +kernel
theorem d_Mo_run_21 : decode b_Mo_run 21 = .ok (.iconst 0, 1) := by decide +kernel
theorem d_Mo_run_22 : decode b_Mo_run 22 = .ok (.istore_n 2, 1) := by decide +kernel
theorem d_Mo_run_23 : decode b_Mo_run 23 = .ok (.aload_n 0, 1) := by decide +kernel
theorem d_Mo_run_24 : decode b_Mo_run 24 = .ok (.getfield 90, 3) := by decide +kernel
theorem d_Mo_run_27 : decode b_Mo_run 27 = .ok (.ifCond .ne 60, 3) := by decide +kernel
theorem d_Mo_run_30 : decode b_Mo_run 30 = .ok (.iload_n 2, 1) := by decide +kernel
theorem d_Mo_run_31 : decode b_Mo_run 31 = .ok (.iload_n 1, 1) := by decide +kernel
theorem d_Mo_run_32 : decode b_Mo_run 32 = .ok (.if_icmp .ge 55, 3) := by decide +kernel
theorem d_Mo_run_35 : decode b_Mo_run 35 = .ok (.aload_n 0, 1) := by decide +kernel
theorem d_Mo_run_36 : decode b_Mo_run 36 = .ok (.iconst 0, 1) := by decide +kernel
theorem d_Mo_run_37 : decode b_Mo_run 37 = .ok (.invokevirtual 177, 3) := by decide +kernel
theorem d_Mo_run_40 : decode b_Mo_run 40 = .ok (.aload_n 0, 1) := by decide +kernel
theorem d_Mo_run_41 : decode b_Mo_run 41 = .ok (.iconst 1, 1) := by decide +kernel
theorem d_Mo_run_42 : decode b_Mo_run 42 = .ok (.invokevirtual 177, 3) := by decide +kernel
theorem d_Mo_run_45 : decode b_Mo_run 45 = .ok (.iadd, 1) := by decide +kernel
theorem d_Mo_run_46 : decode b_Mo_run 46 = .ok (.aload_n 0, 1) := by decide +kernel
theorem d_Mo_run_47 : decode b_Mo_run 47 = .ok (.iconst 2, 1) := by decide +kernel
theorem d_Mo_run_48 : decode b_Mo_run 48 = .ok (.invokevirtual 177, 3) := by decide +kernel
theorem d_Mo_run_51 : decode b_Mo_run 51 = .ok (.iadd, 1) := by decide +kernel
theorem d_Mo_run_52 : decode b_Mo_run 52 = .ok (.ifCond .le 35, 3) := by decide +kernel
theorem d_Mo_run_55 : decode b_Mo_run 55 = .ok (.aload_n 0, 1) := by decide +kernel
theorem d_Mo_run_56 : decode b_Mo_run 56 = .ok (.iconst 0, 1) := by decide +kernel
theorem d_Mo_run_57 : decode b_Mo_run 57 = .ok (.invokevirtual 177, 3) := by decide +kernel
theorem d_Mo_run_60 : decode b_Mo_run 60 = .ok (.aload_n 0, 1) := by decide +kernel
theorem d_Mo_run_61 : decode b_Mo_run 61 = .ok (.iconst 1, 1) := by decide +kernel
theorem d_Mo_run_62 : decode b_Mo_run 62 = .ok (.invokevirtual 177, 3) := by decide +kernel
theorem d_Mo_run_65 : decode b_Mo_run 65 = .ok (.iadd, 1) := by decide +kernel
theorem d_Mo_run_66 : decode b_Mo_run 66 = .ok (.ifCond .ne 11, 3) := by decide +kernel
theorem d_Mo_run_69 : decode b_Mo_run 69 = .ok (.aload_n 0, 1) := by decide +kernel
theorem d_Mo_run_70 : decode b_Mo_run 70 = .ok (.iconst 2, 1) := by decide +kernel
theorem d_Mo_run_71 : decode b_Mo_run 71 = .ok (.putfield 90, 3) := by decide +kernel
theorem d_Mo_run_74 : decode b_Mo_run 74 = .ok (.goto (-51), 3) := by decide +kernel
theorem d_Mo_run_77 : decode b_Mo_run 77 = .ok (.aload_n 0, 1) := by decide +kernel
theorem d_Mo_run_78 : decode b_Mo_run 78 = .ok (.invokevirtual 180, 3) := by decide +kernel
theorem d_Mo_run_81 : decode b_Mo_run 81 = .ok (.iinc 2 1, 3) := by decide +kernel
theorem d_Mo_run_84 : decode b_Mo_run 84 = .ok (.goto (-61), 3) := by decide +kernel
theorem d_Mo_run_87 : decode b_Mo_run 87 = .ok (.aload_n 0, 1) := by decide +kernel
theorem d_Mo_run_88 : decode b_Mo_run 88 = .ok (.getfield 90, 3) := by decide +kernel
theorem d_Mo_run_91 : decode b_Mo_run 91 = .ok (.ifCond .ne 7, 3) := by decide +kernel
theorem d_Mo_run_94 : decode b_Mo_run 94 = .ok (.iload_n 2, 1) := by decide +kernel
theorem d_Mo_run_95 : decode b_Mo_run 95 = .ok (.goto 4, 3) := by decide +kernel
theorem d_Mo_run_98 : decode b_Mo_run 98 = .ok (.iconst 0, 1) := by decide +kernel
theorem d_Mo_run_99 : decode b_Mo_run 99 = .ok (.ireturn, 1) := by decide +kernel
theorem d_Mo_guest_0 : decode b_Mo_guest 0 = .ok (.aload_n 0, 1) := by decide +kernel
theorem d_Mo_guest_1 : decode b_Mo_guest 1 = .ok (.aload_n 0, 1) := by decide +kernel
theorem d_Mo_guest_2 : decode b_Mo_guest 2 = .ok (.iload_n 1, 1) := by decide +kernel
theorem d_Mo_guest_3 : decode b_Mo_guest 3 = .ok (.iconst 5, 1) := by decide +kernel
theorem d_Mo_guest_4 : decode b_Mo_guest 4 = .ok (.invokevirtual 102, 3) := by decide +kernel
theorem d_Mo_guest_7 : decode b_Mo_guest 7 = .ok (.ifCond .ne 7, 3) := by decide +kernel
theorem d_Mo_guest_10 : decode b_Mo_guest 10 = .ok (.iload_n 2, 1) := by decide +kernel
theorem d_Mo_guest_11 : decode b_Mo_guest 11 = .ok (.ifCond .eq 7, 3) := by decide +kernel
theorem d_Mo_guest_14 : decode b_Mo_guest 14 = .ok (.iconst 1, 1) := by decide +kernel
theorem d_Mo_guest_15 : decode b_Mo_guest 15 = .ok (.goto 17, 3) := by decide +kernel
theorem d_Mo_guest_18 : decode b_Mo_guest 18 = .ok (.aload_n 0, 1) := by decide +kernel
theorem d_Mo_guest_19 : decode b_Mo_guest 19 = .ok (.getfield 22, 3) := by decide +kernel
theorem d_Mo_guest_22 : decode b_Mo_guest 22 = .ok (.iload_n 1, 1) := by decide +kernel
theorem d_Mo_guest_23 : decode b_Mo_guest 23 = .ok (.iaload, 1) := by decide +kernel
theorem d_Mo_guest_24 : decode b_Mo_guest 24 = .ok (.ifCond .ge 7, 3) := by decide +kernel
theorem d_Mo_guest_27 : decode b_Mo_guest 27 = .ok (.iconst 2, 1) := by decide +kernel
theorem d_Mo_guest_28 : decode b_Mo_guest 28 = .ok (.goto 4, 3) := by decide +kernel
theorem d_Mo_guest_31 : decode b_Mo_guest 31 = .ok (.iconst 0, 1) := by decide +kernel
theorem d_Mo_guest_32 : decode b_Mo_guest 32 = .ok (.putfield 90, 3) := by decide +kernel
theorem d_Mo_guest_35 : decode b_Mo_guest 35 = .ok (.aload_n 0, 1) := by decide +kernel
theorem d_Mo_guest_36 : decode b_Mo_guest 36 = .ok (.getfield 90, 3) := by decide +kernel
theorem d_Mo_guest_39 : decode b_Mo_guest 39 = .ok (.ifCond .ne 7, 3) := by decide +kernel
theorem d_Mo_guest_42 : decode b_Mo_guest 42 = .ok (.iconst 1, 1) := by decide +kernel
theorem d_Mo_guest_43 : decode b_Mo_guest 43 = .ok (.goto 4, 3) := by decide +kernel
theorem d_Mo_guest_46 : decode b_Mo_guest 46 = .ok (.iconst 0, 1) := by decide +kernel
theorem d_Mo_guest_47 : decode b_Mo_guest 47 = .ok (.ireturn, 1) := by decide +kernel
theorem d_Mo_register_0 : decode b_Mo_register 0 = .ok (.aload_n 0, 1) := by decide +kernel
theorem d_Mo_register_1 : decode b_Mo_register 1 = .ok (.iload_n 1, 1) := by decide +kernel
theorem d_Mo_register_2 : decode b_Mo_register 2 = .ok (.aload_n 0, 1) := by decide +kernel
theorem d_Mo_register_3 : decode b_Mo_register 3 = .ok (.iload_n 2, 1) := by decide +kernel
theorem d_Mo_register_4 : decode b_Mo_register 4 = .ok (.iconst 3, 1) := by decide +kernel
theorem d_Mo_register_5 : decode b_Mo_register 5 = .ok (.invokevirtual 102, 3) := by decide +kernel
theorem d_Mo_register_8 : decode b_Mo_register 8 = .ok (.invokevirtual 183, 3) := by decide +kernel
theorem d_Mo_register_11 : decode b_Mo_register 11 = .ok (.ifCond .eq 16, 3) := by decide +kernel
theorem d_Mo_register_14 : decode b_Mo_register 14 = .ok (.aload_n 0, 1) := by decide +kernel
theorem d_Mo_register_15 : decode b_Mo_register 15 = .ok (.getfield 52, 3) := by decide +kernel
theorem d_Mo_register_18 : decode b_Mo_register 18 = .ok (.iload_n 1, 1) := by decide +kernel
theorem d_Mo_register_19 : decode b_Mo_register 19 = .ok (.iconst 4, 1) := by decide +kernel
theorem d_Mo_register_20 : decode b_Mo_register 20 = .ok (.imul, 1) := by decide +kernel
theorem d_Mo_register_21 : decode b_Mo_register 21 = .ok (.iload_n 2, 1) := by decide +kernel
theorem d_Mo_register_22 : decode b_Mo_register 22 = .ok (.iadd, 1) := by decide +kernel
theorem d_Mo_register_23 : decode b_Mo_register 23 = .ok (.iaload, 1) := by decide +kernel
theorem d_Mo_register_24 : decode b_Mo_register 24 = .ok (.goto 4, 3) := by decide +kernel
theorem d_Mo_register_27 : decode b_Mo_register 27 = .ok (.iconst 0, 1) := by decide +kernel
theorem d_Mo_register_28 : decode b_Mo_register 28 = .ok (.ireturn, 1) := by decide +kernel
theorem d_Mo_told_0 : decode b_Mo_told 0 = .ok (.aload_n 0, 1) := by decide +kernel
theorem d_Mo_told_1 : decode b_Mo_told 1 = .ok (.iload_n 1, 1) := by decide +kernel
theorem d_Mo_told_2 : decode b_Mo_told 2 = .ok (.aload_n 0, 1) := by decide +kernel
theorem d_Mo_told_3 : decode b_Mo_told 3 = .ok (.iload_n 2, 1) := by decide +kernel
theorem d_Mo_told_4 : decode b_Mo_told 4 = .ok (.bipush 8, 2) := by decide +kernel
theorem d_Mo_told_6 : decode b_Mo_told 6 = .ok (.invokevirtual 102, 3) := by decide +kernel
theorem d_Mo_told_9 : decode b_Mo_told 9 = .ok (.invokevirtual 183, 3) := by decide +kernel
theorem d_Mo_told_12 : decode b_Mo_told 12 = .ok (.ifCond .ne 5, 3) := by decide +kernel
theorem d_Mo_told_15 : decode b_Mo_told 15 = .ok (.iconst 0, 1) := by decide +kernel
theorem d_Mo_told_16 : decode b_Mo_told 16 = .ok (.ireturn, 1) := by decide +kernel
theorem d_Mo_told_17 : decode b_Mo_told 17 = .ok (.iload_n 2, 1) := by decide +kernel
theorem d_Mo_told_18 : decode b_Mo_told 18 = .ok (.tableswitch 102 0 7 #[46, 53, 60, 67, 74, 81, 88, 95], 46) := by decide +kernel
theorem d_Mo_told_64 : decode b_Mo_told 64 = .ok (.aload_n 0, 1) := by decide +kernel
theorem d_Mo_told_65 : decode b_Mo_told 65 = .ok (.getfield 22, 3) := by decide +kernel
theorem d_Mo_told_68 : decode b_Mo_told 68 = .ok (.iload_n 1, 1) := by decide +kernel
theorem d_Mo_told_69 : decode b_Mo_told 69 = .ok (.iaload, 1) := by decide +kernel
theorem d_Mo_told_70 : decode b_Mo_told 70 = .ok (.ireturn, 1) := by decide +kernel
theorem d_Mo_told_71 : decode b_Mo_told 71 = .ok (.aload_n 0, 1) := by decide +kernel
theorem d_Mo_told_72 : decode b_Mo_told 72 = .ok (.getfield 25, 3) := by decide +kernel
theorem d_Mo_told_75 : decode b_Mo_told 75 = .ok (.iload_n 1, 1) := by decide +kernel
theorem d_Mo_told_76 : decode b_Mo_told 76 = .ok (.iaload, 1) := by decide +kernel
theorem d_Mo_told_77 : decode b_Mo_told 77 = .ok (.ireturn, 1) := by decide +kernel
theorem d_Mo_told_78 : decode b_Mo_told 78 = .ok (.aload_n 0, 1) := by decide +kernel
theorem d_Mo_told_79 : decode b_Mo_told 79 = .ok (.getfield 28, 3) := by decide +kernel
theorem d_Mo_told_82 : decode b_Mo_told 82 = .ok (.iload_n 1, 1) := by decide +kernel
theorem d_Mo_told_83 : decode b_Mo_told 83 = .ok (.iaload, 1) := by decide +kernel
theorem d_Mo_told_84 : decode b_Mo_told 84 = .ok (.ireturn, 1) := by decide +kernel
theorem d_Mo_told_85 : decode b_Mo_told 85 = .ok (.aload_n 0, 1) := by decide +kernel
theorem d_Mo_told_86 : decode b_Mo_told 86 = .ok (.getfield 31, 3) := by decide +kernel
theorem d_Mo_told_89 : decode b_Mo_told 89 = .ok (.iload_n 1, 1) := by decide +kernel
theorem d_Mo_told_90 : decode b_Mo_told 90 = .ok (.iaload, 1) := by decide +kernel
theorem d_Mo_told_91 : decode b_Mo_told 91 = .ok (.ireturn, 1) := by decide +kernel
theorem d_Mo_told_92 : decode b_Mo_told 92 = .ok (.aload_n 0, 1) := by decide +kernel
theorem d_Mo_told_93 : decode b_Mo_told 93 = .ok (.getfield 34, 3) := by decide +kernel
theorem d_Mo_told_96 : decode b_Mo_told 96 = .ok (.iload_n 1, 1) := by decide +kernel
theorem d_Mo_told_97 : decode b_Mo_told 97 = .ok (.iaload, 1) := by decide +kernel
theorem d_Mo_told_98 : decode b_Mo_told 98 = .ok (.ireturn, 1) := by decide +kernel
theorem d_Mo_told_99 : decode b_Mo_told 99 = .ok (.aload_n 0, 1) := by decide +kernel
theorem d_Mo_told_100 : decode b_Mo_told 100 = .ok (.getfield 37, 3) := by decide +kernel
theorem d_Mo_told_103 : decode b_Mo_told 103 = .ok (.iload_n 1, 1) := by decide +kernel
theorem d_Mo_told_104 : decode b_Mo_told 104 = .ok (.iaload, 1) := by decide +kernel
theorem d_Mo_told_105 : decode b_Mo_told 105 = .ok (.ireturn, 1) := by decide +kernel
theorem d_Mo_told_106 : decode b_Mo_told 106 = .ok (.aload_n 0, 1) := by decide +kernel
theorem d_Mo_told_107 : decode b_Mo_told 107 = .ok (.getfield 40, 3) := by decide +kernel
theorem d_Mo_told_110 : decode b_Mo_told 110 = .ok (.iload_n 1, 1) := by decide +kernel
theorem d_Mo_told_111 : decode b_Mo_told 111 = .ok (.iaload, 1) := by decide +kernel
theorem d_Mo_told_112 : decode b_Mo_told 112 = .ok (.ireturn, 1) := by decide +kernel
theorem d_Mo_told_113 : decode b_Mo_told 113 = .ok (.aload_n 0, 1) := by decide +kernel
theorem d_Mo_told_114 : decode b_Mo_told 114 = .ok (.getfield 43, 3) := by decide +kernel
theorem d_Mo_told_117 : decode b_Mo_told 117 = .ok (.iload_n 1, 1) := by decide +kernel
theorem d_Mo_told_118 : decode b_Mo_told 118 = .ok (.iaload, 1) := by decide +kernel
theorem d_Mo_told_119 : decode b_Mo_told 119 = .ok (.ireturn, 1) := by decide +kernel
theorem d_Mo_told_120 : decode b_Mo_told 120 = .ok (.aload_n 0, 1) := by decide +kernel
theorem d_Mo_told_121 : decode b_Mo_told 121 = .ok (.getfield 46, 3) := by decide +kernel
theorem d_Mo_told_124 : decode b_Mo_told 124 = .ok (.iload_n 1, 1) := by decide +kernel
theorem d_Mo_told_125 : decode b_Mo_told 125 = .ok (.iaload, 1) := by decide +kernel
theorem d_Mo_told_126 : decode b_Mo_told 126 = .ok (.ireturn, 1) := by decide +kernel
theorem d_Mo_page_0 : decode b_Mo_page 0 = .ok (.aload_n 0, 1) := by decide +kernel
theorem d_Mo_page_1 : decode b_Mo_page 1 = .ok (.iload_n 1, 1) := by decide +kernel
theorem d_Mo_page_2 : decode b_Mo_page 2 = .ok (.aload_n 0, 1) := by decide +kernel
theorem d_Mo_page_3 : decode b_Mo_page 3 = .ok (.iload_n 2, 1) := by decide +kernel
theorem d_Mo_page_4 : decode b_Mo_page 4 = .ok (.iconst 3, 1) := by decide +kernel
theorem d_Mo_page_5 : decode b_Mo_page 5 = .ok (.invokevirtual 102, 3) := by decide +kernel
theorem d_Mo_page_8 : decode b_Mo_page 8 = .ok (.invokevirtual 183, 3) := by decide +kernel
theorem d_Mo_page_11 : decode b_Mo_page 11 = .ok (.ifCond .eq 16, 3) := by decide +kernel
theorem d_Mo_page_14 : decode b_Mo_page 14 = .ok (.aload_n 0, 1) := by decide +kernel
theorem d_Mo_page_15 : decode b_Mo_page 15 = .ok (.getfield 55, 3) := by decide +kernel
theorem d_Mo_page_18 : decode b_Mo_page 18 = .ok (.iload_n 1, 1) := by decide +kernel
theorem d_Mo_page_19 : decode b_Mo_page 19 = .ok (.iconst 4, 1) := by decide +kernel
theorem d_Mo_page_20 : decode b_Mo_page 20 = .ok (.imul, 1) := by decide +kernel
theorem d_Mo_page_21 : decode b_Mo_page 21 = .ok (.iload_n 2, 1) := by decide +kernel
theorem d_Mo_page_22 : decode b_Mo_page 22 = .ok (.iadd, 1) := by decide +kernel
theorem d_Mo_page_23 : decode b_Mo_page 23 = .ok (.iaload, 1) := by decide +kernel
theorem d_Mo_page_24 : decode b_Mo_page 24 = .ok (.goto 4, 3) := by decide +kernel
theorem d_Mo_page_27 : decode b_Mo_page 27 = .ok (.iconst 0, 1) := by decide +kernel
theorem d_Mo_page_28 : decode b_Mo_page 28 = .ok (.ireturn, 1) := by decide +kernel
theorem d_Mo_memory_0 : decode b_Mo_memory 0 = .ok (.aload_n 0, 1) := by decide +kernel
theorem d_Mo_memory_1 : decode b_Mo_memory 1 = .ok (.aload_n 0, 1) := by decide +kernel
theorem d_Mo_memory_2 : decode b_Mo_memory 2 = .ok (.iload_n 1, 1) := by decide +kernel
theorem d_Mo_memory_3 : decode b_Mo_memory 3 = .ok (.bipush 11, 2) := by decide +kernel
theorem d_Mo_memory_5 : decode b_Mo_memory 5 = .ok (.invokevirtual 102, 3) := by decide +kernel
theorem d_Mo_memory_8 : decode b_Mo_memory 8 = .ok (.ifCond .ne 13, 3) := by decide +kernel
theorem d_Mo_memory_11 : decode b_Mo_memory 11 = .ok (.aload_n 0, 1) := by decide +kernel
theorem d_Mo_memory_12 : decode b_Mo_memory 12 = .ok (.iload_n 2, 1) := by decide +kernel
theorem d_Mo_memory_13 : decode b_Mo_memory 13 = .ok (.bipush 7, 2) := by decide +kernel
theorem d_Mo_memory_15 : decode b_Mo_memory 15 = .ok (.invokevirtual 102, 3) := by decide +kernel
theorem d_Mo_memory_18 : decode b_Mo_memory 18 = .ok (.ifCond .eq 7, 3) := by decide +kernel
theorem d_Mo_memory_21 : decode b_Mo_memory 21 = .ok (.iconst 1, 1) := by decide +kernel
theorem d_Mo_memory_22 : decode b_Mo_memory 22 = .ok (.goto 4, 3) := by decide +kernel
theorem d_Mo_memory_25 : decode b_Mo_memory 25 = .ok (.iconst 0, 1) := by decide +kernel
theorem d_Mo_memory_26 : decode b_Mo_memory 26 = .ok (.putfield 90, 3) := by decide +kernel
theorem d_Mo_memory_29 : decode b_Mo_memory 29 = .ok (.aload_n 0, 1) := by decide +kernel
theorem d_Mo_memory_30 : decode b_Mo_memory 30 = .ok (.getfield 90, 3) := by decide +kernel
theorem d_Mo_memory_33 : decode b_Mo_memory 33 = .ok (.ifCond .ne 17, 3) := by decide +kernel
theorem d_Mo_memory_36 : decode b_Mo_memory 36 = .ok (.aload_n 0, 1) := by decide +kernel
theorem d_Mo_memory_37 : decode b_Mo_memory 37 = .ok (.getfield 58, 3) := by decide +kernel
theorem d_Mo_memory_40 : decode b_Mo_memory 40 = .ok (.iload_n 1, 1) := by decide +kernel
theorem d_Mo_memory_41 : decode b_Mo_memory 41 = .ok (.bipush 8, 2) := by decide +kernel
theorem d_Mo_memory_43 : decode b_Mo_memory 43 = .ok (.imul, 1) := by decide +kernel
theorem d_Mo_memory_44 : decode b_Mo_memory 44 = .ok (.iload_n 2, 1) := by decide +kernel
theorem d_Mo_memory_45 : decode b_Mo_memory 45 = .ok (.iadd, 1) := by decide +kernel
theorem d_Mo_memory_46 : decode b_Mo_memory 46 = .ok (.iaload, 1) := by decide +kernel
theorem d_Mo_memory_47 : decode b_Mo_memory 47 = .ok (.goto 4, 3) := by decide +kernel
theorem d_Mo_memory_50 : decode b_Mo_memory 50 = .ok (.iconst 0, 1) := by decide +kernel
theorem d_Mo_memory_51 : decode b_Mo_memory 51 = .ok (.ireturn, 1) := by decide +kernel
theorem d_Mo_object_0 : decode b_Mo_object 0 = .ok (.aload_n 0, 1) := by decide +kernel
theorem d_Mo_object_1 : decode b_Mo_object 1 = .ok (.aload_n 0, 1) := by decide +kernel
theorem d_Mo_object_2 : decode b_Mo_object 2 = .ok (.iload_n 1, 1) := by decide +kernel
theorem d_Mo_object_3 : decode b_Mo_object 3 = .ok (.iconst 3, 1) := by decide +kernel
theorem d_Mo_object_4 : decode b_Mo_object 4 = .ok (.invokevirtual 102, 3) := by decide +kernel
theorem d_Mo_object_7 : decode b_Mo_object 7 = .ok (.ifCond .ne 12, 3) := by decide +kernel
theorem d_Mo_object_10 : decode b_Mo_object 10 = .ok (.aload_n 0, 1) := by decide +kernel
theorem d_Mo_object_11 : decode b_Mo_object 11 = .ok (.iload_n 2, 1) := by decide +kernel
theorem d_Mo_object_12 : decode b_Mo_object 12 = .ok (.iconst 4, 1) := by decide +kernel
theorem d_Mo_object_13 : decode b_Mo_object 13 = .ok (.invokevirtual 102, 3) := by decide +kernel
theorem d_Mo_object_16 : decode b_Mo_object 16 = .ok (.ifCond .eq 7, 3) := by decide +kernel
theorem d_Mo_object_19 : decode b_Mo_object 19 = .ok (.iconst 1, 1) := by decide +kernel
theorem d_Mo_object_20 : decode b_Mo_object 20 = .ok (.goto 4, 3) := by decide +kernel
theorem d_Mo_object_23 : decode b_Mo_object 23 = .ok (.iconst 0, 1) := by decide +kernel
theorem d_Mo_object_24 : decode b_Mo_object 24 = .ok (.putfield 90, 3) := by decide +kernel
theorem d_Mo_object_27 : decode b_Mo_object 27 = .ok (.aload_n 0, 1) := by decide +kernel
theorem d_Mo_object_28 : decode b_Mo_object 28 = .ok (.getfield 90, 3) := by decide +kernel
theorem d_Mo_object_31 : decode b_Mo_object 31 = .ok (.ifCond .eq 5, 3) := by decide +kernel
theorem d_Mo_object_34 : decode b_Mo_object 34 = .ok (.iconst 0, 1) := by decide +kernel
theorem d_Mo_object_35 : decode b_Mo_object 35 = .ok (.ireturn, 1) := by decide +kernel
theorem d_Mo_object_36 : decode b_Mo_object 36 = .ok (.iload_n 2, 1) := by decide +kernel
theorem d_Mo_object_37 : decode b_Mo_object 37 = .ok (.tableswitch 64 0 3 #[31, 38, 48, 55], 31) := by decide +kernel
theorem d_Mo_object_68 : decode b_Mo_object 68 = .ok (.aload_n 0, 1) := by decide +kernel
theorem d_Mo_object_69 : decode b_Mo_object 69 = .ok (.getfield 77, 3) := by decide +kernel
theorem d_Mo_object_72 : decode b_Mo_object 72 = .ok (.iload_n 1, 1) := by decide +kernel
theorem d_Mo_object_73 : decode b_Mo_object 73 = .ok (.iaload, 1) := by decide +kernel
theorem d_Mo_object_74 : decode b_Mo_object 74 = .ok (.ireturn, 1) := by decide +kernel
theorem d_Mo_object_75 : decode b_Mo_object 75 = .ok (.aload_n 0, 1) := by decide +kernel
theorem d_Mo_object_76 : decode b_Mo_object 76 = .ok (.getfield 68, 3) := by decide +kernel
theorem d_Mo_object_79 : decode b_Mo_object 79 = .ok (.bipush 10, 2) := by decide +kernel
theorem d_Mo_object_81 : decode b_Mo_object 81 = .ok (.iload_n 1, 1) := by decide +kernel
theorem d_Mo_object_82 : decode b_Mo_object 82 = .ok (.iadd, 1) := by decide +kernel
theorem d_Mo_object_83 : decode b_Mo_object 83 = .ok (.iaload, 1) := by decide +kernel
theorem d_Mo_object_84 : decode b_Mo_object 84 = .ok (.ireturn, 1) := by decide +kernel
theorem d_Mo_object_85 : decode b_Mo_object 85 = .ok (.aload_n 0, 1) := by decide +kernel
theorem d_Mo_object_86 : decode b_Mo_object 86 = .ok (.getfield 74, 3) := by decide +kernel
theorem d_Mo_object_89 : decode b_Mo_object 89 = .ok (.iload_n 1, 1) := by decide +kernel
theorem d_Mo_object_90 : decode b_Mo_object 90 = .ok (.iaload, 1) := by decide +kernel
theorem d_Mo_object_91 : decode b_Mo_object 91 = .ok (.ireturn, 1) := by decide +kernel
theorem d_Mo_object_92 : decode b_Mo_object 92 = .ok (.aload_n 0, 1) := by decide +kernel
theorem d_Mo_object_93 : decode b_Mo_object 93 = .ok (.getfield 68, 3) := by decide +kernel
theorem d_Mo_object_96 : decode b_Mo_object 96 = .ok (.iconst 2, 1) := by decide +kernel
theorem d_Mo_object_97 : decode b_Mo_object 97 = .ok (.iload_n 1, 1) := by decide +kernel
theorem d_Mo_object_98 : decode b_Mo_object 98 = .ok (.iadd, 1) := by decide +kernel
theorem d_Mo_object_99 : decode b_Mo_object 99 = .ok (.iaload, 1) := by decide +kernel
theorem d_Mo_object_100 : decode b_Mo_object 100 = .ok (.ireturn, 1) := by decide +kernel
theorem d_Mo_object_101 : decode b_Mo_object 101 = .ok (.aload_n 0, 1) := by decide +kernel
theorem d_Mo_object_102 : decode b_Mo_object 102 = .ok (.getfield 68, 3) := by decide +kernel
theorem d_Mo_object_105 : decode b_Mo_object 105 = .ok (.bipush 6, 2) := by decide +kernel
theorem d_Mo_object_107 : decode b_Mo_object 107 = .ok (.iload_n 1, 1) := by decide +kernel
theorem d_Mo_object_108 : decode b_Mo_object 108 = .ok (.iadd, 1) := by decide +kernel
theorem d_Mo_object_109 : decode b_Mo_object 109 = .ok (.iaload, 1) := by decide +kernel
theorem d_Mo_object_110 : decode b_Mo_object 110 = .ok (.ireturn, 1) := by decide +kernel
theorem d_Mo_written_0 : decode b_Mo_written 0 = .ok (.aload_n 0, 1) := by decide +kernel
theorem d_Mo_written_1 : decode b_Mo_written 1 = .ok (.aload_n 0, 1) := by decide +kernel
theorem d_Mo_written_2 : decode b_Mo_written 2 = .ok (.iload_n 1, 1) := by decide +kernel
theorem d_Mo_written_3 : decode b_Mo_written 3 = .ok (.bipush 31, 2) := by decide +kernel
theorem d_Mo_written_5 : decode b_Mo_written 5 = .ok (.invokevirtual 102, 3) := by decide +kernel
theorem d_Mo_written_8 : decode b_Mo_written 8 = .ok (.ifCond .ne 12, 3) := by decide +kernel
theorem d_Mo_written_11 : decode b_Mo_written 11 = .ok (.aload_n 0, 1) := by decide +kernel
theorem d_Mo_written_12 : decode b_Mo_written 12 = .ok (.iload_n 2, 1) := by decide +kernel
theorem d_Mo_written_13 : decode b_Mo_written 13 = .ok (.iconst 3, 1) := by decide +kernel
theorem d_Mo_written_14 : decode b_Mo_written 14 = .ok (.invokevirtual 102, 3) := by decide +kernel
theorem d_Mo_written_17 : decode b_Mo_written 17 = .ok (.ifCond .eq 7, 3) := by decide +kernel
theorem d_Mo_written_20 : decode b_Mo_written 20 = .ok (.iconst 1, 1) := by decide +kernel
theorem d_Mo_written_21 : decode b_Mo_written 21 = .ok (.goto 4, 3) := by decide +kernel
theorem d_Mo_written_24 : decode b_Mo_written 24 = .ok (.iconst 0, 1) := by decide +kernel
theorem d_Mo_written_25 : decode b_Mo_written 25 = .ok (.putfield 90, 3) := by decide +kernel
theorem d_Mo_written_28 : decode b_Mo_written 28 = .ok (.aload_n 0, 1) := by decide +kernel
theorem d_Mo_written_29 : decode b_Mo_written 29 = .ok (.getfield 90, 3) := by decide +kernel
theorem d_Mo_written_32 : decode b_Mo_written 32 = .ok (.ifCond .eq 5, 3) := by decide +kernel
theorem d_Mo_written_35 : decode b_Mo_written 35 = .ok (.iconst 0, 1) := by decide +kernel
theorem d_Mo_written_36 : decode b_Mo_written 36 = .ok (.ireturn, 1) := by decide +kernel
theorem d_Mo_written_37 : decode b_Mo_written 37 = .ok (.iload_n 2, 1) := by decide +kernel
theorem d_Mo_written_38 : decode b_Mo_written 38 = .ok (.ifCond .ne 12, 3) := by decide +kernel
theorem d_Mo_written_41 : decode b_Mo_written 41 = .ok (.aload_n 0, 1) := by decide +kernel
theorem d_Mo_written_42 : decode b_Mo_written 42 = .ok (.getfield 7, 3) := by decide +kernel
theorem d_Mo_written_45 : decode b_Mo_written 45 = .ok (.iload_n 1, 1) := by decide +kernel
theorem d_Mo_written_46 : decode b_Mo_written 46 = .ok (.iaload, 1) := by decide +kernel
theorem d_Mo_written_47 : decode b_Mo_written 47 = .ok (.goto 37, 3) := by decide +kernel
theorem d_Mo_written_50 : decode b_Mo_written 50 = .ok (.iload_n 2, 1) := by decide +kernel
theorem d_Mo_written_51 : decode b_Mo_written 51 = .ok (.iconst 1, 1) := by decide +kernel
theorem d_Mo_written_52 : decode b_Mo_written 52 = .ok (.if_icmp .ne 12, 3) := by decide +kernel
theorem d_Mo_written_55 : decode b_Mo_written 55 = .ok (.aload_n 0, 1) := by decide +kernel
theorem d_Mo_written_56 : decode b_Mo_written 56 = .ok (.getfield 13, 3) := by decide +kernel
theorem d_Mo_written_59 : decode b_Mo_written 59 = .ok (.iload_n 1, 1) := by decide +kernel
theorem d_Mo_written_60 : decode b_Mo_written 60 = .ok (.iaload, 1) := by decide +kernel
theorem d_Mo_written_61 : decode b_Mo_written 61 = .ok (.goto 23, 3) := by decide +kernel
theorem d_Mo_written_64 : decode b_Mo_written 64 = .ok (.iload_n 2, 1) := by decide +kernel
theorem d_Mo_written_65 : decode b_Mo_written 65 = .ok (.iconst 2, 1) := by decide +kernel
theorem d_Mo_written_66 : decode b_Mo_written 66 = .ok (.if_icmp .ne 12, 3) := by decide +kernel
theorem d_Mo_written_69 : decode b_Mo_written 69 = .ok (.aload_n 0, 1) := by decide +kernel
theorem d_Mo_written_70 : decode b_Mo_written 70 = .ok (.getfield 16, 3) := by decide +kernel
theorem d_Mo_written_73 : decode b_Mo_written 73 = .ok (.iload_n 1, 1) := by decide +kernel
theorem d_Mo_written_74 : decode b_Mo_written 74 = .ok (.iaload, 1) := by decide +kernel
theorem d_Mo_written_75 : decode b_Mo_written 75 = .ok (.goto 9, 3) := by decide +kernel
theorem d_Mo_written_78 : decode b_Mo_written 78 = .ok (.aload_n 0, 1) := by decide +kernel
theorem d_Mo_written_79 : decode b_Mo_written 79 = .ok (.getfield 19, 3) := by decide +kernel
theorem d_Mo_written_82 : decode b_Mo_written 82 = .ok (.iload_n 1, 1) := by decide +kernel
theorem d_Mo_written_83 : decode b_Mo_written 83 = .ok (.iaload, 1) := by decide +kernel
theorem d_Mo_written_84 : decode b_Mo_written 84 = .ok (.ireturn, 1) := by decide +kernel
theorem d_Mo_count_0 : decode b_Mo_count 0 = .ok (.aload_n 0, 1) := by decide +kernel
theorem d_Mo_count_1 : decode b_Mo_count 1 = .ok (.iconst 0, 1) := by decide +kernel
theorem d_Mo_count_2 : decode b_Mo_count 2 = .ok (.putfield 90, 3) := by decide +kernel
theorem d_Mo_count_5 : decode b_Mo_count 5 = .ok (.iconst 0, 1) := by decide +kernel
theorem d_Mo_count_6 : decode b_Mo_count 6 = .ok (.istore_n 2, 1) := by decide +kernel
theorem d_Mo_count_7 : decode b_Mo_count 7 = .ok (.iconst 0, 1) := by decide +kernel
theorem d_Mo_count_8 : decode b_Mo_count 8 = .ok (.istore_n 3, 1) := by decide +kernel
theorem d_Mo_count_9 : decode b_Mo_count 9 = .ok (.iload_n 3, 1) := by decide +kernel
theorem d_Mo_count_10 : decode b_Mo_count 10 = .ok (.bipush 12, 2) := by decide +kernel
theorem d_Mo_count_12 : decode b_Mo_count 12 = .ok (.if_icmp .ge 21, 3) := by decide +kernel
theorem d_Mo_count_15 : decode b_Mo_count 15 = .ok (.aload_n 0, 1) := by decide +kernel
theorem d_Mo_count_16 : decode b_Mo_count 16 = .ok (.getfield 61, 3) := by decide +kernel
theorem d_Mo_count_19 : decode b_Mo_count 19 = .ok (.iload_n 3, 1) := by decide +kernel
theorem d_Mo_count_20 : decode b_Mo_count 20 = .ok (.baload, 1) := by decide +kernel
theorem d_Mo_count_21 : decode b_Mo_count 21 = .ok (.ifCond .ne 6, 3) := by decide +kernel
theorem d_Mo_count_24 : decode b_Mo_count 24 = .ok (.iinc 2 1, 3) := by decide +kernel
theorem d_Mo_count_27 : decode b_Mo_count 27 = .ok (.iinc 3 1, 3) := by decide +kernel
theorem d_Mo_count_30 : decode b_Mo_count 30 = .ok (.goto (-21), 3) := by decide +kernel
theorem d_Mo_count_33 : decode b_Mo_count 33 = .ok (.iload_n 1, 1) := by decide +kernel
theorem d_Mo_count_34 : decode b_Mo_count 34 = .ok (.tableswitch 159 0 21 #[102, 107, 112, 117, 122, 127, 129, 134, 159, 159, 139, 139, 159, 159, 159, 159, 159, 159, 159, 159, 149, 149], 102) := by decide +kernel
theorem d_Mo_count_136 : decode b_Mo_count 136 = .ok (.aload_n 0, 1) := by decide +kernel
theorem d_Mo_count_137 : decode b_Mo_count 137 = .ok (.getfield 165, 3) := by decide +kernel
theorem d_Mo_count_140 : decode b_Mo_count 140 = .ok (.ireturn, 1) := by decide +kernel
theorem d_Mo_count_141 : decode b_Mo_count 141 = .ok (.aload_n 0, 1) := by decide +kernel
theorem d_Mo_count_142 : decode b_Mo_count 142 = .ok (.getfield 155, 3) := by decide +kernel
theorem d_Mo_count_145 : decode b_Mo_count 145 = .ok (.ireturn, 1) := by decide +kernel
theorem d_Mo_count_146 : decode b_Mo_count 146 = .ok (.aload_n 0, 1) := by decide +kernel
theorem d_Mo_count_147 : decode b_Mo_count 147 = .ok (.getfield 116, 3) := by decide +kernel
theorem d_Mo_count_150 : decode b_Mo_count 150 = .ok (.ireturn, 1) := by decide +kernel
theorem d_Mo_count_151 : decode b_Mo_count 151 = .ok (.aload_n 0, 1) := by decide +kernel
theorem d_Mo_count_152 : decode b_Mo_count 152 = .ok (.getfield 122, 3) := by decide +kernel
theorem d_Mo_count_155 : decode b_Mo_count 155 = .ok (.ireturn, 1) := by decide +kernel
theorem d_Mo_count_156 : decode b_Mo_count 156 = .ok (.aload_n 0, 1) := by decide +kernel
theorem d_Mo_count_157 : decode b_Mo_count 157 = .ok (.getfield 125, 3) := by decide +kernel
theorem d_Mo_count_160 : decode b_Mo_count 160 = .ok (.ireturn, 1) := by decide +kernel
theorem d_Mo_count_161 : decode b_Mo_count 161 = .ok (.iload_n 2, 1) := by decide +kernel
theorem d_Mo_count_162 : decode b_Mo_count 162 = .ok (.ireturn, 1) := by decide +kernel
theorem d_Mo_count_163 : decode b_Mo_count 163 = .ok (.aload_n 0, 1) := by decide +kernel
theorem d_Mo_count_164 : decode b_Mo_count 164 = .ok (.getfield 171, 3) := by decide +kernel
theorem d_Mo_count_167 : decode b_Mo_count 167 = .ok (.ireturn, 1) := by decide +kernel
theorem d_Mo_count_168 : decode b_Mo_count 168 = .ok (.aload_n 0, 1) := by decide +kernel
theorem d_Mo_count_169 : decode b_Mo_count 169 = .ok (.getfield 168, 3) := by decide +kernel
theorem d_Mo_count_172 : decode b_Mo_count 172 = .ok (.ireturn, 1) := by decide +kernel
theorem d_Mo_count_173 : decode b_Mo_count 173 = .ok (.aload_n 0, 1) := by decide +kernel
theorem d_Mo_count_174 : decode b_Mo_count 174 = .ok (.getfield 80, 3) := by decide +kernel
theorem d_Mo_count_177 : decode b_Mo_count 177 = .ok (.iload_n 1, 1) := by decide +kernel
theorem d_Mo_count_178 : decode b_Mo_count 178 = .ok (.bipush 10, 2) := by decide +kernel
theorem d_Mo_count_180 : decode b_Mo_count 180 = .ok (.isub, 1) := by decide +kernel
theorem d_Mo_count_181 : decode b_Mo_count 181 = .ok (.iaload, 1) := by decide +kernel
theorem d_Mo_count_182 : decode b_Mo_count 182 = .ok (.ireturn, 1) := by decide +kernel
theorem d_Mo_count_183 : decode b_Mo_count 183 = .ok (.aload_n 0, 1) := by decide +kernel
theorem d_Mo_count_184 : decode b_Mo_count 184 = .ok (.getfield 68, 3) := by decide +kernel
theorem d_Mo_count_187 : decode b_Mo_count 187 = .ok (.iload_n 1, 1) := by decide +kernel
theorem d_Mo_count_188 : decode b_Mo_count 188 = .ok (.bipush 20, 2) := by decide +kernel
theorem d_Mo_count_190 : decode b_Mo_count 190 = .ok (.isub, 1) := by decide +kernel
theorem d_Mo_count_191 : decode b_Mo_count 191 = .ok (.iaload, 1) := by decide +kernel
theorem d_Mo_count_192 : decode b_Mo_count 192 = .ok (.ireturn, 1) := by decide +kernel
theorem d_Mo_count_193 : decode b_Mo_count 193 = .ok (.bipush (-2), 2) := by decide +kernel
theorem d_Mo_count_195 : decode b_Mo_count 195 = .ok (.ireturn, 1) := by decide +kernel
end
section
theorem d_La_code_0 : decode b_La_code 0 = .ok (.aload_n 0, 1) := by decide +kernel
theorem d_La_code_1 : decode b_La_code 1 = .ok (.iload_n 1, 1) := by decide +kernel
theorem d_La_code_2 : decode b_La_code 2 = .ok (.iload_n 2, 1) := by decide +kernel
theorem d_La_code_3 : decode b_La_code 3 = .ok (.iload_n 3, 1) := by decide +kernel
theorem d_La_code_4 : decode b_La_code 4 = .ok (.iload 4, 2) := by decide +kernel
theorem d_La_code_6 : decode b_La_code 6 = .ok (.iload 5, 2) := by decide +kernel
theorem d_La_code_8 : decode b_La_code 8 = .ok (.invokevirtual 7, 3) := by decide +kernel
theorem d_La_code_11 : decode b_La_code 11 = .ok (.goto 7, 3) := by decide +kernel
theorem d_La_code_14 : decode b_La_code 14 = .ok (.astore 6, 2) := by decide +kernel
theorem d_La_code_16 : decode b_La_code 16 = .ok (.iconst 1, 1) := by decide +kernel
theorem d_La_code_17 : decode b_La_code 17 = .ok (.ireturn, 1) := by decide +kernel
theorem d_La_code_18 : decode b_La_code 18 = .ok (.iconst 0, 1) := by decide +kernel
theorem d_La_code_19 : decode b_La_code 19 = .ok (.ireturn, 1) := by decide +kernel
theorem d_La_run_0 : decode b_La_run 0 = .ok (.aload_n 2, 1) := by decide +kernel
theorem d_La_run_1 : decode b_La_run 1 = .ok (.iconst 0, 1) := by decide +kernel
theorem d_La_run_2 : decode b_La_run 2 = .ok (.aload_n 0, 1) := by decide +kernel
theorem d_La_run_3 : decode b_La_run 3 = .ok (.iload_n 1, 1) := by decide +kernel
theorem d_La_run_4 : decode b_La_run 4 = .ok (.invokevirtual 15, 3) := by decide +kernel
theorem d_La_run_7 : decode b_La_run 7 = .ok (.i2l, 1) := by decide +kernel
theorem d_La_run_8 : decode b_La_run 8 = .ok (.lastore, 1) := by decide +kernel
theorem d_La_run_9 : decode b_La_run 9 = .ok (.goto 9, 3) := by decide +kernel
theorem d_La_run_12 : decode b_La_run 12 = .ok (.astore_n 3, 1) := by decide +kernel
theorem d_La_run_13 : decode b_La_run 13 = .ok (.iconst 1, 1) := by decide +kernel
theorem d_La_run_14 : decode b_La_run 14 = .ok (.ireturn, 1) := by decide +kernel
theorem d_La_run_15 : decode b_La_run 15 = .ok (.astore_n 3, 1) := by decide +kernel
theorem d_La_run_16 : decode b_La_run 16 = .ok (.iconst 2, 1) := by decide +kernel
theorem d_La_run_17 : decode b_La_run 17 = .ok (.ireturn, 1) := by decide +kernel
theorem d_La_run_18 : decode b_La_run 18 = .ok (.iconst 0, 1) := by decide +kernel
theorem d_La_run_19 : decode b_La_run 19 = .ok (.ireturn, 1) := by decide +kernel
theorem d_La_register_0 : decode b_La_register 0 = .ok (.aload_n 3, 1) := by decide +kernel
theorem d_La_register_1 : decode b_La_register 1 = .ok (.iconst 0, 1) := by decide +kernel
theorem d_La_register_2 : decode b_La_register 2 = .ok (.aload_n 0, 1) := by decide +kernel
theorem d_La_register_3 : decode b_La_register 3 = .ok (.iload_n 1, 1) := by decide +kernel
theorem d_La_register_4 : decode b_La_register 4 = .ok (.iload_n 2, 1) := by decide +kernel
theorem d_La_register_5 : decode b_La_register 5 = .ok (.invokevirtual 21, 3) := by decide +kernel
theorem d_La_register_8 : decode b_La_register 8 = .ok (.i2l, 1) := by decide +kernel
theorem d_La_register_9 : decode b_La_register 9 = .ok (.lastore, 1) := by decide +kernel
theorem d_La_register_10 : decode b_La_register 10 = .ok (.goto 11, 3) := by decide +kernel
theorem d_La_register_13 : decode b_La_register 13 = .ok (.astore 4, 2) := by decide +kernel
theorem d_La_register_15 : decode b_La_register 15 = .ok (.iconst 1, 1) := by decide +kernel
theorem d_La_register_16 : decode b_La_register 16 = .ok (.ireturn, 1) := by decide +kernel
theorem d_La_register_17 : decode b_La_register 17 = .ok (.astore 4, 2) := by decide +kernel
theorem d_La_register_19 : decode b_La_register 19 = .ok (.iconst 2, 1) := by decide +kernel
theorem d_La_register_20 : decode b_La_register 20 = .ok (.ireturn, 1) := by decide +kernel
theorem d_La_register_21 : decode b_La_register 21 = .ok (.iconst 0, 1) := by decide +kernel
theorem d_La_register_22 : decode b_La_register 22 = .ok (.ireturn, 1) := by decide +kernel
theorem d_La_told_0 : decode b_La_told 0 = .ok (.aload_n 3, 1) := by decide +kernel
theorem d_La_told_1 : decode b_La_told 1 = .ok (.iconst 0, 1) := by decide +kernel
theorem d_La_told_2 : decode b_La_told 2 = .ok (.aload_n 0, 1) := by decide +kernel
theorem d_La_told_3 : decode b_La_told 3 = .ok (.iload_n 1, 1) := by decide +kernel
theorem d_La_told_4 : decode b_La_told 4 = .ok (.iload_n 2, 1) := by decide +kernel
theorem d_La_told_5 : decode b_La_told 5 = .ok (.invokevirtual 27, 3) := by decide +kernel
theorem d_La_told_8 : decode b_La_told 8 = .ok (.i2l, 1) := by decide +kernel
theorem d_La_told_9 : decode b_La_told 9 = .ok (.lastore, 1) := by decide +kernel
theorem d_La_told_10 : decode b_La_told 10 = .ok (.goto 11, 3) := by decide +kernel
theorem d_La_told_13 : decode b_La_told 13 = .ok (.astore 4, 2) := by decide +kernel
theorem d_La_told_15 : decode b_La_told 15 = .ok (.iconst 1, 1) := by decide +kernel
theorem d_La_told_16 : decode b_La_told 16 = .ok (.ireturn, 1) := by decide +kernel
theorem d_La_told_17 : decode b_La_told 17 = .ok (.astore 4, 2) := by decide +kernel
theorem d_La_told_19 : decode b_La_told 19 = .ok (.iconst 2, 1) := by decide +kernel
theorem d_La_told_20 : decode b_La_told 20 = .ok (.ireturn, 1) := by decide +kernel
theorem d_La_told_21 : decode b_La_told 21 = .ok (.iconst 0, 1) := by decide +kernel
theorem d_La_told_22 : decode b_La_told 22 = .ok (.ireturn, 1) := by decide +kernel
theorem d_La_page_0 : decode b_La_page 0 = .ok (.aload_n 3, 1) := by decide +kernel
theorem d_La_page_1 : decode b_La_page 1 = .ok (.iconst 0, 1) := by decide +kernel
theorem d_La_page_2 : decode b_La_page 2 = .ok (.aload_n 0, 1) := by decide +kernel
theorem d_La_page_3 : decode b_La_page 3 = .ok (.iload_n 1, 1) := by decide +kernel
theorem d_La_page_4 : decode b_La_page 4 = .ok (.iload_n 2, 1) := by decide +kernel
theorem d_La_page_5 : decode b_La_page 5 = .ok (.invokevirtual 30, 3) := by decide +kernel
theorem d_La_page_8 : decode b_La_page 8 = .ok (.i2l, 1) := by decide +kernel
theorem d_La_page_9 : decode b_La_page 9 = .ok (.lastore, 1) := by decide +kernel
theorem d_La_page_10 : decode b_La_page 10 = .ok (.goto 11, 3) := by decide +kernel
theorem d_La_page_13 : decode b_La_page 13 = .ok (.astore 4, 2) := by decide +kernel
theorem d_La_page_15 : decode b_La_page 15 = .ok (.iconst 1, 1) := by decide +kernel
theorem d_La_page_16 : decode b_La_page 16 = .ok (.ireturn, 1) := by decide +kernel
theorem d_La_page_17 : decode b_La_page 17 = .ok (.astore 4, 2) := by decide +kernel
theorem d_La_page_19 : decode b_La_page 19 = .ok (.iconst 2, 1) := by decide +kernel
theorem d_La_page_20 : decode b_La_page 20 = .ok (.ireturn, 1) := by decide +kernel
theorem d_La_page_21 : decode b_La_page 21 = .ok (.iconst 0, 1) := by decide +kernel
theorem d_La_page_22 : decode b_La_page 22 = .ok (.ireturn, 1) := by decide +kernel
theorem d_La_memory_0 : decode b_La_memory 0 = .ok (.aload_n 3, 1) := by decide +kernel
theorem d_La_memory_1 : decode b_La_memory 1 = .ok (.iconst 0, 1) := by decide +kernel
theorem d_La_memory_2 : decode b_La_memory 2 = .ok (.aload_n 0, 1) := by decide +kernel
theorem d_La_memory_3 : decode b_La_memory 3 = .ok (.iload_n 1, 1) := by decide +kernel
theorem d_La_memory_4 : decode b_La_memory 4 = .ok (.iload_n 2, 1) := by decide +kernel
theorem d_La_memory_5 : decode b_La_memory 5 = .ok (.invokevirtual 33, 3) := by decide +kernel
theorem d_La_memory_8 : decode b_La_memory 8 = .ok (.i2l, 1) := by decide +kernel
theorem d_La_memory_9 : decode b_La_memory 9 = .ok (.lastore, 1) := by decide +kernel
theorem d_La_memory_10 : decode b_La_memory 10 = .ok (.goto 7, 3) := by decide +kernel
theorem d_La_memory_13 : decode b_La_memory 13 = .ok (.astore 4, 2) := by decide +kernel
theorem d_La_memory_15 : decode b_La_memory 15 = .ok (.iconst 1, 1) := by decide +kernel
theorem d_La_memory_16 : decode b_La_memory 16 = .ok (.ireturn, 1) := by decide +kernel
theorem d_La_memory_17 : decode b_La_memory 17 = .ok (.iconst 0, 1) := by decide +kernel
theorem d_La_memory_18 : decode b_La_memory 18 = .ok (.ireturn, 1) := by decide +kernel
theorem d_La_object_0 : decode b_La_object 0 = .ok (.aload_n 3, 1) := by decide +kernel
theorem d_La_object_1 : decode b_La_object 1 = .ok (.iconst 0, 1) := by decide +kernel
theorem d_La_object_2 : decode b_La_object 2 = .ok (.aload_n 0, 1) := by decide +kernel
theorem d_La_object_3 : decode b_La_object 3 = .ok (.iload_n 1, 1) := by decide +kernel
theorem d_La_object_4 : decode b_La_object 4 = .ok (.iload_n 2, 1) := by decide +kernel
theorem d_La_object_5 : decode b_La_object 5 = .ok (.invokevirtual 36, 3) := by decide +kernel
theorem d_La_object_8 : decode b_La_object 8 = .ok (.i2l, 1) := by decide +kernel
theorem d_La_object_9 : decode b_La_object 9 = .ok (.lastore, 1) := by decide +kernel
theorem d_La_object_10 : decode b_La_object 10 = .ok (.goto 7, 3) := by decide +kernel
theorem d_La_object_13 : decode b_La_object 13 = .ok (.astore 4, 2) := by decide +kernel
theorem d_La_object_15 : decode b_La_object 15 = .ok (.iconst 1, 1) := by decide +kernel
theorem d_La_object_16 : decode b_La_object 16 = .ok (.ireturn, 1) := by decide +kernel
theorem d_La_object_17 : decode b_La_object 17 = .ok (.iconst 0, 1) := by decide +kernel
theorem d_La_object_18 : decode b_La_object 18 = .ok (.ireturn, 1) := by decide +kernel
theorem d_La_written_0 : decode b_La_written 0 = .ok (.aload_n 3, 1) := by decide +kernel
theorem d_La_written_1 : decode b_La_written 1 = .ok (.iconst 0, 1) := by decide +kernel
theorem d_La_written_2 : decode b_La_written 2 = .ok (.aload_n 0, 1) := by decide +kernel
theorem d_La_written_3 : decode b_La_written 3 = .ok (.iload_n 1, 1) := by decide +kernel
theorem d_La_written_4 : decode b_La_written 4 = .ok (.iload_n 2, 1) := by decide +kernel
theorem d_La_written_5 : decode b_La_written 5 = .ok (.invokevirtual 39, 3) := by decide +kernel
theorem d_La_written_8 : decode b_La_written 8 = .ok (.i2l, 1) := by decide +kernel
theorem d_La_written_9 : decode b_La_written 9 = .ok (.lastore, 1) := by decide +kernel
theorem d_La_written_10 : decode b_La_written 10 = .ok (.goto 7, 3) := by decide +kernel
theorem d_La_written_13 : decode b_La_written 13 = .ok (.astore 4, 2) := by decide +kernel
theorem d_La_written_15 : decode b_La_written 15 = .ok (.iconst 1, 1) := by decide +kernel
theorem d_La_written_16 : decode b_La_written 16 = .ok (.ireturn, 1) := by decide +kernel
theorem d_La_written_17 : decode b_La_written 17 = .ok (.iconst 0, 1) := by decide +kernel
theorem d_La_written_18 : decode b_La_written 18 = .ok (.ireturn, 1) := by decide +kernel
theorem d_La_law_0 : decode code 0 = .ok (.new 8, 3) := by decide +kernel
theorem d_La_law_3 : decode code 3 = .ok (.dup, 1) := by decide +kernel
theorem d_La_law_4 : decode code 4 = .ok (.invokespecial 42, 3) := by decide +kernel
theorem d_La_law_7 : decode code 7 = .ok (.astore_n 1, 1) := by decide +kernel
theorem d_La_law_8 : decode code 8 = .ok (.new 43, 3) := by decide +kernel
theorem d_La_law_11 : decode code 11 = .ok (.dup, 1) := by decide +kernel
theorem d_La_law_12 : decode code 12 = .ok (.invokespecial 45, 3) := by decide +kernel
theorem d_La_law_15 : decode code 15 = .ok (.astore_n 2, 1) := by decide +kernel
theorem d_La_law_16 : decode code 16 = .ok (.iconst 1, 1) := by decide +kernel
theorem d_La_law_17 : decode code 17 = .ok (.newarray .long, 2) := by decide +kernel
theorem d_La_law_19 : decode code 19 = .ok (.astore_n 3, 1) := by decide +kernel
theorem d_La_law_20 : decode code 20 = .ok (.iconst 0, 1) := by decide +kernel
theorem d_La_law_21 : decode code 21 = .ok (.istore 4, 2) := by decide +kernel
theorem d_La_law_23 : decode code 23 = .ok (.iload 4, 2) := by decide +kernel
theorem d_La_law_25 : decode code 25 = .ok (.aload_n 0, 1) := by decide +kernel
theorem d_La_law_26 : decode code 26 = .ok (.arraylength, 1) := by decide +kernel
theorem d_La_law_27 : decode code 27 = .ok (.bipush 6, 2) := by decide +kernel
theorem d_La_law_29 : decode code 29 = .ok (.isub, 1) := by decide +kernel
theorem d_La_law_30 : decode code 30 = .ok (.if_icmp .gt 641, 3) := by decide +kernel
theorem d_La_law_33 : decode code 33 = .ok (.aload_n 0, 1) := by decide +kernel
theorem d_La_law_34 : decode code 34 = .ok (.iload 4, 2) := by decide +kernel
theorem d_La_law_36 : decode code 36 = .ok (.iaload, 1) := by decide +kernel
theorem d_La_law_37 : decode code 37 = .ok (.bipush 15, 2) := by decide +kernel
theorem d_La_law_39 : decode code 39 = .ok (.iand, 1) := by decide +kernel
theorem d_La_law_40 : decode code 40 = .ok (.tableswitch 625 0 8 #[52, 136, 192, 260, 328, 396, 464, 532, 600], 52) := by decide +kernel
theorem d_La_law_92 : decode code 92 = .ok (.aload_n 1, 1) := by decide +kernel
theorem d_La_law_93 : decode code 93 = .ok (.aload_n 0, 1) := by decide +kernel
theorem d_La_law_94 : decode code 94 = .ok (.iload 4, 2) := by decide +kernel
theorem d_La_law_96 : decode code 96 = .ok (.iconst 1, 1) := by decide +kernel
theorem d_La_law_97 : decode code 97 = .ok (.iadd, 1) := by decide +kernel
theorem d_La_law_98 : decode code 98 = .ok (.iaload, 1) := by decide +kernel
theorem d_La_law_99 : decode code 99 = .ok (.aload_n 0, 1) := by decide +kernel
theorem d_La_law_100 : decode code 100 = .ok (.iload 4, 2) := by decide +kernel
theorem d_La_law_102 : decode code 102 = .ok (.iconst 2, 1) := by decide +kernel
theorem d_La_law_103 : decode code 103 = .ok (.iadd, 1) := by decide +kernel
theorem d_La_law_104 : decode code 104 = .ok (.iaload, 1) := by decide +kernel
theorem d_La_law_105 : decode code 105 = .ok (.aload_n 0, 1) := by decide +kernel
theorem d_La_law_106 : decode code 106 = .ok (.iload 4, 2) := by decide +kernel
theorem d_La_law_108 : decode code 108 = .ok (.iconst 3, 1) := by decide +kernel
theorem d_La_law_109 : decode code 109 = .ok (.iadd, 1) := by decide +kernel
theorem d_La_law_110 : decode code 110 = .ok (.iaload, 1) := by decide +kernel
theorem d_La_law_111 : decode code 111 = .ok (.aload_n 0, 1) := by decide +kernel
theorem d_La_law_112 : decode code 112 = .ok (.iload 4, 2) := by decide +kernel
theorem d_La_law_114 : decode code 114 = .ok (.iconst 4, 1) := by decide +kernel
theorem d_La_law_115 : decode code 115 = .ok (.iadd, 1) := by decide +kernel
theorem d_La_law_116 : decode code 116 = .ok (.iaload, 1) := by decide +kernel
theorem d_La_law_117 : decode code 117 = .ok (.aload_n 0, 1) := by decide +kernel
theorem d_La_law_118 : decode code 118 = .ok (.iload 4, 2) := by decide +kernel
theorem d_La_law_120 : decode code 120 = .ok (.iconst 5, 1) := by decide +kernel
theorem d_La_law_121 : decode code 121 = .ok (.iadd, 1) := by decide +kernel
theorem d_La_law_122 : decode code 122 = .ok (.iaload, 1) := by decide +kernel
theorem d_La_law_123 : decode code 123 = .ok (.invokestatic 46, 3) := by decide +kernel
theorem d_La_law_126 : decode code 126 = .ok (.istore 5, 2) := by decide +kernel
theorem d_La_law_128 : decode code 128 = .ok (.aload_n 2, 1) := by decide +kernel
theorem d_La_law_129 : decode code 129 = .ok (.aload_n 0, 1) := by decide +kernel
theorem d_La_law_130 : decode code 130 = .ok (.iload 4, 2) := by decide +kernel
theorem d_La_law_132 : decode code 132 = .ok (.iconst 1, 1) := by decide +kernel
theorem d_La_law_133 : decode code 133 = .ok (.iadd, 1) := by decide +kernel
theorem d_La_law_134 : decode code 134 = .ok (.iaload, 1) := by decide +kernel
theorem d_La_law_135 : decode code 135 = .ok (.aload_n 0, 1) := by decide +kernel
theorem d_La_law_136 : decode code 136 = .ok (.iload 4, 2) := by decide +kernel
theorem d_La_law_138 : decode code 138 = .ok (.iconst 2, 1) := by decide +kernel
theorem d_La_law_139 : decode code 139 = .ok (.iadd, 1) := by decide +kernel
theorem d_La_law_140 : decode code 140 = .ok (.iaload, 1) := by decide +kernel
theorem d_La_law_141 : decode code 141 = .ok (.aload_n 0, 1) := by decide +kernel
theorem d_La_law_142 : decode code 142 = .ok (.iload 4, 2) := by decide +kernel
theorem d_La_law_144 : decode code 144 = .ok (.iconst 3, 1) := by decide +kernel
theorem d_La_law_145 : decode code 145 = .ok (.iadd, 1) := by decide +kernel
theorem d_La_law_146 : decode code 146 = .ok (.iaload, 1) := by decide +kernel
theorem d_La_law_147 : decode code 147 = .ok (.aload_n 0, 1) := by decide +kernel
theorem d_La_law_148 : decode code 148 = .ok (.iload 4, 2) := by decide +kernel
theorem d_La_law_150 : decode code 150 = .ok (.iconst 4, 1) := by decide +kernel
theorem d_La_law_151 : decode code 151 = .ok (.iadd, 1) := by decide +kernel
theorem d_La_law_152 : decode code 152 = .ok (.iaload, 1) := by decide +kernel
theorem d_La_law_153 : decode code 153 = .ok (.aload_n 0, 1) := by decide +kernel
theorem d_La_law_154 : decode code 154 = .ok (.iload 4, 2) := by decide +kernel
theorem d_La_law_156 : decode code 156 = .ok (.iconst 5, 1) := by decide +kernel
theorem d_La_law_157 : decode code 157 = .ok (.iadd, 1) := by decide +kernel
theorem d_La_law_158 : decode code 158 = .ok (.iaload, 1) := by decide +kernel
theorem d_La_law_159 : decode code 159 = .ok (.invokevirtual 51, 3) := by decide +kernel
theorem d_La_law_162 : decode code 162 = .ok (.aload_n 2, 1) := by decide +kernel
theorem d_La_law_163 : decode code 163 = .ok (.invokevirtual 52, 3) := by decide +kernel
theorem d_La_law_166 : decode code 166 = .ok (.iload 5, 2) := by decide +kernel
theorem d_La_law_168 : decode code 168 = .ok (.if_icmp .eq 5, 3) := by decide +kernel
theorem d_La_law_171 : decode code 171 = .ok (.iconst 0, 1) := by decide +kernel
theorem d_La_law_172 : decode code 172 = .ok (.ireturn, 1) := by decide +kernel
theorem d_La_law_173 : decode code 173 = .ok (.goto 492, 3) := by decide +kernel
theorem d_La_law_176 : decode code 176 = .ok (.aload_n 1, 1) := by decide +kernel
theorem d_La_law_177 : decode code 177 = .ok (.aload_n 0, 1) := by decide +kernel
theorem d_La_law_178 : decode code 178 = .ok (.iload 4, 2) := by decide +kernel
theorem d_La_law_180 : decode code 180 = .ok (.iconst 1, 1) := by decide +kernel
theorem d_La_law_181 : decode code 181 = .ok (.iadd, 1) := by decide +kernel
theorem d_La_law_182 : decode code 182 = .ok (.iaload, 1) := by decide +kernel
theorem d_La_law_183 : decode code 183 = .ok (.aload_n 3, 1) := by decide +kernel
theorem d_La_law_184 : decode code 184 = .ok (.invokestatic 56, 3) := by decide +kernel
theorem d_La_law_187 : decode code 187 = .ok (.istore 5, 2) := by decide +kernel
theorem d_La_law_189 : decode code 189 = .ok (.aload_n 2, 1) := by decide +kernel
theorem d_La_law_190 : decode code 190 = .ok (.aload_n 0, 1) := by decide +kernel
theorem d_La_law_191 : decode code 191 = .ok (.iload 4, 2) := by decide +kernel
theorem d_La_law_193 : decode code 193 = .ok (.iconst 1, 1) := by decide +kernel
theorem d_La_law_194 : decode code 194 = .ok (.iadd, 1) := by decide +kernel
theorem d_La_law_195 : decode code 195 = .ok (.iaload, 1) := by decide +kernel
theorem d_La_law_196 : decode code 196 = .ok (.invokevirtual 59, 3) := by decide +kernel
theorem d_La_law_199 : decode code 199 = .ok (.istore 6, 2) := by decide +kernel
theorem d_La_law_201 : decode code 201 = .ok (.aload_n 2, 1) := by decide +kernel
theorem d_La_law_202 : decode code 202 = .ok (.invokevirtual 52, 3) := by decide +kernel
theorem d_La_law_205 : decode code 205 = .ok (.iload 5, 2) := by decide +kernel
theorem d_La_law_207 : decode code 207 = .ok (.if_icmp .eq 5, 3) := by decide +kernel
theorem d_La_law_210 : decode code 210 = .ok (.iconst 0, 1) := by decide +kernel
theorem d_La_law_211 : decode code 211 = .ok (.ireturn, 1) := by decide +kernel
theorem d_La_law_212 : decode code 212 = .ok (.iload 5, 2) := by decide +kernel
theorem d_La_law_214 : decode code 214 = .ok (.ifCond .ne 15, 3) := by decide +kernel
theorem d_La_law_217 : decode code 217 = .ok (.aload_n 3, 1) := by decide +kernel
theorem d_La_law_218 : decode code 218 = .ok (.iconst 0, 1) := by decide +kernel
theorem d_La_law_219 : decode code 219 = .ok (.laload, 1) := by decide +kernel
theorem d_La_law_220 : decode code 220 = .ok (.iload 6, 2) := by decide +kernel
theorem d_La_law_222 : decode code 222 = .ok (.i2l, 1) := by decide +kernel
theorem d_La_law_223 : decode code 223 = .ok (.lcmp, 1) := by decide +kernel
theorem d_La_law_224 : decode code 224 = .ok (.ifCond .eq 5, 3) := by decide +kernel
theorem d_La_law_227 : decode code 227 = .ok (.iconst 0, 1) := by decide +kernel
theorem d_La_law_228 : decode code 228 = .ok (.ireturn, 1) := by decide +kernel
theorem d_La_law_229 : decode code 229 = .ok (.goto 436, 3) := by decide +kernel
theorem d_La_law_232 : decode code 232 = .ok (.aload_n 1, 1) := by decide +kernel
theorem d_La_law_233 : decode code 233 = .ok (.aload_n 0, 1) := by decide +kernel
theorem d_La_law_234 : decode code 234 = .ok (.iload 4, 2) := by decide +kernel
theorem d_La_law_236 : decode code 236 = .ok (.iconst 1, 1) := by decide +kernel
theorem d_La_law_237 : decode code 237 = .ok (.iadd, 1) := by decide +kernel
theorem d_La_law_238 : decode code 238 = .ok (.iaload, 1) := by decide +kernel
theorem d_La_law_239 : decode code 239 = .ok (.aload_n 0, 1) := by decide +kernel
theorem d_La_law_240 : decode code 240 = .ok (.iload 4, 2) := by decide +kernel
theorem d_La_law_242 : decode code 242 = .ok (.iconst 2, 1) := by decide +kernel
theorem d_La_law_243 : decode code 243 = .ok (.iadd, 1) := by decide +kernel
theorem d_La_law_244 : decode code 244 = .ok (.iaload, 1) := by decide +kernel
theorem d_La_law_245 : decode code 245 = .ok (.aload_n 3, 1) := by decide +kernel
theorem d_La_law_246 : decode code 246 = .ok (.invokestatic 60, 3) := by decide +kernel
theorem d_La_law_249 : decode code 249 = .ok (.istore 5, 2) := by decide +kernel
theorem d_La_law_251 : decode code 251 = .ok (.aload_n 2, 1) := by decide +kernel
theorem d_La_law_252 : decode code 252 = .ok (.aload_n 0, 1) := by decide +kernel
theorem d_La_law_253 : decode code 253 = .ok (.iload 4, 2) := by decide +kernel
theorem d_La_law_255 : decode code 255 = .ok (.iconst 1, 1) := by decide +kernel
theorem d_La_law_256 : decode code 256 = .ok (.iadd, 1) := by decide +kernel
theorem d_La_law_257 : decode code 257 = .ok (.iaload, 1) := by decide +kernel
theorem d_La_law_258 : decode code 258 = .ok (.aload_n 0, 1) := by decide +kernel
theorem d_La_law_259 : decode code 259 = .ok (.iload 4, 2) := by decide +kernel
theorem d_La_law_261 : decode code 261 = .ok (.iconst 2, 1) := by decide +kernel
theorem d_La_law_262 : decode code 262 = .ok (.iadd, 1) := by decide +kernel
theorem d_La_law_263 : decode code 263 = .ok (.iaload, 1) := by decide +kernel
theorem d_La_law_264 : decode code 264 = .ok (.invokevirtual 63, 3) := by decide +kernel
theorem d_La_law_267 : decode code 267 = .ok (.istore 6, 2) := by decide +kernel
theorem d_La_law_269 : decode code 269 = .ok (.aload_n 2, 1) := by decide +kernel
theorem d_La_law_270 : decode code 270 = .ok (.invokevirtual 52, 3) := by decide +kernel
theorem d_La_law_273 : decode code 273 = .ok (.iload 5, 2) := by decide +kernel
theorem d_La_law_275 : decode code 275 = .ok (.if_icmp .eq 5, 3) := by decide +kernel
theorem d_La_law_278 : decode code 278 = .ok (.iconst 0, 1) := by decide +kernel
theorem d_La_law_279 : decode code 279 = .ok (.ireturn, 1) := by decide +kernel
theorem d_La_law_280 : decode code 280 = .ok (.iload 5, 2) := by decide +kernel
theorem d_La_law_282 : decode code 282 = .ok (.ifCond .ne 15, 3) := by decide +kernel
theorem d_La_law_285 : decode code 285 = .ok (.aload_n 3, 1) := by decide +kernel
theorem d_La_law_286 : decode code 286 = .ok (.iconst 0, 1) := by decide +kernel
theorem d_La_law_287 : decode code 287 = .ok (.laload, 1) := by decide +kernel
theorem d_La_law_288 : decode code 288 = .ok (.iload 6, 2) := by decide +kernel
theorem d_La_law_290 : decode code 290 = .ok (.i2l, 1) := by decide +kernel
theorem d_La_law_291 : decode code 291 = .ok (.lcmp, 1) := by decide +kernel
theorem d_La_law_292 : decode code 292 = .ok (.ifCond .eq 5, 3) := by decide +kernel
theorem d_La_law_295 : decode code 295 = .ok (.iconst 0, 1) := by decide +kernel
theorem d_La_law_296 : decode code 296 = .ok (.ireturn, 1) := by decide +kernel
theorem d_La_law_297 : decode code 297 = .ok (.goto 368, 3) := by decide +kernel
theorem d_La_law_300 : decode code 300 = .ok (.aload_n 1, 1) := by decide +kernel
theorem d_La_law_301 : decode code 301 = .ok (.aload_n 0, 1) := by decide +kernel
theorem d_La_law_302 : decode code 302 = .ok (.iload 4, 2) := by decide +kernel
theorem d_La_law_304 : decode code 304 = .ok (.iconst 1, 1) := by decide +kernel
theorem d_La_law_305 : decode code 305 = .ok (.iadd, 1) := by decide +kernel
theorem d_La_law_306 : decode code 306 = .ok (.iaload, 1) := by decide +kernel
theorem d_La_law_307 : decode code 307 = .ok (.aload_n 0, 1) := by decide +kernel
theorem d_La_law_308 : decode code 308 = .ok (.iload 4, 2) := by decide +kernel
theorem d_La_law_310 : decode code 310 = .ok (.iconst 2, 1) := by decide +kernel
theorem d_La_law_311 : decode code 311 = .ok (.iadd, 1) := by decide +kernel
theorem d_La_law_312 : decode code 312 = .ok (.iaload, 1) := by decide +kernel
theorem d_La_law_313 : decode code 313 = .ok (.aload_n 3, 1) := by decide +kernel
theorem d_La_law_314 : decode code 314 = .ok (.invokestatic 64, 3) := by decide +kernel
theorem d_La_law_317 : decode code 317 = .ok (.istore 5, 2) := by decide +kernel
theorem d_La_law_319 : decode code 319 = .ok (.aload_n 2, 1) := by decide +kernel
theorem d_La_law_320 : decode code 320 = .ok (.aload_n 0, 1) := by decide +kernel
theorem d_La_law_321 : decode code 321 = .ok (.iload 4, 2) := by decide +kernel
theorem d_La_law_323 : decode code 323 = .ok (.iconst 1, 1) := by decide +kernel
theorem d_La_law_324 : decode code 324 = .ok (.iadd, 1) := by decide +kernel
theorem d_La_law_325 : decode code 325 = .ok (.iaload, 1) := by decide +kernel
theorem d_La_law_326 : decode code 326 = .ok (.aload_n 0, 1) := by decide +kernel
theorem d_La_law_327 : decode code 327 = .ok (.iload 4, 2) := by decide +kernel
theorem d_La_law_329 : decode code 329 = .ok (.iconst 2, 1) := by decide +kernel
theorem d_La_law_330 : decode code 330 = .ok (.iadd, 1) := by decide +kernel
theorem d_La_law_331 : decode code 331 = .ok (.iaload, 1) := by decide +kernel
theorem d_La_law_332 : decode code 332 = .ok (.invokevirtual 66, 3) := by decide +kernel
theorem d_La_law_335 : decode code 335 = .ok (.istore 6, 2) := by decide +kernel
theorem d_La_law_337 : decode code 337 = .ok (.aload_n 2, 1) := by decide +kernel
theorem d_La_law_338 : decode code 338 = .ok (.invokevirtual 52, 3) := by decide +kernel
theorem d_La_law_341 : decode code 341 = .ok (.iload 5, 2) := by decide +kernel
theorem d_La_law_343 : decode code 343 = .ok (.if_icmp .eq 5, 3) := by decide +kernel
theorem d_La_law_346 : decode code 346 = .ok (.iconst 0, 1) := by decide +kernel
theorem d_La_law_347 : decode code 347 = .ok (.ireturn, 1) := by decide +kernel
theorem d_La_law_348 : decode code 348 = .ok (.iload 5, 2) := by decide +kernel
theorem d_La_law_350 : decode code 350 = .ok (.ifCond .ne 15, 3) := by decide +kernel
theorem d_La_law_353 : decode code 353 = .ok (.aload_n 3, 1) := by decide +kernel
theorem d_La_law_354 : decode code 354 = .ok (.iconst 0, 1) := by decide +kernel
theorem d_La_law_355 : decode code 355 = .ok (.laload, 1) := by decide +kernel
theorem d_La_law_356 : decode code 356 = .ok (.iload 6, 2) := by decide +kernel
theorem d_La_law_358 : decode code 358 = .ok (.i2l, 1) := by decide +kernel
theorem d_La_law_359 : decode code 359 = .ok (.lcmp, 1) := by decide +kernel
theorem d_La_law_360 : decode code 360 = .ok (.ifCond .eq 5, 3) := by decide +kernel
theorem d_La_law_363 : decode code 363 = .ok (.iconst 0, 1) := by decide +kernel
theorem d_La_law_364 : decode code 364 = .ok (.ireturn, 1) := by decide +kernel
theorem d_La_law_365 : decode code 365 = .ok (.goto 300, 3) := by decide +kernel
theorem d_La_law_368 : decode code 368 = .ok (.aload_n 1, 1) := by decide +kernel
theorem d_La_law_369 : decode code 369 = .ok (.aload_n 0, 1) := by decide +kernel
theorem d_La_law_370 : decode code 370 = .ok (.iload 4, 2) := by decide +kernel
theorem d_La_law_372 : decode code 372 = .ok (.iconst 1, 1) := by decide +kernel
theorem d_La_law_373 : decode code 373 = .ok (.iadd, 1) := by decide +kernel
theorem d_La_law_374 : decode code 374 = .ok (.iaload, 1) := by decide +kernel
theorem d_La_law_375 : decode code 375 = .ok (.aload_n 0, 1) := by decide +kernel
theorem d_La_law_376 : decode code 376 = .ok (.iload 4, 2) := by decide +kernel
theorem d_La_law_378 : decode code 378 = .ok (.iconst 2, 1) := by decide +kernel
theorem d_La_law_379 : decode code 379 = .ok (.iadd, 1) := by decide +kernel
theorem d_La_law_380 : decode code 380 = .ok (.iaload, 1) := by decide +kernel
theorem d_La_law_381 : decode code 381 = .ok (.aload_n 3, 1) := by decide +kernel
theorem d_La_law_382 : decode code 382 = .ok (.invokestatic 67, 3) := by decide +kernel
theorem d_La_law_385 : decode code 385 = .ok (.istore 5, 2) := by decide +kernel
theorem d_La_law_387 : decode code 387 = .ok (.aload_n 2, 1) := by decide +kernel
theorem d_La_law_388 : decode code 388 = .ok (.aload_n 0, 1) := by decide +kernel
theorem d_La_law_389 : decode code 389 = .ok (.iload 4, 2) := by decide +kernel
theorem d_La_law_391 : decode code 391 = .ok (.iconst 1, 1) := by decide +kernel
theorem d_La_law_392 : decode code 392 = .ok (.iadd, 1) := by decide +kernel
theorem d_La_law_393 : decode code 393 = .ok (.iaload, 1) := by decide +kernel
theorem d_La_law_394 : decode code 394 = .ok (.aload_n 0, 1) := by decide +kernel
theorem d_La_law_395 : decode code 395 = .ok (.iload 4, 2) := by decide +kernel
theorem d_La_law_397 : decode code 397 = .ok (.iconst 2, 1) := by decide +kernel
theorem d_La_law_398 : decode code 398 = .ok (.iadd, 1) := by decide +kernel
theorem d_La_law_399 : decode code 399 = .ok (.iaload, 1) := by decide +kernel
theorem d_La_law_400 : decode code 400 = .ok (.invokevirtual 69, 3) := by decide +kernel
theorem d_La_law_403 : decode code 403 = .ok (.istore 6, 2) := by decide +kernel
theorem d_La_law_405 : decode code 405 = .ok (.aload_n 2, 1) := by decide +kernel
theorem d_La_law_406 : decode code 406 = .ok (.invokevirtual 52, 3) := by decide +kernel
theorem d_La_law_409 : decode code 409 = .ok (.iload 5, 2) := by decide +kernel
theorem d_La_law_411 : decode code 411 = .ok (.if_icmp .eq 5, 3) := by decide +kernel
theorem d_La_law_414 : decode code 414 = .ok (.iconst 0, 1) := by decide +kernel
theorem d_La_law_415 : decode code 415 = .ok (.ireturn, 1) := by decide +kernel
theorem d_La_law_416 : decode code 416 = .ok (.iload 5, 2) := by decide +kernel
theorem d_La_law_418 : decode code 418 = .ok (.ifCond .ne 15, 3) := by decide +kernel
theorem d_La_law_421 : decode code 421 = .ok (.aload_n 3, 1) := by decide +kernel
theorem d_La_law_422 : decode code 422 = .ok (.iconst 0, 1) := by decide +kernel
theorem d_La_law_423 : decode code 423 = .ok (.laload, 1) := by decide +kernel
theorem d_La_law_424 : decode code 424 = .ok (.iload 6, 2) := by decide +kernel
theorem d_La_law_426 : decode code 426 = .ok (.i2l, 1) := by decide +kernel
theorem d_La_law_427 : decode code 427 = .ok (.lcmp, 1) := by decide +kernel
theorem d_La_law_428 : decode code 428 = .ok (.ifCond .eq 5, 3) := by decide +kernel
theorem d_La_law_431 : decode code 431 = .ok (.iconst 0, 1) := by decide +kernel
theorem d_La_law_432 : decode code 432 = .ok (.ireturn, 1) := by decide +kernel
theorem d_La_law_433 : decode code 433 = .ok (.goto 232, 3) := by decide +kernel
theorem d_La_law_436 : decode code 436 = .ok (.aload_n 1, 1) := by decide +kernel
theorem d_La_law_437 : decode code 437 = .ok (.aload_n 0, 1) := by decide +kernel
theorem d_La_law_438 : decode code 438 = .ok (.iload 4, 2) := by decide +kernel
theorem d_La_law_440 : decode code 440 = .ok (.iconst 1, 1) := by decide +kernel
theorem d_La_law_441 : decode code 441 = .ok (.iadd, 1) := by decide +kernel
theorem d_La_law_442 : decode code 442 = .ok (.iaload, 1) := by decide +kernel
theorem d_La_law_443 : decode code 443 = .ok (.aload_n 0, 1) := by decide +kernel
theorem d_La_law_444 : decode code 444 = .ok (.iload 4, 2) := by decide +kernel
theorem d_La_law_446 : decode code 446 = .ok (.iconst 2, 1) := by decide +kernel
theorem d_La_law_447 : decode code 447 = .ok (.iadd, 1) := by decide +kernel
theorem d_La_law_448 : decode code 448 = .ok (.iaload, 1) := by decide +kernel
theorem d_La_law_449 : decode code 449 = .ok (.aload_n 3, 1) := by decide +kernel
theorem d_La_law_450 : decode code 450 = .ok (.invokestatic 70, 3) := by decide +kernel
theorem d_La_law_453 : decode code 453 = .ok (.istore 5, 2) := by decide +kernel
theorem d_La_law_455 : decode code 455 = .ok (.aload_n 2, 1) := by decide +kernel
theorem d_La_law_456 : decode code 456 = .ok (.aload_n 0, 1) := by decide +kernel
theorem d_La_law_457 : decode code 457 = .ok (.iload 4, 2) := by decide +kernel
theorem d_La_law_459 : decode code 459 = .ok (.iconst 1, 1) := by decide +kernel
theorem d_La_law_460 : decode code 460 = .ok (.iadd, 1) := by decide +kernel
theorem d_La_law_461 : decode code 461 = .ok (.iaload, 1) := by decide +kernel
theorem d_La_law_462 : decode code 462 = .ok (.aload_n 0, 1) := by decide +kernel
theorem d_La_law_463 : decode code 463 = .ok (.iload 4, 2) := by decide +kernel
theorem d_La_law_465 : decode code 465 = .ok (.iconst 2, 1) := by decide +kernel
theorem d_La_law_466 : decode code 466 = .ok (.iadd, 1) := by decide +kernel
theorem d_La_law_467 : decode code 467 = .ok (.iaload, 1) := by decide +kernel
theorem d_La_law_468 : decode code 468 = .ok (.invokevirtual 72, 3) := by decide +kernel
theorem d_La_law_471 : decode code 471 = .ok (.istore 6, 2) := by decide +kernel
theorem d_La_law_473 : decode code 473 = .ok (.aload_n 2, 1) := by decide +kernel
theorem d_La_law_474 : decode code 474 = .ok (.invokevirtual 52, 3) := by decide +kernel
theorem d_La_law_477 : decode code 477 = .ok (.iload 5, 2) := by decide +kernel
theorem d_La_law_479 : decode code 479 = .ok (.if_icmp .eq 5, 3) := by decide +kernel
theorem d_La_law_482 : decode code 482 = .ok (.iconst 0, 1) := by decide +kernel
theorem d_La_law_483 : decode code 483 = .ok (.ireturn, 1) := by decide +kernel
theorem d_La_law_484 : decode code 484 = .ok (.iload 5, 2) := by decide +kernel
theorem d_La_law_486 : decode code 486 = .ok (.ifCond .ne 15, 3) := by decide +kernel
theorem d_La_law_489 : decode code 489 = .ok (.aload_n 3, 1) := by decide +kernel
theorem d_La_law_490 : decode code 490 = .ok (.iconst 0, 1) := by decide +kernel
theorem d_La_law_491 : decode code 491 = .ok (.laload, 1) := by decide +kernel
theorem d_La_law_492 : decode code 492 = .ok (.iload 6, 2) := by decide +kernel
theorem d_La_law_494 : decode code 494 = .ok (.i2l, 1) := by decide +kernel
theorem d_La_law_495 : decode code 495 = .ok (.lcmp, 1) := by decide +kernel
theorem d_La_law_496 : decode code 496 = .ok (.ifCond .eq 5, 3) := by decide +kernel
theorem d_La_law_499 : decode code 499 = .ok (.iconst 0, 1) := by decide +kernel
theorem d_La_law_500 : decode code 500 = .ok (.ireturn, 1) := by decide +kernel
theorem d_La_law_501 : decode code 501 = .ok (.goto 164, 3) := by decide +kernel
theorem d_La_law_504 : decode code 504 = .ok (.aload_n 1, 1) := by decide +kernel
theorem d_La_law_505 : decode code 505 = .ok (.aload_n 0, 1) := by decide +kernel
theorem d_La_law_506 : decode code 506 = .ok (.iload 4, 2) := by decide +kernel
theorem d_La_law_508 : decode code 508 = .ok (.iconst 1, 1) := by decide +kernel
theorem d_La_law_509 : decode code 509 = .ok (.iadd, 1) := by decide +kernel
theorem d_La_law_510 : decode code 510 = .ok (.iaload, 1) := by decide +kernel
theorem d_La_law_511 : decode code 511 = .ok (.aload_n 0, 1) := by decide +kernel
theorem d_La_law_512 : decode code 512 = .ok (.iload 4, 2) := by decide +kernel
theorem d_La_law_514 : decode code 514 = .ok (.iconst 2, 1) := by decide +kernel
theorem d_La_law_515 : decode code 515 = .ok (.iadd, 1) := by decide +kernel
theorem d_La_law_516 : decode code 516 = .ok (.iaload, 1) := by decide +kernel
theorem d_La_law_517 : decode code 517 = .ok (.aload_n 3, 1) := by decide +kernel
theorem d_La_law_518 : decode code 518 = .ok (.invokestatic 73, 3) := by decide +kernel
theorem d_La_law_521 : decode code 521 = .ok (.istore 5, 2) := by decide +kernel
theorem d_La_law_523 : decode code 523 = .ok (.aload_n 2, 1) := by decide +kernel
theorem d_La_law_524 : decode code 524 = .ok (.aload_n 0, 1) := by decide +kernel
theorem d_La_law_525 : decode code 525 = .ok (.iload 4, 2) := by decide +kernel
theorem d_La_law_527 : decode code 527 = .ok (.iconst 1, 1) := by decide +kernel
theorem d_La_law_528 : decode code 528 = .ok (.iadd, 1) := by decide +kernel
theorem d_La_law_529 : decode code 529 = .ok (.iaload, 1) := by decide +kernel
theorem d_La_law_530 : decode code 530 = .ok (.aload_n 0, 1) := by decide +kernel
theorem d_La_law_531 : decode code 531 = .ok (.iload 4, 2) := by decide +kernel
theorem d_La_law_533 : decode code 533 = .ok (.iconst 2, 1) := by decide +kernel
theorem d_La_law_534 : decode code 534 = .ok (.iadd, 1) := by decide +kernel
theorem d_La_law_535 : decode code 535 = .ok (.iaload, 1) := by decide +kernel
theorem d_La_law_536 : decode code 536 = .ok (.invokevirtual 75, 3) := by decide +kernel
theorem d_La_law_539 : decode code 539 = .ok (.istore 6, 2) := by decide +kernel
theorem d_La_law_541 : decode code 541 = .ok (.aload_n 2, 1) := by decide +kernel
theorem d_La_law_542 : decode code 542 = .ok (.invokevirtual 52, 3) := by decide +kernel
theorem d_La_law_545 : decode code 545 = .ok (.iload 5, 2) := by decide +kernel
theorem d_La_law_547 : decode code 547 = .ok (.if_icmp .eq 5, 3) := by decide +kernel
theorem d_La_law_550 : decode code 550 = .ok (.iconst 0, 1) := by decide +kernel
theorem d_La_law_551 : decode code 551 = .ok (.ireturn, 1) := by decide +kernel
theorem d_La_law_552 : decode code 552 = .ok (.iload 5, 2) := by decide +kernel
theorem d_La_law_554 : decode code 554 = .ok (.ifCond .ne 15, 3) := by decide +kernel
theorem d_La_law_557 : decode code 557 = .ok (.aload_n 3, 1) := by decide +kernel
theorem d_La_law_558 : decode code 558 = .ok (.iconst 0, 1) := by decide +kernel
theorem d_La_law_559 : decode code 559 = .ok (.laload, 1) := by decide +kernel
theorem d_La_law_560 : decode code 560 = .ok (.iload 6, 2) := by decide +kernel
theorem d_La_law_562 : decode code 562 = .ok (.i2l, 1) := by decide +kernel
theorem d_La_law_563 : decode code 563 = .ok (.lcmp, 1) := by decide +kernel
theorem d_La_law_564 : decode code 564 = .ok (.ifCond .eq 5, 3) := by decide +kernel
theorem d_La_law_567 : decode code 567 = .ok (.iconst 0, 1) := by decide +kernel
theorem d_La_law_568 : decode code 568 = .ok (.ireturn, 1) := by decide +kernel
theorem d_La_law_569 : decode code 569 = .ok (.goto 96, 3) := by decide +kernel
theorem d_La_law_572 : decode code 572 = .ok (.aload_n 1, 1) := by decide +kernel
theorem d_La_law_573 : decode code 573 = .ok (.aload_n 0, 1) := by decide +kernel
theorem d_La_law_574 : decode code 574 = .ok (.iload 4, 2) := by decide +kernel
theorem d_La_law_576 : decode code 576 = .ok (.iconst 1, 1) := by decide +kernel
theorem d_La_law_577 : decode code 577 = .ok (.iadd, 1) := by decide +kernel
theorem d_La_law_578 : decode code 578 = .ok (.iaload, 1) := by decide +kernel
theorem d_La_law_579 : decode code 579 = .ok (.aload_n 0, 1) := by decide +kernel
theorem d_La_law_580 : decode code 580 = .ok (.iload 4, 2) := by decide +kernel
theorem d_La_law_582 : decode code 582 = .ok (.iconst 2, 1) := by decide +kernel
theorem d_La_law_583 : decode code 583 = .ok (.iadd, 1) := by decide +kernel
theorem d_La_law_584 : decode code 584 = .ok (.iaload, 1) := by decide +kernel
theorem d_La_law_585 : decode code 585 = .ok (.aload_n 3, 1) := by decide +kernel
theorem d_La_law_586 : decode code 586 = .ok (.invokestatic 76, 3) := by decide +kernel
theorem d_La_law_589 : decode code 589 = .ok (.istore 5, 2) := by decide +kernel
theorem d_La_law_591 : decode code 591 = .ok (.aload_n 2, 1) := by decide +kernel
theorem d_La_law_592 : decode code 592 = .ok (.aload_n 0, 1) := by decide +kernel
theorem d_La_law_593 : decode code 593 = .ok (.iload 4, 2) := by decide +kernel
theorem d_La_law_595 : decode code 595 = .ok (.iconst 1, 1) := by decide +kernel
theorem d_La_law_596 : decode code 596 = .ok (.iadd, 1) := by decide +kernel
theorem d_La_law_597 : decode code 597 = .ok (.iaload, 1) := by decide +kernel
theorem d_La_law_598 : decode code 598 = .ok (.aload_n 0, 1) := by decide +kernel
theorem d_La_law_599 : decode code 599 = .ok (.iload 4, 2) := by decide +kernel
theorem d_La_law_601 : decode code 601 = .ok (.iconst 2, 1) := by decide +kernel
theorem d_La_law_602 : decode code 602 = .ok (.iadd, 1) := by decide +kernel
theorem d_La_law_603 : decode code 603 = .ok (.iaload, 1) := by decide +kernel
theorem d_La_law_604 : decode code 604 = .ok (.invokevirtual 78, 3) := by decide +kernel
theorem d_La_law_607 : decode code 607 = .ok (.istore 6, 2) := by decide +kernel
theorem d_La_law_609 : decode code 609 = .ok (.aload_n 2, 1) := by decide +kernel
theorem d_La_law_610 : decode code 610 = .ok (.invokevirtual 52, 3) := by decide +kernel
theorem d_La_law_613 : decode code 613 = .ok (.iload 5, 2) := by decide +kernel
theorem d_La_law_615 : decode code 615 = .ok (.if_icmp .eq 5, 3) := by decide +kernel
theorem d_La_law_618 : decode code 618 = .ok (.iconst 0, 1) := by decide +kernel
theorem d_La_law_619 : decode code 619 = .ok (.ireturn, 1) := by decide +kernel
theorem d_La_law_620 : decode code 620 = .ok (.iload 5, 2) := by decide +kernel
theorem d_La_law_622 : decode code 622 = .ok (.ifCond .ne 15, 3) := by decide +kernel
theorem d_La_law_625 : decode code 625 = .ok (.aload_n 3, 1) := by decide +kernel
theorem d_La_law_626 : decode code 626 = .ok (.iconst 0, 1) := by decide +kernel
theorem d_La_law_627 : decode code 627 = .ok (.laload, 1) := by decide +kernel
theorem d_La_law_628 : decode code 628 = .ok (.iload 6, 2) := by decide +kernel
theorem d_La_law_630 : decode code 630 = .ok (.i2l, 1) := by decide +kernel
theorem d_La_law_631 : decode code 631 = .ok (.lcmp, 1) := by decide +kernel
theorem d_La_law_632 : decode code 632 = .ok (.ifCond .eq 5, 3) := by decide +kernel
theorem d_La_law_635 : decode code 635 = .ok (.iconst 0, 1) := by decide +kernel
theorem d_La_law_636 : decode code 636 = .ok (.ireturn, 1) := by decide +kernel
theorem d_La_law_637 : decode code 637 = .ok (.goto 28, 3) := by decide +kernel
theorem d_La_law_640 : decode code 640 = .ok (.aload_n 1, 1) := by decide +kernel
theorem d_La_law_641 : decode code 641 = .ok (.aload_n 0, 1) := by decide +kernel
theorem d_La_law_642 : decode code 642 = .ok (.iload 4, 2) := by decide +kernel
theorem d_La_law_644 : decode code 644 = .ok (.iconst 1, 1) := by decide +kernel
theorem d_La_law_645 : decode code 645 = .ok (.iadd, 1) := by decide +kernel
theorem d_La_law_646 : decode code 646 = .ok (.iaload, 1) := by decide +kernel
theorem d_La_law_647 : decode code 647 = .ok (.invokevirtual 79, 3) := by decide +kernel
theorem d_La_law_650 : decode code 650 = .ok (.aload_n 2, 1) := by decide +kernel
theorem d_La_law_651 : decode code 651 = .ok (.aload_n 0, 1) := by decide +kernel
theorem d_La_law_652 : decode code 652 = .ok (.iload 4, 2) := by decide +kernel
theorem d_La_law_654 : decode code 654 = .ok (.iconst 1, 1) := by decide +kernel
theorem d_La_law_655 : decode code 655 = .ok (.iadd, 1) := by decide +kernel
theorem d_La_law_656 : decode code 656 = .ok (.iaload, 1) := by decide +kernel
theorem d_La_law_657 : decode code 657 = .ok (.invokevirtual 82, 3) := by decide +kernel
theorem d_La_law_660 : decode code 660 = .ok (.if_icmp .eq 5, 3) := by decide +kernel
theorem d_La_law_663 : decode code 663 = .ok (.iconst 0, 1) := by decide +kernel
theorem d_La_law_664 : decode code 664 = .ok (.ireturn, 1) := by decide +kernel
theorem d_La_law_665 : decode code 665 = .ok (.iinc 4 6, 3) := by decide +kernel
theorem d_La_law_668 : decode code 668 = .ok (.goto (-645), 3) := by decide +kernel
theorem d_La_law_671 : decode code 671 = .ok (.iconst 1, 1) := by decide +kernel
theorem d_La_law_672 : decode code 672 = .ok (.ireturn, 1) := by decide +kernel
end
section
/-! ===== THE GENERIC LAYER (1): a world of cells by families; memory: K family index slot ===== -/
abbrev kM : Type := Nat → Nat → Nat → Int32
def k_up (K : kM) (f i j : Nat) (x : Int32) : kM := fun a b c => if a = f ∧ c = j ∧ b = i then x else K a b c
abbrev kR : Type := Nat → Nat → Option (Nat × Nat)
abbrev kF : Type := (Nat × Nat × kR) ⊕ ((Nat × Nat) ⊕ (Nat × Nat × kR))
abbrev kL : Type := List (Nat × kF)
abbrev kS : Type := List vw_C × List FieldType × kL
abbrev kG : Type := va_G × (Nat → ClassId) × (Nat → Nat → Nat)
def k_v (φ : Nat → Nat → Nat) (r : Option (Nat × Nat)) (x : Int32) : Value := match r with
  | some q => .ref (φ q.1 q.2)
  | none => .int x
def k_ent (G : kG) (K : kM) (f i : Nat) (k : kF) : va_E := match k with
  | .inl q => .inr (q.1, (List.range q.2.1).map (fun j => k_v G.2.2 (q.2.2 i j) (K f i j)))
  | .inr (.inl q) => .inl (G.2.1 q.1, q.2, .inl (K f i))
  | .inr (.inr q) => .inl (G.2.1 q.1, q.2.1, .inr (.inr (.inr (.inr (fun j => (q.2.2 i j).map (fun r => G.2.2 r.1 r.2))))))
def k_H (S : kS) (G : kG) (K : kM) (H : Heap) : Prop := ∀ (f c : Nat) (k : kF) (i : Nat), S.2.2[f]? = some (c, k) → i < c → va_at G.1 S.1 (G.2.2 f i, k_ent G K f i k) H
def k_I (S : kS) (G : kG) : Prop := ∀ (f c : Nat) (k : kF) (i f' c' : Nat) (k' : kF) (i' : Nat), S.2.2[f]? = some (c, k) → i < c → S.2.2[f']? = some (c', k') → i' < c' → G.2.2 f i = G.2.2 f' i' → f = f' ∧ i = i'
def k_ty (S : kS) (G : kG) : List (ClassId × FieldType) := S.2.1.zipIdx.map (fun q => (G.2.1 q.2, q.1))
def k_T (S : kS) (G : kG) (U : State) : Prop := va_K G.1 S.1 (k_ty S G) U
def k_A (S : kS) (G : kG) (sz : Nat) : Nat → Prop := fun q => (∃ (f c : Nat) (k : kF) (i : Nat), S.2.2[f]? = some (c, k) ∧ i < c ∧ q = G.2.2 f i) ∨ sz ≤ q
theorem k_tyat {S : kS} {G : kG} {t : Nat} {ty : FieldType} (h : S.2.1[t]? = some ty) : (k_ty S G)[t]? = some (G.2.1 t, ty) := by
  simp [k_ty, List.getElem?_map, List.getElem?_zipIdx, h]
theorem k_up_eq (K : kM) (f i j : Nat) (x : Int32) : k_up K f i j x f i j = x := by simp [k_up]
theorem k_up_row {K : kM} {f i j : Nat} {x : Int32} {f' i' : Nat} (h : ¬ (f' = f ∧ i' = i)) : k_up K f i j x f' i' = K f' i' := by
  funext c
  simp only [k_up]
  rw [if_neg]
  exact fun q => h ⟨q.1, q.2.2⟩
theorem k_up_arr (K : kM) (f i j : Nat) (x : Int32) : k_up K f i j x f i = upd (K f i) j x := by
  funext c
  by_cases h : c = j
  · subst h
    simp [k_up, upd]
  · simp [k_up, upd, h]
theorem k_ent_congr {G : kG} {K K' : kM} {f i : Nat} (k : kF) (h : K f i = K' f i) : k_ent G K f i k = k_ent G K' f i k := by
  unfold k_ent
  rw [h]
theorem k_one {S : kS} {G : kG} {K : kM} {H : Heap} {f c i : Nat} {k : kF} (h : k_H S G K H) (hf : S.2.2[f]? = some (c, k)) (hi : i < c) : va_P G.1 S.1 [(G.2.2 f i, k_ent G K f i k)] H := by
  intro q0 q hq
  match q0, hq with
  | 0, hq =>
    cases hq
    exact h f c k i hf hi
  | n + 1, hq => simp at hq
theorem k_H.put {S : kS} {G : kG} {K : kM} {H H1 : Heap} {f c i j : Nat} {k : kF} {x : Int32} (h : k_H S G K H) (hI : k_I S G) (hf : S.2.2[f]? = some (c, k)) (hi : i < c)
    (hn : va_at G.1 S.1 (G.2.2 f i, k_ent G (k_up K f i j x) f i k) H1) (ho : ∀ q : Nat, q ≠ G.2.2 f i → H1[q]? = H[q]?) : k_H S G (k_up K f i j x) H1 := by
  intro f' c' k' i' hf' hi'
  by_cases hq : G.2.2 f' i' = G.2.2 f i
  · obtain ⟨e1, e2⟩ := hI f' c' k' i' f c k i hf' hi' hf hi hq
    subst e1; subst e2
    cases hf.symm.trans hf'
    exact hn
  · rw [k_ent_congr (K := k_up K f i j x) (K' := K) k' (k_up_row (fun z => hq (by rw [z.1, z.2])))]
    exact (h f' c' k' i' hf' hi').kept (ho _ hq)
theorem k_H.kept {S : kS} {G : kG} {K : kM} {H H1 : Heap} (h : k_H S G K H) (hq : ∀ (f c : Nat) (k : kF) (i : Nat), S.2.2[f]? = some (c, k) → i < c → H1[G.2.2 f i]? = H[G.2.2 f i]?) : k_H S G K H1 :=
  fun f c k i hf hi => (h f c k i hf hi).kept (hq f c k i hf hi)
theorem k_fs_put {φ : Nat → Nat → Nat} {K : kM} {f i j n : Nat} {x : Int32} {rf : kR} (hr : rf i j = none) :
    ((List.range n).map (fun a => k_v φ (rf i a) (K f i a))).set j (.int x) = (List.range n).map (fun a => k_v φ (rf i a) (k_up K f i j x f i a)) := by
  apply List.ext_getElem?
  intro q
  rw [List.getElem?_set, List.getElem?_map, List.getElem?_map]
  by_cases hn : q < n
  · rw [List.getElem?_range hn]
    by_cases hq : j = q
    · subst hq
      simp [hn, hr, k_v, k_up]
    · rw [if_neg hq]
      simp [k_up, Ne.symm hq]
  · have e : (List.range n)[q]? = none := by simp; omega
    by_cases hq : j = q
    · subst hq
      simp [hn]
    · rw [if_neg hq, e]
      rfl
/-! ### locals: the first entry of a number counts -/
def k_has (ls : Array Slot) (nL : Nat) (lv : List (Nat × Value)) : Prop := ls.size = nL ∧ lv_wf ls ∧ ∀ (i : Nat) (v : Value), lv.lookup i = some v → ls[i]? = some (.val v) ∧ v.category = 1
def k_l0 (nL : Nat) (lv : List (Nat × Value)) : List (Nat × Value) := (List.range nL).filterMap (fun j => (lv.lookup j).map (fun v => (j, v)))
theorem k_has.list {ls : Array Slot} {nL : Nat} {lv : List (Nat × Value)} (h : k_has ls nL lv) : lv_has ls nL (k_l0 nL lv) := by
  refine ⟨h.1, h.2.1, fun q hq => ?_⟩
  obtain ⟨j, -, hj⟩ := List.mem_filterMap.mp hq
  cases e : lv.lookup j with
  | none => rw [e] at hj; cases hj
  | some v =>
    rw [e] at hj
    cases hj
    exact (h.2.2 j v e).1
theorem k_has.cons {ls ls' : Array Slot} {nL i : Nat} {v : Value} {lv : List (Nat × Value)} (h : k_has ls nL lv) (hc : v.category = 1)
    (h' : lv_has ls' nL ((i, v) :: (k_l0 nL lv).filter (fun q => !(q.1 == i) && !(q.1 + 1 == i && q.2.category == 2)))) : k_has ls' nL ((i, v) :: lv) := by
  refine ⟨h'.1, h'.2.1, fun j w hw => ?_⟩
  by_cases hj : j = i
  · subst hj
    have e : w = v := by
      simp [List.lookup] at hw
      exact hw.symm
    subst e
    exact ⟨h'.2.2 (j, w) List.mem_cons_self, hc⟩
  · have e : lv.lookup j = some w := by
      have hb : (j == i) = false := by simpa using hj
      simp only [List.lookup, hb] at hw
      exact hw
    obtain ⟨g1, g2⟩ := h.2.2 j w e
    have hlt : j < nL := by rw [← h.1]; exact lv_lt g1
    refine ⟨h'.2.2 (j, w) (List.mem_cons_of_mem _ (List.mem_filter.mpr ⟨List.mem_filterMap.mpr ⟨j, List.mem_range.mpr hlt, by rw [e]; rfl⟩, ?_⟩)), g2⟩
    simp [hj, g2]
theorem k_mem_lookup : ∀ (lv : List (Nat × Value)) (i : Nat) (v : Value), lv.lookup i = some v → (i, v) ∈ lv
  | [], i, v, h => by simp [List.lookup] at h
  | (a, b) :: t, i, v, h => by
    by_cases hj : i = a
    · subst hj
      simp [List.lookup] at h
      subst h
      exact List.mem_cons_self
    · have hb : (i == a) = false := by simpa using hj
      simp only [List.lookup, hb] at h
      exact List.mem_cons_of_mem _ (k_mem_lookup t i v h)
theorem k_has.of {ls : Array Slot} {nL : Nat} {lv : List (Nat × Value)} (h : lv_has ls nL lv) (hc : ∀ q ∈ lv, q.2.category = 1) : k_has ls nL lv :=
  ⟨h.1, h.2.1, fun i v hv => ⟨h.2.2 (i, v) (k_mem_lookup lv i v hv), hc (i, v) (k_mem_lookup lv i v hv)⟩⟩
/-! ### the judgement -/
abbrev kX := Program × Launch × Env × Room × State × MethodId × Array Value × List Frame × Method × Code × (State → Prop) × kS × kG × (Nat → Prop) × Nat
def k_W (X : kX) (n1 n2 pc : Nat) (lv : List (Nat × Value)) (st : List Value) (K : kM) : Prop := match X with
  | (p, l, e, R, s, m, args, below, meth, c, Q, S, G, A, nL) => ∀ (H : Heap) (locs : List Loc) (ls : Array Slot), k_H S G K H → va_S A s.heap H locs → k_has ls nL lv → W p l e R s m args below meth c H locs n1 n2 Q (F0 m pc ls st)
def k_C (X : kX) (Ts : List Cond) (cc : ByteArray) (own : String) (S : kS) (G : kG) (nL : Nat) (l : Launch) (R : Room) : Prop := match X with
  | (p, l', e, R', s, m, args, below, meth, c, Q, S', G', A, nL') => S' = S ∧ G' = G ∧ nL' = nL ∧ l' = l ∧ R' = R ∧ p.tables.exec = Jvm.exec ∧ c.code = cc ∧ c.maxLocals = nL' ∧ s.vm.findClass own = some m.cls ∧ (∀ w ∈ Ts, w.before args s = true) ∧ k_T S' G' s ∧ k_I S' G' ∧ (∀ q, s.heap.size ≤ q → A q) ∧ (∀ (f c : Nat) (k : kF) (i : Nat), S'.2.2[f]? = some (c, k) → i < c → A (G'.2.2 f i))
def k_Qc (S : kS) (G : kG) (r : Option Value) (K2 : kM) (A : Nat → Prop) : Array Value → State → Outcome → State → Prop := fun _ st oc t => oc = .returned r ∧ k_H S G K2 t.heap ∧ va_F A st t
def k_E (X : kX) (ret : Option FieldType) (r : Option Value) (K2 : kM) (mc ms : Nat) : Prop := match X with
  | (_, _, _, _, s, _, args, below, meth, _, Q, S, G, A, _) => Q = MQ below (k_Qc S G r K2 A) args s mc ms A ∧ meth.sig.returnType = ret ∧ meth.locks = false
def k_Pc (S : kS) (G : kG) (args : List Value) (K : kM) (sz : Nat) : Array Value → State → Prop := va_Pc args (fun U => U.heap.size = sz ∧ k_H S G K U.heap ∧ k_T S G U ∧ k_I S G)
/-- the contract: from the memory K with these arguments the method returns r and leaves K2; no cell comes -/
def k_Met (l : Launch) (S : kS) (Ts : List Cond) (y : MethodName) (cc : ByteArray) (nL : Nat) (ret : Option FieldType) (rm : Room) (G : kG) (args : List Value) (K : kM) (r : Option Value) (K2 : kM) : Prop :=
  ∀ sz : Nat, Met l y (.code y cc nL ret :: Ts) rm (k_Pc S G args K sz) (k_Qc S G r K2 (k_A S G sz)) 0 0 (k_A S G sz)
def k_rm (d : Nat) : Room := { frames := d, cells := 0, slots := 0, locals := 36 * d }
theorem k_intro {l : Launch} {S : kS} {Ts : List Cond} {y : MethodName} {cc : ByteArray} {nL : Nat} {ret : Option FieldType} {rm : Room} {G : kG} {args : List Value} {K : kM} {r : Option Value} {K2 : kM}
    (hy : plainFor y = true) (hc : (lv_args 0 args).all (fun q => q.2.category == 1) = true) (hn : (lg_sl args).length ≤ nL)
    (body : ∀ X : kX, k_C X Ts cc y.cls S G nL l rm → k_E X ret r K2 0 0 → k_W X 0 0 0 (lv_args 0 args) [] K) : k_Met l S Ts y cc nL ret rm G args K r K2 := by
  intro sz
  refine va_MetF (cc := cc) (maxL := nL) (ret := ret) hy rfl ?_
  intro p e s m args' below meth c s₁ B hml hv
  obtain ⟨rfl, hsz, hH, hT, hI⟩ := hv
  have hts := atoms_spec (ws := .code y cc nL ret :: Ts) B.pre
  have hown : s.vm.findClass y.cls = some m.cls := findClass_of_methodNamed B.named
  subst hsz
  have hl := lv_entry args (n := nL) hn
  rw [lg_entry_eq]
  exact body (p, l, e, rm, s, m, args.toArray, below, meth, c, MQ below (k_Qc S G r K2 (k_A S G s.heap.size)) args.toArray s 0 0 (k_A S G s.heap.size), S, G, k_A S G s.heap.size, nL)
    ⟨rfl, rfl, rfl, rfl, rfl, B.exec, B.bytes, hml, hown, fun w hw => hts w (List.mem_cons_of_mem _ hw), hT, hI, fun q h => Or.inr h, fun f c k i hf hi => Or.inl ⟨f, c, k, i, hf, hi, rfl⟩⟩
    ⟨rfl, B.returns, B.notSynchronized⟩ s.heap [] _ hH va_S.rf (k_has.of hl (fun q hq => by simpa using List.all_eq_true.mp hc q hq))
/-! ===== THE GENERIC LAYER (2): a row an instruction ===== -/
theorem k_iconst {X : kX} {Ts : List Cond} {cc : ByteArray} {own : String} {S : kS} {G : kG} {nL : Nat} {l : Launch} {R : Room} {n1 n2 pc : Nat} {lv : List (Nat × Value)} {st : List Value} {K : kM} (C : k_C X Ts cc own S G nL l R) {n : Int} (hd : decode cc pc = .ok (.iconst n, 1)) {v : Int32} (hv : Int32.ofInt n = v) (k : k_W X n1 n2 (pc + 1) lv (.int v :: st) K) : k_W X n1 n2 pc lv (st) K := by
  obtain ⟨p, l, e, R, s, m, args, below, meth, cd, Q, S', G', A, nL'⟩ := X
  obtain ⟨rfl, rfl, rfl, rfl, rfl, hx, hb, hml, hown, hts, hT, hI, hA, hAf⟩ := C
  exact fun H locs ls hH hS hl => lv_iconst hx hb hd hv (k H locs ls hH hS hl)
theorem k_bipush {X : kX} {Ts : List Cond} {cc : ByteArray} {own : String} {S : kS} {G : kG} {nL : Nat} {l : Launch} {R : Room} {n1 n2 pc : Nat} {lv : List (Nat × Value)} {st : List Value} {K : kM} (C : k_C X Ts cc own S G nL l R) {n : Int} (hd : decode cc pc = .ok (.bipush n, 2)) {v : Int32} (hv : (Int8.ofInt n).toInt32 = v) (k : k_W X n1 n2 (pc + 2) lv (.int v :: st) K) : k_W X n1 n2 pc lv (st) K := by
  obtain ⟨p, l, e, R, s, m, args, below, meth, cd, Q, S', G', A, nL'⟩ := X
  obtain ⟨rfl, rfl, rfl, rfl, rfl, hx, hb, hml, hown, hts, hT, hI, hA, hAf⟩ := C
  exact fun H locs ls hH hS hl => lv_bipush hx hb hd hv (k H locs ls hH hS hl)
theorem k_sipush {X : kX} {Ts : List Cond} {cc : ByteArray} {own : String} {S : kS} {G : kG} {nL : Nat} {l : Launch} {R : Room} {n1 n2 pc : Nat} {lv : List (Nat × Value)} {st : List Value} {K : kM} (C : k_C X Ts cc own S G nL l R) {n : Int} (hd : decode cc pc = .ok (.sipush n, 3)) {v : Int32} (hv : (Int16.ofInt n).toInt32 = v) (k : k_W X n1 n2 (pc + 3) lv (.int v :: st) K) : k_W X n1 n2 pc lv (st) K := by
  obtain ⟨p, l, e, R, s, m, args, below, meth, cd, Q, S', G', A, nL'⟩ := X
  obtain ⟨rfl, rfl, rfl, rfl, rfl, hx, hb, hml, hown, hts, hT, hI, hA, hAf⟩ := C
  exact fun H locs ls hH hS hl => lv_sipush hx hb hd hv (k H locs ls hH hS hl)
theorem k_iload {X : kX} {Ts : List Cond} {cc : ByteArray} {own : String} {S : kS} {G : kG} {nL : Nat} {l : Launch} {R : Room} {n1 n2 pc : Nat} {lv : List (Nat × Value)} {st : List Value} {K : kM} (C : k_C X Ts cc own S G nL l R) {i : Nat} (hd : decode cc pc = .ok (.iload i, 2)) {x : Int32} (hl0 : lv.lookup i = some (.int x)) (k : k_W X n1 n2 (pc + 2) lv (.int x :: st) K) : k_W X n1 n2 pc lv (st) K := by
  obtain ⟨p, l, e, R, s, m, args, below, meth, cd, Q, S', G', A, nL'⟩ := X
  obtain ⟨rfl, rfl, rfl, rfl, rfl, hx, hb, hml, hown, hts, hT, hI, hA, hAf⟩ := C
  exact fun H locs ls hH hS hl => lv_iload hx hb hd (hl.2.2 _ _ hl0).1 (k H locs ls hH hS hl)
theorem k_iload_n {X : kX} {Ts : List Cond} {cc : ByteArray} {own : String} {S : kS} {G : kG} {nL : Nat} {l : Launch} {R : Room} {n1 n2 pc : Nat} {lv : List (Nat × Value)} {st : List Value} {K : kM} (C : k_C X Ts cc own S G nL l R) {q : Fin 4} (hd : decode cc pc = .ok (.iload_n q, 1)) {x : Int32} (hl0 : lv.lookup (q : Nat) = some (.int x)) (k : k_W X n1 n2 (pc + 1) lv (.int x :: st) K) : k_W X n1 n2 pc lv (st) K := by
  obtain ⟨p, l, e, R, s, m, args, below, meth, cd, Q, S', G', A, nL'⟩ := X
  obtain ⟨rfl, rfl, rfl, rfl, rfl, hx, hb, hml, hown, hts, hT, hI, hA, hAf⟩ := C
  exact fun H locs ls hH hS hl => lv_iload_n hx hb hd rfl (hl.2.2 _ _ hl0).1 (k H locs ls hH hS hl)
theorem k_aload {X : kX} {Ts : List Cond} {cc : ByteArray} {own : String} {S : kS} {G : kG} {nL : Nat} {l : Launch} {R : Room} {n1 n2 pc : Nat} {lv : List (Nat × Value)} {st : List Value} {K : kM} (C : k_C X Ts cc own S G nL l R) {i : Nat} (hd : decode cc pc = .ok (.aload i, 2)) {x : Nat} (hl0 : lv.lookup i = some (.ref x)) (k : k_W X n1 n2 (pc + 2) lv (.ref x :: st) K) : k_W X n1 n2 pc lv (st) K := by
  obtain ⟨p, l, e, R, s, m, args, below, meth, cd, Q, S', G', A, nL'⟩ := X
  obtain ⟨rfl, rfl, rfl, rfl, rfl, hx, hb, hml, hown, hts, hT, hI, hA, hAf⟩ := C
  exact fun H locs ls hH hS hl => lv_aload hx hb hd (hl.2.2 _ _ hl0).1 (k H locs ls hH hS hl)
theorem k_aload_n {X : kX} {Ts : List Cond} {cc : ByteArray} {own : String} {S : kS} {G : kG} {nL : Nat} {l : Launch} {R : Room} {n1 n2 pc : Nat} {lv : List (Nat × Value)} {st : List Value} {K : kM} (C : k_C X Ts cc own S G nL l R) {q : Fin 4} (hd : decode cc pc = .ok (.aload_n q, 1)) {x : Nat} (hl0 : lv.lookup (q : Nat) = some (.ref x)) (k : k_W X n1 n2 (pc + 1) lv (.ref x :: st) K) : k_W X n1 n2 pc lv (st) K := by
  obtain ⟨p, l, e, R, s, m, args, below, meth, cd, Q, S', G', A, nL'⟩ := X
  obtain ⟨rfl, rfl, rfl, rfl, rfl, hx, hb, hml, hown, hts, hT, hI, hA, hAf⟩ := C
  exact fun H locs ls hH hS hl => lv_aload_n hx hb hd rfl (hl.2.2 _ _ hl0).1 (k H locs ls hH hS hl)
theorem k_istore {X : kX} {Ts : List Cond} {cc : ByteArray} {own : String} {S : kS} {G : kG} {nL : Nat} {l : Launch} {R : Room} {n1 n2 pc : Nat} {lv : List (Nat × Value)} {st : List Value} {K : kM} (C : k_C X Ts cc own S G nL l R) {i : Nat} (hd : decode cc pc = .ok (.istore i, 2)) {x : Int32} (hn : i < nL) (k : k_W X n1 n2 (pc + 2) ((i, .int x) :: lv) st K) : k_W X n1 n2 pc lv (.int x :: st) K := by
  obtain ⟨p, l, e, R, s, m, args, below, meth, cd, Q, S', G', A, nL'⟩ := X
  obtain ⟨rfl, rfl, rfl, rfl, rfl, hx, hb, hml, hown, hts, hT, hI, hA, hAf⟩ := C
  exact fun H locs ls hH hS hl => lv_istore hx hb hd hl.list hn rfl (fun ls' hl' => k H locs ls' hH hS (hl.cons rfl hl'))
theorem k_istore_n {X : kX} {Ts : List Cond} {cc : ByteArray} {own : String} {S : kS} {G : kG} {nL : Nat} {l : Launch} {R : Room} {n1 n2 pc : Nat} {lv : List (Nat × Value)} {st : List Value} {K : kM} (C : k_C X Ts cc own S G nL l R) {q : Fin 4} (hd : decode cc pc = .ok (.istore_n q, 1)) {x : Int32} (hn : (q : Nat) < nL) (k : k_W X n1 n2 (pc + 1) (((q : Nat), .int x) :: lv) st K) : k_W X n1 n2 pc lv (.int x :: st) K := by
  obtain ⟨p, l, e, R, s, m, args, below, meth, cd, Q, S', G', A, nL'⟩ := X
  obtain ⟨rfl, rfl, rfl, rfl, rfl, hx, hb, hml, hown, hts, hT, hI, hA, hAf⟩ := C
  exact fun H locs ls hH hS hl => lv_istore_n hx hb hd rfl hl.list hn rfl (fun ls' hl' => k H locs ls' hH hS (hl.cons rfl hl'))
theorem k_astore {X : kX} {Ts : List Cond} {cc : ByteArray} {own : String} {S : kS} {G : kG} {nL : Nat} {l : Launch} {R : Room} {n1 n2 pc : Nat} {lv : List (Nat × Value)} {st : List Value} {K : kM} (C : k_C X Ts cc own S G nL l R) {i : Nat} (hd : decode cc pc = .ok (.astore i, 2)) {x : Nat} (hn : i < nL) (k : k_W X n1 n2 (pc + 2) ((i, .ref x) :: lv) st K) : k_W X n1 n2 pc lv (.ref x :: st) K := by
  obtain ⟨p, l, e, R, s, m, args, below, meth, cd, Q, S', G', A, nL'⟩ := X
  obtain ⟨rfl, rfl, rfl, rfl, rfl, hx, hb, hml, hown, hts, hT, hI, hA, hAf⟩ := C
  exact fun H locs ls hH hS hl => lv_astore hx hb hd hl.list hn rfl (fun ls' hl' => k H locs ls' hH hS (hl.cons rfl hl'))
theorem k_astore_n {X : kX} {Ts : List Cond} {cc : ByteArray} {own : String} {S : kS} {G : kG} {nL : Nat} {l : Launch} {R : Room} {n1 n2 pc : Nat} {lv : List (Nat × Value)} {st : List Value} {K : kM} (C : k_C X Ts cc own S G nL l R) {q : Fin 4} (hd : decode cc pc = .ok (.astore_n q, 1)) {x : Nat} (hn : (q : Nat) < nL) (k : k_W X n1 n2 (pc + 1) (((q : Nat), .ref x) :: lv) st K) : k_W X n1 n2 pc lv (.ref x :: st) K := by
  obtain ⟨p, l, e, R, s, m, args, below, meth, cd, Q, S', G', A, nL'⟩ := X
  obtain ⟨rfl, rfl, rfl, rfl, rfl, hx, hb, hml, hown, hts, hT, hI, hA, hAf⟩ := C
  exact fun H locs ls hH hS hl => lv_astore_n hx hb hd rfl hl.list hn rfl (fun ls' hl' => k H locs ls' hH hS (hl.cons rfl hl'))
theorem k_iinc {X : kX} {Ts : List Cond} {cc : ByteArray} {own : String} {S : kS} {G : kG} {nL : Nat} {l : Launch} {R : Room} {n1 n2 pc : Nat} {lv : List (Nat × Value)} {st : List Value} {K : kM} (C : k_C X Ts cc own S G nL l R) {i : Nat} {n : Int} (hd : decode cc pc = .ok (.iinc i n, 3)) {x v : Int32} (hl0 : lv.lookup i = some (.int x)) (hv : x + Int32.ofInt n = v) (hn : i < nL) (k : k_W X n1 n2 (pc + 3) ((i, .int v) :: lv) st K) : k_W X n1 n2 pc lv st K := by
  obtain ⟨p, l, e, R, s, m, args, below, meth, cd, Q, S', G', A, nL'⟩ := X
  obtain ⟨rfl, rfl, rfl, rfl, rfl, hx, hb, hml, hown, hts, hT, hI, hA, hAf⟩ := C
  refine fun H locs ls hH hS hl => ?_
  have hm : (i, Value.int x) ∈ k_l0 nL' lv := List.mem_filterMap.mpr ⟨i, List.mem_range.mpr hn, by rw [hl0]; rfl⟩
  obtain ⟨kk, hk⟩ := List.mem_iff_getElem?.mp hm
  exact lv_iinc hx hb hd hl.list hk hv hn rfl (fun ls' hl' => k H locs ls' hH hS (hl.cons rfl hl'))
theorem k_iadd {X : kX} {Ts : List Cond} {cc : ByteArray} {own : String} {S : kS} {G : kG} {nL : Nat} {l : Launch} {R : Room} {n1 n2 pc : Nat} {lv : List (Nat × Value)} {st : List Value} {K : kM} (C : k_C X Ts cc own S G nL l R) (hd : decode cc pc = .ok (.iadd, 1)) {x y : Int32} (k : k_W X n1 n2 (pc + 1) lv (.int (x + y) :: st) K) : k_W X n1 n2 pc lv (.int y :: .int x :: st) K := by
  obtain ⟨p, l, e, R, s, m, args, below, meth, cd, Q, S', G', A, nL'⟩ := X
  obtain ⟨rfl, rfl, rfl, rfl, rfl, hx, hb, hml, hown, hts, hT, hI, hA, hAf⟩ := C
  exact fun H locs ls hH hS hl => lv_iadd hx hb hd (k H locs ls hH hS hl)
theorem k_isub {X : kX} {Ts : List Cond} {cc : ByteArray} {own : String} {S : kS} {G : kG} {nL : Nat} {l : Launch} {R : Room} {n1 n2 pc : Nat} {lv : List (Nat × Value)} {st : List Value} {K : kM} (C : k_C X Ts cc own S G nL l R) (hd : decode cc pc = .ok (.isub, 1)) {x y : Int32} (k : k_W X n1 n2 (pc + 1) lv (.int (x - y) :: st) K) : k_W X n1 n2 pc lv (.int y :: .int x :: st) K := by
  obtain ⟨p, l, e, R, s, m, args, below, meth, cd, Q, S', G', A, nL'⟩ := X
  obtain ⟨rfl, rfl, rfl, rfl, rfl, hx, hb, hml, hown, hts, hT, hI, hA, hAf⟩ := C
  exact fun H locs ls hH hS hl => lv_isub hx hb hd (k H locs ls hH hS hl)
theorem k_imul {X : kX} {Ts : List Cond} {cc : ByteArray} {own : String} {S : kS} {G : kG} {nL : Nat} {l : Launch} {R : Room} {n1 n2 pc : Nat} {lv : List (Nat × Value)} {st : List Value} {K : kM} (C : k_C X Ts cc own S G nL l R) (hd : decode cc pc = .ok (.imul, 1)) {x y : Int32} (k : k_W X n1 n2 (pc + 1) lv (.int (x * y) :: st) K) : k_W X n1 n2 pc lv (.int y :: .int x :: st) K := by
  obtain ⟨p, l, e, R, s, m, args, below, meth, cd, Q, S', G', A, nL'⟩ := X
  obtain ⟨rfl, rfl, rfl, rfl, rfl, hx, hb, hml, hown, hts, hT, hI, hA, hAf⟩ := C
  exact fun H locs ls hH hS hl => lv_imul hx hb hd (k H locs ls hH hS hl)
theorem k_iand {X : kX} {Ts : List Cond} {cc : ByteArray} {own : String} {S : kS} {G : kG} {nL : Nat} {l : Launch} {R : Room} {n1 n2 pc : Nat} {lv : List (Nat × Value)} {st : List Value} {K : kM} (C : k_C X Ts cc own S G nL l R) (hd : decode cc pc = .ok (.iand, 1)) {x y : Int32} (k : k_W X n1 n2 (pc + 1) lv (.int (x &&& y) :: st) K) : k_W X n1 n2 pc lv (.int y :: .int x :: st) K := by
  obtain ⟨p, l, e, R, s, m, args, below, meth, cd, Q, S', G', A, nL'⟩ := X
  obtain ⟨rfl, rfl, rfl, rfl, rfl, hx, hb, hml, hown, hts, hT, hI, hA, hAf⟩ := C
  exact fun H locs ls hH hS hl => lv_iand hx hb hd (k H locs ls hH hS hl)
theorem k_ior {X : kX} {Ts : List Cond} {cc : ByteArray} {own : String} {S : kS} {G : kG} {nL : Nat} {l : Launch} {R : Room} {n1 n2 pc : Nat} {lv : List (Nat × Value)} {st : List Value} {K : kM} (C : k_C X Ts cc own S G nL l R) (hd : decode cc pc = .ok (.ior, 1)) {x y : Int32} (k : k_W X n1 n2 (pc + 1) lv (.int (x ||| y) :: st) K) : k_W X n1 n2 pc lv (.int y :: .int x :: st) K := by
  obtain ⟨p, l, e, R, s, m, args, below, meth, cd, Q, S', G', A, nL'⟩ := X
  obtain ⟨rfl, rfl, rfl, rfl, rfl, hx, hb, hml, hown, hts, hT, hI, hA, hAf⟩ := C
  exact fun H locs ls hH hS hl => lv_ior hx hb hd (k H locs ls hH hS hl)
theorem k_ixor {X : kX} {Ts : List Cond} {cc : ByteArray} {own : String} {S : kS} {G : kG} {nL : Nat} {l : Launch} {R : Room} {n1 n2 pc : Nat} {lv : List (Nat × Value)} {st : List Value} {K : kM} (C : k_C X Ts cc own S G nL l R) (hd : decode cc pc = .ok (.ixor, 1)) {x y : Int32} (k : k_W X n1 n2 (pc + 1) lv (.int (x ^^^ y) :: st) K) : k_W X n1 n2 pc lv (.int y :: .int x :: st) K := by
  obtain ⟨p, l, e, R, s, m, args, below, meth, cd, Q, S', G', A, nL'⟩ := X
  obtain ⟨rfl, rfl, rfl, rfl, rfl, hx, hb, hml, hown, hts, hT, hI, hA, hAf⟩ := C
  exact fun H locs ls hH hS hl => lv_ixor hx hb hd (k H locs ls hH hS hl)
theorem k_idiv {X : kX} {Ts : List Cond} {cc : ByteArray} {own : String} {S : kS} {G : kG} {nL : Nat} {l : Launch} {R : Room} {n1 n2 pc : Nat} {lv : List (Nat × Value)} {st : List Value} {K : kM} (C : k_C X Ts cc own S G nL l R) (hd : decode cc pc = .ok (.idiv, 1)) {x y : Int32} (hne : ¬ y = 0) (k : k_W X n1 n2 (pc + 1) lv (.int (x / y) :: st) K) : k_W X n1 n2 pc lv (.int y :: .int x :: st) K := by
  obtain ⟨p, l, e, R, s, m, args, below, meth, cd, Q, S', G', A, nL'⟩ := X
  obtain ⟨rfl, rfl, rfl, rfl, rfl, hx, hb, hml, hown, hts, hT, hI, hA, hAf⟩ := C
  exact fun H locs ls hH hS hl => lv_idiv hx hb hd hne (k H locs ls hH hS hl)
theorem k_irem {X : kX} {Ts : List Cond} {cc : ByteArray} {own : String} {S : kS} {G : kG} {nL : Nat} {l : Launch} {R : Room} {n1 n2 pc : Nat} {lv : List (Nat × Value)} {st : List Value} {K : kM} (C : k_C X Ts cc own S G nL l R) (hd : decode cc pc = .ok (.irem, 1)) {x y : Int32} (hne : ¬ y = 0) (k : k_W X n1 n2 (pc + 1) lv (.int (x - x / y * y) :: st) K) : k_W X n1 n2 pc lv (.int y :: .int x :: st) K := by
  obtain ⟨p, l, e, R, s, m, args, below, meth, cd, Q, S', G', A, nL'⟩ := X
  obtain ⟨rfl, rfl, rfl, rfl, rfl, hx, hb, hml, hown, hts, hT, hI, hA, hAf⟩ := C
  exact fun H locs ls hH hS hl => lv_irem hx hb hd hne (k H locs ls hH hS hl)
theorem k_ineg {X : kX} {Ts : List Cond} {cc : ByteArray} {own : String} {S : kS} {G : kG} {nL : Nat} {l : Launch} {R : Room} {n1 n2 pc : Nat} {lv : List (Nat × Value)} {st : List Value} {K : kM} (C : k_C X Ts cc own S G nL l R) (hd : decode cc pc = .ok (.ineg, 1)) {x : Int32} (k : k_W X n1 n2 (pc + 1) lv (.int (-x) :: st) K) : k_W X n1 n2 pc lv (.int x :: st) K := by
  obtain ⟨p, l, e, R, s, m, args, below, meth, cd, Q, S', G', A, nL'⟩ := X
  obtain ⟨rfl, rfl, rfl, rfl, rfl, hx, hb, hml, hown, hts, hT, hI, hA, hAf⟩ := C
  exact fun H locs ls hH hS hl => lv_ineg hx hb hd (k H locs ls hH hS hl)
theorem k_dup {X : kX} {Ts : List Cond} {cc : ByteArray} {own : String} {S : kS} {G : kG} {nL : Nat} {l : Launch} {R : Room} {n1 n2 pc : Nat} {lv : List (Nat × Value)} {st : List Value} {K : kM} (C : k_C X Ts cc own S G nL l R) (hd : decode cc pc = .ok (.dup, 1)) {va : Value} (h1 : va.category = 1) (k : k_W X n1 n2 (pc + 1) lv (va :: va :: st) K) : k_W X n1 n2 pc lv (va :: st) K := by
  obtain ⟨p, l, e, R, s, m, args, below, meth, cd, Q, S', G', A, nL'⟩ := X
  obtain ⟨rfl, rfl, rfl, rfl, rfl, hx, hb, hml, hown, hts, hT, hI, hA, hAf⟩ := C
  exact fun H locs ls hH hS hl => lv_dup hx hb hd h1 (k H locs ls hH hS hl)
theorem k_pop {X : kX} {Ts : List Cond} {cc : ByteArray} {own : String} {S : kS} {G : kG} {nL : Nat} {l : Launch} {R : Room} {n1 n2 pc : Nat} {lv : List (Nat × Value)} {st : List Value} {K : kM} (C : k_C X Ts cc own S G nL l R) (hd : decode cc pc = .ok (.pop, 1)) {va : Value} (h1 : va.category = 1) (k : k_W X n1 n2 (pc + 1) lv (st) K) : k_W X n1 n2 pc lv (va :: st) K := by
  obtain ⟨p, l, e, R, s, m, args, below, meth, cd, Q, S', G', A, nL'⟩ := X
  obtain ⟨rfl, rfl, rfl, rfl, rfl, hx, hb, hml, hown, hts, hT, hI, hA, hAf⟩ := C
  exact fun H locs ls hH hS hl => lv_pop hx hb hd h1 (k H locs ls hH hS hl)
theorem k_dup2 {X : kX} {Ts : List Cond} {cc : ByteArray} {own : String} {S : kS} {G : kG} {nL : Nat} {l : Launch} {R : Room} {n1 n2 pc : Nat} {lv : List (Nat × Value)} {st : List Value} {K : kM} (C : k_C X Ts cc own S G nL l R) (hd : decode cc pc = .ok (.dup2, 1)) {va vb : Value} (h1 : va.category = 1) (h2 : vb.category = 1) (k : k_W X n1 n2 (pc + 1) lv (va :: vb :: va :: vb :: st) K) : k_W X n1 n2 pc lv (va :: vb :: st) K := by
  obtain ⟨p, l, e, R, s, m, args, below, meth, cd, Q, S', G', A, nL'⟩ := X
  obtain ⟨rfl, rfl, rfl, rfl, rfl, hx, hb, hml, hown, hts, hT, hI, hA, hAf⟩ := C
  exact fun H locs ls hH hS hl => lv_dup2_11 hx hb hd h1 h2 (k H locs ls hH hS hl)
theorem k_dup_x1 {X : kX} {Ts : List Cond} {cc : ByteArray} {own : String} {S : kS} {G : kG} {nL : Nat} {l : Launch} {R : Room} {n1 n2 pc : Nat} {lv : List (Nat × Value)} {st : List Value} {K : kM} (C : k_C X Ts cc own S G nL l R) (hd : decode cc pc = .ok (.dup_x1, 1)) {va vb : Value} (h1 : va.category = 1) (h2 : vb.category = 1) (k : k_W X n1 n2 (pc + 1) lv (va :: vb :: va :: st) K) : k_W X n1 n2 pc lv (va :: vb :: st) K := by
  obtain ⟨p, l, e, R, s, m, args, below, meth, cd, Q, S', G', A, nL'⟩ := X
  obtain ⟨rfl, rfl, rfl, rfl, rfl, hx, hb, hml, hown, hts, hT, hI, hA, hAf⟩ := C
  exact fun H locs ls hH hS hl => lv_dup_x1 hx hb hd h1 h2 (k H locs ls hH hS hl)
theorem k_dup_x2 {X : kX} {Ts : List Cond} {cc : ByteArray} {own : String} {S : kS} {G : kG} {nL : Nat} {l : Launch} {R : Room} {n1 n2 pc : Nat} {lv : List (Nat × Value)} {st : List Value} {K : kM} (C : k_C X Ts cc own S G nL l R) (hd : decode cc pc = .ok (.dup_x2, 1)) {va vb vd : Value} (h1 : va.category = 1) (h2 : vb.category = 1) (h3 : vd.category = 1) (k : k_W X n1 n2 (pc + 1) lv (va :: vb :: vd :: va :: st) K) : k_W X n1 n2 pc lv (va :: vb :: vd :: st) K := by
  obtain ⟨p, l, e, R, s, m, args, below, meth, cd, Q, S', G', A, nL'⟩ := X
  obtain ⟨rfl, rfl, rfl, rfl, rfl, hx, hb, hml, hown, hts, hT, hI, hA, hAf⟩ := C
  exact fun H locs ls hH hS hl => lv_dup_x2 hx hb hd h1 h2 h3 (k H locs ls hH hS hl)
theorem k_if_eq {X : kX} {Ts : List Cond} {cc : ByteArray} {own : String} {S : kS} {G : kG} {nL : Nat} {l : Launch} {R : Room} {n1 n2 pc : Nat} {lv : List (Nat × Value)} {st : List Value} {K : kM} (C : k_C X Ts cc own S G nL l R) {off : Int} {tgt : Nat} (hd : decode cc pc = .ok (.ifCond .eq off, 3)) (ht : (pc : Int) + off = (tgt : Int)) {x : Int32} (kt : x = 0 → k_W X n1 n2 tgt lv st K) (kf : ¬ x = 0 → k_W X n1 n2 (pc + 3) lv st K) : k_W X n1 n2 pc lv (.int x :: st) K := by
  obtain ⟨p, l, e, R, s, m, args, below, meth, cd, Q, S', G', A, nL'⟩ := X
  obtain ⟨rfl, rfl, rfl, rfl, rfl, hx, hb, hml, hown, hts, hT, hI, hA, hAf⟩ := C
  exact fun H locs ls hH hS hl => lv_if_eq hx hb hd ht (fun h => kt h H locs ls hH hS hl) (fun h => kf h H locs ls hH hS hl)
theorem k_if_ne {X : kX} {Ts : List Cond} {cc : ByteArray} {own : String} {S : kS} {G : kG} {nL : Nat} {l : Launch} {R : Room} {n1 n2 pc : Nat} {lv : List (Nat × Value)} {st : List Value} {K : kM} (C : k_C X Ts cc own S G nL l R) {off : Int} {tgt : Nat} (hd : decode cc pc = .ok (.ifCond .ne off, 3)) (ht : (pc : Int) + off = (tgt : Int)) {x : Int32} (kt : ¬ x = 0 → k_W X n1 n2 tgt lv st K) (kf : x = 0 → k_W X n1 n2 (pc + 3) lv st K) : k_W X n1 n2 pc lv (.int x :: st) K := by
  obtain ⟨p, l, e, R, s, m, args, below, meth, cd, Q, S', G', A, nL'⟩ := X
  obtain ⟨rfl, rfl, rfl, rfl, rfl, hx, hb, hml, hown, hts, hT, hI, hA, hAf⟩ := C
  exact fun H locs ls hH hS hl => lv_if_ne hx hb hd ht (fun h => kt h H locs ls hH hS hl) (fun h => kf h H locs ls hH hS hl)
theorem k_if_lt {X : kX} {Ts : List Cond} {cc : ByteArray} {own : String} {S : kS} {G : kG} {nL : Nat} {l : Launch} {R : Room} {n1 n2 pc : Nat} {lv : List (Nat × Value)} {st : List Value} {K : kM} (C : k_C X Ts cc own S G nL l R) {off : Int} {tgt : Nat} (hd : decode cc pc = .ok (.ifCond .lt off, 3)) (ht : (pc : Int) + off = (tgt : Int)) {x : Int32} (kt : x < 0 → k_W X n1 n2 tgt lv st K) (kf : ¬ x < 0 → k_W X n1 n2 (pc + 3) lv st K) : k_W X n1 n2 pc lv (.int x :: st) K := by
  obtain ⟨p, l, e, R, s, m, args, below, meth, cd, Q, S', G', A, nL'⟩ := X
  obtain ⟨rfl, rfl, rfl, rfl, rfl, hx, hb, hml, hown, hts, hT, hI, hA, hAf⟩ := C
  exact fun H locs ls hH hS hl => lv_if_lt hx hb hd ht (fun h => kt h H locs ls hH hS hl) (fun h => kf h H locs ls hH hS hl)
theorem k_if_ge {X : kX} {Ts : List Cond} {cc : ByteArray} {own : String} {S : kS} {G : kG} {nL : Nat} {l : Launch} {R : Room} {n1 n2 pc : Nat} {lv : List (Nat × Value)} {st : List Value} {K : kM} (C : k_C X Ts cc own S G nL l R) {off : Int} {tgt : Nat} (hd : decode cc pc = .ok (.ifCond .ge off, 3)) (ht : (pc : Int) + off = (tgt : Int)) {x : Int32} (kt : 0 ≤ x → k_W X n1 n2 tgt lv st K) (kf : ¬ 0 ≤ x → k_W X n1 n2 (pc + 3) lv st K) : k_W X n1 n2 pc lv (.int x :: st) K := by
  obtain ⟨p, l, e, R, s, m, args, below, meth, cd, Q, S', G', A, nL'⟩ := X
  obtain ⟨rfl, rfl, rfl, rfl, rfl, hx, hb, hml, hown, hts, hT, hI, hA, hAf⟩ := C
  exact fun H locs ls hH hS hl => lv_if_ge hx hb hd ht (fun h => kt h H locs ls hH hS hl) (fun h => kf h H locs ls hH hS hl)
theorem k_if_gt {X : kX} {Ts : List Cond} {cc : ByteArray} {own : String} {S : kS} {G : kG} {nL : Nat} {l : Launch} {R : Room} {n1 n2 pc : Nat} {lv : List (Nat × Value)} {st : List Value} {K : kM} (C : k_C X Ts cc own S G nL l R) {off : Int} {tgt : Nat} (hd : decode cc pc = .ok (.ifCond .gt off, 3)) (ht : (pc : Int) + off = (tgt : Int)) {x : Int32} (kt : 0 < x → k_W X n1 n2 tgt lv st K) (kf : ¬ 0 < x → k_W X n1 n2 (pc + 3) lv st K) : k_W X n1 n2 pc lv (.int x :: st) K := by
  obtain ⟨p, l, e, R, s, m, args, below, meth, cd, Q, S', G', A, nL'⟩ := X
  obtain ⟨rfl, rfl, rfl, rfl, rfl, hx, hb, hml, hown, hts, hT, hI, hA, hAf⟩ := C
  exact fun H locs ls hH hS hl => lv_if_gt hx hb hd ht (fun h => kt h H locs ls hH hS hl) (fun h => kf h H locs ls hH hS hl)
theorem k_if_le {X : kX} {Ts : List Cond} {cc : ByteArray} {own : String} {S : kS} {G : kG} {nL : Nat} {l : Launch} {R : Room} {n1 n2 pc : Nat} {lv : List (Nat × Value)} {st : List Value} {K : kM} (C : k_C X Ts cc own S G nL l R) {off : Int} {tgt : Nat} (hd : decode cc pc = .ok (.ifCond .le off, 3)) (ht : (pc : Int) + off = (tgt : Int)) {x : Int32} (kt : x ≤ 0 → k_W X n1 n2 tgt lv st K) (kf : ¬ x ≤ 0 → k_W X n1 n2 (pc + 3) lv st K) : k_W X n1 n2 pc lv (.int x :: st) K := by
  obtain ⟨p, l, e, R, s, m, args, below, meth, cd, Q, S', G', A, nL'⟩ := X
  obtain ⟨rfl, rfl, rfl, rfl, rfl, hx, hb, hml, hown, hts, hT, hI, hA, hAf⟩ := C
  exact fun H locs ls hH hS hl => lv_if_le hx hb hd ht (fun h => kt h H locs ls hH hS hl) (fun h => kf h H locs ls hH hS hl)
theorem k_icmp_eq {X : kX} {Ts : List Cond} {cc : ByteArray} {own : String} {S : kS} {G : kG} {nL : Nat} {l : Launch} {R : Room} {n1 n2 pc : Nat} {lv : List (Nat × Value)} {st : List Value} {K : kM} (C : k_C X Ts cc own S G nL l R) {off : Int} {tgt : Nat} (hd : decode cc pc = .ok (.if_icmp .eq off, 3)) (ht : (pc : Int) + off = (tgt : Int)) {x y : Int32} (kt : x = y → k_W X n1 n2 tgt lv st K) (kf : ¬ x = y → k_W X n1 n2 (pc + 3) lv st K) : k_W X n1 n2 pc lv (.int y :: .int x :: st) K := by
  obtain ⟨p, l, e, R, s, m, args, below, meth, cd, Q, S', G', A, nL'⟩ := X
  obtain ⟨rfl, rfl, rfl, rfl, rfl, hx, hb, hml, hown, hts, hT, hI, hA, hAf⟩ := C
  exact fun H locs ls hH hS hl => lv_icmp_eq hx hb hd ht (fun h => kt h H locs ls hH hS hl) (fun h => kf h H locs ls hH hS hl)
theorem k_icmp_ne {X : kX} {Ts : List Cond} {cc : ByteArray} {own : String} {S : kS} {G : kG} {nL : Nat} {l : Launch} {R : Room} {n1 n2 pc : Nat} {lv : List (Nat × Value)} {st : List Value} {K : kM} (C : k_C X Ts cc own S G nL l R) {off : Int} {tgt : Nat} (hd : decode cc pc = .ok (.if_icmp .ne off, 3)) (ht : (pc : Int) + off = (tgt : Int)) {x y : Int32} (kt : ¬ x = y → k_W X n1 n2 tgt lv st K) (kf : x = y → k_W X n1 n2 (pc + 3) lv st K) : k_W X n1 n2 pc lv (.int y :: .int x :: st) K := by
  obtain ⟨p, l, e, R, s, m, args, below, meth, cd, Q, S', G', A, nL'⟩ := X
  obtain ⟨rfl, rfl, rfl, rfl, rfl, hx, hb, hml, hown, hts, hT, hI, hA, hAf⟩ := C
  exact fun H locs ls hH hS hl => lv_icmp_ne hx hb hd ht (fun h => kt h H locs ls hH hS hl) (fun h => kf h H locs ls hH hS hl)
theorem k_icmp_lt {X : kX} {Ts : List Cond} {cc : ByteArray} {own : String} {S : kS} {G : kG} {nL : Nat} {l : Launch} {R : Room} {n1 n2 pc : Nat} {lv : List (Nat × Value)} {st : List Value} {K : kM} (C : k_C X Ts cc own S G nL l R) {off : Int} {tgt : Nat} (hd : decode cc pc = .ok (.if_icmp .lt off, 3)) (ht : (pc : Int) + off = (tgt : Int)) {x y : Int32} (kt : x < y → k_W X n1 n2 tgt lv st K) (kf : ¬ x < y → k_W X n1 n2 (pc + 3) lv st K) : k_W X n1 n2 pc lv (.int y :: .int x :: st) K := by
  obtain ⟨p, l, e, R, s, m, args, below, meth, cd, Q, S', G', A, nL'⟩ := X
  obtain ⟨rfl, rfl, rfl, rfl, rfl, hx, hb, hml, hown, hts, hT, hI, hA, hAf⟩ := C
  exact fun H locs ls hH hS hl => lv_icmp_lt hx hb hd ht (fun h => kt h H locs ls hH hS hl) (fun h => kf h H locs ls hH hS hl)
theorem k_icmp_ge {X : kX} {Ts : List Cond} {cc : ByteArray} {own : String} {S : kS} {G : kG} {nL : Nat} {l : Launch} {R : Room} {n1 n2 pc : Nat} {lv : List (Nat × Value)} {st : List Value} {K : kM} (C : k_C X Ts cc own S G nL l R) {off : Int} {tgt : Nat} (hd : decode cc pc = .ok (.if_icmp .ge off, 3)) (ht : (pc : Int) + off = (tgt : Int)) {x y : Int32} (kt : y ≤ x → k_W X n1 n2 tgt lv st K) (kf : ¬ y ≤ x → k_W X n1 n2 (pc + 3) lv st K) : k_W X n1 n2 pc lv (.int y :: .int x :: st) K := by
  obtain ⟨p, l, e, R, s, m, args, below, meth, cd, Q, S', G', A, nL'⟩ := X
  obtain ⟨rfl, rfl, rfl, rfl, rfl, hx, hb, hml, hown, hts, hT, hI, hA, hAf⟩ := C
  exact fun H locs ls hH hS hl => lv_icmp_ge hx hb hd ht (fun h => kt h H locs ls hH hS hl) (fun h => kf h H locs ls hH hS hl)
theorem k_icmp_gt {X : kX} {Ts : List Cond} {cc : ByteArray} {own : String} {S : kS} {G : kG} {nL : Nat} {l : Launch} {R : Room} {n1 n2 pc : Nat} {lv : List (Nat × Value)} {st : List Value} {K : kM} (C : k_C X Ts cc own S G nL l R) {off : Int} {tgt : Nat} (hd : decode cc pc = .ok (.if_icmp .gt off, 3)) (ht : (pc : Int) + off = (tgt : Int)) {x y : Int32} (kt : y < x → k_W X n1 n2 tgt lv st K) (kf : ¬ y < x → k_W X n1 n2 (pc + 3) lv st K) : k_W X n1 n2 pc lv (.int y :: .int x :: st) K := by
  obtain ⟨p, l, e, R, s, m, args, below, meth, cd, Q, S', G', A, nL'⟩ := X
  obtain ⟨rfl, rfl, rfl, rfl, rfl, hx, hb, hml, hown, hts, hT, hI, hA, hAf⟩ := C
  exact fun H locs ls hH hS hl => lv_icmp_gt hx hb hd ht (fun h => kt h H locs ls hH hS hl) (fun h => kf h H locs ls hH hS hl)
theorem k_icmp_le {X : kX} {Ts : List Cond} {cc : ByteArray} {own : String} {S : kS} {G : kG} {nL : Nat} {l : Launch} {R : Room} {n1 n2 pc : Nat} {lv : List (Nat × Value)} {st : List Value} {K : kM} (C : k_C X Ts cc own S G nL l R) {off : Int} {tgt : Nat} (hd : decode cc pc = .ok (.if_icmp .le off, 3)) (ht : (pc : Int) + off = (tgt : Int)) {x y : Int32} (kt : x ≤ y → k_W X n1 n2 tgt lv st K) (kf : ¬ x ≤ y → k_W X n1 n2 (pc + 3) lv st K) : k_W X n1 n2 pc lv (.int y :: .int x :: st) K := by
  obtain ⟨p, l, e, R, s, m, args, below, meth, cd, Q, S', G', A, nL'⟩ := X
  obtain ⟨rfl, rfl, rfl, rfl, rfl, hx, hb, hml, hown, hts, hT, hI, hA, hAf⟩ := C
  exact fun H locs ls hH hS hl => lv_icmp_le hx hb hd ht (fun h => kt h H locs ls hH hS hl) (fun h => kf h H locs ls hH hS hl)
theorem k_goto {X : kX} {Ts : List Cond} {cc : ByteArray} {own : String} {S : kS} {G : kG} {nL : Nat} {l : Launch} {R : Room} {n1 n2 pc : Nat} {lv : List (Nat × Value)} {st : List Value} {K : kM} (C : k_C X Ts cc own S G nL l R) {off : Int} {tgt : Nat} (hd : decode cc pc = .ok (.goto off, 3)) (ht : (pc : Int) + off = (tgt : Int)) (k : k_W X n1 n2 tgt lv st K) : k_W X n1 n2 pc lv st K := by
  obtain ⟨p, l, e, R, s, m, args, below, meth, cd, Q, S', G', A, nL'⟩ := X
  obtain ⟨rfl, rfl, rfl, rfl, rfl, hx, hb, hml, hown, hts, hT, hI, hA, hAf⟩ := C
  exact fun H locs ls hH hS hl => lv_goto hx hb hd ht (k H locs ls hH hS hl)
theorem k_tabIn {X : kX} {Ts : List Cond} {cc : ByteArray} {own : String} {S : kS} {G : kG} {nL : Nat} {l : Launch} {R : Room} {n1 n2 pc : Nat} {lv : List (Nat × Value)} {st : List Value} {K : kM} (C : k_C X Ts cc own S G nL l R) {dflt lo hi : Int} {offs : Array Int} {len : Nat} {x : Int32} {off : Int} {tgt : Nat} (hd : decode cc pc = .ok (.tableswitch dflt lo hi offs, len)) (h1 : ¬ x.toInt < lo) (h2 : ¬ hi < x.toInt) (ho : offs[(x.toInt - lo).toNat]? = some off) (ht : (pc : Int) + off = (tgt : Int)) (k : k_W X n1 n2 tgt lv st K) : k_W X n1 n2 pc lv (.int x :: st) K := by
  obtain ⟨p, l, e, R, s, m, args, below, meth, cd, Q, S', G', A, nL'⟩ := X
  obtain ⟨rfl, rfl, rfl, rfl, rfl, hx, hb, hml, hown, hts, hT, hI, hA, hAf⟩ := C
  exact fun H locs ls hH hS hl => lv_tableIn hx hb hd h1 h2 ho ht (k H locs ls hH hS hl)
theorem k_tabOut {X : kX} {Ts : List Cond} {cc : ByteArray} {own : String} {S : kS} {G : kG} {nL : Nat} {l : Launch} {R : Room} {n1 n2 pc : Nat} {lv : List (Nat × Value)} {st : List Value} {K : kM} (C : k_C X Ts cc own S G nL l R) {dflt lo hi : Int} {offs : Array Int} {len : Nat} {x : Int32} {tgt : Nat} (hd : decode cc pc = .ok (.tableswitch dflt lo hi offs, len)) (h : x.toInt < lo ∨ hi < x.toInt) (ht : (pc : Int) + dflt = (tgt : Int)) (k : k_W X n1 n2 tgt lv st K) : k_W X n1 n2 pc lv (.int x :: st) K := by
  obtain ⟨p, l, e, R, s, m, args, below, meth, cd, Q, S', G', A, nL'⟩ := X
  obtain ⟨rfl, rfl, rfl, rfl, rfl, hx, hb, hml, hown, hts, hT, hI, hA, hAf⟩ := C
  exact fun H locs ls hH hS hl => lv_tableOut hx hb hd h ht (k H locs ls hH hS hl)
theorem k_lookup {X : kX} {Ts : List Cond} {cc : ByteArray} {own : String} {S : kS} {G : kG} {nL : Nat} {l : Launch} {R : Room} {n1 n2 pc : Nat} {lv : List (Nat × Value)} {st : List Value} {K : kM} (C : k_C X Ts cc own S G nL l R) {dflt : Int} {ps : Array (Int × Int)} {len : Nat} {x : Int32} {off : Int} {tgt : Nat} (hd : decode cc pc = .ok (.lookupswitch dflt ps, len)) (hp : (ps.toList.zip (ps.toList.drop 1)).all (fun (a, next) => a.1 < next.1) = true) (ho : Op.lookupswitch.offset ps.toList dflt x.toInt = off) (ht : (pc : Int) + off = (tgt : Int)) (k : k_W X n1 n2 tgt lv st K) : k_W X n1 n2 pc lv (.int x :: st) K := by
  obtain ⟨p, l, e, R, s, m, args, below, meth, cd, Q, S', G', A, nL'⟩ := X
  obtain ⟨rfl, rfl, rfl, rfl, rfl, hx, hb, hml, hown, hts, hT, hI, hA, hAf⟩ := C
  exact fun H locs ls hH hS hl => lv_lookup hx hb hd hp ho ht (k H locs ls hH hS hl)
def k_fld (S : kS) (Ts : List Cond) (own : String) (idx f j c : Nat) (rf : kR) : Prop := ∃ (ci n : Nat) (Cn ref nm ds : String) (T : u_T), S.2.2[f]? = some (c, .inl (ci, n, rf)) ∧ S.1[ci]? = some (Cn, T, n) ∧ (∀ w ∈ u_ws Cn T n, w ∈ Ts) ∧ ((T j).1, (T j).2.1, (T j).2.2.1) = (ref, nm, ds) ∧ j < n ∧ Cond.fieldLink own idx ref nm ds ∈ Ts
def k_fldP (S : kS) (Ts : List Cond) (own : String) (idx f j c : Nat) (rf : kR) : Prop := ∃ (ci n : Nat) (Cn ref nm : String) (T : u_T) (ty0 : Nat → FieldType), S.2.2[f]? = some (c, .inl (ci, n, rf)) ∧ S.1[ci]? = some (Cn, T, n) ∧ (∀ w ∈ u_ws Cn T n, w ∈ Ts) ∧ (∀ k, k < n → parseFieldDescriptor (T k).2.2.1 = some (ty0 k)) ∧ (∀ a, a < n → ∀ b, b < n → a ≠ b → (T a).2.1 ≠ (T b).2.1) ∧ T j = (ref, nm, "I", false) ∧ j < n ∧ Cond.fieldLink own idx ref nm "I" ∈ Ts
def k_Inv (rng : Nat → Nat → Nat → Int32 → Prop) (K : kM) : Prop := ∀ f i j : Nat, rng f i j (K f i j)
theorem k_Inv.up {rng : Nat → Nat → Nat → Int32 → Prop} {K : kM} {f i j : Nat} {x : Int32} (I : k_Inv rng K) (h : rng f i j x) : k_Inv rng (k_up K f i j x) := by
  intro a b c
  unfold k_up
  by_cases q : a = f ∧ c = j ∧ b = i
  · rw [if_pos q]
    obtain ⟨rfl, rfl, rfl⟩ := q
    exact h
  · rw [if_neg q]
    exact I a b c
theorem k_in {x : Int32} {n : Nat} (h : ¬ (x < 0 ∨ n ≤ x.toNatClampNeg)) : vp_in x n := h
theorem k_lt {x : Int32} {n : Nat} (h : vp_in x n) : x.toNatClampNeg < n := Nat.not_le.mp fun q => h (Or.inr q)
theorem k_getv {X : kX} {Ts : List Cond} {cc : ByteArray} {own : String} {S : kS} {G : kG} {nL : Nat} {l : Launch} {R : Room} {n1 n2 pc : Nat} {lv : List (Nat × Value)} {st : List Value} {K : kM} (C : k_C X Ts cc own S G nL l R) {idx : Nat} (hd : decode cc pc = .ok (.getfield idx, 3)) {f i j c : Nat} {rf : kR} (hq : k_fld S Ts own idx f j c rf) (hi : i < c) (k : k_W X n1 n2 (pc + 3) lv (k_v G.2.2 (rf i j) (K f i j) :: st) K) : k_W X n1 n2 pc lv (.ref (G.2.2 f i) :: st) K := by
  obtain ⟨p, l, e, R, s, m, args, below, meth, cd, Q, S', G', A, nL'⟩ := X
  obtain ⟨rfl, rfl, rfl, rfl, rfl, hx, hb, hml, hown, hts, hT, hI, hA, hAf⟩ := C
  obtain ⟨ci, n, Cn, ref, nm, ds, T, hf, hc, hin, hT0, hj, hlink⟩ := hq
  cases hT0
  exact fun H locs ls hH hS hl => va_get hx hb hts hin hown hT (k_one hH hf hi) 0 rfl hc j hj (hts _ hlink) (fun _ h9 => h9) (by simp [hj]) hd (k H locs ls hH hS hl)
theorem k_get {X : kX} {Ts : List Cond} {cc : ByteArray} {own : String} {S : kS} {G : kG} {nL : Nat} {l : Launch} {R : Room} {n1 n2 pc : Nat} {lv : List (Nat × Value)} {st : List Value} {K : kM} (C : k_C X Ts cc own S G nL l R) {idx : Nat} (hd : decode cc pc = .ok (.getfield idx, 3)) {f i j c : Nat} {rf : kR} (hq : k_fld S Ts own idx f j c rf) (hi : i < c) (hr : rf i j = none) (k : k_W X n1 n2 (pc + 3) lv (.int (K f i j) :: st) K) : k_W X n1 n2 pc lv (.ref (G.2.2 f i) :: st) K := by
  refine k_getv C hd hq hi ?_
  rw [hr]
  exact k
theorem k_getr {X : kX} {Ts : List Cond} {cc : ByteArray} {own : String} {S : kS} {G : kG} {nL : Nat} {l : Launch} {R : Room} {n1 n2 pc : Nat} {lv : List (Nat × Value)} {st : List Value} {K : kM} (C : k_C X Ts cc own S G nL l R) {idx : Nat} (hd : decode cc pc = .ok (.getfield idx, 3)) {f i j c f' i' : Nat} {rf : kR} (hq : k_fld S Ts own idx f j c rf) (hi : i < c) (hr : rf i j = some (f', i')) (k : k_W X n1 n2 (pc + 3) lv (.ref (G.2.2 f' i') :: st) K) : k_W X n1 n2 pc lv (.ref (G.2.2 f i) :: st) K := by
  refine k_getv C hd hq hi ?_
  rw [hr]
  exact k
theorem k_put {X : kX} {Ts : List Cond} {cc : ByteArray} {own : String} {S : kS} {G : kG} {nL : Nat} {l : Launch} {R : Room} {n1 n2 pc : Nat} {lv : List (Nat × Value)} {st : List Value} {K : kM} (C : k_C X Ts cc own S G nL l R) {idx : Nat} (hd : decode cc pc = .ok (.putfield idx, 3)) {f i j c : Nat} {rf : kR} (hq : k_fldP S Ts own idx f j c rf) (hi : i < c) (hr : rf i j = none) {x : Int32} {rng : Nat → Nat → Nat → Int32 → Prop} (I : k_Inv rng K) (hg : rng f i j x) (k : k_Inv rng (k_up K f i j x) → k_W X n1 n2 (pc + 3) lv st (k_up K f i j x)) : k_W X n1 n2 pc lv (.int x :: .ref (G.2.2 f i) :: st) K := by
  have k := k (I.up hg)
  obtain ⟨p, l, e, R, s, m, args, below, meth, cd, Q, S', G', A, nL'⟩ := X
  obtain ⟨rfl, rfl, rfl, rfl, rfl, hx, hb, hml, hown, hts, hT, hI, hA, hAf⟩ := C
  obtain ⟨ci, n, Cn, ref, nm, T, ty0, hf, hc, hin, hty, hnm, hT0, hj, hlink⟩ := hq
  refine fun H locs ls hH hS hl => ?_
  have hap := va_apart (own := own) hts hin ty0 hty hnm hT hc
  obtain ⟨r, h1, cell, q1, q2, q3, q4⟩ := hH f c _ i hf hi
  have hr1 : r = (Cn, T, n) := Option.some.inj (h1.symm.trans hc)
  subst hr1
  obtain ⟨hS1, hfc, kC, hkC, hkind⟩ := hT.1 ci _ hc
  obtain ⟨cf, kf, fi, fd, hi1, hsl⟩ := hS1 j hj
  have hlay := hts _ (hin _ (u_in_lay hj))
  have hin1 := (u_facts hfc hkC (u_lays hts hin hj) hi1).1
  unfold u_lay at hlay
  dsimp only at hi1
  rw [hT0] at hlay hi1
  rw [if_neg (show ¬ (false = true) from Bool.false_ne_true)] at hlay
  have h6 := u_store (v := .int x) hfc hkC hkind hlay hi1 (by decide +kernel : parseFieldDescriptor "I" = some .int) rfl rfl
  refine W.putK hx hb (f := fd) ⟨hown, hts _ hlink, ⟨_, _, _, hi1⟩, hin1⟩ (by rw [q2]; exact h6) q1 q3 (by rw [hsl]; exact k2_hasslot (q4 j hj)) rfl rfl hd fun H' e1 e2 e3 => ?_
  rw [hsl] at e1 ⊢
  refine k H' _ ls (hH.put hI hf hi ⟨_, hc, ?_⟩ e3) (hS.put e2 e3 (hAf f c _ i hf hi)) hl
  have hlen : j < ((List.range n).map (fun a => k_v G'.2.2 (rf i a) (K f i a))).length := by simpa using hj
  have hob := t_OB.to (V := updV (vp_V ((List.range n).map (fun a => k_v G'.2.2 (rf i a) (K f i a)))) j (.int x)) ⟨_, e1, q2, q3, t_set q4 hap hj (.int x)⟩ (fun a _ => vp_updV_set hlen (.int x) a)
  rw [k_fs_put hr] at hob
  exact hob
def k_arr (S : kS) (f c n : Nat) (ty : FieldType) : Prop := ∃ t : Nat, S.2.2[f]? = some (c, .inr (.inl (t, n))) ∧ S.2.1[t]? = some ty
def k_arq (S : kS) (f c n : Nat) (rf : kR) : Prop := ∃ (t : Nat) (Cn : String), S.2.2[f]? = some (c, .inr (.inr (t, n, rf))) ∧ S.2.1[t]? = some (.object Cn)
theorem k_iaload {X : kX} {Ts : List Cond} {cc : ByteArray} {own : String} {S : kS} {G : kG} {nL : Nat} {l : Launch} {R : Room} {n1 n2 pc : Nat} {lv : List (Nat × Value)} {st : List Value} {K : kM} (C : k_C X Ts cc own S G nL l R) (hd : decode cc pc = .ok (.iaload, 1)) {f i c n j : Nat} (hq : k_arr S f c n .int) (hi : i < c) {x : Int32} (hin : vp_in x n) (hj : x.toNatClampNeg = j) (k : k_W X n1 n2 (pc + 1) lv (.int (K f i j) :: st) K) : k_W X n1 n2 pc lv (.int x :: .ref (G.2.2 f i) :: st) K := by
  obtain ⟨p, l, e, R, s, m, args, below, meth, cd, Q, S', G', A, nL'⟩ := X
  obtain ⟨rfl, rfl, rfl, rfl, rfl, hx, hb, hml, hown, hts, hT, hI, hA, hAf⟩ := C
  obtain ⟨t, hf, ht⟩ := hq
  subst hj
  exact fun H locs ls hH hS hl => va_iald hx hb hT (k_one hH hf hi) 0 t rfl (k_tyat ht) hin hd (k H locs ls hH hS hl)
theorem k_zaload {X : kX} {Ts : List Cond} {cc : ByteArray} {own : String} {S : kS} {G : kG} {nL : Nat} {l : Launch} {R : Room} {n1 n2 pc : Nat} {lv : List (Nat × Value)} {st : List Value} {K : kM} (C : k_C X Ts cc own S G nL l R) (hd : decode cc pc = .ok (.baload, 1)) {f i c n j : Nat} (hq : k_arr S f c n .boolean) (hi : i < c) {x : Int32} (hin : vp_in x n) (hj : x.toNatClampNeg = j) (k : k_W X n1 n2 (pc + 1) lv (.int (K f i j) :: st) K) : k_W X n1 n2 pc lv (.int x :: .ref (G.2.2 f i) :: st) K := by
  obtain ⟨p, l, e, R, s, m, args, below, meth, cd, Q, S', G', A, nL'⟩ := X
  obtain ⟨rfl, rfl, rfl, rfl, rfl, hx, hb, hml, hown, hts, hT, hI, hA, hAf⟩ := C
  obtain ⟨t, hf, ht⟩ := hq
  subst hj
  exact fun H locs ls hH hS hl => va_zald hx hb hT (k_one hH hf hi) 0 t rfl (k_tyat ht) hin hd (k H locs ls hH hS hl)
theorem k_aaload {X : kX} {Ts : List Cond} {cc : ByteArray} {own : String} {S : kS} {G : kG} {nL : Nat} {l : Launch} {R : Room} {n1 n2 pc : Nat} {lv : List (Nat × Value)} {st : List Value} {K : kM} (C : k_C X Ts cc own S G nL l R) (hd : decode cc pc = .ok (.aaload, 1)) {f i c n j f' i' : Nat} {rf : kR} (hq : k_arq S f c n rf) (hi : i < c) {x : Int32} (hin : vp_in x n) (hj : x.toNatClampNeg = j) (hr : rf i j = some (f', i')) (k : k_W X n1 n2 (pc + 1) lv (.ref (G.2.2 f' i') :: st) K) : k_W X n1 n2 pc lv (.int x :: .ref (G.2.2 f i) :: st) K := by
  obtain ⟨p, l, e, R, s, m, args, below, meth, cd, Q, S', G', A, nL'⟩ := X
  obtain ⟨rfl, rfl, rfl, rfl, rfl, hx, hb, hml, hown, hts, hT, hI, hA, hAf⟩ := C
  obtain ⟨t, Cn, hf, ht⟩ := hq
  subst hj
  refine fun H locs ls hH hS hl => va_aldq hx hb hT (k_one hH hf hi) 0 t rfl (k_tyat ht) hin hd ?_
  dsimp only
  rw [hr]
  exact k H locs ls hH hS hl
theorem k_alen {X : kX} {Ts : List Cond} {cc : ByteArray} {own : String} {S : kS} {G : kG} {nL : Nat} {l : Launch} {R : Room} {n1 n2 pc : Nat} {lv : List (Nat × Value)} {st : List Value} {K : kM} (C : k_C X Ts cc own S G nL l R) (hd : decode cc pc = .ok (.arraylength, 1)) {f i c n : Nat} {ty : FieldType} (hq : k_arr S f c n ty) (hi : i < c) {v : Int32} (hv : Int32.ofNat n = v) (k : k_W X n1 n2 (pc + 1) lv (.int v :: st) K) : k_W X n1 n2 pc lv (.ref (G.2.2 f i) :: st) K := by
  obtain ⟨p, l, e, R, s, m, args, below, meth, cd, Q, S', G', A, nL'⟩ := X
  obtain ⟨rfl, rfl, rfl, rfl, rfl, hx, hb, hml, hown, hts, hT, hI, hA, hAf⟩ := C
  obtain ⟨t, hf, ht⟩ := hq
  exact fun H locs ls hH hS hl => va_alen hx hb hT (k_one hH hf hi) 0 t rfl (k_tyat ht) hv hd (k H locs ls hH hS hl)
theorem k_iastore {X : kX} {Ts : List Cond} {cc : ByteArray} {own : String} {S : kS} {G : kG} {nL : Nat} {l : Launch} {R : Room} {n1 n2 pc : Nat} {lv : List (Nat × Value)} {st : List Value} {K : kM} (C : k_C X Ts cc own S G nL l R) (hd : decode cc pc = .ok (.iastore, 1)) {f i c n j : Nat} (hq : k_arr S f c n .int) (hi : i < c) {y x : Int32} (hin : vp_in y n) (hj : y.toNatClampNeg = j) {rng : Nat → Nat → Nat → Int32 → Prop} (I : k_Inv rng K) (hg : rng f i j x) (k : k_Inv rng (k_up K f i j x) → k_W X n1 n2 (pc + 1) lv st (k_up K f i j x)) : k_W X n1 n2 pc lv (.int x :: .int y :: .ref (G.2.2 f i) :: st) K := by
  have k := k (I.up hg)
  obtain ⟨p, l, e, R, s, m, args, below, meth, cd, Q, S', G', A, nL'⟩ := X
  obtain ⟨rfl, rfl, rfl, rfl, rfl, hx, hb, hml, hown, hts, hT, hI, hA, hAf⟩ := C
  obtain ⟨t, hf, ht⟩ := hq
  subst hj
  refine fun H locs ls hH hS hl => W.iast hx hb (hH f c _ i hf hi) ((hT.2 t _ (k_tyat ht)).1 n (fun a => .int (K f i a))) (fun q => by cases q) (by show ¬ (y < 0 ∨ (arrV _ _ _).slots.size ≤ _); rw [arrV_size]; exact hin) rfl rfl hd fun H1 e z oq => ?_
  refine k H1 _ ls (hH.put hI hf hi ?_ oq) (hS.put z oq (hAf f c _ i hf hi)) hl
  show H1[G'.2.2 f i]? = some (vp_cell (G'.2.1 t) (n, .inl (k_up K f i y.toNatClampNeg x f i)))
  rw [e, k_up_arr]
  show some ((vp_cell (G'.2.1 t) (n, .inl (K f i))).setSlot _ _) = _
  rw [vp_cell_i, vp_cell_i, arrV_store]
  congr 2
  funext q
  by_cases hq : q = y.toNatClampNeg
  · subst hq
    simp [updV, upd]
  · simp [updV, upd, hq]
theorem k_zastore {X : kX} {Ts : List Cond} {cc : ByteArray} {own : String} {S : kS} {G : kG} {nL : Nat} {l : Launch} {R : Room} {n1 n2 pc : Nat} {lv : List (Nat × Value)} {st : List Value} {K : kM} (C : k_C X Ts cc own S G nL l R) (hd : decode cc pc = .ok (.bastore, 1)) {f i c n j : Nat} (hq : k_arr S f c n .boolean) (hi : i < c) {y x : Int32} (hin : vp_in y n) (hj : y.toNatClampNeg = j) (hz : narrow .boolean (.int x) = .int x) {rng : Nat → Nat → Nat → Int32 → Prop} (I : k_Inv rng K) (hg : rng f i j x) (k : k_Inv rng (k_up K f i j x) → k_W X n1 n2 (pc + 1) lv st (k_up K f i j x)) : k_W X n1 n2 pc lv (.int x :: .int y :: .ref (G.2.2 f i) :: st) K := by
  have k := k (I.up hg)
  obtain ⟨p, l, e, R, s, m, args, below, meth, cd, Q, S', G', A, nL'⟩ := X
  obtain ⟨rfl, rfl, rfl, rfl, rfl, hx, hb, hml, hown, hts, hT, hI, hA, hAf⟩ := C
  obtain ⟨t, hf, ht⟩ := hq
  subst hj
  refine fun H locs ls hH hS hl => W.zast hx hb (hH f c _ i hf hi) ((hT.2 t _ (k_tyat ht)).1 n (fun a => .int (K f i a))) (fun q => by cases q) (by show ¬ (y < 0 ∨ (arrV _ _ _).slots.size ≤ _); rw [arrV_size]; exact hin) rfl rfl hd fun H1 e z oq => ?_
  rw [hz] at e
  refine k H1 _ ls (hH.put hI hf hi ?_ oq) (hS.put z oq (hAf f c _ i hf hi)) hl
  show H1[G'.2.2 f i]? = some (vp_cell (G'.2.1 t) (n, .inl (k_up K f i y.toNatClampNeg x f i)))
  rw [e, k_up_arr]
  show some ((vp_cell (G'.2.1 t) (n, .inl (K f i))).setSlot _ _) = _
  rw [vp_cell_i, vp_cell_i, arrV_store]
  congr 2
  funext q
  by_cases hq : q = y.toNatClampNeg
  · subst hq
    simp [updV, upd]
  · simp [updV, upd, hq]
theorem k_ireturn {X : kX} {Ts : List Cond} {cc : ByteArray} {own : String} {S : kS} {G : kG} {nL : Nat} {l : Launch} {R : Room} {n1 n2 pc : Nat} {lv : List (Nat × Value)} {K : kM} (C : k_C X Ts cc own S G nL l R) {v : Int32} (E : k_E X (some .int) (some (.int v)) K n1 n2) (hd : decode cc pc = .ok (.ireturn, 1)) : k_W X n1 n2 pc lv [.int v] K := by
  obtain ⟨p, l, e, R, s, m, args, below, meth, cd, Q, S', G', A, nL'⟩ := X
  obtain ⟨rfl, rfl, rfl, rfl, rfl, hx, hb, hml, hown, hts, hT, hI, hA, hAf⟩ := C
  obtain ⟨rfl, hr, hlk⟩ := E
  exact fun H locs ls hH hS hl => W.iret hx hb hr (fun t ht hW => ⟨rfl, by rw [ht]; exact hH, hS.F ht⟩) hS.2.2 hd hlk
theorem k_zreturn {X : kX} {Ts : List Cond} {cc : ByteArray} {own : String} {S : kS} {G : kG} {nL : Nat} {l : Launch} {R : Room} {n1 n2 pc : Nat} {lv : List (Nat × Value)} {K : kM} (C : k_C X Ts cc own S G nL l R) {v : Int32} (E : k_E X (some .boolean) (some (.int v)) K n1 n2) (hd : decode cc pc = .ok (.ireturn, 1)) (hn : narrow .boolean (.int v) = .int v) : k_W X n1 n2 pc lv [.int v] K := by
  obtain ⟨p, l, e, R, s, m, args, below, meth, cd, Q, S', G', A, nL'⟩ := X
  obtain ⟨rfl, rfl, rfl, rfl, rfl, hx, hb, hml, hown, hts, hT, hI, hA, hAf⟩ := C
  obtain ⟨rfl, hr, hlk⟩ := E
  exact fun H locs ls hH hS hl => W.zret hx hb hr hn (fun t ht hW => ⟨rfl, by rw [ht]; exact hH, hS.F ht⟩) hS.2.2 hd hlk
theorem k_return {X : kX} {Ts : List Cond} {cc : ByteArray} {own : String} {S : kS} {G : kG} {nL : Nat} {l : Launch} {R : Room} {n1 n2 pc : Nat} {lv : List (Nat × Value)} {K : kM} (C : k_C X Ts cc own S G nL l R) (E : k_E X none none K n1 n2) (hd : decode cc pc = .ok (.return_, 1)) : k_W X n1 n2 pc lv [] K := by
  obtain ⟨p, l, e, R, s, m, args, below, meth, cd, Q, S', G', A, nL'⟩ := X
  obtain ⟨rfl, rfl, rfl, rfl, rfl, hx, hb, hml, hown, hts, hT, hI, hA, hAf⟩ := C
  obtain ⟨rfl, hr, hlk⟩ := E
  exact fun H locs ls hH hS hl => W.vret hx hb hr (fun t ht hW => ⟨rfl, by rw [ht]; exact hH, hS.F ht⟩) hS.2.2 hd hlk
theorem k_E.to {X : kX} {ret : Option FieldType} {r r' : Option Value} {K2 K2' : kM} {mc ms : Nat} (E : k_E X ret r K2 mc ms) (h1 : r = r') (h2 : K2 = K2') : k_E X ret r' K2' mc ms := h1 ▸ h2 ▸ E
def k_obj (S : kS) (f c : Nat) (Cn : String) : Prop := ∃ (ci nf : Nat) (rf : kR) (T : u_T), S.2.2[f]? = some (c, .inl (ci, nf, rf)) ∧ S.1[ci]? = some (Cn, T, nf)
def k_site (Ts : List Cond) (own : String) (idx : Nat) (y : MethodName) (cy : ByteArray) (nLy : Nat) (ry : Option FieldType) (n : Nat) : Prop := Cond.code y cy nLy ry ∈ Ts ∧ Cond.methodLink own idx y ∈ Ts ∧ Cond.initialized y.cls ∈ Ts ∧ y.cls ≠ "java/lang/invoke/MethodHandle" ∧ y.cls ≠ "java/lang/invoke/VarHandle" ∧ (parseMethodDescriptor y.desc).map (fun d => d.parameters.length) = some n
theorem k_blind {S : kS} {G : kG} {args : List Value} {K : kM} {sz : Nat} : FrameBlind (k_Pc S G args K sz) := fun a U g mk q => by
  obtain ⟨q0, q1, qP, qK, qD⟩ := q
  exact ⟨q0, q1, qP, va_K.moved (u := U) (U := U.calling g mk a) (Vm.Alike.refl U.vm) qK, qD⟩
theorem k_good {Ts : List Cond} {y : MethodName} {cy : ByteArray} {nLy : Nat} {ry : Option FieldType} (hg : GoodIn Ts Ts) (hc : Cond.code y cy nLy ry ∈ Ts) : GoodIn Ts (.code y cy nLy ry :: Ts) := fun w hw => by
  rcases List.mem_cons.mp hw with h | h
  · subst h
    exact ⟨hc, Or.inl rfl⟩
  · exact hg w h
theorem k_back {p : Program} {l : Launch} {e : Env} {R : Room} {s : State} {m : MethodId} {args : Array Value} {below : List Frame} {meth : Method} {c : Code} {H H0 : Heap} {locs : List Loc} {n1 n2 pc : Nat} {Q : State → Prop} {ls : Array Slot} {st rest : List Value} {S : kS} {G : kG} {A : Nat → Prop} {r : Option Value} {K2 : kM} {a : Array Value}
    (hr : va_Run p l e R s m args below meth c H locs n1 n2 0 0 (F0 m pc ls st) rest (k_Qc S G r K2 (k_A S G H.size) a) (k_A S G H.size)) (hS : va_S A H0 H locs) (hA : ∀ q, H0.size ≤ q → A q) (hAf : ∀ (f c : Nat) (k : kF) (i : Nat), S.2.2[f]? = some (c, k) → i < c → A (G.2.2 f i))
    (kk : ∀ (H1 : Heap) (locs1 : List Loc), k_H S G K2 H1 → va_S A H0 H1 locs1 → W p l e R s m args below meth c H1 locs1 n1 n2 Q (F0 m (pc + 3) ls (r.toList ++ rest))) : W p l e R s m args below meth c H locs n1 n2 Q (F0 m pc ls st) := by
  intro T hT X
  obtain ⟨v, st₀, t, T', L, h0, X', hL, e1, e2, ⟨hv, hH, hz, hk⟩, stp⟩ := hr T hT X
  cases hv
  rw [h0] at hz hk
  have hin : ∀ q, k_A S G H.size q → A q := fun q hq => by
    rcases hq with ⟨f, c, k, i, h1, h2, rfl⟩ | h
    · exact hAf f c k i h1 h2
    · exact hA q (Nat.le_trans hS.1 h)
  obtain ⟨t2, a1, b1⟩ := kk T'.heap (locs ++ L) (by rw [e1]; exact hH)
    ⟨Nat.le_trans hS.1 (by rw [e1]; exact hz), fun q h1 h2 => by rw [e1, hk q (Nat.lt_of_lt_of_le h1 hS.1) (fun z => h2 (hin q z))]; exact hS.2.1 q h1 h2, fun q hq => by
      rcases List.mem_append.mp hq with h | h
      · exact hS.2.2 q h
      · exact hin _ (hL q h)⟩ T' rfl X'
  exact ⟨t2, stp t2 a1, b1⟩
theorem k_callV {X : kX} {Ts : List Cond} {cc : ByteArray} {own : String} {S : kS} {G : kG} {nL : Nat} {l : Launch} {R : Room} {n1 n2 pc : Nat} {lv : List (Nat × Value)} {st : List Value} {K : kM} (C : k_C X Ts cc own S G nL l R) (hg : GoodIn Ts Ts) {idx n nLy : Nat} {y : MethodName} {cy : ByteArray} {ry : Option FieldType} {rm : Room} {As rest : List Value} {r : Option Value} {K2 : kM} {f i c : Nat}
    (hM : k_Met l S Ts y cy nLy ry rm G (.ref (G.2.2 f i) :: As) K r K2) (hs : k_site Ts own idx y cy nLy ry n) (hv : Cond.instanceMethod y ∈ Ts ∧ Cond.selects y.cls y y ∈ Ts) (hb0 : k_obj S f c y.cls) (hi : i < c)
    (hn : As.length = n) (hst : st = As.reverse ++ .ref (G.2.2 f i) :: rest) (hrest : (rest.map fun v => v.category).sum ≤ 8) (hrc : rm.cells = 0 ∧ rm.slots = 0) (hR : rm.frames + 1 ≤ R.frames ∧ 8 + (nLy + 11) + rm.locals ≤ R.locals) (hcs : n1 ≤ R.cells ∧ n2 ≤ R.slots) (hd : decode cc pc = .ok (.invokevirtual idx, 3))
    (k : k_W X n1 n2 (pc + 3) lv (r.toList ++ rest) K2) : k_W X n1 n2 pc lv st K := by
  obtain ⟨p, l, e, R, s, m, args, below, meth, cd, Q, S', G', A, nL'⟩ := X
  obtain ⟨rfl, rfl, rfl, rfl, rfl, hx, hb, hml, hown, hts, hT, hI, hA, hAf⟩ := C
  obtain ⟨s1, s2, s3, s4, s5, s6⟩ := hs
  obtain ⟨ci, nf, rf, T, hf, hc⟩ := hb0
  refine fun H locs ls hH hS hl => ?_
  refine k_back (va_runV (As := As) (rest := rest) ⟨hx, hb, hml, hown, hts⟩ (hM H.size) ⟨callB_of n hts (k_good hg s1) rfl hrc.1 hrc.2 (hts _ s3) (hts _ s2) ⟨s4, s5, s6⟩ hR, hts _ hv.1, hts _ hv.2⟩ ⟨k_blind, va_recv hT (k_one hH hf hi) (ci := ci) (q0 := 0) hc rfl, fun U hU hW => ⟨rfl, by rw [hU], by rw [hU]; exact hH, va_K.moved hW.alike hT, hI⟩⟩ rfl hn hl.1 hst (lv_room hrest) hd hcs) hS hA hAf (fun H1 locs1 hH1 hS1 => k H1 locs1 ls hH1 hS1 hl)
theorem k_callS {X : kX} {Ts : List Cond} {cc : ByteArray} {own : String} {S : kS} {G : kG} {nL : Nat} {l : Launch} {R : Room} {n1 n2 pc : Nat} {lv : List (Nat × Value)} {st : List Value} {K : kM} (C : k_C X Ts cc own S G nL l R) (hg : GoodIn Ts Ts) {idx n nLy : Nat} {y : MethodName} {cy : ByteArray} {ry : Option FieldType} {rm : Room} {As rest : List Value} {r : Option Value} {K2 : kM}
    (hM : k_Met l S Ts y cy nLy ry rm G As K r K2) (hs : k_site Ts own idx y cy nLy ry n) (hv : Cond.static y ∈ Ts)
    (hn : As.length = n) (hst : st = As.reverse ++ rest) (hrest : (rest.map fun v => v.category).sum ≤ 8) (hrc : rm.cells = 0 ∧ rm.slots = 0) (hR : rm.frames + 1 ≤ R.frames ∧ 8 + (nLy + 11) + rm.locals ≤ R.locals) (hcs : n1 ≤ R.cells ∧ n2 ≤ R.slots) (hd : decode cc pc = .ok (.invokestatic idx, 3))
    (k : k_W X n1 n2 (pc + 3) lv (r.toList ++ rest) K2) : k_W X n1 n2 pc lv st K := by
  obtain ⟨p, l, e, R, s, m, args, below, meth, cd, Q, S', G', A, nL'⟩ := X
  obtain ⟨rfl, rfl, rfl, rfl, rfl, hx, hb, hml, hown, hts, hT, hI, hA, hAf⟩ := C
  obtain ⟨s1, s2, s3, s4, s5, s6⟩ := hs
  refine fun H locs ls hH hS hl => ?_
  refine k_back (va_runS (As := As) (rest := rest) ⟨hx, hb, hml, hown, hts⟩ (hM H.size) ⟨callB_of n hts (k_good hg s1) rfl hrc.1 hrc.2 (hts _ s3) (hts _ s2) ⟨s4, s5, s6⟩ hR, hts _ hv⟩ ⟨k_blind, fun U hU hW => ⟨rfl, by rw [hU], by rw [hU]; exact hH, va_K.moved hW.alike hT, hI⟩⟩ rfl hn hl.1 hst (lv_room hrest) hd hcs) hS hA hAf (fun H1 locs1 hH1 hS1 => k H1 locs1 ls hH1 hS1 hl)
theorem k_callVi {X : kX} {Ts : List Cond} {cc : ByteArray} {own : String} {S : kS} {G : kG} {nL : Nat} {l : Launch} {R : Room} {n1 n2 pc : Nat} {lv : List (Nat × Value)} {st : List Value} {K : kM} (C : k_C X Ts cc own S G nL l R) (hg : GoodIn Ts Ts) {idx n nLy : Nat} {y : MethodName} {cy : ByteArray} {ry : Option FieldType} {rm : Room} {As rest : List Value} {v : Int32} {K2 : kM} {f i c : Nat} (hM : k_Met l S Ts y cy nLy ry rm G (.ref (G.2.2 f i) :: As) K (some (.int v)) K2) (hs : k_site Ts own idx y cy nLy ry n) (hv : Cond.instanceMethod y ∈ Ts ∧ Cond.selects y.cls y y ∈ Ts) (hb0 : k_obj S f c y.cls) (hi : i < c) (hn : As.length = n) (hst : st = As.reverse ++ .ref (G.2.2 f i) :: rest) (hrest : (rest.map fun v => v.category).sum ≤ 8) (hrc : rm.cells = 0 ∧ rm.slots = 0) (hR : rm.frames + 1 ≤ R.frames ∧ 8 + (nLy + 11) + rm.locals ≤ R.locals) (hcs : n1 ≤ R.cells ∧ n2 ≤ R.slots) (hd : decode cc pc = .ok (.invokevirtual idx, 3)) {rng : Nat → Nat → Nat → Int32 → Prop} (I : k_Inv rng K2) (k : k_Inv rng K2 → k_W X n1 n2 (pc + 3) lv (.int v :: rest) K2) : k_W X n1 n2 pc lv st K := k_callV C hg hM hs hv hb0 hi hn hst hrest hrc hR hcs hd (k I)
theorem k_callVv {X : kX} {Ts : List Cond} {cc : ByteArray} {own : String} {S : kS} {G : kG} {nL : Nat} {l : Launch} {R : Room} {n1 n2 pc : Nat} {lv : List (Nat × Value)} {st : List Value} {K : kM} (C : k_C X Ts cc own S G nL l R) (hg : GoodIn Ts Ts) {idx n nLy : Nat} {y : MethodName} {cy : ByteArray} {ry : Option FieldType} {rm : Room} {As rest : List Value} {K2 : kM} {f i c : Nat} (hM : k_Met l S Ts y cy nLy ry rm G (.ref (G.2.2 f i) :: As) K none K2) (hs : k_site Ts own idx y cy nLy ry n) (hv : Cond.instanceMethod y ∈ Ts ∧ Cond.selects y.cls y y ∈ Ts) (hb0 : k_obj S f c y.cls) (hi : i < c) (hn : As.length = n) (hst : st = As.reverse ++ .ref (G.2.2 f i) :: rest) (hrest : (rest.map fun v => v.category).sum ≤ 8) (hrc : rm.cells = 0 ∧ rm.slots = 0) (hR : rm.frames + 1 ≤ R.frames ∧ 8 + (nLy + 11) + rm.locals ≤ R.locals) (hcs : n1 ≤ R.cells ∧ n2 ≤ R.slots) (hd : decode cc pc = .ok (.invokevirtual idx, 3)) {rng : Nat → Nat → Nat → Int32 → Prop} (I : k_Inv rng K2) (k : k_Inv rng K2 → k_W X n1 n2 (pc + 3) lv (rest) K2) : k_W X n1 n2 pc lv st K := k_callV C hg hM hs hv hb0 hi hn hst hrest hrc hR hcs hd (k I)
theorem k_callSi {X : kX} {Ts : List Cond} {cc : ByteArray} {own : String} {S : kS} {G : kG} {nL : Nat} {l : Launch} {R : Room} {n1 n2 pc : Nat} {lv : List (Nat × Value)} {st : List Value} {K : kM} (C : k_C X Ts cc own S G nL l R) (hg : GoodIn Ts Ts) {idx n nLy : Nat} {y : MethodName} {cy : ByteArray} {ry : Option FieldType} {rm : Room} {As rest : List Value} {v : Int32} {K2 : kM} (hM : k_Met l S Ts y cy nLy ry rm G As K (some (.int v)) K2) (hs : k_site Ts own idx y cy nLy ry n) (hv : Cond.static y ∈ Ts) (hn : As.length = n) (hst : st = As.reverse ++ rest) (hrest : (rest.map fun v => v.category).sum ≤ 8) (hrc : rm.cells = 0 ∧ rm.slots = 0) (hR : rm.frames + 1 ≤ R.frames ∧ 8 + (nLy + 11) + rm.locals ≤ R.locals) (hcs : n1 ≤ R.cells ∧ n2 ≤ R.slots) (hd : decode cc pc = .ok (.invokestatic idx, 3)) {rng : Nat → Nat → Nat → Int32 → Prop} (I : k_Inv rng K2) (k : k_Inv rng K2 → k_W X n1 n2 (pc + 3) lv (.int v :: rest) K2) : k_W X n1 n2 pc lv st K := k_callS C hg hM hs hv hn hst hrest hrc hR hcs hd (k I)
theorem k_callSv {X : kX} {Ts : List Cond} {cc : ByteArray} {own : String} {S : kS} {G : kG} {nL : Nat} {l : Launch} {R : Room} {n1 n2 pc : Nat} {lv : List (Nat × Value)} {st : List Value} {K : kM} (C : k_C X Ts cc own S G nL l R) (hg : GoodIn Ts Ts) {idx n nLy : Nat} {y : MethodName} {cy : ByteArray} {ry : Option FieldType} {rm : Room} {As rest : List Value} {K2 : kM} (hM : k_Met l S Ts y cy nLy ry rm G As K none K2) (hs : k_site Ts own idx y cy nLy ry n) (hv : Cond.static y ∈ Ts) (hn : As.length = n) (hst : st = As.reverse ++ rest) (hrest : (rest.map fun v => v.category).sum ≤ 8) (hrc : rm.cells = 0 ∧ rm.slots = 0) (hR : rm.frames + 1 ≤ R.frames ∧ 8 + (nLy + 11) + rm.locals ≤ R.locals) (hcs : n1 ≤ R.cells ∧ n2 ≤ R.slots) (hd : decode cc pc = .ok (.invokestatic idx, 3)) {rng : Nat → Nat → Nat → Int32 → Prop} (I : k_Inv rng K2) (k : k_Inv rng K2 → k_W X n1 n2 (pc + 3) lv (rest) K2) : k_W X n1 n2 pc lv st K := k_callS C hg hM hs hv hn hst hrest hrc hR hcs hd (k I)
def k_subl (lv : List (Nat × Value)) : List (Nat × Value) → Prop
  | [] => True
  | q :: t => lv.lookup q.1 = some q.2 ∧ k_subl lv t
theorem k_subl.of {lv : List (Nat × Value)} : ∀ {lv' : List (Nat × Value)}, k_subl lv lv' → ∀ (i : Nat) (v : Value), lv'.lookup i = some v → lv.lookup i = some v
  | [], _, i, v, h => by simp [List.lookup] at h
  | (a, b) :: t, hs, i, v, h => by
    by_cases hj : i = a
    · subst hj
      simp [List.lookup] at h
      subst h
      exact hs.1
    · have hb : (i == a) = false := by simpa using hj
      simp only [List.lookup, hb] at h
      exact k_subl.of hs.2 i v h
theorem k_loc {X : kX} {n1 n2 pc : Nat} {lv : List (Nat × Value)} (lv' : List (Nat × Value)) {st : List Value} {K : kM} (h : k_subl lv lv') (k : k_W X n1 n2 pc lv' st K) : k_W X n1 n2 pc lv st K := by
  obtain ⟨p, l, e, R, s, m, args, below, meth, cd, Q, S', G', A, nL'⟩ := X
  exact fun H locs ls hH hS hl => k H locs ls hH hS ⟨hl.1, hl.2.1, fun i v hv => hl.2.2 i v (h.of i v hv)⟩
theorem k_top {X : kX} {n1 n2 pc : Nat} {lv : List (Nat × Value)} {st : List Value} {K : kM} {x y : Int32} (h : x = y) (k : k_W X n1 n2 pc lv (.int y :: st) K) : k_W X n1 n2 pc lv (.int x :: st) K := h ▸ k
theorem k_mem {X : kX} {n1 n2 pc : Nat} {lv : List (Nat × Value)} {st : List Value} {K K' : kM} (h : K = K') (k : k_W X n1 n2 pc lv st K') : k_W X n1 n2 pc lv st K := h ▸ k
def k_row (K : kM) (f i : Nat) (h : Nat → Int32) : kM := fun a b c => if a = f ∧ b = i then h c else K a b c
theorem k_row_eq (K : kM) (f i : Nat) (h : Nat → Int32) : k_row K f i h f i = h := by
  funext c
  simp [k_row]
theorem k_row_ne {K : kM} {f i : Nat} {h : Nat → Int32} {f' i' : Nat} (q : ¬ (f' = f ∧ i' = i)) : k_row K f i h f' i' = K f' i' := by
  funext c
  simp only [k_row]
  rw [if_neg q]
theorem k_H.row {S : kS} {G : kG} {K : kM} {H H1 : Heap} {f c i : Nat} {k : kF} {h : Nat → Int32} (hH : k_H S G K H) (hI : k_I S G) (hf : S.2.2[f]? = some (c, k)) (hi : i < c)
    (hn : va_at G.1 S.1 (G.2.2 f i, k_ent G (k_row K f i h) f i k) H1) (ho : ∀ q : Nat, q ≠ G.2.2 f i → H1[q]? = H[q]?) : k_H S G (k_row K f i h) H1 := by
  intro f' c' k' i' hf' hi'
  by_cases hq : G.2.2 f' i' = G.2.2 f i
  · obtain ⟨e1, e2⟩ := hI f' c' k' i' f c k i hf' hi' hf hi hq
    subst e1; subst e2
    cases hf.symm.trans hf'
    exact hn
  · rw [k_ent_congr (K := k_row K f i h) (K' := K) k' (k_row_ne (fun z => hq (by rw [z.1, z.2])))]
    exact (hH f' c' k' i' hf' hi').kept (ho _ hq)
def k_cps (Ts : List Cond) (own : String) (idx : Nat) : Prop := Cond.methodLink own idx arraycopyName ∈ Ts ∧ Cond.native arraycopyName ∈ Ts ∧ Cond.static arraycopyName ∈ Ts ∧ Cond.initialized "java/lang/System" ∈ Ts
theorem k_copy {X : kX} {Ts : List Cond} {cc : ByteArray} {own : String} {S : kS} {G : kG} {nL : Nat} {l : Launch} {R : Room} {n1 n2 pc : Nat} {lv : List (Nat × Value)} {st : List Value} {K : kM} (C : k_C X Ts cc own S G nL l R) {idx : Nat} (hd : decode cc pc = .ok (.invokestatic idx, 3)) (hs : k_cps Ts own idx) {f i cn n0 : Nat} (hq : k_arr S f cn n0 .int) (hi : i < cn) {sp dp n : Int32} (h1 : ¬ sp < 0) (h2 : ¬ dp < 0) (h3 : ¬ n < 0) (h4 : sp.toNatClampNeg + n.toNatClampNeg ≤ n0) (h5 : dp.toNatClampNeg + n.toNatClampNeg ≤ n0) (hframes : 1 ≤ R.frames) (hlocals : (st.map fun v => v.category).sum + (nativeFrameWords "java/lang/System" "arraycopy" 5 + 11) ≤ R.locals) {rng : Nat → Nat → Nat → Int32 → Prop} (I : k_Inv rng (k_row K f i (va_cpy (K f i) (K f i) sp.toNatClampNeg dp.toNatClampNeg n.toNatClampNeg))) (k : k_Inv rng (k_row K f i (va_cpy (K f i) (K f i) sp.toNatClampNeg dp.toNatClampNeg n.toNatClampNeg)) → k_W X n1 n2 (pc + 3) lv st (k_row K f i (va_cpy (K f i) (K f i) sp.toNatClampNeg dp.toNatClampNeg n.toNatClampNeg))) : k_W X n1 n2 pc lv (.int n :: .int dp :: .ref (G.2.2 f i) :: .int sp :: .ref (G.2.2 f i) :: st) K := by
  have k := k I
  obtain ⟨p, l, e, R, s, m, args, below, meth, cd, Q, S', G', A, nL'⟩ := X
  obtain ⟨rfl, rfl, rfl, rfl, rfl, hx, hb, hml, hown, hts, hT, hI, hA, hAf⟩ := C
  obtain ⟨t, hf, ht⟩ := hq
  obtain ⟨s1, s2, s3, s4⟩ := hs
  refine fun H locs ls hH hS hl => ?_
  have nn : ∀ z : Int32, ¬ z < 0 → z.toInt = (z.toNatClampNeg : Int) := by
    intro z hz
    have hz0 : (0 : Int) ≤ z.toInt := by
      have := Int32.not_lt.mp hz
      simpa using Int32.le_iff_toInt_le.mp this
    show z.toInt = ((z.toInt.toNat : Nat) : Int)
    omega
  intro TT hTT XX
  have hc0 : H[G'.2.2 f i]? = some (vp_cell (G'.2.1 t) (n0, .inl (K f i))) := hH f cn _ i hf hi
  obtain ⟨-, k0, hk0, cm0, hkk0⟩ := (hT.2 t _ (k_tyat ht)).1 n0 (fun j => .int (K f i j))
  obtain ⟨vm', X', step⟩ := XX.arraycopy hx hown (hts _ s1) (hts _ s2) (hts _ s3) (hts _ s4) (src := G'.2.2 f i) (dst := G'.2.2 f i) (cs := vp_cell (G'.2.1 t) (n0, .inl (K f i))) (cd := vp_cell (G'.2.1 t) (n0, .inl (K f i))) (srcPos := sp) (destPos := dp) (n := n) (by rw [hTT]; exact hc0) (by rw [hTT]; exact hc0)
    (fun _ h => by cases h) (fun _ h => by cases h) (fun h => by cases h) (fun h => by cases h) hk0 hk0 hkk0 hkk0 (by simp [refKind]) h1 h2 h3
    (by rw [nn sp h1, nn n h3]; show ¬ _ > ((arrV (G'.2.1 t) n0 (fun j => .int (K f i j))).slots.size : Int); rw [arrV_size]; omega)
    (by rw [nn dp h2, nn n h3]; show ¬ _ > ((arrV (G'.2.1 t) n0 (fun j => .int (K f i j))).slots.size : Int); rw [arrV_size]; omega)
    (fun vm₁ _ a ha => by
      have e : (vp_cell (G'.2.1 t) (n0, .inl (K f i))).slots.getD (sp.toNatClampNeg + a) .null = .int (K f i (sp.toNatClampNeg + a)) := by
        show (arrV (G'.2.1 t) n0 (fun j => .int (K f i j))).slots.getD _ _ = _
        rw [Array.getD_eq_getD_getElem?, arrV_read _ _ (by omega)]
        rfl
      refine ⟨?_, ?_⟩
      · rw [e]
        rfl
      · rw [e]
        exact trivial)
    (g := F0 m pc ls (.int n :: .int dp :: .ref (G'.2.2 f i) :: .int sp :: .ref (G'.2.2 f i) :: st)) rfl (by rw [hml]; exact hl.1) (rest := st) rfl (by rw [hb]; exact hd) hframes (by show 2 * 0 + _ + _ ≤ _; omega)
  have e1 : copied (vp_cell (G'.2.1 t) (n0, .inl (K f i))) (vp_cell (G'.2.1 t) (n0, .inl (K f i))) sp dp n = vp_cell (G'.2.1 t) (n0, .inl (va_cpy (K f i) (K f i) sp.toNatClampNeg dp.toNatClampNeg n.toNatClampNeg)) := va_copied (fun z => .int z) (G'.2.1 t) (G'.2.1 t) (K f i) (K f i) h4
  rw [e1] at X' step
  have hlt : G'.2.2 f i < H.size := (Array.getElem?_eq_some_iff.mp hc0).1
  have hheap : ((TT.setVm vm').setCell (G'.2.2 f i) (vp_cell (G'.2.1 t) (n0, .inl (va_cpy (K f i) (K f i) sp.toNatClampNeg dp.toNatClampNeg n.toNatClampNeg)))).heap = H.setIfInBounds (G'.2.2 f i) (vp_cell (G'.2.1 t) (n0, .inl (va_cpy (K f i) (K f i) sp.toNatClampNeg dp.toNatClampNeg n.toNatClampNeg))) := by rw [← hTT]; rfl
  have oq : ∀ q : Nat, q ≠ G'.2.2 f i → (H.setIfInBounds (G'.2.2 f i) (vp_cell (G'.2.1 t) (n0, .inl (va_cpy (K f i) (K f i) sp.toNatClampNeg dp.toNatClampNeg n.toNatClampNeg))))[q]? = H[q]? := fun q hq => by simp [Array.getElem?_setIfInBounds, Ne.symm hq]
  obtain ⟨tt, a1, b1⟩ := k _ _ ls (hH.row hI hf hi (by
      show (H.setIfInBounds (G'.2.2 f i) _)[G'.2.2 f i]? = some (vp_cell (G'.2.1 t) (n0, .inl (k_row K f i _ f i)))
      rw [k_row_eq]
      simp [Array.getElem?_setIfInBounds, hlt]) oq) ⟨by simp; exact hS.1, fun q g1 g2 => by
      rw [oq q (fun e => g2 (by rw [e]; exact hAf f cn _ i hf hi))]
      exact hS.2.1 q g1 g2, fun q hq => by
      rcases List.mem_append.mp hq with h | h
      · exact hS.2.2 q h
      · obtain ⟨z, -, hz⟩ := List.mem_map.mp h
        rw [← hz]
        exact hAf f cn _ i hf hi⟩ hl _ hheap X'
  exact ⟨tt, step tt a1, b1⟩
end
section
/-! ===== names: methods, their code, the words of them (written by a program out of the listing) ===== -/
def kT : List Cond := lw_tbl.filter goodWord
theorem kT_in {w : Cond} (h : w ∈ lw_tbl) (g : goodWord w = true) : w ∈ kT := List.mem_filter.mpr ⟨h, g⟩
theorem kT_of {w : Cond} (h : w ∈ kT) : w ∈ lw_tbl := (List.mem_filter.mp h).1
theorem kg_all : GoodIn kT kT := fun w h => ⟨h, good_of_word (List.mem_filter.mp h).2⟩
theorem kt0 {w : Cond} (h : w ∈ tables_1) (g : goodWord w = true) : w ∈ kT := kT_in (List.mem_append_right _ h) g
theorem kt1 (i : Nat) {w : Cond} (h : tables_1_1[i]? = some w) (g : goodWord w = true) : w ∈ kT := kt0 (List.mem_append_left _ (List.mem_of_getElem? h)) g
theorem kt2 (i : Nat) {w : Cond} (h : tables_1_2[i]? = some w) (g : goodWord w = true) : w ∈ kT := kt0 (List.mem_append_right _ (List.mem_append_left _ (List.mem_of_getElem? h))) g
theorem kt3 (i : Nat) {w : Cond} (h : tables_1_3[i]? = some w) (g : goodWord w = true) : w ∈ kT := kt0 (List.mem_append_right _ (List.mem_append_right _ (List.mem_append_left _ (List.mem_of_getElem? h)))) g
theorem kt4 (i : Nat) {w : Cond} (h : tables_1_4[i]? = some w) (g : goodWord w = true) : w ∈ kT := kt0 (List.mem_append_right _ (List.mem_append_right _ (List.mem_append_right _ (List.mem_of_getElem? h)))) g
theorem ktp1 (i : Nat) {q : MethodName × Nat} (h : lw_privs_1[i]? = some q) : Cond.selects q.1.cls q.1 q.1 ∈ kT := kT_in (List.mem_append_left _ (List.mem_map.mpr ⟨q, List.mem_append_left _ (List.mem_of_getElem? h), rfl⟩)) rfl
theorem ktp2 (i : Nat) {q : MethodName × Nat} (h : lw_privs_2[i]? = some q) : Cond.selects q.1.cls q.1 q.1 ∈ kT := kT_in (List.mem_append_left _ (List.mem_map.mpr ⟨q, List.mem_append_right _ (List.mem_append_left _ (List.mem_of_getElem? h)), rfl⟩)) rfl
theorem ktp3 (i : Nat) {q : MethodName × Nat} (h : lw_privs_3[i]? = some q) : Cond.selects q.1.cls q.1 q.1 ∈ kT := kT_in (List.mem_append_left _ (List.mem_map.mpr ⟨q, List.mem_append_right _ (List.mem_append_right _ (List.mem_of_getElem? h)), rfl⟩)) rfl
theorem cv_Gu_begin : Cond.instanceMethod y_Gu_begin ∈ kT ∧ Cond.selects y_Gu_begin.cls y_Gu_begin y_Gu_begin ∈ kT := ⟨(kt1 196 rfl rfl), (kt1 197 rfl rfl)⟩
theorem cv_Ar_fill : Cond.static y_Ar_fill ∈ kT := (kt1 200 rfl rfl)
theorem cv_Gu_goTo : Cond.instanceMethod y_Gu_goTo ∈ kT ∧ Cond.selects y_Gu_goTo.cls y_Gu_goTo y_Gu_goTo ∈ kT := ⟨(kt1 203 rfl rfl), (kt1 204 rfl rfl)⟩
theorem cv_Ma_floorMod : Cond.static y_Ma_floorMod ∈ kT := (kt1 207 rfl rfl)
theorem cv_Ke_makeReady : Cond.instanceMethod y_Ke_makeReady ∈ kT ∧ Cond.selects y_Ke_makeReady.cls y_Ke_makeReady y_Ke_makeReady ∈ kT := ⟨(kt1 211 rfl rfl), (ktp1 0 rfl)⟩
theorem cv_Ro_add : Cond.instanceMethod y_Ro_add ∈ kT ∧ Cond.selects y_Ro_add.cls y_Ro_add y_Ro_add ∈ kT := ⟨(kt1 214 rfl rfl), (kt1 215 rfl rfl)⟩
theorem cv_Ke_count : Cond.instanceMethod y_Ke_count ∈ kT ∧ Cond.selects y_Ke_count.cls y_Ke_count y_Ke_count ∈ kT := ⟨(kt2 18 rfl rfl), (kt2 19 rfl rfl)⟩
theorem cv_La_code : Cond.static y_La_code ∈ kT := (kt2 22 rfl rfl)
theorem cv_Ke_code : Cond.instanceMethod y_Ke_code ∈ kT ∧ Cond.selects y_Ke_code.cls y_Ke_code y_Ke_code ∈ kT := ⟨(kt2 26 rfl rfl), (kt2 27 rfl rfl)⟩
theorem cv_Ke_requireBelow : Cond.static y_Ke_requireBelow ∈ kT := (kt2 30 rfl rfl)
theorem cv_Ke_isOutside : Cond.static y_Ke_isOutside ∈ kT := (kt2 33 rfl rfl)
theorem cv_Pg_write : Cond.instanceMethod y_Pg_write ∈ kT ∧ Cond.selects y_Pg_write.cls y_Pg_write y_Pg_write ∈ kT := ⟨(kt2 104 rfl rfl), (kt2 105 rfl rfl)⟩
theorem cv_La_run : Cond.static y_La_run ∈ kT := (kt2 108 rfl rfl)
theorem cv_Ke_run : Cond.instanceMethod y_Ke_run ∈ kT ∧ Cond.selects y_Ke_run.cls y_Ke_run y_Ke_run ∈ kT := ⟨(kt2 112 rfl rfl), (kt2 113 rfl rfl)⟩
theorem cv_Pr_isEmpty : Cond.instanceMethod y_Pr_isEmpty ∈ kT ∧ Cond.selects y_Pr_isEmpty.cls y_Pr_isEmpty y_Pr_isEmpty ∈ kT := ⟨(kt2 116 rfl rfl), (kt2 117 rfl rfl)⟩
theorem cv_Ke_requireNoneBlocked : Cond.instanceMethod y_Ke_requireNoneBlocked ∈ kT ∧ Cond.selects y_Ke_requireNoneBlocked.cls y_Ke_requireNoneBlocked y_Ke_requireNoneBlocked ∈ kT := ⟨(kt2 121 rfl rfl), (ktp1 2 rfl)⟩
theorem cv_Ke_takeTurn : Cond.instanceMethod y_Ke_takeTurn ∈ kT ∧ Cond.selects y_Ke_takeTurn.cls y_Ke_takeTurn y_Ke_takeTurn ∈ kT := ⟨(kt2 141 rfl rfl), (ktp1 3 rfl)⟩
theorem cv_Ke_takeNext : Cond.instanceMethod y_Ke_takeNext ∈ kT ∧ Cond.selects y_Ke_takeNext.cls y_Ke_takeNext y_Ke_takeNext ∈ kT := ⟨(kt2 145 rfl rfl), (ktp1 4 rfl)⟩
theorem cv_Ro_takeFirst : Cond.instanceMethod y_Ro_takeFirst ∈ kT ∧ Cond.selects y_Ro_takeFirst.cls y_Ro_takeFirst y_Ro_takeFirst ∈ kT := ⟨(kt2 148 rfl rfl), (kt2 149 rfl rfl)⟩
theorem cv_Pg_part : Cond.instanceMethod y_Pg_part ∈ kT ∧ Cond.selects y_Pg_part.cls y_Pg_part y_Pg_part ∈ kT := ⟨(kt2 152 rfl rfl), (kt2 153 rfl rfl)⟩
theorem cv_Ke_perform : Cond.instanceMethod y_Ke_perform ∈ kT ∧ Cond.selects y_Ke_perform.cls y_Ke_perform y_Ke_perform ∈ kT := ⟨(kt2 158 rfl rfl), (ktp1 5 rfl)⟩
theorem cv_Ke_end : Cond.instanceMethod y_Ke_end ∈ kT ∧ Cond.selects y_Ke_end.cls y_Ke_end y_Ke_end ∈ kT := ⟨(kt2 162 rfl rfl), (ktp1 6 rfl)⟩
theorem cv_Ke_dropPage : Cond.instanceMethod y_Ke_dropPage ∈ kT ∧ Cond.selects y_Ke_dropPage.cls y_Ke_dropPage y_Ke_dropPage ∈ kT := ⟨(kt2 166 rfl rfl), (ktp1 7 rfl)⟩
theorem cv_Fr_giveBack : Cond.instanceMethod y_Fr_giveBack ∈ kT ∧ Cond.selects y_Fr_giveBack.cls y_Fr_giveBack y_Fr_giveBack ∈ kT := ⟨(kt2 169 rfl rfl), (kt2 170 rfl rfl)⟩
theorem cv_Ke_passOn : Cond.instanceMethod y_Ke_passOn ∈ kT ∧ Cond.selects y_Ke_passOn.cls y_Ke_passOn y_Ke_passOn ∈ kT := ⟨(kt2 174 rfl rfl), (ktp1 8 rfl)⟩
theorem cv_Ke_handOverChildren : Cond.instanceMethod y_Ke_handOverChildren ∈ kT ∧ Cond.selects y_Ke_handOverChildren.cls y_Ke_handOverChildren y_Ke_handOverChildren ∈ kT := ⟨(kt2 178 rfl rfl), (ktp1 9 rfl)⟩
theorem cv_Ke_load : Cond.instanceMethod y_Ke_load ∈ kT ∧ Cond.selects y_Ke_load.cls y_Ke_load y_Ke_load ∈ kT := ⟨(kt2 182 rfl rfl), (ktp1 10 rfl)⟩
theorem cv_Ke_addressTrap : Cond.static y_Ke_addressTrap ∈ kT := (kt2 185 rfl rfl)
theorem cv_Fr_read : Cond.instanceMethod y_Fr_read ∈ kT ∧ Cond.selects y_Fr_read.cls y_Fr_read y_Fr_read ∈ kT := ⟨(kt2 188 rfl rfl), (kt2 189 rfl rfl)⟩
theorem cv_Ke_store : Cond.instanceMethod y_Ke_store ∈ kT ∧ Cond.selects y_Ke_store.cls y_Ke_store y_Ke_store ∈ kT := ⟨(kt2 193 rfl rfl), (ktp1 11 rfl)⟩
theorem cv_Fr_write : Cond.instanceMethod y_Fr_write ∈ kT ∧ Cond.selects y_Fr_write.cls y_Fr_write y_Fr_write ∈ kT := ⟨(kt2 196 rfl rfl), (kt2 197 rfl rfl)⟩
theorem cv_Ke_map : Cond.instanceMethod y_Ke_map ∈ kT ∧ Cond.selects y_Ke_map.cls y_Ke_map y_Ke_map ∈ kT := ⟨(kt2 201 rfl rfl), (ktp1 12 rfl)⟩
theorem cv_Gu_quotaLeft : Cond.instanceMethod y_Gu_quotaLeft ∈ kT ∧ Cond.selects y_Gu_quotaLeft.cls y_Gu_quotaLeft y_Gu_quotaLeft ∈ kT := ⟨(kt2 204 rfl rfl), (kt2 205 rfl rfl)⟩
theorem cv_Fr_takeLeast : Cond.instanceMethod y_Fr_takeLeast ∈ kT ∧ Cond.selects y_Fr_takeLeast.cls y_Fr_takeLeast y_Fr_takeLeast ∈ kT := ⟨(kt2 208 rfl rfl), (kt2 209 rfl rfl)⟩
theorem cv_Fr_clear : Cond.instanceMethod y_Fr_clear ∈ kT ∧ Cond.selects y_Fr_clear.cls y_Fr_clear y_Fr_clear ∈ kT := ⟨(kt2 213 rfl rfl), (ktp1 13 rfl)⟩
theorem cv_Ke_unmap : Cond.instanceMethod y_Ke_unmap ∈ kT ∧ Cond.selects y_Ke_unmap.cls y_Ke_unmap y_Ke_unmap ∈ kT := ⟨(kt2 218 rfl rfl), (ktp1 14 rfl)⟩
theorem cv_Ke_spawn : Cond.instanceMethod y_Ke_spawn ∈ kT ∧ Cond.selects y_Ke_spawn.cls y_Ke_spawn y_Ke_spawn ∈ kT := ⟨(kt2 222 rfl rfl), (ktp1 15 rfl)⟩
theorem cv_Ke_send : Cond.instanceMethod y_Ke_send ∈ kT ∧ Cond.selects y_Ke_send.cls y_Ke_send y_Ke_send ∈ kT := ⟨(kt2 226 rfl rfl), (ktp2 0 rfl)⟩
theorem cv_Ch_isFull : Cond.instanceMethod y_Ch_isFull ∈ kT ∧ Cond.selects y_Ch_isFull.cls y_Ch_isFull y_Ch_isFull ∈ kT := ⟨(kt2 229 rfl rfl), (kt2 230 rfl rfl)⟩
theorem cv_Ke_block : Cond.static y_Ke_block ∈ kT := (kt2 233 rfl rfl)
theorem cv_Ch_put : Cond.instanceMethod y_Ch_put ∈ kT ∧ Cond.selects y_Ch_put.cls y_Ch_put y_Ch_put ∈ kT := ⟨(kt2 236 rfl rfl), (kt2 237 rfl rfl)⟩
theorem cv_Ke_receive : Cond.instanceMethod y_Ke_receive ∈ kT ∧ Cond.selects y_Ke_receive.cls y_Ke_receive y_Ke_receive ∈ kT := ⟨(kt3 2 rfl rfl), (ktp2 1 rfl)⟩
theorem cv_Ch_takeFirst : Cond.instanceMethod y_Ch_takeFirst ∈ kT ∧ Cond.selects y_Ch_takeFirst.cls y_Ch_takeFirst y_Ch_takeFirst ∈ kT := ⟨(kt3 5 rfl rfl), (kt3 6 rfl rfl)⟩
theorem cv_Ke_lock : Cond.instanceMethod y_Ke_lock ∈ kT ∧ Cond.selects y_Ke_lock.cls y_Ke_lock y_Ke_lock ∈ kT := ⟨(kt3 13 rfl rfl), (ktp2 2 rfl)⟩
theorem cv_Ke_unlock : Cond.instanceMethod y_Ke_unlock ∈ kT ∧ Cond.selects y_Ke_unlock.cls y_Ke_unlock y_Ke_unlock ∈ kT := ⟨(kt3 17 rfl rfl), (ktp2 3 rfl)⟩
theorem cv_Ke_reap : Cond.instanceMethod y_Ke_reap ∈ kT ∧ Cond.selects y_Ke_reap.cls y_Ke_reap y_Ke_reap ∈ kT := ⟨(kt3 21 rfl rfl), (ktp2 4 rfl)⟩
theorem cv_Gu_calculate : Cond.instanceMethod y_Gu_calculate ∈ kT ∧ Cond.selects y_Gu_calculate.cls y_Gu_calculate y_Gu_calculate ∈ kT := ⟨(kt3 24 rfl rfl), (kt3 25 rfl rfl)⟩
theorem cv_Ke_trap : Cond.instanceMethod y_Ke_trap ∈ kT ∧ Cond.selects y_Ke_trap.cls y_Ke_trap y_Ke_trap ∈ kT := ⟨(kt3 29 rfl rfl), (ktp2 5 rfl)⟩
theorem cv_La_register : Cond.static y_La_register ∈ kT := (kt3 32 rfl rfl)
theorem cv_Ke_register : Cond.instanceMethod y_Ke_register ∈ kT ∧ Cond.selects y_Ke_register.cls y_Ke_register y_Ke_register ∈ kT := ⟨(kt3 36 rfl rfl), (kt3 37 rfl rfl)⟩
theorem cv_Ke_requirePresent : Cond.instanceMethod y_Ke_requirePresent ∈ kT ∧ Cond.selects y_Ke_requirePresent.cls y_Ke_requirePresent y_Ke_requirePresent ∈ kT := ⟨(kt3 41 rfl rfl), (ktp2 6 rfl)⟩
theorem cv_La_told : Cond.static y_La_told ∈ kT := (kt3 60 rfl rfl)
theorem cv_Ke_told : Cond.instanceMethod y_Ke_told ∈ kT ∧ Cond.selects y_Ke_told.cls y_Ke_told y_Ke_told ∈ kT := ⟨(kt3 63 rfl rfl), (kt3 64 rfl rfl)⟩
theorem cv_La_page : Cond.static y_La_page ∈ kT := (kt3 67 rfl rfl)
theorem cv_Ke_page : Cond.instanceMethod y_Ke_page ∈ kT ∧ Cond.selects y_Ke_page.cls y_Ke_page y_Ke_page ∈ kT := ⟨(kt3 70 rfl rfl), (kt3 71 rfl rfl)⟩
theorem cv_La_memory : Cond.static y_La_memory ∈ kT := (kt3 74 rfl rfl)
theorem cv_Ke_memory : Cond.instanceMethod y_Ke_memory ∈ kT ∧ Cond.selects y_Ke_memory.cls y_Ke_memory y_Ke_memory ∈ kT := ⟨(kt3 77 rfl rfl), (kt3 78 rfl rfl)⟩
theorem cv_La_object : Cond.static y_La_object ∈ kT := (kt3 81 rfl rfl)
theorem cv_Ke_object : Cond.instanceMethod y_Ke_object ∈ kT ∧ Cond.selects y_Ke_object.cls y_Ke_object y_Ke_object ∈ kT := ⟨(kt3 84 rfl rfl), (kt3 85 rfl rfl)⟩
theorem cv_La_written : Cond.static y_La_written ∈ kT := (kt3 88 rfl rfl)
theorem cv_Ke_written : Cond.instanceMethod y_Ke_written ∈ kT ∧ Cond.selects y_Ke_written.cls y_Ke_written y_Ke_written ∈ kT := ⟨(kt3 91 rfl rfl), (kt3 92 rfl rfl)⟩
theorem cv_Mo_begin : Cond.instanceMethod y_Mo_begin ∈ kT ∧ Cond.selects y_Mo_begin.cls y_Mo_begin y_Mo_begin ∈ kT := ⟨(kt3 102 rfl rfl), (ktp2 7 rfl)⟩
theorem cv_Mo_wake : Cond.instanceMethod y_Mo_wake ∈ kT ∧ Cond.selects y_Mo_wake.cls y_Mo_wake y_Mo_wake ∈ kT := ⟨(kt3 106 rfl rfl), (ktp2 8 rfl)⟩
theorem cv_Mo_add : Cond.instanceMethod y_Mo_add ∈ kT ∧ Cond.selects y_Mo_add.cls y_Mo_add y_Mo_add ∈ kT := ⟨(kt3 110 rfl rfl), (ktp2 9 rfl)⟩
theorem cv_Mo_thrown : Cond.instanceMethod y_Mo_thrown ∈ kT ∧ Cond.selects y_Mo_thrown.cls y_Mo_thrown y_Mo_thrown ∈ kT := ⟨(kt3 213 rfl rfl), (kt3 214 rfl rfl)⟩
theorem cv_Mo_code : Cond.instanceMethod y_Mo_code ∈ kT ∧ Cond.selects y_Mo_code.cls y_Mo_code y_Mo_code ∈ kT := ⟨(kt3 217 rfl rfl), (kt3 218 rfl rfl)⟩
theorem cv_Mo_no : Cond.instanceMethod y_Mo_no ∈ kT ∧ Cond.selects y_Mo_no.cls y_Mo_no y_Mo_no ∈ kT := ⟨(kt3 222 rfl rfl), (ktp2 10 rfl)⟩
theorem cv_Mo_run : Cond.instanceMethod y_Mo_run ∈ kT ∧ Cond.selects y_Mo_run.cls y_Mo_run y_Mo_run ∈ kT := ⟨(kt3 225 rfl rfl), (kt3 226 rfl rfl)⟩
theorem cv_Mo_many : Cond.instanceMethod y_Mo_many ∈ kT ∧ Cond.selects y_Mo_many.cls y_Mo_many y_Mo_many ∈ kT := ⟨(kt3 230 rfl rfl), (ktp2 11 rfl)⟩
theorem cv_Mo_tick : Cond.instanceMethod y_Mo_tick ∈ kT ∧ Cond.selects y_Mo_tick.cls y_Mo_tick y_Mo_tick ∈ kT := ⟨(kt3 234 rfl rfl), (ktp2 12 rfl)⟩
theorem cv_Mo_take : Cond.instanceMethod y_Mo_take ∈ kT ∧ Cond.selects y_Mo_take.cls y_Mo_take y_Mo_take ∈ kT := ⟨(kt3 238 rfl rfl), (ktp2 13 rfl)⟩
theorem cv_Mo_step : Cond.instanceMethod y_Mo_step ∈ kT ∧ Cond.selects y_Mo_step.cls y_Mo_step y_Mo_step ∈ kT := ⟨(kt4 2 rfl rfl), (ktp2 14 rfl)⟩
theorem cv_Mo_die : Cond.instanceMethod y_Mo_die ∈ kT ∧ Cond.selects y_Mo_die.cls y_Mo_die y_Mo_die ∈ kT := ⟨(kt4 6 rfl rfl), (ktp2 15 rfl)⟩
theorem cv_Mo_unmap : Cond.instanceMethod y_Mo_unmap ∈ kT ∧ Cond.selects y_Mo_unmap.cls y_Mo_unmap y_Mo_unmap ∈ kT := ⟨(kt4 10 rfl rfl), (ktp3 0 rfl)⟩
theorem cv_Mo_unlock : Cond.instanceMethod y_Mo_unlock ∈ kT ∧ Cond.selects y_Mo_unlock.cls y_Mo_unlock y_Mo_unlock ∈ kT := ⟨(kt4 14 rfl rfl), (ktp3 1 rfl)⟩
theorem cv_Mo_perform : Cond.instanceMethod y_Mo_perform ∈ kT ∧ Cond.selects y_Mo_perform.cls y_Mo_perform y_Mo_perform ∈ kT := ⟨(kt4 18 rfl rfl), (ktp3 2 rfl)⟩
theorem cv_Mo_where : Cond.instanceMethod y_Mo_where ∈ kT ∧ Cond.selects y_Mo_where.cls y_Mo_where y_Mo_where ∈ kT := ⟨(kt4 22 rfl rfl), (ktp3 3 rfl)⟩
theorem cv_Mo_map : Cond.instanceMethod y_Mo_map ∈ kT ∧ Cond.selects y_Mo_map.cls y_Mo_map y_Mo_map ∈ kT := ⟨(kt4 26 rfl rfl), (ktp3 4 rfl)⟩
theorem cv_Mo_spawn : Cond.instanceMethod y_Mo_spawn ∈ kT ∧ Cond.selects y_Mo_spawn.cls y_Mo_spawn y_Mo_spawn ∈ kT := ⟨(kt4 30 rfl rfl), (ktp3 5 rfl)⟩
theorem cv_Mo_share : Cond.instanceMethod y_Mo_share ∈ kT ∧ Cond.selects y_Mo_share.cls y_Mo_share y_Mo_share ∈ kT := ⟨(kt4 34 rfl rfl), (ktp3 6 rfl)⟩
theorem cv_Mo_send : Cond.instanceMethod y_Mo_send ∈ kT ∧ Cond.selects y_Mo_send.cls y_Mo_send y_Mo_send ∈ kT := ⟨(kt4 38 rfl rfl), (ktp3 7 rfl)⟩
theorem cv_Mo_block : Cond.instanceMethod y_Mo_block ∈ kT ∧ Cond.selects y_Mo_block.cls y_Mo_block y_Mo_block ∈ kT := ⟨(kt4 42 rfl rfl), (ktp3 8 rfl)⟩
theorem cv_Mo_receive : Cond.instanceMethod y_Mo_receive ∈ kT ∧ Cond.selects y_Mo_receive.cls y_Mo_receive y_Mo_receive ∈ kT := ⟨(kt4 46 rfl rfl), (ktp3 9 rfl)⟩
theorem cv_Mo_reap : Cond.instanceMethod y_Mo_reap ∈ kT ∧ Cond.selects y_Mo_reap.cls y_Mo_reap y_Mo_reap ∈ kT := ⟨(kt4 50 rfl rfl), (ktp3 10 rfl)⟩
theorem cv_Mo_trap : Cond.instanceMethod y_Mo_trap ∈ kT ∧ Cond.selects y_Mo_trap.cls y_Mo_trap y_Mo_trap ∈ kT := ⟨(kt4 54 rfl rfl), (ktp3 11 rfl)⟩
theorem cv_Mo_register : Cond.instanceMethod y_Mo_register ∈ kT ∧ Cond.selects y_Mo_register.cls y_Mo_register y_Mo_register ∈ kT := ⟨(kt4 57 rfl rfl), (kt4 58 rfl rfl)⟩
theorem cv_Mo_guest : Cond.instanceMethod y_Mo_guest ∈ kT ∧ Cond.selects y_Mo_guest.cls y_Mo_guest y_Mo_guest ∈ kT := ⟨(kt4 62 rfl rfl), (ktp3 12 rfl)⟩
theorem cv_Mo_told : Cond.instanceMethod y_Mo_told ∈ kT ∧ Cond.selects y_Mo_told.cls y_Mo_told y_Mo_told ∈ kT := ⟨(kt4 65 rfl rfl), (kt4 66 rfl rfl)⟩
theorem cv_Mo_page : Cond.instanceMethod y_Mo_page ∈ kT ∧ Cond.selects y_Mo_page.cls y_Mo_page y_Mo_page ∈ kT := ⟨(kt4 69 rfl rfl), (kt4 70 rfl rfl)⟩
theorem cv_Mo_memory : Cond.instanceMethod y_Mo_memory ∈ kT ∧ Cond.selects y_Mo_memory.cls y_Mo_memory y_Mo_memory ∈ kT := ⟨(kt4 73 rfl rfl), (kt4 74 rfl rfl)⟩
theorem cv_Mo_object : Cond.instanceMethod y_Mo_object ∈ kT ∧ Cond.selects y_Mo_object.cls y_Mo_object y_Mo_object ∈ kT := ⟨(kt4 77 rfl rfl), (kt4 78 rfl rfl)⟩
theorem cv_Mo_written : Cond.instanceMethod y_Mo_written ∈ kT ∧ Cond.selects y_Mo_written.cls y_Mo_written y_Mo_written ∈ kT := ⟨(kt4 81 rfl rfl), (kt4 82 rfl rfl)⟩
theorem cv_Mo_count : Cond.instanceMethod y_Mo_count ∈ kT ∧ Cond.selects y_Mo_count.cls y_Mo_count y_Mo_count ∈ kT := ⟨(kt4 85 rfl rfl), (kt4 86 rfl rfl)⟩
theorem cs_La_42 : k_site kT "GuestKernelLaw" 42 y_Ke_init b_Ke_init 2 none 0 := ⟨(kt1 23 rfl rfl), (kt1 21 rfl rfl), (kt1 1 rfl rfl), by decide +kernel, by decide +kernel, by decide +kernel⟩
theorem cs_Ke_47 : k_site kT "GuestKernel" 47 y_Gu_init b_Gu_init 2 none 1 := ⟨(kt1 67 rfl rfl), (kt1 65 rfl rfl), (kt1 4 rfl rfl), by decide +kernel, by decide +kernel, by decide +kernel⟩
theorem cs_Ke_53 : k_site kT "GuestKernel" 53 y_Gu_begin b_Gu_begin 4 none 3 := ⟨(kt1 198 rfl rfl), (kt1 195 rfl rfl), (kt1 4 rfl rfl), by decide +kernel, by decide +kernel, by decide +kernel⟩
theorem cs_Gu_25 : k_site kT "GuestKernel$Guest" 25 y_Ar_fill b_Ar_fill 4 none 2 := ⟨(kt1 201 rfl rfl), (kt1 199 rfl rfl), (kt1 9 rfl rfl), by decide +kernel, by decide +kernel, by decide +kernel⟩
theorem cs_Gu_31 : k_site kT "GuestKernel$Guest" 31 y_Gu_goTo b_Gu_goTo 2 none 1 := ⟨(kt1 205 rfl rfl), (kt1 202 rfl rfl), (kt1 4 rfl rfl), by decide +kernel, by decide +kernel, by decide +kernel⟩
theorem cs_Gu_56 : k_site kT "GuestKernel$Guest" 56 y_Ma_floorMod b_Ma_floorMod 3 (some .int) 2 := ⟨(kt1 208 rfl rfl), (kt1 206 rfl rfl), (kt1 10 rfl rfl), by decide +kernel, by decide +kernel, by decide +kernel⟩
theorem cs_Ke_57 : k_site kT "GuestKernel" 57 y_Ke_makeReady b_Ke_makeReady 2 none 1 := ⟨(kt1 212 rfl rfl), (kt1 209 rfl rfl), (kt1 1 rfl rfl), by decide +kernel, by decide +kernel, by decide +kernel⟩
theorem cs_Ke_297 : k_site kT "GuestKernel" 297 y_Ro_add b_Ro_add 2 none 1 := ⟨(kt1 216 rfl rfl), (kt1 213 rfl rfl), (kt1 6 rfl rfl), by decide +kernel, by decide +kernel, by decide +kernel⟩
theorem cs_La_79 : k_site kT "GuestKernelLaw" 79 y_Ke_count b_Ke_count 2 (some .int) 1 := ⟨(kt2 20 rfl rfl), (kt2 17 rfl rfl), (kt1 1 rfl rfl), by decide +kernel, by decide +kernel, by decide +kernel⟩
theorem cs_La_7 : k_site kT "GuestKernelLaw" 7 y_Ke_code b_Ke_code 6 none 5 := ⟨(kt2 28 rfl rfl), (kt2 25 rfl rfl), (kt1 1 rfl rfl), by decide +kernel, by decide +kernel, by decide +kernel⟩
theorem cs_Ke_61 : k_site kT "GuestKernel" 61 y_Ke_requireBelow b_Ke_requireBelow 2 none 2 := ⟨(kt2 31 rfl rfl), (kt2 29 rfl rfl), (kt1 1 rfl rfl), by decide +kernel, by decide +kernel, by decide +kernel⟩
theorem cs_Ke_179 : k_site kT "GuestKernel" 179 y_Ke_isOutside b_Ke_isOutside 2 (some .boolean) 2 := ⟨(kt2 34 rfl rfl), (kt2 32 rfl rfl), (kt1 1 rfl rfl), by decide +kernel, by decide +kernel, by decide +kernel⟩
theorem cs_Ke_65 : k_site kT "GuestKernel" 65 y_Pg_write b_Pg_write 7 none 5 := ⟨(kt2 106 rfl rfl), (kt2 103 rfl rfl), (kt1 2 rfl rfl), by decide +kernel, by decide +kernel, by decide +kernel⟩
theorem cs_La_15 : k_site kT "GuestKernelLaw" 15 y_Ke_run b_Ke_run 3 (some .int) 1 := ⟨(kt2 114 rfl rfl), (kt2 111 rfl rfl), (kt1 1 rfl rfl), by decide +kernel, by decide +kernel, by decide +kernel⟩
theorem cs_Ke_76 : k_site kT "GuestKernel" 76 y_Pr_isEmpty b_Pr_isEmpty 1 (some .boolean) 0 := ⟨(kt2 118 rfl rfl), (kt2 115 rfl rfl), (kt1 5 rfl rfl), by decide +kernel, by decide +kernel, by decide +kernel⟩
theorem cs_Ke_80 : k_site kT "GuestKernel" 80 y_Ke_requireNoneBlocked b_Ke_requireNoneBlocked 2 none 0 := ⟨(kt2 122 rfl rfl), (kt2 119 rfl rfl), (kt1 1 rfl rfl), by decide +kernel, by decide +kernel, by decide +kernel⟩
theorem cs_Ke_87 : k_site kT "GuestKernel" 87 y_Ke_takeTurn b_Ke_takeTurn 7 none 1 := ⟨(kt2 142 rfl rfl), (kt2 139 rfl rfl), (kt1 1 rfl rfl), by decide +kernel, by decide +kernel, by decide +kernel⟩
theorem cs_Ke_193 : k_site kT "GuestKernel" 193 y_Ke_takeNext b_Ke_takeNext 3 (some .int) 1 := ⟨(kt2 146 rfl rfl), (kt2 143 rfl rfl), (kt1 1 rfl rfl), by decide +kernel, by decide +kernel, by decide +kernel⟩
theorem cs_Ke_211 : k_site kT "GuestKernel" 211 y_Ro_takeFirst b_Ro_takeFirst 2 (some .int) 0 := ⟨(kt2 150 rfl rfl), (kt2 147 rfl rfl), (kt1 6 rfl rfl), by decide +kernel, by decide +kernel, by decide +kernel⟩
theorem cs_Ke_151 : k_site kT "GuestKernel" 151 y_Pg_part b_Pg_part 3 (some .int) 2 := ⟨(kt2 154 rfl rfl), (kt2 151 rfl rfl), (kt1 2 rfl rfl), by decide +kernel, by decide +kernel, by decide +kernel⟩
theorem cs_Ke_197 : k_site kT "GuestKernel" 197 y_Gu_goTo b_Gu_goTo 2 none 1 := ⟨(kt1 205 rfl rfl), (kt2 155 rfl rfl), (kt1 4 rfl rfl), by decide +kernel, by decide +kernel, by decide +kernel⟩
theorem cs_Ke_203 : k_site kT "GuestKernel" 203 y_Ke_perform b_Ke_perform 7 (some .int) 3 := ⟨(kt2 159 rfl rfl), (kt2 156 rfl rfl), (kt1 1 rfl rfl), by decide +kernel, by decide +kernel, by decide +kernel⟩
theorem cs_Ke_215 : k_site kT "GuestKernel" 215 y_Ke_end b_Ke_end 4 none 2 := ⟨(kt2 163 rfl rfl), (kt2 160 rfl rfl), (kt1 1 rfl rfl), by decide +kernel, by decide +kernel, by decide +kernel⟩
theorem cs_Ke_266 : k_site kT "GuestKernel" 266 y_Ke_dropPage b_Ke_dropPage 4 (some .boolean) 2 := ⟨(kt2 167 rfl rfl), (kt2 164 rfl rfl), (kt1 1 rfl rfl), by decide +kernel, by decide +kernel, by decide +kernel⟩
theorem cs_Ke_270 : k_site kT "GuestKernel" 270 y_Fr_giveBack b_Fr_giveBack 2 none 1 := ⟨(kt2 171 rfl rfl), (kt2 168 rfl rfl), (kt1 3 rfl rfl), by decide +kernel, by decide +kernel, by decide +kernel⟩
theorem cs_Ke_290 : k_site kT "GuestKernel" 290 y_Ke_passOn b_Ke_passOn 2 none 1 := ⟨(kt2 175 rfl rfl), (kt2 172 rfl rfl), (kt1 1 rfl rfl), by decide +kernel, by decide +kernel, by decide +kernel⟩
theorem cs_Ke_294 : k_site kT "GuestKernel" 294 y_Ke_handOverChildren b_Ke_handOverChildren 3 none 1 := ⟨(kt2 179 rfl rfl), (kt2 176 rfl rfl), (kt1 1 rfl rfl), by decide +kernel, by decide +kernel, by decide +kernel⟩
theorem cs_Ke_219 : k_site kT "GuestKernel" 219 y_Ke_load b_Ke_load 6 (some .int) 3 := ⟨(kt2 183 rfl rfl), (kt2 180 rfl rfl), (kt1 1 rfl rfl), by decide +kernel, by decide +kernel, by decide +kernel⟩
theorem cs_Ke_255 : k_site kT "GuestKernel" 255 y_Ke_addressTrap b_Ke_addressTrap 2 (some .int) 2 := ⟨(kt2 186 rfl rfl), (kt2 184 rfl rfl), (kt1 1 rfl rfl), by decide +kernel, by decide +kernel, by decide +kernel⟩
theorem cs_Ke_128 : k_site kT "GuestKernel" 128 y_Fr_read b_Fr_read 3 (some .int) 2 := ⟨(kt2 190 rfl rfl), (kt2 187 rfl rfl), (kt1 3 rfl rfl), by decide +kernel, by decide +kernel, by decide +kernel⟩
theorem cs_Ke_222 : k_site kT "GuestKernel" 222 y_Ke_store b_Ke_store 6 (some .int) 3 := ⟨(kt2 194 rfl rfl), (kt2 191 rfl rfl), (kt1 1 rfl rfl), by decide +kernel, by decide +kernel, by decide +kernel⟩
theorem cs_Ke_258 : k_site kT "GuestKernel" 258 y_Fr_write b_Fr_write 4 none 3 := ⟨(kt2 198 rfl rfl), (kt2 195 rfl rfl), (kt1 3 rfl rfl), by decide +kernel, by decide +kernel, by decide +kernel⟩
theorem cs_Ke_225 : k_site kT "GuestKernel" 225 y_Ke_map b_Ke_map 5 (some .int) 3 := ⟨(kt2 202 rfl rfl), (kt2 199 rfl rfl), (kt1 1 rfl rfl), by decide +kernel, by decide +kernel, by decide +kernel⟩
theorem cs_Ke_260 : k_site kT "GuestKernel" 260 y_Gu_quotaLeft b_Gu_quotaLeft 1 (some .int) 0 := ⟨(kt2 206 rfl rfl), (kt2 203 rfl rfl), (kt1 4 rfl rfl), by decide +kernel, by decide +kernel, by decide +kernel⟩
theorem cs_Ke_263 : k_site kT "GuestKernel" 263 y_Fr_takeLeast b_Fr_takeLeast 2 (some .int) 0 := ⟨(kt2 210 rfl rfl), (kt2 207 rfl rfl), (kt1 3 rfl rfl), by decide +kernel, by decide +kernel, by decide +kernel⟩
theorem cs_Fr_23 : k_site kT "GuestKernel$Frames" 23 y_Fr_clear b_Fr_clear 3 none 1 := ⟨(kt2 214 rfl rfl), (kt2 211 rfl rfl), (kt1 3 rfl rfl), by decide +kernel, by decide +kernel, by decide +kernel⟩
theorem cs_Fr_27 : k_site kT "GuestKernel$Frames" 27 y_Fr_write b_Fr_write 4 none 3 := ⟨(kt2 198 rfl rfl), (kt2 215 rfl rfl), (kt1 3 rfl rfl), by decide +kernel, by decide +kernel, by decide +kernel⟩
theorem cs_Ke_228 : k_site kT "GuestKernel" 228 y_Ke_unmap b_Ke_unmap 4 (some .int) 3 := ⟨(kt2 219 rfl rfl), (kt2 216 rfl rfl), (kt1 1 rfl rfl), by decide +kernel, by decide +kernel, by decide +kernel⟩
theorem cs_Ke_231 : k_site kT "GuestKernel" 231 y_Ke_spawn b_Ke_spawn 7 (some .int) 4 := ⟨(kt2 223 rfl rfl), (kt2 220 rfl rfl), (kt1 1 rfl rfl), by decide +kernel, by decide +kernel, by decide +kernel⟩
theorem cs_Ke_235 : k_site kT "GuestKernel" 235 y_Ke_send b_Ke_send 6 (some .int) 3 := ⟨(kt2 227 rfl rfl), (kt2 224 rfl rfl), (kt1 1 rfl rfl), by decide +kernel, by decide +kernel, by decide +kernel⟩
theorem cs_Ke_276 : k_site kT "GuestKernel" 276 y_Ch_isFull b_Ch_isFull 1 (some .boolean) 0 := ⟨(kt2 231 rfl rfl), (kt2 228 rfl rfl), (kt1 8 rfl rfl), by decide +kernel, by decide +kernel, by decide +kernel⟩
theorem cs_Ke_279 : k_site kT "GuestKernel" 279 y_Ke_block b_Ke_block 3 none 3 := ⟨(kt2 234 rfl rfl), (kt2 232 rfl rfl), (kt1 1 rfl rfl), by decide +kernel, by decide +kernel, by decide +kernel⟩
theorem cs_Ke_283 : k_site kT "GuestKernel" 283 y_Ch_put b_Ch_put 2 none 1 := ⟨(kt2 238 rfl rfl), (kt2 235 rfl rfl), (kt1 8 rfl rfl), by decide +kernel, by decide +kernel, by decide +kernel⟩
theorem cs_Ch_29 : k_site kT "GuestKernel$Channel" 29 y_Ch_isFull b_Ch_isFull 1 (some .boolean) 0 := ⟨(kt2 231 rfl rfl), (kt2 239 rfl rfl), (kt1 8 rfl rfl), by decide +kernel, by decide +kernel, by decide +kernel⟩
theorem cs_Ke_238 : k_site kT "GuestKernel" 238 y_Ke_receive b_Ke_receive 6 (some .int) 3 := ⟨(kt3 3 rfl rfl), (kt3 0 rfl rfl), (kt1 1 rfl rfl), by decide +kernel, by decide +kernel, by decide +kernel⟩
theorem cs_Ke_289 : k_site kT "GuestKernel" 289 y_Ch_takeFirst b_Ch_takeFirst 2 (some .int) 0 := ⟨(kt3 7 rfl rfl), (kt3 4 rfl rfl), (kt1 8 rfl rfl), by decide +kernel, by decide +kernel, by decide +kernel⟩
theorem cs_Ke_241 : k_site kT "GuestKernel" 241 y_Ke_lock b_Ke_lock 4 (some .int) 3 := ⟨(kt3 14 rfl rfl), (kt3 11 rfl rfl), (kt1 1 rfl rfl), by decide +kernel, by decide +kernel, by decide +kernel⟩
theorem cs_Ke_244 : k_site kT "GuestKernel" 244 y_Ke_unlock b_Ke_unlock 3 (some .int) 2 := ⟨(kt3 18 rfl rfl), (kt3 15 rfl rfl), (kt1 1 rfl rfl), by decide +kernel, by decide +kernel, by decide +kernel⟩
theorem cs_Ke_248 : k_site kT "GuestKernel" 248 y_Ke_reap b_Ke_reap 6 none 3 := ⟨(kt3 22 rfl rfl), (kt3 19 rfl rfl), (kt1 1 rfl rfl), by decide +kernel, by decide +kernel, by decide +kernel⟩
theorem cs_Ke_251 : k_site kT "GuestKernel" 251 y_Gu_calculate b_Gu_calculate 5 (some .int) 4 := ⟨(kt3 26 rfl rfl), (kt3 23 rfl rfl), (kt1 4 rfl rfl), by decide +kernel, by decide +kernel, by decide +kernel⟩
theorem cs_Ke_207 : k_site kT "GuestKernel" 207 y_Ke_trap b_Ke_trap 4 none 3 := ⟨(kt3 30 rfl rfl), (kt3 27 rfl rfl), (kt1 1 rfl rfl), by decide +kernel, by decide +kernel, by decide +kernel⟩
theorem cs_La_21 : k_site kT "GuestKernelLaw" 21 y_Ke_register b_Ke_register 3 (some .int) 2 := ⟨(kt3 38 rfl rfl), (kt3 35 rfl rfl), (kt1 1 rfl rfl), by decide +kernel, by decide +kernel, by decide +kernel⟩
theorem cs_Ke_91 : k_site kT "GuestKernel" 91 y_Ke_requirePresent b_Ke_requirePresent 2 none 1 := ⟨(kt3 42 rfl rfl), (kt3 39 rfl rfl), (kt1 1 rfl rfl), by decide +kernel, by decide +kernel, by decide +kernel⟩
theorem cs_La_27 : k_site kT "GuestKernelLaw" 27 y_Ke_told b_Ke_told 4 (some .int) 2 := ⟨(kt3 65 rfl rfl), (kt3 62 rfl rfl), (kt1 1 rfl rfl), by decide +kernel, by decide +kernel, by decide +kernel⟩
theorem cs_La_30 : k_site kT "GuestKernelLaw" 30 y_Ke_page b_Ke_page 3 (some .int) 2 := ⟨(kt3 72 rfl rfl), (kt3 69 rfl rfl), (kt1 1 rfl rfl), by decide +kernel, by decide +kernel, by decide +kernel⟩
theorem cs_La_33 : k_site kT "GuestKernelLaw" 33 y_Ke_memory b_Ke_memory 3 (some .int) 2 := ⟨(kt3 79 rfl rfl), (kt3 76 rfl rfl), (kt1 1 rfl rfl), by decide +kernel, by decide +kernel, by decide +kernel⟩
theorem cs_La_36 : k_site kT "GuestKernelLaw" 36 y_Ke_object b_Ke_object 3 (some .int) 2 := ⟨(kt3 86 rfl rfl), (kt3 83 rfl rfl), (kt1 1 rfl rfl), by decide +kernel, by decide +kernel, by decide +kernel⟩
theorem cs_La_39 : k_site kT "GuestKernelLaw" 39 y_Ke_written b_Ke_written 3 (some .int) 2 := ⟨(kt3 93 rfl rfl), (kt3 90 rfl rfl), (kt1 1 rfl rfl), by decide +kernel, by decide +kernel, by decide +kernel⟩
theorem cs_La_45 : k_site kT "GuestKernelLaw" 45 y_Mo_init b_Mo_init 2 none 0 := ⟨(kt3 98 rfl rfl), (kt3 96 rfl rfl), (kt1 11 rfl rfl), by decide +kernel, by decide +kernel, by decide +kernel⟩
theorem cs_Mo_86 : k_site kT "GuestKernelModel" 86 y_Mo_begin b_Mo_begin 6 none 4 := ⟨(kt3 103 rfl rfl), (kt3 100 rfl rfl), (kt1 11 rfl rfl), by decide +kernel, by decide +kernel, by decide +kernel⟩
theorem cs_Mo_98 : k_site kT "GuestKernelModel" 98 y_Mo_wake b_Mo_wake 2 none 1 := ⟨(kt3 107 rfl rfl), (kt3 104 rfl rfl), (kt1 11 rfl rfl), by decide +kernel, by decide +kernel, by decide +kernel⟩
theorem cs_Mo_94 : k_site kT "GuestKernelModel" 94 y_Mo_add b_Mo_add 3 none 2 := ⟨(kt3 111 rfl rfl), (kt3 108 rfl rfl), (kt1 11 rfl rfl), by decide +kernel, by decide +kernel, by decide +kernel⟩
theorem cs_La_52 : k_site kT "GuestKernelLaw" 52 y_Mo_thrown b_Mo_thrown 1 (some .int) 0 := ⟨(kt3 215 rfl rfl), (kt3 212 rfl rfl), (kt1 11 rfl rfl), by decide +kernel, by decide +kernel, by decide +kernel⟩
theorem cs_La_51 : k_site kT "GuestKernelLaw" 51 y_Mo_code b_Mo_code 6 none 5 := ⟨(kt3 219 rfl rfl), (kt3 216 rfl rfl), (kt1 11 rfl rfl), by decide +kernel, by decide +kernel, by decide +kernel⟩
theorem cs_Mo_102 : k_site kT "GuestKernelModel" 102 y_Mo_no b_Mo_no 3 (some .boolean) 2 := ⟨(kt3 223 rfl rfl), (kt3 220 rfl rfl), (kt1 11 rfl rfl), by decide +kernel, by decide +kernel, by decide +kernel⟩
theorem cs_La_59 : k_site kT "GuestKernelLaw" 59 y_Mo_run b_Mo_run 3 (some .int) 1 := ⟨(kt3 227 rfl rfl), (kt3 224 rfl rfl), (kt1 11 rfl rfl), by decide +kernel, by decide +kernel, by decide +kernel⟩
theorem cs_Mo_177 : k_site kT "GuestKernelModel" 177 y_Mo_many b_Mo_many 4 (some .int) 1 := ⟨(kt3 231 rfl rfl), (kt3 228 rfl rfl), (kt1 11 rfl rfl), by decide +kernel, by decide +kernel, by decide +kernel⟩
theorem cs_Mo_180 : k_site kT "GuestKernelModel" 180 y_Mo_tick b_Mo_tick 2 none 0 := ⟨(kt3 235 rfl rfl), (kt3 232 rfl rfl), (kt1 11 rfl rfl), by decide +kernel, by decide +kernel, by decide +kernel⟩
theorem cs_Mo_106 : k_site kT "GuestKernelModel" 106 y_Mo_take b_Mo_take 4 (some .int) 1 := ⟨(kt3 239 rfl rfl), (kt3 236 rfl rfl), (kt1 11 rfl rfl), by decide +kernel, by decide +kernel, by decide +kernel⟩
theorem cs_Mo_174 : k_site kT "GuestKernelModel" 174 y_Mo_step b_Mo_step 7 none 1 := ⟨(kt4 3 rfl rfl), (kt4 0 rfl rfl), (kt1 11 rfl rfl), by decide +kernel, by decide +kernel, by decide +kernel⟩
theorem cs_Mo_119 : k_site kT "GuestKernelModel" 119 y_Mo_die b_Mo_die 4 none 2 := ⟨(kt4 7 rfl rfl), (kt4 4 rfl rfl), (kt1 11 rfl rfl), by decide +kernel, by decide +kernel, by decide +kernel⟩
theorem cs_Mo_110 : k_site kT "GuestKernelModel" 110 y_Mo_unmap b_Mo_unmap 3 none 2 := ⟨(kt4 11 rfl rfl), (kt4 8 rfl rfl), (kt1 11 rfl rfl), by decide +kernel, by decide +kernel, by decide +kernel⟩
theorem cs_Mo_113 : k_site kT "GuestKernelModel" 113 y_Mo_unlock b_Mo_unlock 2 none 1 := ⟨(kt4 15 rfl rfl), (kt4 12 rfl rfl), (kt1 11 rfl rfl), by decide +kernel, by decide +kernel, by decide +kernel⟩
theorem cs_Mo_158 : k_site kT "GuestKernelModel" 158 y_Mo_perform b_Mo_perform 11 (some .int) 5 := ⟨(kt4 19 rfl rfl), (kt4 16 rfl rfl), (kt1 11 rfl rfl), by decide +kernel, by decide +kernel, by decide +kernel⟩
theorem cs_Mo_131 : k_site kT "GuestKernelModel" 131 y_Mo_where b_Mo_where 4 (some .int) 2 := ⟨(kt4 23 rfl rfl), (kt4 20 rfl rfl), (kt1 11 rfl rfl), by decide +kernel, by decide +kernel, by decide +kernel⟩
theorem cs_Mo_135 : k_site kT "GuestKernelModel" 135 y_Mo_map b_Mo_map 5 (some .int) 2 := ⟨(kt4 27 rfl rfl), (kt4 24 rfl rfl), (kt1 11 rfl rfl), by decide +kernel, by decide +kernel, by decide +kernel⟩
theorem cs_Mo_138 : k_site kT "GuestKernelModel" 138 y_Mo_spawn b_Mo_spawn 6 (some .int) 4 := ⟨(kt4 31 rfl rfl), (kt4 28 rfl rfl), (kt1 11 rfl rfl), by decide +kernel, by decide +kernel, by decide +kernel⟩
theorem cs_Mo_142 : k_site kT "GuestKernelModel" 142 y_Mo_share b_Mo_share 5 (some .int) 4 := ⟨(kt4 35 rfl rfl), (kt4 32 rfl rfl), (kt1 11 rfl rfl), by decide +kernel, by decide +kernel, by decide +kernel⟩
theorem cs_Mo_148 : k_site kT "GuestKernelModel" 148 y_Mo_send b_Mo_send 5 none 3 := ⟨(kt4 39 rfl rfl), (kt4 36 rfl rfl), (kt1 11 rfl rfl), by decide +kernel, by decide +kernel, by decide +kernel⟩
theorem cs_Mo_128 : k_site kT "GuestKernelModel" 128 y_Mo_block b_Mo_block 3 none 2 := ⟨(kt4 43 rfl rfl), (kt4 40 rfl rfl), (kt1 11 rfl rfl), by decide +kernel, by decide +kernel, by decide +kernel⟩
theorem cs_Mo_152 : k_site kT "GuestKernelModel" 152 y_Mo_receive b_Mo_receive 5 none 3 := ⟨(kt4 47 rfl rfl), (kt4 44 rfl rfl), (kt1 11 rfl rfl), by decide +kernel, by decide +kernel, by decide +kernel⟩
theorem cs_Mo_145 : k_site kT "GuestKernelModel" 145 y_Mo_reap b_Mo_reap 3 (some .int) 1 := ⟨(kt4 51 rfl rfl), (kt4 48 rfl rfl), (kt1 11 rfl rfl), by decide +kernel, by decide +kernel, by decide +kernel⟩
theorem cs_Mo_162 : k_site kT "GuestKernelModel" 162 y_Mo_trap b_Mo_trap 3 none 2 := ⟨(kt4 55 rfl rfl), (kt4 52 rfl rfl), (kt1 11 rfl rfl), by decide +kernel, by decide +kernel, by decide +kernel⟩
theorem cs_La_63 : k_site kT "GuestKernelLaw" 63 y_Mo_register b_Mo_register 3 (some .int) 2 := ⟨(kt4 59 rfl rfl), (kt4 56 rfl rfl), (kt1 11 rfl rfl), by decide +kernel, by decide +kernel, by decide +kernel⟩
theorem cs_Mo_183 : k_site kT "GuestKernelModel" 183 y_Mo_guest b_Mo_guest 3 (some .boolean) 2 := ⟨(kt4 63 rfl rfl), (kt4 60 rfl rfl), (kt1 11 rfl rfl), by decide +kernel, by decide +kernel, by decide +kernel⟩
theorem cs_La_66 : k_site kT "GuestKernelLaw" 66 y_Mo_told b_Mo_told 3 (some .int) 2 := ⟨(kt4 67 rfl rfl), (kt4 64 rfl rfl), (kt1 11 rfl rfl), by decide +kernel, by decide +kernel, by decide +kernel⟩
theorem cs_La_69 : k_site kT "GuestKernelLaw" 69 y_Mo_page b_Mo_page 3 (some .int) 2 := ⟨(kt4 71 rfl rfl), (kt4 68 rfl rfl), (kt1 11 rfl rfl), by decide +kernel, by decide +kernel, by decide +kernel⟩
theorem cs_La_72 : k_site kT "GuestKernelLaw" 72 y_Mo_memory b_Mo_memory 3 (some .int) 2 := ⟨(kt4 75 rfl rfl), (kt4 72 rfl rfl), (kt1 11 rfl rfl), by decide +kernel, by decide +kernel, by decide +kernel⟩
theorem cs_La_75 : k_site kT "GuestKernelLaw" 75 y_Mo_object b_Mo_object 3 (some .int) 2 := ⟨(kt4 79 rfl rfl), (kt4 76 rfl rfl), (kt1 11 rfl rfl), by decide +kernel, by decide +kernel, by decide +kernel⟩
theorem cs_La_78 : k_site kT "GuestKernelLaw" 78 y_Mo_written b_Mo_written 3 (some .int) 2 := ⟨(kt4 83 rfl rfl), (kt4 80 rfl rfl), (kt1 11 rfl rfl), by decide +kernel, by decide +kernel, by decide +kernel⟩
theorem cs_La_82 : k_site kT "GuestKernelLaw" 82 y_Mo_count b_Mo_count 4 (some .int) 1 := ⟨(kt4 87 rfl rfl), (kt4 84 rfl rfl), (kt1 11 rfl rfl), by decide +kernel, by decide +kernel, by decide +kernel⟩
theorem cp_Ch_33 : k_cps kT "GuestKernel$Channel" 33 := ⟨(kt3 8 rfl rfl), (kt3 10 rfl rfl), (kt3 9 rfl rfl), (kt1 17 rfl rfl)⟩
end
section
/-! ===== the layouts: the class (gS) and the reference (mS) ===== -/
def T_Ke : u_T := fun k => match k with
  | 0 => ("GuestKernel", "program", "LGuestKernel$Program;", true)
  | 1 => ("GuestKernel", "frames", "LGuestKernel$Frames;", true)
  | 2 => ("GuestKernel", "guests", "[LGuestKernel$Guest;", true)
  | 3 => ("GuestKernel", "processors", "[LGuestKernel$Processor;", true)
  | 4 => ("GuestKernel", "locks", "[LGuestKernel$Lock;", true)
  | 5 => ("GuestKernel", "channels", "[LGuestKernel$Channel;", true)
  | 6 => ("GuestKernel", "ticks", "I", false)
  | 7 => ("GuestKernel", "instructions", "I", false)
  | 8 => ("GuestKernel", "trapped", "I", false)
  | 9 => ("GuestKernel", "spawned", "I", false)
  | 10 => ("GuestKernel", "reaped", "I", false)
  | 11 => ("GuestKernel", "idle", "I", false)
  | _ => ("GuestKernel", "taken", "I", false)
def ty_Ke : Nat → FieldType := fun k => match k with
  | 0 => .object "GuestKernel$Program"
  | 1 => .object "GuestKernel$Frames"
  | 2 => .array (.object "GuestKernel$Guest")
  | 3 => .array (.object "GuestKernel$Processor")
  | 4 => .array (.object "GuestKernel$Lock")
  | 5 => .array (.object "GuestKernel$Channel")
  | 6 => .int
  | 7 => .int
  | 8 => .int
  | 9 => .int
  | 10 => .int
  | 11 => .int
  | _ => .int
theorem nm_Ke : ∀ a, a < 13 → ∀ b, b < 13 → a ≠ b → (T_Ke a).2.1 ≠ (T_Ke b).2.1 := by decide +kernel
theorem tk_Ke : ∀ k, k < 13 → parseFieldDescriptor (T_Ke k).2.2.1 = some (ty_Ke k) := by decide +kernel
theorem in_Ke : ∀ w ∈ u_ws "GuestKernel" T_Ke 13, w ∈ kT := fun w h => kT_in ((by decide +kernel : ∀ w ∈ u_ws "GuestKernel" T_Ke 13, w ∈ lw_tbl) w h) ((by decide +kernel : ∀ w ∈ u_ws "GuestKernel" T_Ke 13, goodWord w = true) w h)
def rf_Ke : kR := fun i j => match j with
  | 0 => some (1, 0)
  | 1 => some (3, 0)
  | 2 => some (6, 0)
  | 3 => some (10, 0)
  | 4 => some (14, 0)
  | 5 => some (16, 0)
  | _ => none
def T_Pg : u_T := fun k => match k with
  | _ => ("GuestKernel$Program", "parts", "[I", true)
def ty_Pg : Nat → FieldType := fun k => match k with
  | _ => .array .int
theorem nm_Pg : ∀ a, a < 1 → ∀ b, b < 1 → a ≠ b → (T_Pg a).2.1 ≠ (T_Pg b).2.1 := by decide +kernel
theorem tk_Pg : ∀ k, k < 1 → parseFieldDescriptor (T_Pg k).2.2.1 = some (ty_Pg k) := by decide +kernel
theorem in_Pg : ∀ w ∈ u_ws "GuestKernel$Program" T_Pg 1, w ∈ kT := fun w h => kT_in ((by decide +kernel : ∀ w ∈ u_ws "GuestKernel$Program" T_Pg 1, w ∈ lw_tbl) w h) ((by decide +kernel : ∀ w ∈ u_ws "GuestKernel$Program" T_Pg 1, goodWord w = true) w h)
def rf_Pg : kR := fun i j => match j with
  | 0 => some (2, 0)
  | _ => none
def T_Fr : u_T := fun k => match k with
  | 0 => ("GuestKernel$Frames", "ints", "[I", true)
  | 1 => ("GuestKernel$Frames", "isTaken", "[Z", true)
  | _ => ("GuestKernel$Frames", "free", "I", false)
def ty_Fr : Nat → FieldType := fun k => match k with
  | 0 => .array .int
  | 1 => .array .boolean
  | _ => .int
theorem nm_Fr : ∀ a, a < 3 → ∀ b, b < 3 → a ≠ b → (T_Fr a).2.1 ≠ (T_Fr b).2.1 := by decide +kernel
theorem tk_Fr : ∀ k, k < 3 → parseFieldDescriptor (T_Fr k).2.2.1 = some (ty_Fr k) := by decide +kernel
theorem in_Fr : ∀ w ∈ u_ws "GuestKernel$Frames" T_Fr 3, w ∈ kT := fun w h => kT_in ((by decide +kernel : ∀ w ∈ u_ws "GuestKernel$Frames" T_Fr 3, w ∈ lw_tbl) w h) ((by decide +kernel : ∀ w ∈ u_ws "GuestKernel$Frames" T_Fr 3, goodWord w = true) w h)
def rf_Fr : kR := fun i j => match j with
  | 0 => some (4, 0)
  | 1 => some (5, 0)
  | _ => none
def T_Gu : u_T := fun k => match k with
  | 0 => ("GuestKernel$Guest", "number", "I", true)
  | 1 => ("GuestKernel$Guest", "registers", "[I", true)
  | 2 => ("GuestKernel$Guest", "pages", "[I", true)
  | 3 => ("GuestKernel$Guest", "state", "I", false)
  | 4 => ("GuestKernel$Guest", "place", "I", false)
  | 5 => ("GuestKernel$Guest", "handler", "I", false)
  | 6 => ("GuestKernel$Guest", "quota", "I", false)
  | 7 => ("GuestKernel$Guest", "used", "I", false)
  | 8 => ("GuestKernel$Guest", "given", "I", false)
  | 9 => ("GuestKernel$Guest", "parent", "I", false)
  | 10 => ("GuestKernel$Guest", "outcome", "I", false)
  | 11 => ("GuestKernel$Guest", "trapped", "I", false)
  | _ => ("GuestKernel$Guest", "blockedRegister", "I", false)
def ty_Gu : Nat → FieldType := fun k => match k with
  | 0 => .int
  | 1 => .array .int
  | 2 => .array .int
  | 3 => .int
  | 4 => .int
  | 5 => .int
  | 6 => .int
  | 7 => .int
  | 8 => .int
  | 9 => .int
  | 10 => .int
  | 11 => .int
  | _ => .int
theorem nm_Gu : ∀ a, a < 13 → ∀ b, b < 13 → a ≠ b → (T_Gu a).2.1 ≠ (T_Gu b).2.1 := by decide +kernel
theorem tk_Gu : ∀ k, k < 13 → parseFieldDescriptor (T_Gu k).2.2.1 = some (ty_Gu k) := by decide +kernel
theorem in_Gu : ∀ w ∈ u_ws "GuestKernel$Guest" T_Gu 13, w ∈ kT := fun w h => kT_in ((by decide +kernel : ∀ w ∈ u_ws "GuestKernel$Guest" T_Gu 13, w ∈ lw_tbl) w h) ((by decide +kernel : ∀ w ∈ u_ws "GuestKernel$Guest" T_Gu 13, goodWord w = true) w h)
def rf_Gu : kR := fun i j => match j with
  | 1 => some (8, i)
  | 2 => some (9, i)
  | _ => none
def T_Pr : u_T := fun k => match k with
  | 0 => ("GuestKernel$Processor", "ready", "LGuestKernel$Row;", true)
  | 1 => ("GuestKernel$Processor", "atHand", "I", false)
  | _ => ("GuestKernel$Processor", "time", "I", false)
def ty_Pr : Nat → FieldType := fun k => match k with
  | 0 => .object "GuestKernel$Row"
  | 1 => .int
  | _ => .int
theorem nm_Pr : ∀ a, a < 3 → ∀ b, b < 3 → a ≠ b → (T_Pr a).2.1 ≠ (T_Pr b).2.1 := by decide +kernel
theorem tk_Pr : ∀ k, k < 3 → parseFieldDescriptor (T_Pr k).2.2.1 = some (ty_Pr k) := by decide +kernel
theorem in_Pr : ∀ w ∈ u_ws "GuestKernel$Processor" T_Pr 3, w ∈ kT := fun w h => kT_in ((by decide +kernel : ∀ w ∈ u_ws "GuestKernel$Processor" T_Pr 3, w ∈ lw_tbl) w h) ((by decide +kernel : ∀ w ∈ u_ws "GuestKernel$Processor" T_Pr 3, goodWord w = true) w h)
def rf_Pr : kR := fun i j => match j with
  | 0 => some (12, i)
  | _ => none
def T_Ro : u_T := fun k => match k with
  | 0 => ("GuestKernel$Row", "numbers", "[I", true)
  | 1 => ("GuestKernel$Row", "first", "I", false)
  | _ => ("GuestKernel$Row", "size", "I", false)
def ty_Ro : Nat → FieldType := fun k => match k with
  | 0 => .array .int
  | 1 => .int
  | _ => .int
theorem nm_Ro : ∀ a, a < 3 → ∀ b, b < 3 → a ≠ b → (T_Ro a).2.1 ≠ (T_Ro b).2.1 := by decide +kernel
theorem tk_Ro : ∀ k, k < 3 → parseFieldDescriptor (T_Ro k).2.2.1 = some (ty_Ro k) := by decide +kernel
theorem in_Ro : ∀ w ∈ u_ws "GuestKernel$Row" T_Ro 3, w ∈ kT := fun w h => kT_in ((by decide +kernel : ∀ w ∈ u_ws "GuestKernel$Row" T_Ro 3, w ∈ lw_tbl) w h) ((by decide +kernel : ∀ w ∈ u_ws "GuestKernel$Row" T_Ro 3, goodWord w = true) w h)
def rf_Ro : kR := fun i j => match j with
  | 0 => some (13, i)
  | _ => none
def T_Lo : u_T := fun k => match k with
  | 0 => ("GuestKernel$Lock", "waiting", "LGuestKernel$Row;", true)
  | _ => ("GuestKernel$Lock", "holder", "I", false)
def ty_Lo : Nat → FieldType := fun k => match k with
  | 0 => .object "GuestKernel$Row"
  | _ => .int
theorem nm_Lo : ∀ a, a < 2 → ∀ b, b < 2 → a ≠ b → (T_Lo a).2.1 ≠ (T_Lo b).2.1 := by decide +kernel
theorem tk_Lo : ∀ k, k < 2 → parseFieldDescriptor (T_Lo k).2.2.1 = some (ty_Lo k) := by decide +kernel
theorem in_Lo : ∀ w ∈ u_ws "GuestKernel$Lock" T_Lo 2, w ∈ kT := fun w h => kT_in ((by decide +kernel : ∀ w ∈ u_ws "GuestKernel$Lock" T_Lo 2, w ∈ lw_tbl) w h) ((by decide +kernel : ∀ w ∈ u_ws "GuestKernel$Lock" T_Lo 2, goodWord w = true) w h)
def rf_Lo : kR := fun i j => match j with
  | 0 => some (12, 10 + i)
  | _ => none
def T_Ch : u_T := fun k => match k with
  | 0 => ("GuestKernel$Channel", "senders", "LGuestKernel$Row;", true)
  | 1 => ("GuestKernel$Channel", "receivers", "LGuestKernel$Row;", true)
  | 2 => ("GuestKernel$Channel", "ints", "[I", true)
  | _ => ("GuestKernel$Channel", "size", "I", false)
def ty_Ch : Nat → FieldType := fun k => match k with
  | 0 => .object "GuestKernel$Row"
  | 1 => .object "GuestKernel$Row"
  | 2 => .array .int
  | _ => .int
theorem nm_Ch : ∀ a, a < 4 → ∀ b, b < 4 → a ≠ b → (T_Ch a).2.1 ≠ (T_Ch b).2.1 := by decide +kernel
theorem tk_Ch : ∀ k, k < 4 → parseFieldDescriptor (T_Ch k).2.2.1 = some (ty_Ch k) := by decide +kernel
theorem in_Ch : ∀ w ∈ u_ws "GuestKernel$Channel" T_Ch 4, w ∈ kT := fun w h => kT_in ((by decide +kernel : ∀ w ∈ u_ws "GuestKernel$Channel" T_Ch 4, w ∈ lw_tbl) w h) ((by decide +kernel : ∀ w ∈ u_ws "GuestKernel$Channel" T_Ch 4, goodWord w = true) w h)
def rf_Ch : kR := fun i j => match j with
  | 0 => some (12, 2 + i)
  | 1 => some (12, 6 + i)
  | 2 => some (18, i)
  | _ => none
def T_Mo : u_T := fun k => match k with
  | 0 => ("GuestKernelModel", "op", "[I", true)
  | 1 => ("GuestKernelModel", "first", "[I", true)
  | 2 => ("GuestKernelModel", "second", "[I", true)
  | 3 => ("GuestKernelModel", "third", "[I", true)
  | 4 => ("GuestKernelModel", "state", "[I", true)
  | 5 => ("GuestKernelModel", "place", "[I", true)
  | 6 => ("GuestKernelModel", "handler", "[I", true)
  | 7 => ("GuestKernelModel", "quota", "[I", true)
  | 8 => ("GuestKernelModel", "used", "[I", true)
  | 9 => ("GuestKernelModel", "given", "[I", true)
  | 10 => ("GuestKernelModel", "parent", "[I", true)
  | 11 => ("GuestKernelModel", "outcome", "[I", true)
  | 12 => ("GuestKernelModel", "traps", "[I", true)
  | 13 => ("GuestKernelModel", "carried", "[I", true)
  | 14 => ("GuestKernelModel", "register", "[I", true)
  | 15 => ("GuestKernelModel", "page", "[I", true)
  | 16 => ("GuestKernelModel", "memory", "[I", true)
  | 17 => ("GuestKernelModel", "taken", "[Z", true)
  | 18 => ("GuestKernelModel", "row", "[I", true)
  | 19 => ("GuestKernelModel", "size", "[I", true)
  | 20 => ("GuestKernelModel", "channel", "[I", true)
  | 21 => ("GuestKernelModel", "held", "[I", true)
  | 22 => ("GuestKernelModel", "holder", "[I", true)
  | 23 => ("GuestKernelModel", "hand", "[I", true)
  | 24 => ("GuestKernelModel", "time", "[I", true)
  | 25 => ("GuestKernelModel", "ticks", "I", false)
  | 26 => ("GuestKernelModel", "done", "I", false)
  | 27 => ("GuestKernelModel", "allTraps", "I", false)
  | 28 => ("GuestKernelModel", "spawned", "I", false)
  | 29 => ("GuestKernelModel", "reaped", "I", false)
  | 30 => ("GuestKernelModel", "idle", "I", false)
  | 31 => ("GuestKernelModel", "chosen", "I", false)
  | _ => ("GuestKernelModel", "thrown", "I", false)
def ty_Mo : Nat → FieldType := fun k => match k with
  | 0 => .array .int
  | 1 => .array .int
  | 2 => .array .int
  | 3 => .array .int
  | 4 => .array .int
  | 5 => .array .int
  | 6 => .array .int
  | 7 => .array .int
  | 8 => .array .int
  | 9 => .array .int
  | 10 => .array .int
  | 11 => .array .int
  | 12 => .array .int
  | 13 => .array .int
  | 14 => .array .int
  | 15 => .array .int
  | 16 => .array .int
  | 17 => .array .boolean
  | 18 => .array .int
  | 19 => .array .int
  | 20 => .array .int
  | 21 => .array .int
  | 22 => .array .int
  | 23 => .array .int
  | 24 => .array .int
  | 25 => .int
  | 26 => .int
  | 27 => .int
  | 28 => .int
  | 29 => .int
  | 30 => .int
  | 31 => .int
  | _ => .int
theorem nm_Mo : ∀ a, a < 33 → ∀ b, b < 33 → a ≠ b → (T_Mo a).2.1 ≠ (T_Mo b).2.1 := by decide +kernel
theorem tk_Mo : ∀ k, k < 33 → parseFieldDescriptor (T_Mo k).2.2.1 = some (ty_Mo k) := by decide +kernel
theorem in_Mo : ∀ w ∈ u_ws "GuestKernelModel" T_Mo 33, w ∈ kT := fun w h => kT_in ((by decide +kernel : ∀ w ∈ u_ws "GuestKernelModel" T_Mo 33, w ∈ lw_tbl) w h) ((by decide +kernel : ∀ w ∈ u_ws "GuestKernelModel" T_Mo 33, goodWord w = true) w h)
def rf_Mo : kR := fun i j => match j with
  | 0 => some (1, 0)
  | 1 => some (2, 0)
  | 2 => some (3, 0)
  | 3 => some (4, 0)
  | 4 => some (5, 0)
  | 5 => some (6, 0)
  | 6 => some (7, 0)
  | 7 => some (8, 0)
  | 8 => some (9, 0)
  | 9 => some (10, 0)
  | 10 => some (11, 0)
  | 11 => some (12, 0)
  | 12 => some (13, 0)
  | 13 => some (14, 0)
  | 14 => some (15, 0)
  | 15 => some (16, 0)
  | 16 => some (17, 0)
  | 17 => some (18, 0)
  | 18 => some (19, 0)
  | 19 => some (20, 0)
  | 20 => some (21, 0)
  | 21 => some (22, 0)
  | 22 => some (23, 0)
  | 23 => some (24, 0)
  | 24 => some (25, 0)
  | _ => none
def rq_6 : kR := fun _ j => some (7, j)
def rq_10 : kR := fun _ j => some (11, j)
def rq_14 : kR := fun _ j => some (15, j)
def rq_16 : kR := fun _ j => some (17, j)
def gCl : List vw_C := [("GuestKernel", T_Ke, 13), ("GuestKernel$Program", T_Pg, 1), ("GuestKernel$Frames", T_Fr, 3), ("GuestKernel$Guest", T_Gu, 13), ("GuestKernel$Processor", T_Pr, 3), ("GuestKernel$Row", T_Ro, 3), ("GuestKernel$Lock", T_Lo, 2), ("GuestKernel$Channel", T_Ch, 4)]
def gAt : List FieldType := [.int, .boolean, .object "GuestKernel$Guest", .object "GuestKernel$Processor", .object "GuestKernel$Lock", .object "GuestKernel$Channel"]
def gL : kL := [(1, .inl (0, 13, rf_Ke)), (1, .inl (1, 1, rf_Pg)), (1, .inr (.inl (0, 128))), (1, .inl (2, 3, rf_Fr)), (1, .inr (.inl (0, 96))), (1, .inr (.inl (1, 12))), (1, .inr (.inr (2, 6, rq_6))), (6, .inl (3, 13, rf_Gu)), (6, .inr (.inl (0, 4))), (6, .inr (.inl (0, 4))), (1, .inr (.inr (3, 2, rq_10))), (2, .inl (4, 3, rf_Pr)), (14, .inl (5, 3, rf_Ro)), (14, .inr (.inl (0, 6))), (1, .inr (.inr (4, 4, rq_14))), (4, .inl (6, 2, rf_Lo)), (1, .inr (.inr (5, 4, rq_16))), (4, .inl (7, 4, rf_Ch)), (4, .inr (.inl (0, 2)))]
def gS : kS := (gCl, gAt, gL)
def mCl : List vw_C := [("GuestKernelModel", T_Mo, 33)]
def mAt : List FieldType := [.int, .boolean]
def mL : kL := [(1, .inl (0, 33, rf_Mo)), (1, .inr (.inl (0, 32))), (1, .inr (.inl (0, 32))), (1, .inr (.inl (0, 32))), (1, .inr (.inl (0, 32))), (1, .inr (.inl (0, 6))), (1, .inr (.inl (0, 6))), (1, .inr (.inl (0, 6))), (1, .inr (.inl (0, 6))), (1, .inr (.inl (0, 6))), (1, .inr (.inl (0, 6))), (1, .inr (.inl (0, 6))), (1, .inr (.inl (0, 6))), (1, .inr (.inl (0, 6))), (1, .inr (.inl (0, 6))), (1, .inr (.inl (0, 24))), (1, .inr (.inl (0, 24))), (1, .inr (.inl (0, 96))), (1, .inr (.inl (1, 12))), (1, .inr (.inl (0, 84))), (1, .inr (.inl (0, 14))), (1, .inr (.inl (0, 8))), (1, .inr (.inl (0, 4))), (1, .inr (.inl (0, 4))), (1, .inr (.inl (0, 2))), (1, .inr (.inl (0, 2)))]
def mS : kS := (mCl, mAt, mL)
theorem ar_2 : k_arr gS 2 1 128 .int := ⟨0, rfl, rfl⟩
theorem ar_4 : k_arr gS 4 1 96 .int := ⟨0, rfl, rfl⟩
theorem ar_5 : k_arr gS 5 1 12 .boolean := ⟨1, rfl, rfl⟩
theorem ar_8 : k_arr gS 8 6 4 .int := ⟨0, rfl, rfl⟩
theorem ar_9 : k_arr gS 9 6 4 .int := ⟨0, rfl, rfl⟩
theorem ar_13 : k_arr gS 13 14 6 .int := ⟨0, rfl, rfl⟩
theorem ar_18 : k_arr gS 18 4 2 .int := ⟨0, rfl, rfl⟩
theorem ar_6 : k_arq gS 6 1 6 rq_6 := ⟨2, _, rfl, rfl⟩
theorem ar_10 : k_arq gS 10 1 2 rq_10 := ⟨3, _, rfl, rfl⟩
theorem ar_14 : k_arq gS 14 1 4 rq_14 := ⟨4, _, rfl, rfl⟩
theorem ar_16 : k_arq gS 16 1 4 rq_16 := ⟨5, _, rfl, rfl⟩
theorem am_1 : k_arr mS 1 1 32 .int := ⟨0, rfl, rfl⟩
theorem am_2 : k_arr mS 2 1 32 .int := ⟨0, rfl, rfl⟩
theorem am_3 : k_arr mS 3 1 32 .int := ⟨0, rfl, rfl⟩
theorem am_4 : k_arr mS 4 1 32 .int := ⟨0, rfl, rfl⟩
theorem am_5 : k_arr mS 5 1 6 .int := ⟨0, rfl, rfl⟩
theorem am_6 : k_arr mS 6 1 6 .int := ⟨0, rfl, rfl⟩
theorem am_7 : k_arr mS 7 1 6 .int := ⟨0, rfl, rfl⟩
theorem am_8 : k_arr mS 8 1 6 .int := ⟨0, rfl, rfl⟩
theorem am_9 : k_arr mS 9 1 6 .int := ⟨0, rfl, rfl⟩
theorem am_10 : k_arr mS 10 1 6 .int := ⟨0, rfl, rfl⟩
theorem am_11 : k_arr mS 11 1 6 .int := ⟨0, rfl, rfl⟩
theorem am_12 : k_arr mS 12 1 6 .int := ⟨0, rfl, rfl⟩
theorem am_13 : k_arr mS 13 1 6 .int := ⟨0, rfl, rfl⟩
theorem am_14 : k_arr mS 14 1 6 .int := ⟨0, rfl, rfl⟩
theorem am_15 : k_arr mS 15 1 24 .int := ⟨0, rfl, rfl⟩
theorem am_16 : k_arr mS 16 1 24 .int := ⟨0, rfl, rfl⟩
theorem am_17 : k_arr mS 17 1 96 .int := ⟨0, rfl, rfl⟩
theorem am_18 : k_arr mS 18 1 12 .boolean := ⟨1, rfl, rfl⟩
theorem am_19 : k_arr mS 19 1 84 .int := ⟨0, rfl, rfl⟩
theorem am_20 : k_arr mS 20 1 14 .int := ⟨0, rfl, rfl⟩
theorem am_21 : k_arr mS 21 1 8 .int := ⟨0, rfl, rfl⟩
theorem am_22 : k_arr mS 22 1 4 .int := ⟨0, rfl, rfl⟩
theorem am_23 : k_arr mS 23 1 4 .int := ⟨0, rfl, rfl⟩
theorem am_24 : k_arr mS 24 1 2 .int := ⟨0, rfl, rfl⟩
theorem am_25 : k_arr mS 25 1 2 .int := ⟨0, rfl, rfl⟩
theorem ob_0 : k_obj gS 0 1 "GuestKernel" := ⟨0, 13, rf_Ke, T_Ke, rfl, rfl⟩
theorem ob_1 : k_obj gS 1 1 "GuestKernel$Program" := ⟨1, 1, rf_Pg, T_Pg, rfl, rfl⟩
theorem ob_3 : k_obj gS 3 1 "GuestKernel$Frames" := ⟨2, 3, rf_Fr, T_Fr, rfl, rfl⟩
theorem ob_7 : k_obj gS 7 6 "GuestKernel$Guest" := ⟨3, 13, rf_Gu, T_Gu, rfl, rfl⟩
theorem ob_11 : k_obj gS 11 2 "GuestKernel$Processor" := ⟨4, 3, rf_Pr, T_Pr, rfl, rfl⟩
theorem ob_12 : k_obj gS 12 14 "GuestKernel$Row" := ⟨5, 3, rf_Ro, T_Ro, rfl, rfl⟩
theorem ob_15 : k_obj gS 15 4 "GuestKernel$Lock" := ⟨6, 2, rf_Lo, T_Lo, rfl, rfl⟩
theorem ob_17 : k_obj gS 17 4 "GuestKernel$Channel" := ⟨7, 4, rf_Ch, T_Ch, rfl, rfl⟩
theorem om_0 : k_obj mS 0 1 "GuestKernelModel" := ⟨0, 33, rf_Mo, T_Mo, rfl, rfl⟩
theorem fg_Pg_11 : k_fld gS kT "GuestKernel$Program" 11 1 0 1 rf_Pg := ⟨1, 1, "GuestKernel$Program", "GuestKernel$Program", "parts", "[I", T_Pg, rfl, rfl, in_Pg, rfl, by decide, (kt1 33 rfl rfl)⟩
theorem fg_Fr_9 : k_fld gS kT "GuestKernel$Frames" 9 3 0 1 rf_Fr := ⟨2, 3, "GuestKernel$Frames", "GuestKernel$Frames", "ints", "[I", T_Fr, rfl, rfl, in_Fr, rfl, by decide, (kt1 44 rfl rfl)⟩
theorem fg_Fr_15 : k_fld gS kT "GuestKernel$Frames" 15 3 1 1 rf_Fr := ⟨2, 3, "GuestKernel$Frames", "GuestKernel$Frames", "isTaken", "[Z", T_Fr, rfl, rfl, in_Fr, rfl, by decide, (kt1 45 rfl rfl)⟩
theorem fg_Fr_19 : k_fld gS kT "GuestKernel$Frames" 19 3 2 1 rf_Fr := ⟨2, 3, "GuestKernel$Frames", "GuestKernel$Frames", "free", "I", T_Fr, rfl, rfl, in_Fr, rfl, by decide, (kt1 46 rfl rfl)⟩
theorem fp_Fr_19 : k_fldP gS kT "GuestKernel$Frames" 19 3 2 1 rf_Fr := ⟨2, 3, "GuestKernel$Frames", "GuestKernel$Frames", "free", T_Fr, ty_Fr, rfl, rfl, in_Fr, tk_Fr, nm_Fr, rfl, by decide, (kt1 46 rfl rfl)⟩
theorem fg_Ke_164 : k_fld gS kT "GuestKernel" 164 3 2 1 rf_Fr := ⟨2, 3, "GuestKernel$Frames", "GuestKernel$Frames", "free", "I", T_Fr, rfl, rfl, in_Fr, rfl, by decide, (kt1 47 rfl rfl)⟩
theorem fp_Ke_164 : k_fldP gS kT "GuestKernel" 164 3 2 1 rf_Fr := ⟨2, 3, "GuestKernel$Frames", "GuestKernel$Frames", "free", T_Fr, ty_Fr, rfl, rfl, in_Fr, tk_Fr, nm_Fr, rfl, by decide, (kt1 47 rfl rfl)⟩
theorem fg_Gu_22 : k_fld gS kT "GuestKernel$Guest" 22 7 0 6 rf_Gu := ⟨3, 13, "GuestKernel$Guest", "GuestKernel$Guest", "number", "I", T_Gu, rfl, rfl, in_Gu, rfl, by decide, (kt1 69 rfl rfl)⟩
theorem fg_Ke_273 : k_fld gS kT "GuestKernel" 273 7 0 6 rf_Gu := ⟨3, 13, "GuestKernel$Guest", "GuestKernel$Guest", "number", "I", T_Gu, rfl, rfl, in_Gu, rfl, by decide, (kt1 70 rfl rfl)⟩
theorem fg_Gu_9 : k_fld gS kT "GuestKernel$Guest" 9 7 1 6 rf_Gu := ⟨3, 13, "GuestKernel$Guest", "GuestKernel$Guest", "registers", "[I", T_Gu, rfl, rfl, in_Gu, rfl, by decide, (kt1 71 rfl rfl)⟩
theorem fg_Ke_94 : k_fld gS kT "GuestKernel" 94 7 1 6 rf_Gu := ⟨3, 13, "GuestKernel$Guest", "GuestKernel$Guest", "registers", "[I", T_Gu, rfl, rfl, in_Gu, rfl, by decide, (kt1 72 rfl rfl)⟩
theorem fg_Gu_15 : k_fld gS kT "GuestKernel$Guest" 15 7 2 6 rf_Gu := ⟨3, 13, "GuestKernel$Guest", "GuestKernel$Guest", "pages", "[I", T_Gu, rfl, rfl, in_Gu, rfl, by decide, (kt1 73 rfl rfl)⟩
theorem fg_Ke_125 : k_fld gS kT "GuestKernel" 125 7 2 6 rf_Gu := ⟨3, 13, "GuestKernel$Guest", "GuestKernel$Guest", "pages", "[I", T_Gu, rfl, rfl, in_Gu, rfl, by decide, (kt1 74 rfl rfl)⟩
theorem fg_Gu_18 : k_fld gS kT "GuestKernel$Guest" 18 7 3 6 rf_Gu := ⟨3, 13, "GuestKernel$Guest", "GuestKernel$Guest", "state", "I", T_Gu, rfl, rfl, in_Gu, rfl, by decide, (kt1 75 rfl rfl)⟩
theorem fp_Gu_18 : k_fldP gS kT "GuestKernel$Guest" 18 7 3 6 rf_Gu := ⟨3, 13, "GuestKernel$Guest", "GuestKernel$Guest", "state", T_Gu, ty_Gu, rfl, rfl, in_Gu, tk_Gu, nm_Gu, rfl, by decide, (kt1 75 rfl rfl)⟩
theorem fg_Ke_98 : k_fld gS kT "GuestKernel" 98 7 3 6 rf_Gu := ⟨3, 13, "GuestKernel$Guest", "GuestKernel$Guest", "state", "I", T_Gu, rfl, rfl, in_Gu, rfl, by decide, (kt1 76 rfl rfl)⟩
theorem fp_Ke_98 : k_fldP gS kT "GuestKernel" 98 7 3 6 rf_Gu := ⟨3, 13, "GuestKernel$Guest", "GuestKernel$Guest", "state", T_Gu, ty_Gu, rfl, rfl, in_Gu, tk_Gu, nm_Gu, rfl, by decide, (kt1 76 rfl rfl)⟩
theorem fg_Gu_62 : k_fld gS kT "GuestKernel$Guest" 62 7 4 6 rf_Gu := ⟨3, 13, "GuestKernel$Guest", "GuestKernel$Guest", "place", "I", T_Gu, rfl, rfl, in_Gu, rfl, by decide, (kt1 77 rfl rfl)⟩
theorem fp_Gu_62 : k_fldP gS kT "GuestKernel$Guest" 62 7 4 6 rf_Gu := ⟨3, 13, "GuestKernel$Guest", "GuestKernel$Guest", "place", T_Gu, ty_Gu, rfl, rfl, in_Gu, tk_Gu, nm_Gu, rfl, by decide, (kt1 77 rfl rfl)⟩
theorem fg_Ke_101 : k_fld gS kT "GuestKernel" 101 7 4 6 rf_Gu := ⟨3, 13, "GuestKernel$Guest", "GuestKernel$Guest", "place", "I", T_Gu, rfl, rfl, in_Gu, rfl, by decide, (kt1 78 rfl rfl)⟩
theorem fp_Ke_101 : k_fldP gS kT "GuestKernel" 101 7 4 6 rf_Gu := ⟨3, 13, "GuestKernel$Guest", "GuestKernel$Guest", "place", T_Gu, ty_Gu, rfl, rfl, in_Gu, tk_Gu, nm_Gu, rfl, by decide, (kt1 78 rfl rfl)⟩
theorem fg_Gu_35 : k_fld gS kT "GuestKernel$Guest" 35 7 5 6 rf_Gu := ⟨3, 13, "GuestKernel$Guest", "GuestKernel$Guest", "handler", "I", T_Gu, rfl, rfl, in_Gu, rfl, by decide, (kt1 79 rfl rfl)⟩
theorem fp_Gu_35 : k_fldP gS kT "GuestKernel$Guest" 35 7 5 6 rf_Gu := ⟨3, 13, "GuestKernel$Guest", "GuestKernel$Guest", "handler", T_Gu, ty_Gu, rfl, rfl, in_Gu, tk_Gu, nm_Gu, rfl, by decide, (kt1 79 rfl rfl)⟩
theorem fg_Ke_104 : k_fld gS kT "GuestKernel" 104 7 5 6 rf_Gu := ⟨3, 13, "GuestKernel$Guest", "GuestKernel$Guest", "handler", "I", T_Gu, rfl, rfl, in_Gu, rfl, by decide, (kt1 80 rfl rfl)⟩
theorem fp_Ke_104 : k_fldP gS kT "GuestKernel" 104 7 5 6 rf_Gu := ⟨3, 13, "GuestKernel$Guest", "GuestKernel$Guest", "handler", T_Gu, ty_Gu, rfl, rfl, in_Gu, tk_Gu, nm_Gu, rfl, by decide, (kt1 80 rfl rfl)⟩
theorem fg_Gu_38 : k_fld gS kT "GuestKernel$Guest" 38 7 6 6 rf_Gu := ⟨3, 13, "GuestKernel$Guest", "GuestKernel$Guest", "quota", "I", T_Gu, rfl, rfl, in_Gu, rfl, by decide, (kt1 81 rfl rfl)⟩
theorem fp_Gu_38 : k_fldP gS kT "GuestKernel$Guest" 38 7 6 6 rf_Gu := ⟨3, 13, "GuestKernel$Guest", "GuestKernel$Guest", "quota", T_Gu, ty_Gu, rfl, rfl, in_Gu, tk_Gu, nm_Gu, rfl, by decide, (kt1 81 rfl rfl)⟩
theorem fg_Ke_107 : k_fld gS kT "GuestKernel" 107 7 6 6 rf_Gu := ⟨3, 13, "GuestKernel$Guest", "GuestKernel$Guest", "quota", "I", T_Gu, rfl, rfl, in_Gu, rfl, by decide, (kt1 82 rfl rfl)⟩
theorem fp_Ke_107 : k_fldP gS kT "GuestKernel" 107 7 6 6 rf_Gu := ⟨3, 13, "GuestKernel$Guest", "GuestKernel$Guest", "quota", T_Gu, ty_Gu, rfl, rfl, in_Gu, tk_Gu, nm_Gu, rfl, by decide, (kt1 82 rfl rfl)⟩
theorem fg_Gu_41 : k_fld gS kT "GuestKernel$Guest" 41 7 7 6 rf_Gu := ⟨3, 13, "GuestKernel$Guest", "GuestKernel$Guest", "used", "I", T_Gu, rfl, rfl, in_Gu, rfl, by decide, (kt1 83 rfl rfl)⟩
theorem fp_Gu_41 : k_fldP gS kT "GuestKernel$Guest" 41 7 7 6 rf_Gu := ⟨3, 13, "GuestKernel$Guest", "GuestKernel$Guest", "used", T_Gu, ty_Gu, rfl, rfl, in_Gu, tk_Gu, nm_Gu, rfl, by decide, (kt1 83 rfl rfl)⟩
theorem fg_Ke_110 : k_fld gS kT "GuestKernel" 110 7 7 6 rf_Gu := ⟨3, 13, "GuestKernel$Guest", "GuestKernel$Guest", "used", "I", T_Gu, rfl, rfl, in_Gu, rfl, by decide, (kt1 84 rfl rfl)⟩
theorem fp_Ke_110 : k_fldP gS kT "GuestKernel" 110 7 7 6 rf_Gu := ⟨3, 13, "GuestKernel$Guest", "GuestKernel$Guest", "used", T_Gu, ty_Gu, rfl, rfl, in_Gu, tk_Gu, nm_Gu, rfl, by decide, (kt1 84 rfl rfl)⟩
theorem fg_Gu_44 : k_fld gS kT "GuestKernel$Guest" 44 7 8 6 rf_Gu := ⟨3, 13, "GuestKernel$Guest", "GuestKernel$Guest", "given", "I", T_Gu, rfl, rfl, in_Gu, rfl, by decide, (kt1 85 rfl rfl)⟩
theorem fp_Gu_44 : k_fldP gS kT "GuestKernel$Guest" 44 7 8 6 rf_Gu := ⟨3, 13, "GuestKernel$Guest", "GuestKernel$Guest", "given", T_Gu, ty_Gu, rfl, rfl, in_Gu, tk_Gu, nm_Gu, rfl, by decide, (kt1 85 rfl rfl)⟩
theorem fg_Ke_113 : k_fld gS kT "GuestKernel" 113 7 8 6 rf_Gu := ⟨3, 13, "GuestKernel$Guest", "GuestKernel$Guest", "given", "I", T_Gu, rfl, rfl, in_Gu, rfl, by decide, (kt1 86 rfl rfl)⟩
theorem fp_Ke_113 : k_fldP gS kT "GuestKernel" 113 7 8 6 rf_Gu := ⟨3, 13, "GuestKernel$Guest", "GuestKernel$Guest", "given", T_Gu, ty_Gu, rfl, rfl, in_Gu, tk_Gu, nm_Gu, rfl, by decide, (kt1 86 rfl rfl)⟩
theorem fg_Gu_47 : k_fld gS kT "GuestKernel$Guest" 47 7 9 6 rf_Gu := ⟨3, 13, "GuestKernel$Guest", "GuestKernel$Guest", "parent", "I", T_Gu, rfl, rfl, in_Gu, rfl, by decide, (kt1 87 rfl rfl)⟩
theorem fp_Gu_47 : k_fldP gS kT "GuestKernel$Guest" 47 7 9 6 rf_Gu := ⟨3, 13, "GuestKernel$Guest", "GuestKernel$Guest", "parent", T_Gu, ty_Gu, rfl, rfl, in_Gu, tk_Gu, nm_Gu, rfl, by decide, (kt1 87 rfl rfl)⟩
theorem fg_Ke_116 : k_fld gS kT "GuestKernel" 116 7 9 6 rf_Gu := ⟨3, 13, "GuestKernel$Guest", "GuestKernel$Guest", "parent", "I", T_Gu, rfl, rfl, in_Gu, rfl, by decide, (kt1 88 rfl rfl)⟩
theorem fp_Ke_116 : k_fldP gS kT "GuestKernel" 116 7 9 6 rf_Gu := ⟨3, 13, "GuestKernel$Guest", "GuestKernel$Guest", "parent", T_Gu, ty_Gu, rfl, rfl, in_Gu, tk_Gu, nm_Gu, rfl, by decide, (kt1 88 rfl rfl)⟩
theorem fg_Gu_50 : k_fld gS kT "GuestKernel$Guest" 50 7 10 6 rf_Gu := ⟨3, 13, "GuestKernel$Guest", "GuestKernel$Guest", "outcome", "I", T_Gu, rfl, rfl, in_Gu, rfl, by decide, (kt1 89 rfl rfl)⟩
theorem fp_Gu_50 : k_fldP gS kT "GuestKernel$Guest" 50 7 10 6 rf_Gu := ⟨3, 13, "GuestKernel$Guest", "GuestKernel$Guest", "outcome", T_Gu, ty_Gu, rfl, rfl, in_Gu, tk_Gu, nm_Gu, rfl, by decide, (kt1 89 rfl rfl)⟩
theorem fg_Ke_119 : k_fld gS kT "GuestKernel" 119 7 10 6 rf_Gu := ⟨3, 13, "GuestKernel$Guest", "GuestKernel$Guest", "outcome", "I", T_Gu, rfl, rfl, in_Gu, rfl, by decide, (kt1 90 rfl rfl)⟩
theorem fp_Ke_119 : k_fldP gS kT "GuestKernel" 119 7 10 6 rf_Gu := ⟨3, 13, "GuestKernel$Guest", "GuestKernel$Guest", "outcome", T_Gu, ty_Gu, rfl, rfl, in_Gu, tk_Gu, nm_Gu, rfl, by decide, (kt1 90 rfl rfl)⟩
theorem fg_Gu_53 : k_fld gS kT "GuestKernel$Guest" 53 7 11 6 rf_Gu := ⟨3, 13, "GuestKernel$Guest", "GuestKernel$Guest", "trapped", "I", T_Gu, rfl, rfl, in_Gu, rfl, by decide, (kt1 91 rfl rfl)⟩
theorem fp_Gu_53 : k_fldP gS kT "GuestKernel$Guest" 53 7 11 6 rf_Gu := ⟨3, 13, "GuestKernel$Guest", "GuestKernel$Guest", "trapped", T_Gu, ty_Gu, rfl, rfl, in_Gu, tk_Gu, nm_Gu, rfl, by decide, (kt1 91 rfl rfl)⟩
theorem fg_Ke_122 : k_fld gS kT "GuestKernel" 122 7 11 6 rf_Gu := ⟨3, 13, "GuestKernel$Guest", "GuestKernel$Guest", "trapped", "I", T_Gu, rfl, rfl, in_Gu, rfl, by decide, (kt1 92 rfl rfl)⟩
theorem fp_Ke_122 : k_fldP gS kT "GuestKernel" 122 7 11 6 rf_Gu := ⟨3, 13, "GuestKernel$Guest", "GuestKernel$Guest", "trapped", T_Gu, ty_Gu, rfl, rfl, in_Gu, tk_Gu, nm_Gu, rfl, by decide, (kt1 92 rfl rfl)⟩
theorem fg_Ke_286 : k_fld gS kT "GuestKernel" 286 7 12 6 rf_Gu := ⟨3, 13, "GuestKernel$Guest", "GuestKernel$Guest", "blockedRegister", "I", T_Gu, rfl, rfl, in_Gu, rfl, by decide, (kt1 93 rfl rfl)⟩
theorem fp_Ke_286 : k_fldP gS kT "GuestKernel" 286 7 12 6 rf_Gu := ⟨3, 13, "GuestKernel$Guest", "GuestKernel$Guest", "blockedRegister", T_Gu, ty_Gu, rfl, rfl, in_Gu, tk_Gu, nm_Gu, rfl, by decide, (kt1 93 rfl rfl)⟩
theorem fg_Ro_9 : k_fld gS kT "GuestKernel$Row" 9 12 0 14 rf_Ro := ⟨5, 3, "GuestKernel$Row", "GuestKernel$Row", "numbers", "[I", T_Ro, rfl, rfl, in_Ro, rfl, by decide, (kt1 132 rfl rfl)⟩
theorem fg_Ro_19 : k_fld gS kT "GuestKernel$Row" 19 12 1 14 rf_Ro := ⟨5, 3, "GuestKernel$Row", "GuestKernel$Row", "first", "I", T_Ro, rfl, rfl, in_Ro, rfl, by decide, (kt1 133 rfl rfl)⟩
theorem fp_Ro_19 : k_fldP gS kT "GuestKernel$Row" 19 12 1 14 rf_Ro := ⟨5, 3, "GuestKernel$Row", "GuestKernel$Row", "first", T_Ro, ty_Ro, rfl, rfl, in_Ro, tk_Ro, nm_Ro, rfl, by decide, (kt1 133 rfl rfl)⟩
theorem fg_Ro_15 : k_fld gS kT "GuestKernel$Row" 15 12 2 14 rf_Ro := ⟨5, 3, "GuestKernel$Row", "GuestKernel$Row", "size", "I", T_Ro, rfl, rfl, in_Ro, rfl, by decide, (kt1 134 rfl rfl)⟩
theorem fp_Ro_15 : k_fldP gS kT "GuestKernel$Row" 15 12 2 14 rf_Ro := ⟨5, 3, "GuestKernel$Row", "GuestKernel$Row", "size", T_Ro, ty_Ro, rfl, rfl, in_Ro, tk_Ro, nm_Ro, rfl, by decide, (kt1 134 rfl rfl)⟩
theorem fg_Pr_22 : k_fld gS kT "GuestKernel$Processor" 22 12 2 14 rf_Ro := ⟨5, 3, "GuestKernel$Row", "GuestKernel$Row", "size", "I", T_Ro, rfl, rfl, in_Ro, rfl, by decide, (kt1 135 rfl rfl)⟩
theorem fp_Pr_22 : k_fldP gS kT "GuestKernel$Processor" 22 12 2 14 rf_Ro := ⟨5, 3, "GuestKernel$Row", "GuestKernel$Row", "size", T_Ro, ty_Ro, rfl, rfl, in_Ro, tk_Ro, nm_Ro, rfl, by decide, (kt1 135 rfl rfl)⟩
theorem fg_Ke_139 : k_fld gS kT "GuestKernel" 139 12 2 14 rf_Ro := ⟨5, 3, "GuestKernel$Row", "GuestKernel$Row", "size", "I", T_Ro, rfl, rfl, in_Ro, rfl, by decide, (kt1 136 rfl rfl)⟩
theorem fp_Ke_139 : k_fldP gS kT "GuestKernel" 139 12 2 14 rf_Ro := ⟨5, 3, "GuestKernel$Row", "GuestKernel$Row", "size", T_Ro, ty_Ro, rfl, rfl, in_Ro, tk_Ro, nm_Ro, rfl, by decide, (kt1 136 rfl rfl)⟩
theorem fg_Pr_12 : k_fld gS kT "GuestKernel$Processor" 12 11 0 2 rf_Pr := ⟨4, 3, "GuestKernel$Processor", "GuestKernel$Processor", "ready", "LGuestKernel$Row;", T_Pr, rfl, rfl, in_Pr, rfl, by decide, (kt1 144 rfl rfl)⟩
theorem fg_Ke_176 : k_fld gS kT "GuestKernel" 176 11 0 2 rf_Pr := ⟨4, 3, "GuestKernel$Processor", "GuestKernel$Processor", "ready", "LGuestKernel$Row;", T_Pr, rfl, rfl, in_Pr, rfl, by decide, (kt1 145 rfl rfl)⟩
theorem fg_Pr_18 : k_fld gS kT "GuestKernel$Processor" 18 11 1 2 rf_Pr := ⟨4, 3, "GuestKernel$Processor", "GuestKernel$Processor", "atHand", "I", T_Pr, rfl, rfl, in_Pr, rfl, by decide, (kt1 146 rfl rfl)⟩
theorem fp_Pr_18 : k_fldP gS kT "GuestKernel$Processor" 18 11 1 2 rf_Pr := ⟨4, 3, "GuestKernel$Processor", "GuestKernel$Processor", "atHand", T_Pr, ty_Pr, rfl, rfl, in_Pr, tk_Pr, nm_Pr, rfl, by decide, (kt1 146 rfl rfl)⟩
theorem fg_Ke_173 : k_fld gS kT "GuestKernel" 173 11 1 2 rf_Pr := ⟨4, 3, "GuestKernel$Processor", "GuestKernel$Processor", "atHand", "I", T_Pr, rfl, rfl, in_Pr, rfl, by decide, (kt1 147 rfl rfl)⟩
theorem fp_Ke_173 : k_fldP gS kT "GuestKernel" 173 11 1 2 rf_Pr := ⟨4, 3, "GuestKernel$Processor", "GuestKernel$Processor", "atHand", T_Pr, ty_Pr, rfl, rfl, in_Pr, tk_Pr, nm_Pr, rfl, by decide, (kt1 147 rfl rfl)⟩
theorem fg_Ke_200 : k_fld gS kT "GuestKernel" 200 11 2 2 rf_Pr := ⟨4, 3, "GuestKernel$Processor", "GuestKernel$Processor", "time", "I", T_Pr, rfl, rfl, in_Pr, rfl, by decide, (kt1 148 rfl rfl)⟩
theorem fp_Ke_200 : k_fldP gS kT "GuestKernel" 200 11 2 2 rf_Pr := ⟨4, 3, "GuestKernel$Processor", "GuestKernel$Processor", "time", T_Pr, ty_Pr, rfl, rfl, in_Pr, tk_Pr, nm_Pr, rfl, by decide, (kt1 148 rfl rfl)⟩
theorem fg_Lo_12 : k_fld gS kT "GuestKernel$Lock" 12 15 0 4 rf_Lo := ⟨6, 2, "GuestKernel$Lock", "GuestKernel$Lock", "waiting", "LGuestKernel$Row;", T_Lo, rfl, rfl, in_Lo, rfl, by decide, (kt1 163 rfl rfl)⟩
theorem fg_Ke_135 : k_fld gS kT "GuestKernel" 135 15 0 4 rf_Lo := ⟨6, 2, "GuestKernel$Lock", "GuestKernel$Lock", "waiting", "LGuestKernel$Row;", T_Lo, rfl, rfl, in_Lo, rfl, by decide, (kt1 164 rfl rfl)⟩
theorem fg_Lo_18 : k_fld gS kT "GuestKernel$Lock" 18 15 1 4 rf_Lo := ⟨6, 2, "GuestKernel$Lock", "GuestKernel$Lock", "holder", "I", T_Lo, rfl, rfl, in_Lo, rfl, by decide, (kt1 165 rfl rfl)⟩
theorem fp_Lo_18 : k_fldP gS kT "GuestKernel$Lock" 18 15 1 4 rf_Lo := ⟨6, 2, "GuestKernel$Lock", "GuestKernel$Lock", "holder", T_Lo, ty_Lo, rfl, rfl, in_Lo, tk_Lo, nm_Lo, rfl, by decide, (kt1 165 rfl rfl)⟩
theorem fg_Ke_132 : k_fld gS kT "GuestKernel" 132 15 1 4 rf_Lo := ⟨6, 2, "GuestKernel$Lock", "GuestKernel$Lock", "holder", "I", T_Lo, rfl, rfl, in_Lo, rfl, by decide, (kt1 166 rfl rfl)⟩
theorem fp_Ke_132 : k_fldP gS kT "GuestKernel" 132 15 1 4 rf_Lo := ⟨6, 2, "GuestKernel$Lock", "GuestKernel$Lock", "holder", T_Lo, ty_Lo, rfl, rfl, in_Lo, tk_Lo, nm_Lo, rfl, by decide, (kt1 166 rfl rfl)⟩
theorem fg_Ch_12 : k_fld gS kT "GuestKernel$Channel" 12 17 0 4 rf_Ch := ⟨7, 4, "GuestKernel$Channel", "GuestKernel$Channel", "senders", "LGuestKernel$Row;", T_Ch, rfl, rfl, in_Ch, rfl, by decide, (kt1 179 rfl rfl)⟩
theorem fg_Ke_145 : k_fld gS kT "GuestKernel" 145 17 0 4 rf_Ch := ⟨7, 4, "GuestKernel$Channel", "GuestKernel$Channel", "senders", "LGuestKernel$Row;", T_Ch, rfl, rfl, in_Ch, rfl, by decide, (kt1 180 rfl rfl)⟩
theorem fg_Ch_18 : k_fld gS kT "GuestKernel$Channel" 18 17 1 4 rf_Ch := ⟨7, 4, "GuestKernel$Channel", "GuestKernel$Channel", "receivers", "LGuestKernel$Row;", T_Ch, rfl, rfl, in_Ch, rfl, by decide, (kt1 181 rfl rfl)⟩
theorem fg_Ke_148 : k_fld gS kT "GuestKernel" 148 17 1 4 rf_Ch := ⟨7, 4, "GuestKernel$Channel", "GuestKernel$Channel", "receivers", "LGuestKernel$Row;", T_Ch, rfl, rfl, in_Ch, rfl, by decide, (kt1 182 rfl rfl)⟩
theorem fg_Ch_21 : k_fld gS kT "GuestKernel$Channel" 21 17 2 4 rf_Ch := ⟨7, 4, "GuestKernel$Channel", "GuestKernel$Channel", "ints", "[I", T_Ch, rfl, rfl, in_Ch, rfl, by decide, (kt1 183 rfl rfl)⟩
theorem fg_Ch_25 : k_fld gS kT "GuestKernel$Channel" 25 17 3 4 rf_Ch := ⟨7, 4, "GuestKernel$Channel", "GuestKernel$Channel", "size", "I", T_Ch, rfl, rfl, in_Ch, rfl, by decide, (kt1 184 rfl rfl)⟩
theorem fp_Ch_25 : k_fldP gS kT "GuestKernel$Channel" 25 17 3 4 rf_Ch := ⟨7, 4, "GuestKernel$Channel", "GuestKernel$Channel", "size", T_Ch, ty_Ch, rfl, rfl, in_Ch, tk_Ch, nm_Ch, rfl, by decide, (kt1 184 rfl rfl)⟩
theorem fg_Ke_144 : k_fld gS kT "GuestKernel" 144 17 3 4 rf_Ch := ⟨7, 4, "GuestKernel$Channel", "GuestKernel$Channel", "size", "I", T_Ch, rfl, rfl, in_Ch, rfl, by decide, (kt1 185 rfl rfl)⟩
theorem fp_Ke_144 : k_fldP gS kT "GuestKernel" 144 17 3 4 rf_Ch := ⟨7, 4, "GuestKernel$Channel", "GuestKernel$Channel", "size", T_Ch, ty_Ch, rfl, rfl, in_Ch, tk_Ch, nm_Ch, rfl, by decide, (kt1 185 rfl rfl)⟩
theorem fg_Ke_12 : k_fld gS kT "GuestKernel" 12 0 0 1 rf_Ke := ⟨0, 13, "GuestKernel", "GuestKernel", "program", "LGuestKernel$Program;", T_Ke, rfl, rfl, in_Ke, rfl, by decide, (kt1 217 rfl rfl)⟩
theorem fg_Ke_19 : k_fld gS kT "GuestKernel" 19 0 1 1 rf_Ke := ⟨0, 13, "GuestKernel", "GuestKernel", "frames", "LGuestKernel$Frames;", T_Ke, rfl, rfl, in_Ke, rfl, by decide, (kt1 218 rfl rfl)⟩
theorem fg_Ke_25 : k_fld gS kT "GuestKernel" 25 0 2 1 rf_Ke := ⟨0, 13, "GuestKernel", "GuestKernel", "guests", "[LGuestKernel$Guest;", T_Ke, rfl, rfl, in_Ke, rfl, by decide, (kt1 219 rfl rfl)⟩
theorem fg_Ke_31 : k_fld gS kT "GuestKernel" 31 0 3 1 rf_Ke := ⟨0, 13, "GuestKernel", "GuestKernel", "processors", "[LGuestKernel$Processor;", T_Ke, rfl, rfl, in_Ke, rfl, by decide, (kt1 220 rfl rfl)⟩
theorem fg_Ke_37 : k_fld gS kT "GuestKernel" 37 0 4 1 rf_Ke := ⟨0, 13, "GuestKernel", "GuestKernel", "locks", "[LGuestKernel$Lock;", T_Ke, rfl, rfl, in_Ke, rfl, by decide, (kt1 221 rfl rfl)⟩
theorem fg_Ke_43 : k_fld gS kT "GuestKernel" 43 0 5 1 rf_Ke := ⟨0, 13, "GuestKernel", "GuestKernel", "channels", "[LGuestKernel$Channel;", T_Ke, rfl, rfl, in_Ke, rfl, by decide, (kt1 222 rfl rfl)⟩
theorem fg_Ke_83 : k_fld gS kT "GuestKernel" 83 0 6 1 rf_Ke := ⟨0, 13, "GuestKernel", "GuestKernel", "ticks", "I", T_Ke, rfl, rfl, in_Ke, rfl, by decide, (kt1 223 rfl rfl)⟩
theorem fp_Ke_83 : k_fldP gS kT "GuestKernel" 83 0 6 1 rf_Ke := ⟨0, 13, "GuestKernel", "GuestKernel", "ticks", T_Ke, ty_Ke, rfl, rfl, in_Ke, tk_Ke, nm_Ke, rfl, by decide, (kt1 223 rfl rfl)⟩
theorem fg_Ke_154 : k_fld gS kT "GuestKernel" 154 0 7 1 rf_Ke := ⟨0, 13, "GuestKernel", "GuestKernel", "instructions", "I", T_Ke, rfl, rfl, in_Ke, rfl, by decide, (kt1 224 rfl rfl)⟩
theorem fp_Ke_154 : k_fldP gS kT "GuestKernel" 154 0 7 1 rf_Ke := ⟨0, 13, "GuestKernel", "GuestKernel", "instructions", T_Ke, ty_Ke, rfl, rfl, in_Ke, tk_Ke, nm_Ke, rfl, by decide, (kt1 224 rfl rfl)⟩
theorem fg_Ke_157 : k_fld gS kT "GuestKernel" 157 0 8 1 rf_Ke := ⟨0, 13, "GuestKernel", "GuestKernel", "trapped", "I", T_Ke, rfl, rfl, in_Ke, rfl, by decide, (kt1 225 rfl rfl)⟩
theorem fp_Ke_157 : k_fldP gS kT "GuestKernel" 157 0 8 1 rf_Ke := ⟨0, 13, "GuestKernel", "GuestKernel", "trapped", T_Ke, ty_Ke, rfl, rfl, in_Ke, tk_Ke, nm_Ke, rfl, by decide, (kt1 225 rfl rfl)⟩
theorem fg_Ke_158 : k_fld gS kT "GuestKernel" 158 0 9 1 rf_Ke := ⟨0, 13, "GuestKernel", "GuestKernel", "spawned", "I", T_Ke, rfl, rfl, in_Ke, rfl, by decide, (kt1 226 rfl rfl)⟩
theorem fp_Ke_158 : k_fldP gS kT "GuestKernel" 158 0 9 1 rf_Ke := ⟨0, 13, "GuestKernel", "GuestKernel", "spawned", T_Ke, ty_Ke, rfl, rfl, in_Ke, tk_Ke, nm_Ke, rfl, by decide, (kt1 226 rfl rfl)⟩
theorem fg_Ke_161 : k_fld gS kT "GuestKernel" 161 0 10 1 rf_Ke := ⟨0, 13, "GuestKernel", "GuestKernel", "reaped", "I", T_Ke, rfl, rfl, in_Ke, rfl, by decide, (kt1 227 rfl rfl)⟩
theorem fp_Ke_161 : k_fldP gS kT "GuestKernel" 161 0 10 1 rf_Ke := ⟨0, 13, "GuestKernel", "GuestKernel", "reaped", T_Ke, ty_Ke, rfl, rfl, in_Ke, tk_Ke, nm_Ke, rfl, by decide, (kt1 227 rfl rfl)⟩
theorem fg_Ke_167 : k_fld gS kT "GuestKernel" 167 0 11 1 rf_Ke := ⟨0, 13, "GuestKernel", "GuestKernel", "idle", "I", T_Ke, rfl, rfl, in_Ke, rfl, by decide, (kt1 228 rfl rfl)⟩
theorem fp_Ke_167 : k_fldP gS kT "GuestKernel" 167 0 11 1 rf_Ke := ⟨0, 13, "GuestKernel", "GuestKernel", "idle", T_Ke, ty_Ke, rfl, rfl, in_Ke, tk_Ke, nm_Ke, rfl, by decide, (kt1 228 rfl rfl)⟩
theorem fg_Ke_170 : k_fld gS kT "GuestKernel" 170 0 12 1 rf_Ke := ⟨0, 13, "GuestKernel", "GuestKernel", "taken", "I", T_Ke, rfl, rfl, in_Ke, rfl, by decide, (kt1 229 rfl rfl)⟩
theorem fp_Ke_170 : k_fldP gS kT "GuestKernel" 170 0 12 1 rf_Ke := ⟨0, 13, "GuestKernel", "GuestKernel", "taken", T_Ke, ty_Ke, rfl, rfl, in_Ke, tk_Ke, nm_Ke, rfl, by decide, (kt1 229 rfl rfl)⟩
theorem fg_Mo_7 : k_fld mS kT "GuestKernelModel" 7 0 0 1 rf_Mo := ⟨0, 33, "GuestKernelModel", "GuestKernelModel", "op", "[I", T_Mo, rfl, rfl, in_Mo, rfl, by decide, (kt3 112 rfl rfl)⟩
theorem fg_Mo_13 : k_fld mS kT "GuestKernelModel" 13 0 1 1 rf_Mo := ⟨0, 33, "GuestKernelModel", "GuestKernelModel", "first", "[I", T_Mo, rfl, rfl, in_Mo, rfl, by decide, (kt3 113 rfl rfl)⟩
theorem fg_Mo_16 : k_fld mS kT "GuestKernelModel" 16 0 2 1 rf_Mo := ⟨0, 33, "GuestKernelModel", "GuestKernelModel", "second", "[I", T_Mo, rfl, rfl, in_Mo, rfl, by decide, (kt3 114 rfl rfl)⟩
theorem fg_Mo_19 : k_fld mS kT "GuestKernelModel" 19 0 3 1 rf_Mo := ⟨0, 33, "GuestKernelModel", "GuestKernelModel", "third", "[I", T_Mo, rfl, rfl, in_Mo, rfl, by decide, (kt3 115 rfl rfl)⟩
theorem fg_Mo_22 : k_fld mS kT "GuestKernelModel" 22 0 4 1 rf_Mo := ⟨0, 33, "GuestKernelModel", "GuestKernelModel", "state", "[I", T_Mo, rfl, rfl, in_Mo, rfl, by decide, (kt3 116 rfl rfl)⟩
theorem fg_Mo_25 : k_fld mS kT "GuestKernelModel" 25 0 5 1 rf_Mo := ⟨0, 33, "GuestKernelModel", "GuestKernelModel", "place", "[I", T_Mo, rfl, rfl, in_Mo, rfl, by decide, (kt3 117 rfl rfl)⟩
theorem fg_Mo_28 : k_fld mS kT "GuestKernelModel" 28 0 6 1 rf_Mo := ⟨0, 33, "GuestKernelModel", "GuestKernelModel", "handler", "[I", T_Mo, rfl, rfl, in_Mo, rfl, by decide, (kt3 118 rfl rfl)⟩
theorem fg_Mo_31 : k_fld mS kT "GuestKernelModel" 31 0 7 1 rf_Mo := ⟨0, 33, "GuestKernelModel", "GuestKernelModel", "quota", "[I", T_Mo, rfl, rfl, in_Mo, rfl, by decide, (kt3 119 rfl rfl)⟩
theorem fg_Mo_34 : k_fld mS kT "GuestKernelModel" 34 0 8 1 rf_Mo := ⟨0, 33, "GuestKernelModel", "GuestKernelModel", "used", "[I", T_Mo, rfl, rfl, in_Mo, rfl, by decide, (kt3 120 rfl rfl)⟩
theorem fg_Mo_37 : k_fld mS kT "GuestKernelModel" 37 0 9 1 rf_Mo := ⟨0, 33, "GuestKernelModel", "GuestKernelModel", "given", "[I", T_Mo, rfl, rfl, in_Mo, rfl, by decide, (kt3 121 rfl rfl)⟩
theorem fg_Mo_40 : k_fld mS kT "GuestKernelModel" 40 0 10 1 rf_Mo := ⟨0, 33, "GuestKernelModel", "GuestKernelModel", "parent", "[I", T_Mo, rfl, rfl, in_Mo, rfl, by decide, (kt3 122 rfl rfl)⟩
theorem fg_Mo_43 : k_fld mS kT "GuestKernelModel" 43 0 11 1 rf_Mo := ⟨0, 33, "GuestKernelModel", "GuestKernelModel", "outcome", "[I", T_Mo, rfl, rfl, in_Mo, rfl, by decide, (kt3 123 rfl rfl)⟩
theorem fg_Mo_46 : k_fld mS kT "GuestKernelModel" 46 0 12 1 rf_Mo := ⟨0, 33, "GuestKernelModel", "GuestKernelModel", "traps", "[I", T_Mo, rfl, rfl, in_Mo, rfl, by decide, (kt3 124 rfl rfl)⟩
theorem fg_Mo_49 : k_fld mS kT "GuestKernelModel" 49 0 13 1 rf_Mo := ⟨0, 33, "GuestKernelModel", "GuestKernelModel", "carried", "[I", T_Mo, rfl, rfl, in_Mo, rfl, by decide, (kt3 125 rfl rfl)⟩
theorem fg_Mo_52 : k_fld mS kT "GuestKernelModel" 52 0 14 1 rf_Mo := ⟨0, 33, "GuestKernelModel", "GuestKernelModel", "register", "[I", T_Mo, rfl, rfl, in_Mo, rfl, by decide, (kt3 126 rfl rfl)⟩
theorem fg_Mo_55 : k_fld mS kT "GuestKernelModel" 55 0 15 1 rf_Mo := ⟨0, 33, "GuestKernelModel", "GuestKernelModel", "page", "[I", T_Mo, rfl, rfl, in_Mo, rfl, by decide, (kt3 127 rfl rfl)⟩
theorem fg_Mo_58 : k_fld mS kT "GuestKernelModel" 58 0 16 1 rf_Mo := ⟨0, 33, "GuestKernelModel", "GuestKernelModel", "memory", "[I", T_Mo, rfl, rfl, in_Mo, rfl, by decide, (kt3 128 rfl rfl)⟩
theorem fg_Mo_61 : k_fld mS kT "GuestKernelModel" 61 0 17 1 rf_Mo := ⟨0, 33, "GuestKernelModel", "GuestKernelModel", "taken", "[Z", T_Mo, rfl, rfl, in_Mo, rfl, by decide, (kt3 129 rfl rfl)⟩
theorem fg_Mo_65 : k_fld mS kT "GuestKernelModel" 65 0 18 1 rf_Mo := ⟨0, 33, "GuestKernelModel", "GuestKernelModel", "row", "[I", T_Mo, rfl, rfl, in_Mo, rfl, by decide, (kt3 130 rfl rfl)⟩
theorem fg_Mo_68 : k_fld mS kT "GuestKernelModel" 68 0 19 1 rf_Mo := ⟨0, 33, "GuestKernelModel", "GuestKernelModel", "size", "[I", T_Mo, rfl, rfl, in_Mo, rfl, by decide, (kt3 131 rfl rfl)⟩
theorem fg_Mo_71 : k_fld mS kT "GuestKernelModel" 71 0 20 1 rf_Mo := ⟨0, 33, "GuestKernelModel", "GuestKernelModel", "channel", "[I", T_Mo, rfl, rfl, in_Mo, rfl, by decide, (kt3 132 rfl rfl)⟩
theorem fg_Mo_74 : k_fld mS kT "GuestKernelModel" 74 0 21 1 rf_Mo := ⟨0, 33, "GuestKernelModel", "GuestKernelModel", "held", "[I", T_Mo, rfl, rfl, in_Mo, rfl, by decide, (kt3 133 rfl rfl)⟩
theorem fg_Mo_77 : k_fld mS kT "GuestKernelModel" 77 0 22 1 rf_Mo := ⟨0, 33, "GuestKernelModel", "GuestKernelModel", "holder", "[I", T_Mo, rfl, rfl, in_Mo, rfl, by decide, (kt3 134 rfl rfl)⟩
theorem fg_Mo_80 : k_fld mS kT "GuestKernelModel" 80 0 23 1 rf_Mo := ⟨0, 33, "GuestKernelModel", "GuestKernelModel", "hand", "[I", T_Mo, rfl, rfl, in_Mo, rfl, by decide, (kt3 135 rfl rfl)⟩
theorem fg_Mo_83 : k_fld mS kT "GuestKernelModel" 83 0 24 1 rf_Mo := ⟨0, 33, "GuestKernelModel", "GuestKernelModel", "time", "[I", T_Mo, rfl, rfl, in_Mo, rfl, by decide, (kt3 136 rfl rfl)⟩
theorem fg_Mo_165 : k_fld mS kT "GuestKernelModel" 165 0 25 1 rf_Mo := ⟨0, 33, "GuestKernelModel", "GuestKernelModel", "ticks", "I", T_Mo, rfl, rfl, in_Mo, rfl, by decide, (kt3 137 rfl rfl)⟩
theorem fp_Mo_165 : k_fldP mS kT "GuestKernelModel" 165 0 25 1 rf_Mo := ⟨0, 33, "GuestKernelModel", "GuestKernelModel", "ticks", T_Mo, ty_Mo, rfl, rfl, in_Mo, tk_Mo, nm_Mo, rfl, by decide, (kt3 137 rfl rfl)⟩
theorem fg_Mo_155 : k_fld mS kT "GuestKernelModel" 155 0 26 1 rf_Mo := ⟨0, 33, "GuestKernelModel", "GuestKernelModel", "done", "I", T_Mo, rfl, rfl, in_Mo, rfl, by decide, (kt3 138 rfl rfl)⟩
theorem fp_Mo_155 : k_fldP mS kT "GuestKernelModel" 155 0 26 1 rf_Mo := ⟨0, 33, "GuestKernelModel", "GuestKernelModel", "done", T_Mo, ty_Mo, rfl, rfl, in_Mo, tk_Mo, nm_Mo, rfl, by decide, (kt3 138 rfl rfl)⟩
theorem fg_Mo_116 : k_fld mS kT "GuestKernelModel" 116 0 27 1 rf_Mo := ⟨0, 33, "GuestKernelModel", "GuestKernelModel", "allTraps", "I", T_Mo, rfl, rfl, in_Mo, rfl, by decide, (kt3 139 rfl rfl)⟩
theorem fp_Mo_116 : k_fldP mS kT "GuestKernelModel" 116 0 27 1 rf_Mo := ⟨0, 33, "GuestKernelModel", "GuestKernelModel", "allTraps", T_Mo, ty_Mo, rfl, rfl, in_Mo, tk_Mo, nm_Mo, rfl, by decide, (kt3 139 rfl rfl)⟩
theorem fg_Mo_122 : k_fld mS kT "GuestKernelModel" 122 0 28 1 rf_Mo := ⟨0, 33, "GuestKernelModel", "GuestKernelModel", "spawned", "I", T_Mo, rfl, rfl, in_Mo, rfl, by decide, (kt3 140 rfl rfl)⟩
theorem fp_Mo_122 : k_fldP mS kT "GuestKernelModel" 122 0 28 1 rf_Mo := ⟨0, 33, "GuestKernelModel", "GuestKernelModel", "spawned", T_Mo, ty_Mo, rfl, rfl, in_Mo, tk_Mo, nm_Mo, rfl, by decide, (kt3 140 rfl rfl)⟩
theorem fg_Mo_125 : k_fld mS kT "GuestKernelModel" 125 0 29 1 rf_Mo := ⟨0, 33, "GuestKernelModel", "GuestKernelModel", "reaped", "I", T_Mo, rfl, rfl, in_Mo, rfl, by decide, (kt3 141 rfl rfl)⟩
theorem fp_Mo_125 : k_fldP mS kT "GuestKernelModel" 125 0 29 1 rf_Mo := ⟨0, 33, "GuestKernelModel", "GuestKernelModel", "reaped", T_Mo, ty_Mo, rfl, rfl, in_Mo, tk_Mo, nm_Mo, rfl, by decide, (kt3 141 rfl rfl)⟩
theorem fg_Mo_171 : k_fld mS kT "GuestKernelModel" 171 0 30 1 rf_Mo := ⟨0, 33, "GuestKernelModel", "GuestKernelModel", "idle", "I", T_Mo, rfl, rfl, in_Mo, rfl, by decide, (kt3 142 rfl rfl)⟩
theorem fp_Mo_171 : k_fldP mS kT "GuestKernelModel" 171 0 30 1 rf_Mo := ⟨0, 33, "GuestKernelModel", "GuestKernelModel", "idle", T_Mo, ty_Mo, rfl, rfl, in_Mo, tk_Mo, nm_Mo, rfl, by decide, (kt3 142 rfl rfl)⟩
theorem fg_Mo_168 : k_fld mS kT "GuestKernelModel" 168 0 31 1 rf_Mo := ⟨0, 33, "GuestKernelModel", "GuestKernelModel", "chosen", "I", T_Mo, rfl, rfl, in_Mo, rfl, by decide, (kt3 143 rfl rfl)⟩
theorem fp_Mo_168 : k_fldP mS kT "GuestKernelModel" 168 0 31 1 rf_Mo := ⟨0, 33, "GuestKernelModel", "GuestKernelModel", "chosen", T_Mo, ty_Mo, rfl, rfl, in_Mo, tk_Mo, nm_Mo, rfl, by decide, (kt3 143 rfl rfl)⟩
theorem fg_Mo_90 : k_fld mS kT "GuestKernelModel" 90 0 32 1 rf_Mo := ⟨0, 33, "GuestKernelModel", "GuestKernelModel", "thrown", "I", T_Mo, rfl, rfl, in_Mo, rfl, by decide, (kt3 144 rfl rfl)⟩
theorem fp_Mo_90 : k_fldP mS kT "GuestKernelModel" 90 0 32 1 rf_Mo := ⟨0, 33, "GuestKernelModel", "GuestKernelModel", "thrown", T_Mo, ty_Mo, rfl, rfl, in_Mo, tk_Mo, nm_Mo, rfl, by decide, (kt3 144 rfl rfl)⟩
end
section
/-! ===== THE CLASS, AS FUNCTIONS OF ITS MEMORY ===== -/
/- families: 0 kernel, 1 Program, 2 its parts, 3 Frames, 4 ints, 5 isTaken, 6 guests[], 7 Guest, 8 registers, 9 pages, 10 processors[], 11 Processor, 12 Row (0 1 ready, 2+k senders, 6+k receivers, 10+k lock: as the reference's rows), 13 its numbers, 14 locks[], 15 Lock, 16 channels[], 17 Channel, 18 its ints -/
abbrev k_rem (x y : Int32) : Int32 := x - x / y * y
def g_rng (f i j : Nat) (x : Int32) : Prop := match f, j with
  | 2, j => if j % 4 = 0 then vp_in x 22 else if j % 4 = 3 then True else vp_in x 4
  | 7, 0 => x = nI i
  | 7, 4 => vp_in x 32
  | 7, 12 => vp_in x 4
  | 9, _ => x = -1 ∨ vp_in x 12
  | 11, 1 => x = -1 ∨ vp_in x 6
  | 12, 1 => vp_in x 6
  | 12, 2 => 0 ≤ x ∧ x ≤ 6
  | 13, _ => vp_in x 6
  | 15, 1 => x = -1 ∨ vp_in x 6
  | 17, 3 => 0 ≤ x ∧ x ≤ 2
  | _, _ => True
abbrev g_Inv (K : kM) : Prop := k_Inv g_rng K
def g_out (v b : Int32) : Int32 := if v < 0 then 1 else if v < b then 0 else 1
def g_fm (x y : Int32) : Int32 := if 0 ≤ x ^^^ y then k_rem x y else if k_rem x y = 0 then k_rem x y else k_rem x y + y
def g_goTo (K : kM) (g : Nat) (t : Int32) : kM := k_up K 7 g 4 (g_fm t 32)
def g_qleft (K : kM) (g : Nat) : Int32 := K 7 g 6 - K 7 g 7 - K 7 g 8
def g_fill (K : kM) (f i : Nat) (v : Int32) : Nat → kM
  | 0 => K
  | n + 1 => k_up (g_fill K f i v n) f i n v
def g_begin (K : kM) (g : Nat) (t q p : Int32) : kM :=
  k_up (k_up (k_up (k_up (k_up (k_up (k_up (g_goTo (g_fill (g_fill K 8 g 0 4) 9 g (-1) 4) g t) 7 g 5 (-1)) 7 g 6 q) 7 g 7 0) 7 g 8 0) 7 g 9 p) 7 g 10 0) 7 g 11 0
def g_part (K : kM) (pl w : Int32) : Int32 := K 2 0 (pl * 4 + w).toNatClampNeg
def g_write (K : kM) (i op a b n : Int32) : kM := k_up (k_up (k_up (k_up K 2 0 (i * 4 + 0).toNatClampNeg op) 2 0 (i * 4 + 1).toNatClampNeg a) 2 0 (i * 4 + 2).toNatClampNeg b) 2 0 (i * 4 + 3).toNatClampNeg n
def g_rowAdd (K : kM) (r : Nat) (x : Int32) : kM := if 6 ≤ K 12 r 2 then K else
  k_up (k_up K 13 r (k_rem (K 12 r 1 + K 12 r 2) 6).toNatClampNeg x) 12 r 2 (k_up K 13 r (k_rem (K 12 r 1 + K 12 r 2) 6).toNatClampNeg x 12 r 2 + 1)
def g_rowX (K : kM) (r : Nat) : Int32 := if K 12 r 2 = 0 then -1 else K 13 r (K 12 r 1).toNatClampNeg
def g_rowT (K : kM) (r : Nat) : kM := if K 12 r 2 = 0 then K else
  k_up (k_up K 12 r 1 (k_rem (K 12 r 1 + 1) 6)) 12 r 2 (k_up K 12 r 1 (k_rem (K 12 r 1 + 1) 6) 12 r 2 - 1)
def g_full (K : kM) (k : Nat) : Int32 := if K 17 k 3 < 2 then 0 else 1
def g_put (K : kM) (k : Nat) (v : Int32) : kM := if g_full K k = 0 then k_up (k_up K 18 k (K 17 k 3).toNatClampNeg v) 17 k 3 (k_up K 18 k (K 17 k 3).toNatClampNeg v 17 k 3 + 1) else K
def g_chT (K : kM) (k : Nat) : kM := if K 17 k 3 ≤ 0 then K else
  k_row (k_up K 17 k 3 (K 17 k 3 - 1)) 18 k (va_cpy (k_up K 17 k 3 (K 17 k 3 - 1) 18 k) (k_up K 17 k 3 (K 17 k 3 - 1) 18 k) 1 0 (k_up K 17 k 3 (K 17 k 3 - 1) 17 k 3).toNatClampNeg)
def g_read (K : kM) (f i : Int32) : Int32 := K 4 0 (f * 8 + i).toNatClampNeg
def g_store (K : kM) (f i v : Int32) : kM := k_up K 4 0 (f * 8 + i).toNatClampNeg v
def g_clear (K : kM) (f : Int32) : Nat → kM
  | 0 => K
  | n + 1 => g_store (g_clear K f n) f (nI n) 0
def g_frX (K : kM) : Nat → Nat → Int32
  | 0, _ => -1
  | n + 1, i => if K 5 0 i = 0 then nI i else g_frX K n (i + 1)
def g_frT (K : kM) : Nat → Nat → kM
  | 0, _ => K
  | n + 1, i => if K 5 0 i = 0 then g_clear (k_up (k_up K 5 0 i 1) 3 0 2 (k_up K 5 0 i 1 3 0 2 - 1)) (nI i) 8 else g_frT K n (i + 1)
def g_give (K : kM) (f : Int32) : kM := k_up (k_up K 5 0 f.toNatClampNeg 0) 3 0 2 (k_up K 5 0 f.toNatClampNeg 0 3 0 2 + 1)
def g_ready (K : kM) (g : Nat) : kM := g_rowAdd (k_up K 7 g 3 0) (k_rem (k_up K 7 g 3 0 7 g 0) 2).toNatClampNeg (k_up K 7 g 3 0 7 g 0)
def g_block (K : kM) (g : Nat) (a : Int32) (r : Nat) : kM := g_rowAdd (k_up (k_up K 7 g 3 2) 7 g 12 a) r (k_up (k_up K 7 g 3 2) 7 g 12 a 7 g 0)
def g_next (K : kM) (p : Nat) : kM := if g_rowX K p = -1 then g_rowT K p else
  k_up (k_up (k_up (k_up (g_rowT K p) 7 (g_rowX K p).toNatClampNeg 3 1) 11 p 1 (g_rowX K p)) 11 p 2 3) 0 0 12 (k_up (k_up (k_up (g_rowT K p) 7 (g_rowX K p).toNatClampNeg 3 1) 11 p 1 (g_rowX K p)) 11 p 2 3 0 0 12 + 1)
def g_dropX (K : kM) (g : Nat) (p : Int32) : Int32 := if K 9 g p.toNatClampNeg = -1 then 0 else 1
def g_drop (K : kM) (g : Nat) (p : Int32) : kM := if K 9 g p.toNatClampNeg = -1 then K else
  g_give (k_up (k_up K 9 g p.toNatClampNeg (-1)) 7 g 7 (k_up K 9 g p.toNatClampNeg (-1) 7 g 7 - 1)) (K 9 g p.toNatClampNeg)
def g_pass (K : kM) (k : Nat) : kM := if k_up (g_rowT K (10 + k)) 15 k 1 (g_rowX K (10 + k)) 15 k 1 = -1 then k_up (g_rowT K (10 + k)) 15 k 1 (g_rowX K (10 + k)) else
  g_ready (k_up (g_rowT K (10 + k)) 15 k 1 (g_rowX K (10 + k))) (k_up (g_rowT K (10 + k)) 15 k 1 (g_rowX K (10 + k)) 15 k 1).toNatClampNeg
def g_ho1 (K : kM) (g i : Nat) : kM := if K 7 i 3 = -1 then K else if K 7 i 9 = K 7 g 0 then k_up K 7 i 9 (K 7 g 9) else K
def g_ho (K : kM) (g : Nat) : Nat → kM
  | 0 => K
  | n + 1 => g_ho1 (g_ho K g n) g n
def g_hand (K : kM) (g : Nat) : kM := k_up (k_up (g_ho K g 6) 7 g 6 (g_ho K g 6 7 g 6 - g_ho K g 6 7 g 8)) 7 g 8 0
def g_dr (K : kM) (g : Nat) : Nat → kM
  | 0 => K
  | n + 1 => g_drop (g_dr K g n) g (nI n)
def g_ul1 (K : kM) (g k : Nat) : kM := if K 15 k 1 = K 7 g 0 then g_pass K k else K
def g_ul (K : kM) (g : Nat) : Nat → kM
  | 0 => K
  | n + 1 => g_ul1 (g_ul K g n) g n
def g_end (K : kM) (g : Nat) (oc : Int32) : kM := g_hand (g_ul (g_dr (k_up (k_up K 7 g 3 3) 7 g 10 oc) g 4) g 4) g
def g_addr (K : kM) (g : Nat) (a : Int32) : Int32 := if g_out a 32 = 0 then (if K 9 g (a / 8).toNatClampNeg = -1 then 3 else 0) else 2
def g_ldT (K : kM) (g : Nat) (a ad : Int32) : kM := if g_addr K g ad = 0 then k_up K 8 g a.toNatClampNeg (g_read K (K 9 g (ad / 8).toNatClampNeg) (k_rem ad 8)) else K
def g_stT (K : kM) (g : Nat) (a ad : Int32) : kM := if g_addr K g ad = 0 then g_store K (K 9 g (ad / 8).toNatClampNeg) (k_rem ad 8) (K 8 g a.toNatClampNeg) else K
def g_mapF (K : kM) (g : Nat) (n : Int32) : Int32 := if K 9 g n.toNatClampNeg = -1 then (if g_qleft K g ≤ 0 then -1 else g_frX K 12 0) else -1
def g_mapK (K : kM) (g : Nat) (n : Int32) : kM := if K 9 g n.toNatClampNeg = -1 then (if g_qleft K g ≤ 0 then K else g_frT K 12 0) else K
def g_mapT (K : kM) (g : Nat) (a n : Int32) : kM := if g_out n 4 = 0 then
    (if g_mapF K g n = -1 then k_up (g_mapK K g n) 8 g a.toNatClampNeg 0 else
      k_up (k_up (k_up (g_mapK K g n) 9 g n.toNatClampNeg (g_mapF K g n)) 7 g 7 (k_up (g_mapK K g n) 9 g n.toNatClampNeg (g_mapF K g n) 7 g 7 + 1)) 8 g a.toNatClampNeg 1) else K
def g_n4 (n : Int32) : Int32 := if g_out n 4 = 0 then 0 else 4
def g_unT (K : kM) (g : Nat) (a n : Int32) : kM := if g_out n 4 = 0 then k_up (g_drop K g n) 8 g a.toNatClampNeg (if g_dropX K g n = 0 then 0 else 1) else K
def g_sp1 (K : kM) (g : Nat) (m q n : Int32) (i : Nat) : kM :=
  k_up (g_ready (k_up (k_up (g_begin K i n q (K 7 g 0)) 8 i 0 m) 7 g 8 (k_up (g_begin K i n q (K 7 g 0)) 8 i 0 m 7 g 8 + q)) i) 0 0 9
    (g_ready (k_up (k_up (g_begin K i n q (K 7 g 0)) 8 i 0 m) 7 g 8 (k_up (g_begin K i n q (K 7 g 0)) 8 i 0 m 7 g 8 + q)) i 0 0 9 + 1)
def g_spLX (K : kM) : Nat → Nat → Int32
  | 0, _ => -1
  | c + 1, i => if K 7 i 3 = -1 then nI i else g_spLX K c (i + 1)
def g_spLT (K : kM) (g : Nat) (m q n : Int32) : Nat → Nat → kM
  | 0, _ => K
  | c + 1, i => if K 7 i 3 = -1 then g_sp1 K g m q n i else g_spLT K g m q n c (i + 1)
def g_spX (K : kM) (g : Nat) (q : Int32) : Int32 := if q < 0 then -1 else if q ≤ g_qleft K g then g_spLX K 6 0 else -1
def g_spT (K : kM) (g : Nat) (m q n : Int32) : kM := if q < 0 then K else if q ≤ g_qleft K g then g_spLT K g m q n 6 0 else K
def g_rp1 (K : kM) (g : Nat) (a b : Int32) (i : Nat) : kM :=
  let K1 := k_up K 7 i 3 (-1)
  let K2 := k_up K1 7 g 8 (K1 7 g 8 - K1 7 i 6)
  let K3 := k_up K2 8 g a.toNatClampNeg (nI i)
  let K4 := k_up K3 8 g b.toNatClampNeg (K3 7 i 10)
  k_up K4 0 0 10 (K4 0 0 10 + 1)
def g_rpT (K : kM) (g : Nat) (a b : Int32) : Nat → Nat → kM
  | 0, _ => k_up K 8 g a.toNatClampNeg (-1)
  | c + 1, i => if K 7 i 3 = 3 then (if K 7 i 9 = K 7 g 0 then g_rp1 K g a b i else g_rpT K g a b c (i + 1)) else g_rpT K g a b c (i + 1)
def g_wake (K : kM) (w : Int32) (v : Int32) : kM := g_ready (k_up K 8 w.toNatClampNeg (K 7 w.toNatClampNeg 12).toNatClampNeg v) w.toNatClampNeg
def g_sendT (K : kM) (g : Nat) (a n : Int32) : kM := if g_out n 4 = 0 then
    (if g_full K n.toNatClampNeg = 0 then
      (if g_rowX K (6 + n.toNatClampNeg) = -1 then g_put (g_rowT K (6 + n.toNatClampNeg)) n.toNatClampNeg (g_rowT K (6 + n.toNatClampNeg) 8 g a.toNatClampNeg) else
        g_wake (g_rowT K (6 + n.toNatClampNeg)) (g_rowX K (6 + n.toNatClampNeg)) (g_rowT K (6 + n.toNatClampNeg) 8 g a.toNatClampNeg))
    else g_block K g a (2 + n.toNatClampNeg)) else K
def g_rcv1 (K : kM) (g : Nat) (a : Int32) (k : Nat) : kM := k_up (g_chT K k) 8 g a.toNatClampNeg (K 18 k 0)
def g_recvT (K : kM) (g : Nat) (a n : Int32) : kM := if g_out n 4 = 0 then
    (if K 17 n.toNatClampNeg 3 = 0 then g_block K g a (6 + n.toNatClampNeg) else
      (if g_rowX (g_rcv1 K g a n.toNatClampNeg) (2 + n.toNatClampNeg) = -1 then g_rowT (g_rcv1 K g a n.toNatClampNeg) (2 + n.toNatClampNeg) else
        let K1 := g_rowT (g_rcv1 K g a n.toNatClampNeg) (2 + n.toNatClampNeg)
        let w := g_rowX (g_rcv1 K g a n.toNatClampNeg) (2 + n.toNatClampNeg)
        g_ready (g_put K1 n.toNatClampNeg (K1 8 w.toNatClampNeg (K1 7 w.toNatClampNeg 12).toNatClampNeg)) w.toNatClampNeg)) else K
def g_lockT (K : kM) (g : Nat) (a n : Int32) : kM := if g_out n 4 = 0 then
    (if K 15 n.toNatClampNeg 1 = -1 then k_up K 15 n.toNatClampNeg 1 (K 7 g 0) else g_block K g a (10 + n.toNatClampNeg)) else K
def g_unlX (K : kM) (g : Nat) (n : Int32) : Int32 := if g_out n 4 = 0 then (if K 15 n.toNatClampNeg 1 = K 7 g 0 then 0 else 5) else 4
def g_unlT (K : kM) (g : Nat) (n : Int32) : kM := if g_out n 4 = 0 then (if K 15 n.toNatClampNeg 1 = K 7 g 0 then g_pass K n.toNatClampNeg else K) else K
def g_trap (K : kM) (g : Nat) (kd pl : Int32) : kM :=
  let K1 := k_up K 0 0 8 (K 0 0 8 + 1)
  let K2 := k_up K1 7 g 11 (K1 7 g 11 + 1)
  if K2 7 g 5 = -1 then g_end (g_goTo K2 g pl) g (-100 - kd) else
    let K3 := k_up K2 8 g 3 kd
    k_up (g_goTo K3 g (K3 7 g 5)) 7 g 5 (-1)
def g_calX (K : kM) (g : Nat) (op b : Int32) : Int32 := if op = 6 then (if K 8 g b.toNatClampNeg = 0 then 1 else 0) else 0
def g_calT (K : kM) (g : Nat) (op a b n : Int32) : kM :=
  if op = 1 then k_up K 8 g a.toNatClampNeg n
  else if op = 2 then k_up K 8 g a.toNatClampNeg (K 8 g b.toNatClampNeg + n)
  else if op = 3 then k_up K 8 g a.toNatClampNeg (K 8 g a.toNatClampNeg + K 8 g b.toNatClampNeg)
  else if op = 4 then k_up K 8 g a.toNatClampNeg (K 8 g a.toNatClampNeg - K 8 g b.toNatClampNeg)
  else if op = 5 then k_up K 8 g a.toNatClampNeg (K 8 g a.toNatClampNeg * K 8 g b.toNatClampNeg)
  else if op = 6 then (if K 8 g b.toNatClampNeg = 0 then K else k_up K 8 g a.toNatClampNeg (K 8 g a.toNatClampNeg / K 8 g b.toNatClampNeg))
  else if op = 9 then (if K 8 g b.toNatClampNeg ≤ K 8 g a.toNatClampNeg then K else g_goTo K g n)
  else if op = 10 then (if K 8 g a.toNatClampNeg = 0 then g_goTo K g n else K)
  else if op = 11 then k_up K 7 g 5 (if 0 ≤ n then k_rem n 32 else -1)
  else K
def g_perX (K : kM) (g : Nat) (op pl : Int32) : Int32 :=
  let a := g_part K pl 1
  let b := g_part K pl 2
  let n := g_part K pl 3
  if op = 0 then 0
  else if op = 7 then g_addr K g (K 8 g b.toNatClampNeg + n)
  else if op = 8 then g_addr K g (K 8 g b.toNatClampNeg + n)
  else if op = 13 then g_n4 n
  else if op = 14 then g_n4 n
  else if op = 15 then 0
  else if op = 16 then g_n4 n
  else if op = 17 then g_n4 n
  else if op = 18 then g_n4 n
  else if op = 19 then g_unlX K g n
  else if op = 20 then 0
  else if op = 21 then 0
  else g_calX K g op b
def g_perT (K : kM) (g : Nat) (op pl : Int32) : kM :=
  let a := g_part K pl 1
  let b := g_part K pl 2
  let n := g_part K pl 3
  if op = 0 then g_end K g 0
  else if op = 7 then g_ldT K g a (K 8 g b.toNatClampNeg + n)
  else if op = 8 then g_stT K g a (K 8 g b.toNatClampNeg + n)
  else if op = 13 then g_mapT K g a n
  else if op = 14 then g_unT K g a n
  else if op = 15 then k_up (g_spT K g (K 8 g a.toNatClampNeg) (K 8 g b.toNatClampNeg) n) 8 g a.toNatClampNeg (g_spX K g (K 8 g b.toNatClampNeg))
  else if op = 16 then g_sendT K g a n
  else if op = 17 then g_recvT K g a n
  else if op = 18 then g_lockT K g a n
  else if op = 19 then g_unlT K g n
  else if op = 20 then g_end K g (K 8 g a.toNatClampNeg)
  else if op = 21 then g_rpT K g a b 6 0
  else g_calT K g op a b n
def g_turnA (K : kM) (p g : Nat) : kM :=
  let pl := K 7 g 4
  let op := g_part K pl 0
  let K1 := g_goTo K g (pl + 1)
  let K2 := k_up K1 11 p 2 (K1 11 p 2 - 1)
  let K3 := k_up K2 0 0 7 (K2 0 0 7 + 1)
  let K4 := g_perT K3 g op pl
  let K5 := if g_perX K3 g op pl = 0 then K4 else g_trap K4 g (g_perX K3 g op pl) pl
  if K5 7 g 3 = 1 then
    (if K5 11 p 2 ≤ 0 then g_ready (k_up K5 11 p 1 (-1)) g else
      (if op = 12 then g_ready (k_up K5 11 p 1 (-1)) g else K5))
  else k_up K5 11 p 1 (-1)
def g_turn (K : kM) (p : Nat) : kM :=
  if K 11 p 1 = -1 then
    (if g_rowX K p = -1 then k_up (g_next K p) 0 0 11 (g_next K p 0 0 11 + 1) else g_turnA (g_next K p) p (g_rowX K p).toNatClampNeg)
  else g_turnA K p (K 11 p 1).toNatClampNeg
def g_empty (K : kM) (p : Nat) : Int32 := if K 11 p 1 = -1 then (if K 12 p 2 = 0 then 1 else 0) else 0
def g_tick (K : kM) : kM := g_turn (g_turn (k_up K 0 0 6 (K 0 0 6 + 1)) 0) 1
end
section
/-! ===== THE REFERENCE, AS FUNCTIONS OF ITS MEMORY (families: NOTES.md) ===== -/
def m_rng (f _i _j : Nat) (x : Int32) : Prop := match f with
  | 1 => vp_in x 22
  | 2 => vp_in x 4
  | 3 => vp_in x 4
  | 6 => vp_in x 32
  | 7 => x = -1 ∨ vp_in x 32
  | 16 => x = -1 ∨ vp_in x 12
  | 19 => vp_in x 6
  | 20 => 0 ≤ x ∧ x ≤ 6
  | 22 => 0 ≤ x ∧ x ≤ 2
  | 23 => x = -1 ∨ vp_in x 6
  | 24 => x = -1 ∨ vp_in x 6
  | _ => True
abbrev m_Inv (K : kM) : Prop := k_Inv m_rng K
def m_no (v most : Int32) : Int32 := if v < 0 then 1 else if v ≤ most then 0 else 1
def m_add (K : kM) (r g : Nat) : kM := k_up (k_up K 19 0 (r * 6 + (K 20 0 r).toNatClampNeg) (nI g)) 20 0 r (k_up K 19 0 (r * 6 + (K 20 0 r).toNatClampNeg) (nI g) 20 0 r + 1)
def m_sh (K : kM) (r : Nat) : Nat → Nat → kM
  | 0, _ => K
  | c + 1, k => m_sh (k_up K 19 0 (r * 6 + k) (K 19 0 (r * 6 + k + 1))) r c (k + 1)
def m_tkX (K : kM) (r : Nat) : Int32 := K 19 0 (r * 6)
def m_tk1 (K : kM) (r : Nat) : kM := k_up K 20 0 r (K 20 0 r - 1)
def m_tkT (K : kM) (r : Nat) : kM := m_sh (m_tk1 K r) r (m_tk1 K r 20 0 r).toNatClampNeg 0
def m_wake (K : kM) (g : Nat) : kM := m_add (k_up K 5 0 g 0) (g % 2) g
def m_beg0 (K : kM) (g : Nat) (a q b : Int32) : kM := k_up (k_up (k_up (k_up (k_up (k_up (k_up (k_up K 6 0 g a) 8 0 g q) 11 0 g b) 7 0 g (-1)) 9 0 g 0) 10 0 g 0) 12 0 g 0) 13 0 g 0
def m_begL (K : kM) (g : Nat) : Nat → kM
  | 0 => K
  | n + 1 => k_up (k_up (m_begL K g n) 15 0 (g * 4 + n) 0) 16 0 (g * 4 + n) (-1)
def m_begin (K : kM) (g : Nat) (a q b : Int32) : kM := m_wake (m_begL (m_beg0 K g a q b) g 4) g
def m_unmap (K : kM) (g p : Nat) : kM := if 0 ≤ K 16 0 (g * 4 + p) then
    k_up (k_up (k_up K 18 0 (K 16 0 (g * 4 + p)).toNatClampNeg 0) 16 0 (g * 4 + p) (-1)) 9 0 g (k_up (k_up K 18 0 (K 16 0 (g * 4 + p)).toNatClampNeg 0) 16 0 (g * 4 + p) (-1) 9 0 g - 1) else K
def m_unl1 (K : kM) (k : Nat) : kM := if K 20 0 (10 + k) ≤ 0 then k_up K 23 0 k (-1) else k_up (m_tkT K (10 + k)) 23 0 k (m_tkX K (10 + k))
def m_unl (K : kM) (k : Nat) : kM := if m_unl1 K k 23 0 k < 0 then m_unl1 K k else m_wake (m_unl1 K k) (m_unl1 K k 23 0 k).toNatClampNeg
def m_dU (K : kM) (g : Nat) : Nat → kM
  | 0 => K
  | n + 1 => m_unmap (m_dU K g n) g n
def m_dL1 (K : kM) (g k : Nat) : kM := if K 23 0 k = nI g then m_unl K k else K
def m_dL (K : kM) (g : Nat) : Nat → kM
  | 0 => K
  | n + 1 => m_dL1 (m_dL K g n) g n
def m_dC1 (K : kM) (g c : Nat) : kM := if K 5 0 c < 0 then K else if K 11 0 c = nI g then
    k_up (k_up K 11 0 c (K 11 0 g)) 8 0 g (k_up K 11 0 c (K 11 0 g) 8 0 g - k_up K 11 0 c (K 11 0 g) 8 0 c) else K
def m_dC (K : kM) (g : Nat) : Nat → kM
  | 0 => K
  | n + 1 => m_dC1 (m_dC K g n) g n
def m_die (K : kM) (g : Nat) (w : Int32) : kM := k_up (m_dC (m_dL (m_dU (k_up (k_up K 5 0 g 3) 12 0 g w) g 4) g 4) g 6) 10 0 g 0
def m_tr2 (K : kM) (g : Nat) : kM := k_up (k_up K 13 0 g (K 13 0 g + 1)) 0 0 27 (k_up K 13 0 g (K 13 0 g + 1) 0 0 27 + 1)
def m_trap (K : kM) (g : Nat) (kd : Int32) : kM := if 0 ≤ m_tr2 K g 7 0 g then
    k_up (k_up (k_up (m_tr2 K g) 15 0 (g * 4 + 3) kd) 6 0 g (k_up (m_tr2 K g) 15 0 (g * 4 + 3) kd 7 0 g)) 7 0 g (-1)
  else m_die (m_tr2 K g) g (-100 - kd)
def m_wh (K : kM) (g : Nat) (ad : Int32) : Int32 := if m_no ad 31 = 0 then
    (if 0 ≤ K 16 0 (g * 4 + (ad / 8).toNatClampNeg) then K 16 0 (g * 4 + (ad / 8).toNatClampNeg) * 8 + k_rem ad 8 else -3) else -2
def m_mf (K : kM) : Nat → Nat → Nat
  | 0, i => i
  | c + 1, i => if K 18 0 i = 0 then i else m_mf K c (i + 1)
def m_clr (K : kM) (f : Nat) : Nat → kM
  | 0 => K
  | n + 1 => k_up (m_clr K f n) 17 0 (f * 8 + n) 0
def m_map1 (K : kM) (g p f : Nat) : kM := k_up (k_up (m_clr (k_up K 18 0 f 1) f 8) 16 0 (g * 4 + p) (nI f)) 9 0 g (k_up (m_clr (k_up K 18 0 f 1) f 8) 16 0 (g * 4 + p) (nI f) 9 0 g + 1)
def m_mpX (K : kM) (g p f : Nat) : Int32 := if 0 ≤ K 16 0 (g * 4 + p) then 0 else if K 8 0 g ≤ K 9 0 g + K 10 0 g then 0 else if nI f = 12 then 0 else 1
def m_mpT (K : kM) (g p f : Nat) : kM := if 0 ≤ K 16 0 (g * 4 + p) then K else if K 8 0 g ≤ K 9 0 g + K 10 0 g then K else if nI f = 12 then K else m_map1 K g p f
def m_mapX (K : kM) (g p : Nat) : Int32 := m_mpX K g p (m_mf K 12 0)
def m_mapT (K : kM) (g p : Nat) : kM := m_mpT K g p (m_mf K 12 0)
def m_sf (K : kM) : Nat → Nat → Nat
  | 0, i => i
  | c + 1, i => if K 5 0 i < 0 then i else m_sf K c (i + 1)
def m_sp1 (K : kM) (g c : Nat) (a q v : Int32) : kM :=
  k_up (k_up (m_begin (k_up K 10 0 g (K 10 0 g + q)) c a q (nI g)) 15 0 (c * 4) v) 0 0 28 (k_up (m_begin (k_up K 10 0 g (K 10 0 g + q)) c a q (nI g)) 15 0 (c * 4) v 0 0 28 + 1)
def m_sqX (K : kM) (g : Nat) (q : Int32) (c : Nat) : Int32 := if q < 0 then -1 else if K 8 0 g - K 9 0 g - K 10 0 g < q then -1 else if nI c = 6 then -1 else nI c
def m_sqT (K : kM) (g : Nat) (a q v : Int32) (c : Nat) : kM := if q < 0 then K else if K 8 0 g - K 9 0 g - K 10 0 g < q then K else if nI c = 6 then K else m_sp1 K g c a q v
def m_spX (K : kM) (g : Nat) (q : Int32) : Int32 := m_sqX K g q (m_sf K 6 0)
def m_spT (K : kM) (g : Nat) (a q v : Int32) : kM := m_sqT K g a q v (m_sf K 6 0)
def m_rp1 (K : kM) (g c : Nat) : kM := k_up (k_up (k_up K 5 0 c (-1)) 10 0 g (k_up K 5 0 c (-1) 10 0 g - k_up K 5 0 c (-1) 8 0 c)) 0 0 29 (k_up (k_up K 5 0 c (-1)) 10 0 g (k_up K 5 0 c (-1) 10 0 g - k_up K 5 0 c (-1) 8 0 c) 0 0 29 + 1)
def m_rpX (K : kM) (g : Nat) : Nat → Nat → Int32
  | 0, _ => -1
  | n + 1, c => if K 5 0 c = 3 then (if K 11 0 c = nI g then nI c else m_rpX K g n (c + 1)) else m_rpX K g n (c + 1)
def m_rpT (K : kM) (g : Nat) : Nat → Nat → kM
  | 0, _ => K
  | n + 1, c => if K 5 0 c = 3 then (if K 11 0 c = nI g then m_rp1 K g c else m_rpT K g n (c + 1)) else m_rpT K g n (c + 1)
def m_blk (K : kM) (g r : Nat) : kM := m_add (k_up K 5 0 g 2) r g
def m_snd0 (K : kM) (g k : Nat) (v : Int32) : kM := if 2 ≤ K 22 0 k then m_blk (k_up K 14 0 g v) g (2 + k) else
    k_up (k_up K 21 0 (k * 2 + (K 22 0 k).toNatClampNeg) v) 22 0 k (k_up K 21 0 (k * 2 + (K 22 0 k).toNatClampNeg) v 22 0 k + 1)
def m_snd1 (K : kM) (k : Nat) (v : Int32) : kM := m_wake (k_up (m_tkT K (6 + k)) 15 0 ((m_tkX K (6 + k)).toNatClampNeg * 4 + (m_tkT K (6 + k) 14 0 (m_tkX K (6 + k)).toNatClampNeg).toNatClampNeg) v) (m_tkX K (6 + k)).toNatClampNeg
def m_snd (K : kM) (g k : Nat) (v : Int32) : kM := if K 22 0 k = 0 then (if K 20 0 (6 + k) ≤ 0 then m_snd0 K g k v else m_snd1 K k v) else m_snd0 K g k v
def m_rc1 (K : kM) (g k a : Nat) : kM :=
  let K1 := k_up K 15 0 (g * 4 + a) (K 21 0 (k * 2))
  let K2 := k_up K1 21 0 (k * 2) (K1 21 0 (k * 2 + 1))
  k_up K2 22 0 k (K2 22 0 k - 1)
def m_rc2 (K : kM) (k : Nat) : kM := m_wake (k_up (k_up (m_tkT K (2 + k)) 21 0 (k * 2 + 1) (m_tkT K (2 + k) 14 0 (m_tkX K (2 + k)).toNatClampNeg)) 22 0 k 2) (m_tkX K (2 + k)).toNatClampNeg
def m_rcv (K : kM) (g k a : Nat) : kM := if K 22 0 k = 0 then m_blk (k_up K 14 0 g (nI a)) g (6 + k) else
    (if m_rc1 K g k a 22 0 k = 1 then (if m_rc1 K g k a 20 0 (2 + k) ≤ 0 then m_rc1 K g k a else m_rc2 (m_rc1 K g k a) k) else m_rc1 K g k a)
end
section
/-! ===== ranges ===== -/
theorem r_nat {x : Int32} {n : Nat} (h : vp_in x n) (hn : n < 2 ^ 31) : ∃ j : Nat, j < n ∧ x = nI j := vp_in_of h hn
theorem r_sz {s : Int32} (h : 0 ≤ s ∧ s ≤ 6) : ∃ j : Nat, j ≤ 6 ∧ s = nI j := nI_of2 (M := 6) (n := 6) (by decide) (fun q => absurd h.1 (by rw [Int32.not_le]; exact q)) h.2
theorem r_sz2 {s : Int32} (h : 0 ≤ s ∧ s ≤ 2) : ∃ j : Nat, j ≤ 2 ∧ s = nI j := nI_of2 (M := 2) (n := 2) (by decide) (fun q => absurd h.1 (by rw [Int32.not_le]; exact q)) h.2
theorem r_idx {a s : Int32} (ha : vp_in a 6) (hs : 0 ≤ s ∧ s ≤ 6) : vp_in (k_rem (a + s) 6) 6 := by
  obtain ⟨i, hi, rfl⟩ := r_nat ha (by decide)
  obtain ⟨j, hj, rfl⟩ := r_sz hs
  show vp_in (nI i + nI j - (nI i + nI j) / nI 6 * nI 6) 6
  rw [nI_add, pk_rem (by omega) (by decide) (by decide)]
  exact vp_in_nI (Nat.mod_lt _ (by decide)) (by decide)
theorem r_fi1 {a : Int32} (ha : vp_in a 6) : vp_in (k_rem (a + 1) 6) 6 := r_idx ha (s := 1) (by decide)
theorem r_szp {s : Int32} (hs : 0 ≤ s ∧ s ≤ 6) (h : ¬ 6 ≤ s) : 0 ≤ s + 1 ∧ s + 1 ≤ 6 := by
  obtain ⟨j, hj, rfl⟩ := r_sz hs
  have : j < 6 := by
    rcases Nat.lt_or_ge j 6 with q | q
    · exact q
    · exact absurd (show nI 6 ≤ nI j from nI_le q (by omega)) h
  rw [nI_1]
  exact ⟨nI_pos' (by omega), show nI (j + 1) ≤ nI 6 from nI_le (by omega) (by decide)⟩
theorem r_szm {s : Int32} (hs : 0 ≤ s ∧ s ≤ 6) (h : ¬ s = 0) : 0 ≤ s - 1 ∧ s - 1 ≤ 6 := by
  obtain ⟨j, hj, rfl⟩ := r_sz hs
  cases j with
  | zero => exact absurd rfl h
  | succ j =>
    rw [nI_pred]
    exact ⟨nI_pos' (by omega), show nI j ≤ nI 6 from nI_le (by omega) (by decide)⟩
theorem iv_rowAdd {K : kM} {r : Nat} {x : Int32} (I : g_Inv K) (hx : vp_in x 6) : g_Inv (g_rowAdd K r x) := by
  unfold g_rowAdd
  split
  · exact I
  · rename_i h
    exact k_Inv.up (k_Inv.up I hx) (r_szp (I 12 r 2) h)
theorem iv_rowT {K : kM} {r : Nat} (I : g_Inv K) : g_Inv (g_rowT K r) := by
  unfold g_rowT
  split
  · exact I
  · rename_i h
    exact k_Inv.up (k_Inv.up I (r_fi1 (I 12 r 1))) (r_szm (I 12 r 2) h)
theorem r_lt {v : Int32} {n : Nat} (hn : n < 2 ^ 31) (h0 : ¬ v < 0) (h1 : v < nI n) : vp_in v n := by
  rw [vp_in_iff]
  have a := Int32.not_lt.mp h0
  rw [Int32.le_iff_toInt_le] at a
  rw [Int32.lt_iff_toInt_lt, nI_toInt hn] at h1
  exact ⟨by simpa using a, h1⟩
theorem r_out {v : Int32} {n : Nat} (hn : n < 2 ^ 31) (h : g_out v (nI n) = 0) : vp_in v n := by
  unfold g_out at h
  split at h
  · exact absurd h (by decide)
  · split at h
    · exact r_lt hn ‹_› ‹_›
    · exact absurd h (by decide)
theorem r_out4 {v : Int32} (h : g_out v 4 = 0) : vp_in v 4 := r_out (n := 4) (by decide) h
theorem r_out32 {v : Int32} (h : g_out v 32 = 0) : vp_in v 32 := r_out (n := 32) (by decide) h
theorem r_mad {p w : Int32} {n k : Nat} (hp : vp_in p n) (hw : vp_in w k) (h : n * k < 2 ^ 30) (hk : k < 2 ^ 30) (hn : n < 2 ^ 30) : ∃ a b : Nat, a < n ∧ b < k ∧ p = nI a ∧ w = nI b ∧ p * nI k + w = nI (a * k + b) ∧ a * k + b < n * k := by
  obtain ⟨a, ha, rfl⟩ := r_nat hp (by omega)
  obtain ⟨b, hb, rfl⟩ := r_nat hw (by omega)
  have : a * k + b < n * k := by
    calc a * k + b < a * k + k := by omega
      _ = (a + 1) * k := by rw [Nat.succ_mul]
      _ ≤ n * k := Nat.mul_le_mul_right k ha
  exact ⟨a, b, ha, hb, rfl, rfl, by rw [pk_mul, nI_add], this⟩
theorem r_part {p w : Int32} (hp : vp_in p 32) (hw : vp_in w 4) : vp_in (p * 4 + w) 128 := by
  obtain ⟨a, b, ha, hb, -, -, e, h⟩ := r_mad (n := 32) (k := 4) hp hw (by decide) (by decide) (by decide)
  show vp_in (p * nI 4 + w) 128
  rw [e]
  exact vp_in_nI h (by decide)
theorem r_mem {f i : Int32} (hp : vp_in f 12) (hw : vp_in i 8) : vp_in (f * 8 + i) 96 := by
  obtain ⟨a, b, ha, hb, -, -, e, h⟩ := r_mad (n := 12) (k := 8) hp hw (by decide) (by decide) (by decide)
  show vp_in (f * nI 8 + i) 96
  rw [e]
  exact vp_in_nI h (by decide)
theorem r_slot {p w : Int32} (hp : vp_in p 32) (hw : vp_in w 4) : (p * 4 + w).toNatClampNeg % 4 = w.toNatClampNeg := by
  obtain ⟨a, b, ha, hb, rfl, rfl, e, h⟩ := r_mad (n := 32) (k := 4) hp hw (by decide) (by decide) (by decide)
  show (nI a * nI 4 + nI b).toNatClampNeg % 4 = _
  rw [e, nI_clamp (by omega), nI_clamp (by omega)]
  omega
theorem r_w0 {p x : Int32} (hp : vp_in p 32) (hx : vp_in x 22) : g_rng 2 0 (p * 4 + 0).toNatClampNeg x := by
  show (if (p * 4 + 0).toNatClampNeg % 4 = 0 then _ else _)
  rw [if_pos (by rw [r_slot hp (k_in (by decide))]; decide)]
  exact hx
theorem r_w1 {p x : Int32} (hp : vp_in p 32) (hx : vp_in x 4) : g_rng 2 0 (p * 4 + 1).toNatClampNeg x := by
  show (if (p * 4 + 1).toNatClampNeg % 4 = 0 then _ else _)
  rw [r_slot hp (k_in (by decide))]
  exact hx
theorem r_w2 {p x : Int32} (hp : vp_in p 32) (hx : vp_in x 4) : g_rng 2 0 (p * 4 + 2).toNatClampNeg x := by
  show (if (p * 4 + 2).toNatClampNeg % 4 = 0 then _ else _)
  rw [r_slot hp (k_in (by decide))]
  exact hx
theorem r_w3 {p x : Int32} (hp : vp_in p 32) : g_rng 2 0 (p * 4 + 3).toNatClampNeg x := by
  show (if (p * 4 + 3).toNatClampNeg % 4 = 0 then _ else _)
  rw [r_slot hp (k_in (by decide))]
  exact trivial
theorem r_p0 {K : kM} {p : Int32} (I : g_Inv K) (hp : vp_in p 32) : vp_in (g_part K p 0) 22 := by
  have h := I 2 0 (p * 4 + 0).toNatClampNeg
  change (if (p * 4 + 0).toNatClampNeg % 4 = 0 then vp_in _ 22 else _) at h
  rw [if_pos (by rw [r_slot hp (k_in (by decide))]; decide)] at h
  exact h
theorem r_p1 {K : kM} {p : Int32} (I : g_Inv K) (hp : vp_in p 32) : vp_in (g_part K p 1) 4 := by
  have h := I 2 0 (p * 4 + 1).toNatClampNeg
  change (if (p * 4 + 1).toNatClampNeg % 4 = 0 then vp_in _ 22 else if (p * 4 + 1).toNatClampNeg % 4 = 3 then True else vp_in _ 4) at h
  rw [r_slot hp (k_in (by decide))] at h
  exact h
theorem r_p2 {K : kM} {p : Int32} (I : g_Inv K) (hp : vp_in p 32) : vp_in (g_part K p 2) 4 := by
  have h := I 2 0 (p * 4 + 2).toNatClampNeg
  change (if (p * 4 + 2).toNatClampNeg % 4 = 0 then vp_in _ 22 else if (p * 4 + 2).toNatClampNeg % 4 = 3 then True else vp_in _ 4) at h
  rw [r_slot hp (k_in (by decide))] at h
  exact h
theorem r_div8 {a : Int32} (h : vp_in a 32) : vp_in (a / 8) 4 := by
  obtain ⟨j, hj, rfl⟩ := r_nat h (by decide)
  show vp_in (nI j / nI 8) 4
  rw [pk_div (by omega) (by decide) (by decide)]
  exact vp_in_nI (by omega) (by decide)
theorem r_rem8 {a : Int32} (h : vp_in a 32) : vp_in (k_rem a 8) 8 := by
  obtain ⟨j, hj, rfl⟩ := r_nat h (by decide)
  show vp_in (nI j - nI j / nI 8 * nI 8) 8
  rw [pk_rem (by omega) (by decide) (by decide)]
  exact vp_in_nI (by omega) (by decide)
theorem r_mod2 {g : Nat} (h : g < 6) : vp_in (k_rem (nI g) 2) 2 := by
  show vp_in (nI g - nI g / nI 2 * nI 2) 2
  rw [pk_rem (by omega) (by decide) (by decide)]
  exact vp_in_nI (by omega) (by decide)
theorem r_n {x : Int32} {g : Nat} (h : x = nI g) (hg : g < 6) : vp_in x 6 := by rw [h]; exact vp_in_nI hg (by decide)
theorem r_e32 (x : Int32) : ∃ q : Int, x.toInt = 32 * q + (x.toInt % 32) ∧ 0 ≤ x.toInt % 32 ∧ x.toInt % 32 < 32 := ⟨x.toInt / 32, by omega, by omega, by omega⟩
theorem r_rem32 (x : Int32) : (k_rem x 32).toInt = x.toInt.tmod 32 := by
  have h1 : x.toInt.tmod 32 = x.toInt - 32 * (x.toInt.tdiv 32) := by rw [Int.tmod_def]
  have hb := x.toInt_lt
  have hb2 := x.le_toInt
  have hq : -32 < x.toInt.tmod 32 ∧ x.toInt.tmod 32 < 32 ∧ (0 ≤ x.toInt → 0 ≤ x.toInt.tmod 32) ∧ (x.toInt ≤ 0 → x.toInt.tmod 32 ≤ 0) := by
    rcases Int.le_total 0 x.toInt with h | h
    · rw [Int.tmod_eq_emod_of_nonneg h]
      refine ⟨by omega, by omega, by omega, fun q => ?_⟩
      have : x.toInt = 0 := by omega
      rw [this]
      decide
    · have h2 : x.toInt.tmod 32 = -((-x.toInt) % 32) := by
        rw [← Int.tmod_eq_emod_of_nonneg (by omega : (0 : Int) ≤ -x.toInt), Int.neg_tmod, Int.neg_neg]
      omega
  have hd : (x / 32).toInt = (x.toInt.tdiv 32) := by
    rw [Int32.toInt_div]
    have : (32 : Int32).toInt = 32 := by decide
    rw [this]
    apply Int.bmod_eq_of_le <;> omega
  have hm : (x / 32 * 32).toInt = x.toInt.tdiv 32 * 32 := by
    rw [Int32.toInt_mul, hd]
    have : (32 : Int32).toInt = 32 := by decide
    rw [this]
    apply Int.bmod_eq_of_le <;> omega
  show (x - x / 32 * 32).toInt = _
  rw [Int32.toInt_sub, hm, h1]
  rw [Int.bmod_eq_of_le] <;> omega
theorem r_sgn (x : Int32) : (0 ≤ x ^^^ 32) ↔ 0 ≤ x := by
  rw [Int32.le_iff_toBitVec_sle, Int32.le_iff_toBitVec_sle]
  have e : (x ^^^ 32).toBitVec.msb = x.toBitVec.msb := by
    show (x.toBitVec ^^^ (32 : Int32).toBitVec).msb = _
    rw [BitVec.msb_xor]
    have : ((32 : Int32).toBitVec).msb = false := by decide
    rw [this, Bool.xor_false]
  have s : ∀ b : BitVec 32, ((0 : Int32).toBitVec.sle b) = !b.msb := by
    intro b
    have : (0 : Int32).toBitVec = 0#32 := by decide
    rw [this, BitVec.zero_sle_eq_not_msb]
  rw [s, s, e]
/-- floorMod by 32, as a number -/
theorem r_fmv (t : Int32) : ∃ j : Nat, j < 32 ∧ g_fm t 32 = nI j ∧ (j : Int) = t.toInt % 32 := by
  have hr := r_rem32 t
  have hb := t.toInt_lt
  have hb2 := t.le_toInt
  have key : (g_fm t 32).toInt = t.toInt % 32 := by
    unfold g_fm
    by_cases h : (0 : Int32) ≤ t ^^^ 32
    · rw [if_pos h, hr]
      rw [r_sgn, Int32.le_iff_toInt_le] at h
      have h0 : (0 : Int) ≤ t.toInt := by simpa using h
      rw [Int.tmod_eq_emod_of_nonneg h0]
    · rw [if_neg h]
      rw [r_sgn, Int32.le_iff_toInt_le] at h
      have h0 : t.toInt < 0 := by
        have : ¬ (0 : Int) ≤ t.toInt := by simpa using h
        omega
      have h2 : t.toInt.tmod 32 = -((-t.toInt) % 32) := by
        rw [← Int.tmod_eq_emod_of_nonneg (by omega : (0 : Int) ≤ -t.toInt), Int.neg_tmod, Int.neg_neg]
      by_cases hz : k_rem t 32 = 0
      · rw [if_pos hz, hr]
        have : (k_rem t 32).toInt = 0 := by rw [hz]; decide
        omega
      · rw [if_neg hz, Int32.toInt_add, hr]
        have hz' : t.toInt.tmod 32 ≠ 0 := fun q => hz (Int32.toInt_inj.mp (by rw [hr, q]; decide))
        have : (32 : Int32).toInt = 32 := by decide
        rw [this]
        rw [Int.bmod_eq_of_le] <;> omega
  refine ⟨(t.toInt % 32).toNat, by omega, ?_, by omega⟩
  apply Int32.toInt_inj.mp
  rw [key, nI_toInt (by omega)]
  omega
theorem r_fm (t : Int32) : vp_in (g_fm t 32) 32 := by
  obtain ⟨j, hj, e, -⟩ := r_fmv t
  rw [e]
  exact vp_in_nI hj (by decide)
end
section
/-! ===== the ranges are kept ===== -/
theorem k_Inv.row {rng : Nat → Nat → Nat → Int32 → Prop} {K : kM} {f i : Nat} {h : Nat → Int32} (I : k_Inv rng K) (hr : ∀ j, rng f i j (h j)) : k_Inv rng (k_row K f i h) := by
  intro a b c
  unfold k_row
  by_cases q : a = f ∧ b = i
  · rw [if_pos q]
    obtain ⟨rfl, rfl⟩ := q
    exact hr c
  · rw [if_neg q]
    exact I a b c
theorem r_num {K : kM} {g : Nat} (I : g_Inv K) (hg : g < 6) : vp_in (K 7 g 0) 6 := r_n (I 7 g 0) hg
theorem r_num2 {K : kM} {g : Nat} (I : g_Inv K) (hg : g < 6) : vp_in (k_rem (K 7 g 0) 2) 2 := by
  rw [show K 7 g 0 = nI g from I 7 g 0]
  exact r_mod2 hg
theorem r_rowX {K : kM} (r : Nat) (I : g_Inv K) : g_rowX K r = -1 ∨ vp_in (g_rowX K r) 6 := by
  unfold g_rowX
  split
  · exact Or.inl rfl
  · exact Or.inr (I 13 r _)
theorem r_rowX1 {K : kM} {r : Nat} (I : g_Inv K) (h : ¬ g_rowX K r = -1) : vp_in (g_rowX K r) 6 := Or.resolve_left (r_rowX r I) h
theorem r_ful {K : kM} {k : Nat} (I : g_Inv K) (h : g_full K k = 0) : vp_in (K 17 k 3) 2 := by
  unfold g_full at h
  split at h
  · rename_i q
    obtain ⟨j, hj, e⟩ := r_sz2 (I 17 k 3)
    rw [e] at q ⊢
    exact r_lt (by decide) (nI_pos (by omega)) q
  · exact absurd h (by decide)
theorem r_szp2 {s : Int32} (h : vp_in s 2) : 0 ≤ s + 1 ∧ s + 1 ≤ 2 := by
  obtain ⟨j, hj, rfl⟩ := r_nat h (by decide)
  rw [nI_1]
  exact ⟨nI_pos' (by omega), show nI (j + 1) ≤ nI 2 from nI_le (by omega) (by decide)⟩
theorem r_szm2 {s : Int32} (hs : 0 ≤ s ∧ s ≤ 2) (h : ¬ s ≤ 0) : 0 ≤ s - 1 ∧ s - 1 ≤ 2 := by
  obtain ⟨j, hj, rfl⟩ := r_sz2 hs
  cases j with
  | zero => exact absurd (show nI 0 ≤ 0 from by decide) h
  | succ j =>
    rw [nI_pred]
    exact ⟨nI_pos' (by omega), show nI j ≤ nI 2 from nI_le (by omega) (by decide)⟩
theorem r_cp {s : Int32} (hs : 0 ≤ s ∧ s ≤ 2) (h : ¬ s ≤ 0) : ¬ s - 1 < 0 ∧ 1 + (s - 1).toNatClampNeg ≤ 2 := by
  obtain ⟨j, hj, rfl⟩ := r_sz2 hs
  cases j with
  | zero => exact absurd (show nI 0 ≤ 0 from by decide) h
  | succ j =>
    rw [nI_pred, nI_clamp (by omega)]
    exact ⟨nI_pos (by omega), by omega⟩
theorem iv_goTo {K : kM} {g : Nat} {t : Int32} (I : g_Inv K) : g_Inv (g_goTo K g t) := I.up (r_fm t)
theorem iv_fill {K : kM} {f i : Nat} {v : Int32} (I : g_Inv K) (h : ∀ j, g_rng f i j v) : ∀ n, g_Inv (g_fill K f i v n)
  | 0 => I
  | n + 1 => (iv_fill I h n).up (h n)
theorem iv_begin {K : kM} {g : Nat} {t q p : Int32} (I : g_Inv K) : g_Inv (g_begin K g t q p) :=
  k_Inv.up (k_Inv.up (k_Inv.up (k_Inv.up (k_Inv.up (k_Inv.up (k_Inv.up (iv_goTo (iv_fill (f := 9) (i := g) (v := -1) (iv_fill (f := 8) (i := g) (v := 0) I (fun _ => trivial) 4) (fun _ => Or.inl rfl) 4)) trivial) trivial) trivial) trivial) trivial) trivial) trivial
theorem iv_write {K : kM} {i op a b n : Int32} (I : g_Inv K) (hi : vp_in i 32) (ho : vp_in op 22) (ha : vp_in a 4) (hb : vp_in b 4) : g_Inv (g_write K i op a b n) :=
  k_Inv.up (k_Inv.up (k_Inv.up (k_Inv.up I (r_w0 hi ho)) (r_w1 hi ha)) (r_w2 hi hb)) (r_w3 hi)
theorem iv_put {K : kM} {k : Nat} {v : Int32} (I : g_Inv K) : g_Inv (g_put K k v) := by
  unfold g_put
  split
  · exact k_Inv.up (k_Inv.up I trivial) (r_szp2 (r_ful (K := K) I ‹_›))
  · exact I
theorem iv_chT {K : kM} {k : Nat} (I : g_Inv K) : g_Inv (g_chT K k) := by
  unfold g_chT
  split
  · exact I
  · exact k_Inv.row (k_Inv.up I (r_szm2 (I 17 k 3) ‹_›)) (fun _ => trivial)
theorem iv_store {K : kM} {f i v : Int32} (I : g_Inv K) : g_Inv (g_store K f i v) := I.up trivial
theorem iv_clear {K : kM} {f : Int32} (I : g_Inv K) : ∀ n, g_Inv (g_clear K f n)
  | 0 => I
  | n + 1 => iv_store (iv_clear I n)
theorem iv_frT {K : kM} (I : g_Inv K) : ∀ n i, g_Inv (g_frT K n i)
  | 0, _ => I
  | n + 1, i => by
    unfold g_frT
    split
    · exact iv_clear (k_Inv.up (f := 3) (i := 0) (j := 2) (k_Inv.up (f := 5) (i := 0) (j := i) (x := 1) I trivial) trivial) 8
    · exact iv_frT I n (i + 1)
theorem r_frX {K : kM} : ∀ n i, n + i = 12 → g_frX K n i = -1 ∨ vp_in (g_frX K n i) 12
  | 0, _, _ => Or.inl rfl
  | n + 1, i, h => by
    unfold g_frX
    split
    · exact Or.inr (vp_in_nI (by omega) (by decide))
    · exact r_frX n (i + 1) (by omega)
theorem iv_give {K : kM} {f : Int32} (I : g_Inv K) : g_Inv (g_give K f) := k_Inv.up (k_Inv.up I trivial) trivial
theorem iv_ready {K : kM} {g : Nat} (I : g_Inv K) (hg : g < 6) : g_Inv (g_ready K g) := iv_rowAdd (k_Inv.up I trivial) (r_num (K := K) I hg)
theorem iv_block {K : kM} {g r : Nat} {a : Int32} (I : g_Inv K) (hg : g < 6) (ha : vp_in a 4) : g_Inv (g_block K g a r) := iv_rowAdd (k_Inv.up (k_Inv.up I trivial) ha) (r_num (K := K) I hg)
theorem iv_next {K : kM} {p : Nat} (I : g_Inv K) : g_Inv (g_next K p) := by
  unfold g_next
  split
  · exact iv_rowT I
  · exact k_Inv.up (k_Inv.up (k_Inv.up (k_Inv.up (iv_rowT I) trivial) (r_rowX p I)) trivial) trivial
theorem iv_drop {K : kM} {g : Nat} {p : Int32} (I : g_Inv K) : g_Inv (g_drop K g p) := by
  unfold g_drop
  split
  · exact I
  · exact iv_give (k_Inv.up (k_Inv.up I (Or.inl rfl)) trivial)
theorem iv_pass {K : kM} {k : Nat} (I : g_Inv K) : g_Inv (g_pass K k) := by
  have I1 : g_Inv (k_up (g_rowT K (10 + k)) 15 k 1 (g_rowX K (10 + k))) := k_Inv.up (iv_rowT I) (r_rowX (10 + k) I)
  unfold g_pass
  split
  · exact I1
  · exact iv_ready I1 (k_lt (Or.resolve_left (I1 15 k 1) ‹_›))
theorem iv_ho1 {K : kM} {g i : Nat} (I : g_Inv K) : g_Inv (g_ho1 K g i) := by
  unfold g_ho1
  split
  · exact I
  · split
    · exact k_Inv.up I trivial
    · exact I
theorem iv_ho {K : kM} {g : Nat} (I : g_Inv K) : ∀ n, g_Inv (g_ho K g n)
  | 0 => I
  | n + 1 => iv_ho1 (iv_ho I n)
theorem iv_hand {K : kM} {g : Nat} (I : g_Inv K) : g_Inv (g_hand K g) := k_Inv.up (k_Inv.up (iv_ho I 6) trivial) trivial
theorem iv_dr {K : kM} {g : Nat} (I : g_Inv K) : ∀ n, g_Inv (g_dr K g n)
  | 0 => I
  | n + 1 => iv_drop (iv_dr I n)
theorem iv_ul1 {K : kM} {g k : Nat} (I : g_Inv K) : g_Inv (g_ul1 K g k) := by
  unfold g_ul1
  split
  · exact iv_pass I
  · exact I
theorem iv_ul {K : kM} {g : Nat} (I : g_Inv K) : ∀ n, g_Inv (g_ul K g n)
  | 0 => I
  | n + 1 => iv_ul1 (iv_ul I n)
theorem iv_end {K : kM} {g : Nat} {oc : Int32} (I : g_Inv K) : g_Inv (g_end K g oc) := iv_hand (iv_ul (iv_dr (k_Inv.up (f := 7) (i := g) (j := 10) (k_Inv.up (f := 7) (i := g) (j := 3) (x := 3) I trivial) trivial) 4) 4)
theorem r_cp3 {K : kM} {k : Nat} (I : g_Inv K) (h : ¬ K 17 k 3 ≤ 0) : ¬ k_up K 17 k 3 (K 17 k 3 - 1) 17 k 3 < 0 ∧ (1 : Int32).toNatClampNeg + (k_up K 17 k 3 (K 17 k 3 - 1) 17 k 3).toNatClampNeg ≤ 2 ∧ (0 : Int32).toNatClampNeg + (k_up K 17 k 3 (K 17 k 3 - 1) 17 k 3).toNatClampNeg ≤ 2 := by
  have e1 : (1 : Int32).toNatClampNeg = 1 := by decide
  have e0 : (0 : Int32).toNatClampNeg = 0 := by decide
  obtain ⟨h1, h2⟩ := r_cp (I 17 k 3) h
  rw [k_up_eq, e1, e0]
  exact ⟨h1, h2, by omega⟩
end
section
/-! ===== indices of the reference's arrays ===== -/
theorem mx (a b c n : Nat) (h : a * b + c < n) (hn : n < 2 ^ 31) : vp_in (nI a * nI b + nI c) n ∧ (nI a * nI b + nI c).toNatClampNeg = a * b + c := by
  rw [pk_mul, nI_add]
  exact ⟨vp_in_nI h hn, nI_clamp (by omega)⟩
theorem mxp (a b n : Nat) (h : a * b < n) (hn : n < 2 ^ 31) : vp_in (nI a * nI b) n ∧ (nI a * nI b).toNatClampNeg = a * b := by
  rw [pk_mul]
  exact ⟨vp_in_nI h hn, nI_clamp (by omega)⟩
theorem mt (a b n : Nat) (h : a + b < n) (hn : n < 2 ^ 31) : vp_in (nI a + nI b) n ∧ (nI a + nI b).toNatClampNeg = a + b := by
  rw [nI_add]
  exact ⟨vp_in_nI h hn, nI_clamp (by omega)⟩
theorem mx1 (a b c d n : Nat) (h : a * b + c + d < n) (hn : n < 2 ^ 31) : vp_in (nI a * nI b + nI c + nI d) n ∧ (nI a * nI b + nI c + nI d).toNatClampNeg = a * b + c + d := by
  rw [pk_mul, nI_add, nI_add]
  exact ⟨vp_in_nI h hn, nI_clamp (by omega)⟩
theorem r_id {x : Int32} {n : Nat} (h : vp_in x n) (hn : n < 2 ^ 31) : x = nI x.toNatClampNeg := by
  obtain ⟨j, hj, rfl⟩ := r_nat h hn
  rw [nI_clamp (by omega)]
theorem r_szid {x : Int32} (h : 0 ≤ x ∧ x ≤ 6) : x = nI x.toNatClampNeg ∧ x.toNatClampNeg ≤ 6 := by
  obtain ⟨j, hj, rfl⟩ := r_sz h
  rw [nI_clamp (by omega)]
  exact ⟨rfl, hj⟩
theorem r_no {v : Int32} {n : Nat} (hn : n + 1 < 2 ^ 31) (h : m_no v (nI n) = 0) : vp_in v (n + 1) := by
  unfold m_no at h
  split at h
  · exact absurd h (by decide)
  · split at h
    · rename_i h0 h1
      refine r_lt hn h0 ?_
      rw [Int32.lt_iff_toInt_lt, nI_toInt hn]
      rw [Int32.le_iff_toInt_le, nI_toInt (by omega)] at h1
      omega
    · exact absurd h (by decide)
theorem mr2 {g : Nat} (h : g < 6) : k_rem (nI g) 2 = nI (g % 2) := by
  show nI g - nI g / nI 2 * nI 2 = _
  rw [pk_rem (by omega) (by decide) (by decide)]
theorem m_n6 {s : Int32} (h : vp_in s 6) : ¬ 6 ≤ s := by
  obtain ⟨j, hj, rfl⟩ := r_nat h (by decide)
  exact nI_ge hj (by decide)
end
section
/-! ===== how many wait in rows; the ranges of the reference are kept ===== -/
def m_tot (K : kM) : Nat := (K 20 0 0).toNatClampNeg + (K 20 0 1).toNatClampNeg + (K 20 0 2).toNatClampNeg + (K 20 0 3).toNatClampNeg + (K 20 0 4).toNatClampNeg + (K 20 0 5).toNatClampNeg + (K 20 0 6).toNatClampNeg + (K 20 0 7).toNatClampNeg + (K 20 0 8).toNatClampNeg + (K 20 0 9).toNatClampNeg + (K 20 0 10).toNatClampNeg + (K 20 0 11).toNatClampNeg + (K 20 0 12).toNatClampNeg + (K 20 0 13).toNatClampNeg
theorem m_c14 {r : Nat} (h : r < 14) : r = 0 ∨ r = 1 ∨ r = 2 ∨ r = 3 ∨ r = 4 ∨ r = 5 ∨ r = 6 ∨ r = 7 ∨ r = 8 ∨ r = 9 ∨ r = 10 ∨ r = 11 ∨ r = 12 ∨ r = 13 := by omega
theorem mt_le {K : kM} {r : Nat} (hr : r < 14) : (K 20 0 r).toNatClampNeg ≤ m_tot K := by
  unfold m_tot
  rcases m_c14 hr with rfl | rfl | rfl | rfl | rfl | rfl | rfl | rfl | rfl | rfl | rfl | rfl | rfl | rfl <;> omega
theorem mt_ne {K : kM} {f i j : Nat} {x : Int32} (h : f ≠ 20) : m_tot (k_up K f i j x) = m_tot K := by
  have e : ∀ a, k_up K f i j x 20 0 a = K 20 0 a := fun a => by
    unfold k_up
    rw [if_neg (fun q => h q.1.symm)]
  unfold m_tot
  simp only [e]
theorem mt_up {K : kM} {r : Nat} {x : Int32} (hr : r < 14) : m_tot (k_up K 20 0 r x) + (K 20 0 r).toNatClampNeg = m_tot K + x.toNatClampNeg := by
  have e : ∀ a, a ≠ r → k_up K 20 0 r x 20 0 a = K 20 0 a := fun a q => by
    unfold k_up
    rw [if_neg (fun z => q z.2.1)]
  have e0 := k_up_eq K 20 0 r x
  unfold m_tot
  rcases m_c14 hr with rfl | rfl | rfl | rfl | rfl | rfl | rfl | rfl | rfl | rfl | rfl | rfl | rfl | rfl <;>
    (rw [e0]
     repeat rw [e _ (by decide)]
     omega)
theorem mt_v {K : kM} {r : Nat} (I : m_Inv K) (ht : m_tot K ≤ 5) (hr : r < 14) : vp_in (K 20 0 r) 6 := by
  have h1 := r_szid (I 20 0 r)
  have h2 := mt_le (K := K) hr
  rw [h1.1]
  exact vp_in_nI (by omega) (by decide)
theorem mt_add {K : kM} {r g : Nat} (I : m_Inv K) (ht : m_tot K ≤ 5) (hr : r < 14) : m_tot (m_add K r g) = m_tot K + 1 := by
  obtain ⟨s, hs, e⟩ := r_nat (mt_v I ht hr) (by decide)
  have h := mt_up (K := k_up K 19 0 (r * 6 + (K 20 0 r).toNatClampNeg) (nI g)) (r := r) (x := k_up K 19 0 (r * 6 + (K 20 0 r).toNatClampNeg) (nI g) 20 0 r + 1) hr
  rw [mt_ne (K := K) (f := 19) (by decide)] at h
  unfold m_add
  have e2 : k_up K 19 0 (r * 6 + (K 20 0 r).toNatClampNeg) (nI g) 20 0 r = nI s := e
  rw [e2] at h ⊢
  rw [nI_1, nI_clamp (by omega), nI_clamp (by omega)] at h
  rw [nI_1]
  omega
theorem iv_madd {K : kM} {r g : Nat} (I : m_Inv K) (ht : m_tot K ≤ 5) (hr : r < 14) (hg : g < 6) : m_Inv (m_add K r g) := by
  refine k_Inv.up (k_Inv.up I (vp_in_nI hg (by decide))) ?_
  obtain ⟨s, hs, e⟩ := r_nat (mt_v I ht hr) (by decide)
  have e2 : k_up K 19 0 (r * 6 + (K 20 0 r).toNatClampNeg) (nI g) 20 0 r = nI s := e
  rw [e2, nI_1]
  exact ⟨nI_pos' (by omega), show nI (s + 1) ≤ nI 6 from nI_le (by omega) (by decide)⟩
theorem mt_sh {r : Nat} : ∀ (c k : Nat) (K : kM), m_tot (m_sh K r c k) = m_tot K
  | 0, _, _ => rfl
  | c + 1, k, K => by
    unfold m_sh
    rw [mt_sh c (k + 1), mt_ne (by decide)]
theorem iv_msh {r : Nat} : ∀ (c k : Nat) (K : kM), m_Inv K → m_Inv (m_sh K r c k)
  | 0, _, _, I => I
  | c + 1, k, K, I => iv_msh c (k + 1) _ (k_Inv.up I (I 19 0 (r * 6 + k + 1)))
theorem m_sz1 {K : kM} {r : Nat} (I : m_Inv K) (h : ¬ K 20 0 r ≤ 0) : ∃ s, s < 6 ∧ K 20 0 r = nI (s + 1) ∧ m_tk1 K r 20 0 r = nI s := by
  obtain ⟨j, hj, e⟩ := r_sz (I 20 0 r)
  cases j with
  | zero =>
    rw [e] at h
    exact absurd (show nI 0 ≤ 0 from by decide) h
  | succ j =>
    refine ⟨j, by omega, e, ?_⟩
    unfold m_tk1
    rw [k_up_eq, e, nI_pred]
theorem iv_mtk1 {K : kM} {r : Nat} (I : m_Inv K) (h : ¬ K 20 0 r ≤ 0) : m_Inv (m_tk1 K r) := by
  obtain ⟨s, hs, e1, e2⟩ := m_sz1 I h
  unfold m_tk1 at e2 ⊢
  rw [k_up_eq] at e2
  refine k_Inv.up I ?_
  rw [e2]
  exact ⟨nI_pos' (by omega), show nI s ≤ nI 6 from nI_le (by omega) (by decide)⟩
theorem iv_mtk {K : kM} {r : Nat} (I : m_Inv K) (h : ¬ K 20 0 r ≤ 0) : m_Inv (m_tkT K r) := iv_msh _ _ _ (iv_mtk1 I h)
theorem mt_tk {K : kM} {r : Nat} (I : m_Inv K) (h : ¬ K 20 0 r ≤ 0) (hr : r < 14) : m_tot (m_tkT K r) + 1 = m_tot K := by
  obtain ⟨s, hs, e1, e2⟩ := m_sz1 I h
  unfold m_tkT
  rw [mt_sh]
  have q := mt_up (K := K) (r := r) (x := K 20 0 r - 1) hr
  unfold m_tk1 at e2 ⊢
  rw [k_up_eq] at e2
  rw [e2] at q ⊢
  rw [e1, nI_clamp (by omega), nI_clamp (by omega)] at q
  omega
theorem r_tkX {K : kM} (r : Nat) (I : m_Inv K) : vp_in (m_tkX K r) 6 := I 19 0 (r * 6)
theorem mt_wake {K : kM} {g : Nat} (I : m_Inv K) (ht : m_tot K ≤ 5) : m_tot (m_wake K g) = m_tot K + 1 := by
  have e : m_tot (k_up K 5 0 g 0) = m_tot K := mt_ne (by decide)
  unfold m_wake
  have I1 : m_Inv (k_up K 5 0 g 0) := k_Inv.up I trivial
  rw [mt_add I1 (by omega) (by omega), e]
theorem iv_mwake {K : kM} {g : Nat} (I : m_Inv K) (ht : m_tot K ≤ 5) (hg : g < 6) : m_Inv (m_wake K g) := by
  have e : m_tot (k_up K 5 0 g 0) = m_tot K := mt_ne (by decide)
  exact iv_madd (k_Inv.up I trivial) (by omega) (by omega) hg
theorem iv_mbeg0 {K : kM} {g : Nat} {a q b : Int32} (I : m_Inv K) (ha : vp_in a 32) : m_Inv (m_beg0 K g a q b) := by
  unfold m_beg0
  refine k_Inv.up (k_Inv.up (k_Inv.up (k_Inv.up (k_Inv.up (k_Inv.up (k_Inv.up (k_Inv.up I ha) trivial) trivial) (Or.inl rfl)) trivial) trivial) trivial) trivial
theorem mt_beg0 {K : kM} {g : Nat} {a q b : Int32} : m_tot (m_beg0 K g a q b) = m_tot K := by
  unfold m_beg0
  rw [mt_ne (by decide), mt_ne (by decide), mt_ne (by decide), mt_ne (by decide), mt_ne (by decide), mt_ne (by decide), mt_ne (by decide), mt_ne (by decide)]
theorem iv_mbegL {K : kM} {g : Nat} (I : m_Inv K) : ∀ n, m_Inv (m_begL K g n)
  | 0 => I
  | n + 1 => k_Inv.up (f := 16) (x := -1) (k_Inv.up (f := 15) (x := 0) (iv_mbegL I n) trivial) (Or.inl rfl)
theorem mt_begL {K : kM} {g : Nat} : ∀ n, m_tot (m_begL K g n) = m_tot K
  | 0 => rfl
  | n + 1 => by
    unfold m_begL
    rw [mt_ne (by decide), mt_ne (by decide), mt_begL n]
theorem iv_mbegin {K : kM} {g : Nat} {a q b : Int32} (I : m_Inv K) (ht : m_tot K ≤ 5) (hg : g < 6) (ha : vp_in a 32) : m_Inv (m_begin K g a q b) := by
  refine iv_mwake (iv_mbegL (iv_mbeg0 I ha) 4) ?_ hg
  rw [mt_begL, mt_beg0]
  exact ht
theorem mt_begin {K : kM} {g : Nat} {a q b : Int32} (I : m_Inv K) (ht : m_tot K ≤ 5) (ha : vp_in a 32) : m_tot (m_begin K g a q b) = m_tot K + 1 := by
  unfold m_begin
  rw [mt_wake (iv_mbegL (iv_mbeg0 I ha) 4) (by rw [mt_begL, mt_beg0]; exact ht), mt_begL, mt_beg0]
theorem iv_munmap {K : kM} {g p : Nat} (I : m_Inv K) : m_Inv (m_unmap K g p) := by
  unfold m_unmap
  split
  · exact k_Inv.up (k_Inv.up (k_Inv.up I trivial) (Or.inl rfl)) trivial
  · exact I
theorem mt_unmap {K : kM} {g p : Nat} : m_tot (m_unmap K g p) = m_tot K := by
  unfold m_unmap
  split
  · rw [mt_ne (by decide), mt_ne (by decide), mt_ne (by decide)]
  · rfl
theorem iv_munl1 {K : kM} {k : Nat} (I : m_Inv K) : m_Inv (m_unl1 K k) := by
  unfold m_unl1
  split
  · exact k_Inv.up I (Or.inl rfl)
  · exact k_Inv.up (iv_mtk I ‹_›) (Or.inr (r_tkX _ I))
theorem m_neg {x : Int32} (h : x = -1 ∨ vp_in x 6) (q : ¬ x < 0) : vp_in x 6 := by
  rcases h with h | h
  · rw [h] at q
    exact absurd (by decide) q
  · exact h
theorem mt_unl1 {K : kM} {k : Nat} (I : m_Inv K) (hk : k < 4) : m_tot (m_unl1 K k) ≤ m_tot K ∧ (¬ m_unl1 K k 23 0 k < 0 → m_tot (m_unl1 K k) + 1 = m_tot K) := by
  unfold m_unl1
  split
  · rw [mt_ne (by decide), k_up_eq]
    exact ⟨Nat.le_refl _, fun h => absurd (by decide) h⟩
  · rename_i h
    rw [mt_ne (by decide)]
    have := mt_tk I h (by omega)
    exact ⟨by omega, fun _ => this⟩
theorem mt_unl {K : kM} {k : Nat} (I : m_Inv K) (ht : m_tot K ≤ 6) (hk : k < 4) : m_tot (m_unl K k) ≤ m_tot K := by
  obtain ⟨h1, h2⟩ := mt_unl1 I hk
  unfold m_unl
  split
  · exact h1
  · rename_i h
    have := h2 h
    rw [mt_wake (iv_munl1 I) (by omega)]
    omega
theorem iv_munl {K : kM} {k : Nat} (I : m_Inv K) (ht : m_tot K ≤ 6) (hk : k < 4) : m_Inv (m_unl K k) := by
  obtain ⟨h1, h2⟩ := mt_unl1 I hk
  unfold m_unl
  split
  · exact iv_munl1 I
  · rename_i h
    have := h2 h
    exact iv_mwake (iv_munl1 I) (by omega) (k_lt (m_neg (iv_munl1 I 23 0 k) h))
theorem mt_dU {K : kM} {g : Nat} : ∀ n, m_tot (m_dU K g n) = m_tot K
  | 0 => rfl
  | n + 1 => by
    unfold m_dU
    rw [mt_unmap, mt_dU n]
theorem iv_mdU {K : kM} {g : Nat} (I : m_Inv K) : ∀ n, m_Inv (m_dU K g n)
  | 0 => I
  | n + 1 => iv_munmap (iv_mdU I n)
theorem j_dL1 {K : kM} {g k : Nat} (I : m_Inv K) (ht : m_tot K ≤ 6) (hk : k < 4) : m_Inv (m_dL1 K g k) ∧ m_tot (m_dL1 K g k) ≤ m_tot K := by
  unfold m_dL1
  split
  · exact ⟨iv_munl I ht hk, mt_unl I ht hk⟩
  · exact ⟨I, Nat.le_refl _⟩
theorem j_dL {K : kM} {g : Nat} (I : m_Inv K) (ht : m_tot K ≤ 6) : ∀ n, n ≤ 4 → m_Inv (m_dL K g n) ∧ m_tot (m_dL K g n) ≤ m_tot K
  | 0, _ => ⟨I, Nat.le_refl _⟩
  | n + 1, h => by
    obtain ⟨a, b⟩ := j_dL (g := g) I ht n (by omega)
    obtain ⟨c, d⟩ := j_dL1 (g := g) a (by omega) (show n < 4 by omega)
    exact ⟨c, Nat.le_trans d b⟩
theorem iv_mdC1 {K : kM} {g c : Nat} (I : m_Inv K) : m_Inv (m_dC1 K g c) := by
  unfold m_dC1
  split
  · exact I
  · split
    · exact k_Inv.up (k_Inv.up I trivial) trivial
    · exact I
theorem mt_dC1 {K : kM} {g c : Nat} : m_tot (m_dC1 K g c) = m_tot K := by
  unfold m_dC1
  split
  · rfl
  · split
    · rw [mt_ne (by decide), mt_ne (by decide)]
    · rfl
theorem iv_mdC {K : kM} {g : Nat} (I : m_Inv K) : ∀ n, m_Inv (m_dC K g n)
  | 0 => I
  | n + 1 => iv_mdC1 (iv_mdC I n)
theorem mt_dC {K : kM} {g : Nat} : ∀ n, m_tot (m_dC K g n) = m_tot K
  | 0 => rfl
  | n + 1 => by
    unfold m_dC
    rw [mt_dC1, mt_dC n]
theorem j_die {K : kM} {g : Nat} {w : Int32} (I : m_Inv K) (ht : m_tot K ≤ 6) : m_Inv (m_die K g w) ∧ m_tot (m_die K g w) ≤ m_tot K := by
  have I1 : m_Inv (m_dU (k_up (k_up K 5 0 g 3) 12 0 g w) g 4) := iv_mdU (k_Inv.up (f := 12) (k_Inv.up (f := 5) (x := 3) I trivial) trivial) 4
  have t1 : m_tot (m_dU (k_up (k_up K 5 0 g 3) 12 0 g w) g 4) = m_tot K := by rw [mt_dU, mt_ne (by decide), mt_ne (by decide)]
  obtain ⟨I2, t2⟩ := j_dL (g := g) I1 (by omega) 4 (by omega)
  unfold m_die
  refine ⟨k_Inv.up (iv_mdC I2 6) trivial, ?_⟩
  rw [mt_ne (by decide), mt_dC]
  omega
theorem iv_mtr2 {K : kM} {g : Nat} (I : m_Inv K) : m_Inv (m_tr2 K g) := k_Inv.up (k_Inv.up I trivial) trivial
theorem mt_tr2 {K : kM} {g : Nat} : m_tot (m_tr2 K g) = m_tot K := by
  unfold m_tr2
  rw [mt_ne (by decide), mt_ne (by decide)]
theorem m_neg32 {x : Int32} (h : x = -1 ∨ vp_in x 32) (q : 0 ≤ x) : vp_in x 32 := by
  rcases h with h | h
  · rw [h] at q
    exact absurd q (by decide)
  · exact h
theorem m_neg12 {x : Int32} (h : x = -1 ∨ vp_in x 12) (q : 0 ≤ x) : vp_in x 12 := by
  rcases h with h | h
  · rw [h] at q
    exact absurd q (by decide)
  · exact h
theorem j_trap {K : kM} {g : Nat} {kd : Int32} (I : m_Inv K) (ht : m_tot K ≤ 6) : m_Inv (m_trap K g kd) ∧ m_tot (m_trap K g kd) ≤ m_tot K := by
  have I2 := iv_mtr2 (g := g) I
  have t2 := mt_tr2 (K := K) (g := g)
  unfold m_trap
  split
  · rename_i h
    refine ⟨k_Inv.up (k_Inv.up (k_Inv.up I2 trivial) (m_neg32 (I2 7 0 g) h)) (Or.inl rfl), ?_⟩
    rw [mt_ne (by decide), mt_ne (by decide), mt_ne (by decide)]
    omega
  · obtain ⟨a, b⟩ := j_die (g := g) (w := -100 - kd) I2 (by omega)
    exact ⟨a, by omega⟩
theorem m_tkz {K : kM} {r : Nat} (I : m_Inv K) (h : ¬ K 20 0 r ≤ 0) : m_tk1 K r 20 0 r = nI ((m_tk1 K r 20 0 r).toNatClampNeg + 0) ∧ (m_tk1 K r 20 0 r).toNatClampNeg + 0 ≤ 5 := by
  obtain ⟨s, hs, e1, e2⟩ := m_sz1 I h
  rw [e2, nI_clamp (by omega)]
  exact ⟨rfl, by omega⟩
end
section
/-! ===== the switches at a literal op ===== -/
theorem gpT_0 (K : kM) (g : Nat) (pl : Int32) : g_perT K g 0 pl = g_end K g 0 := by
  unfold g_perT
  dsimp only
  rw [if_pos rfl]
theorem gpX_0 (K : kM) (g : Nat) (pl : Int32) : g_perX K g 0 pl = 0 := by
  unfold g_perX
  dsimp only
  rw [if_pos rfl]
theorem gpT_1 (K : kM) (g : Nat) (pl : Int32) : g_perT K g 1 pl = g_calT K g 1 (g_part K pl 1) (g_part K pl 2) (g_part K pl 3) := by
  unfold g_perT
  dsimp only
  rw [if_neg (by decide), if_neg (by decide), if_neg (by decide), if_neg (by decide), if_neg (by decide), if_neg (by decide), if_neg (by decide), if_neg (by decide), if_neg (by decide), if_neg (by decide), if_neg (by decide), if_neg (by decide)]
theorem gpX_1 (K : kM) (g : Nat) (pl : Int32) : g_perX K g 1 pl = g_calX K g 1 (g_part K pl 2) := by
  unfold g_perX
  dsimp only
  rw [if_neg (by decide), if_neg (by decide), if_neg (by decide), if_neg (by decide), if_neg (by decide), if_neg (by decide), if_neg (by decide), if_neg (by decide), if_neg (by decide), if_neg (by decide), if_neg (by decide), if_neg (by decide)]
theorem gpT_2 (K : kM) (g : Nat) (pl : Int32) : g_perT K g 2 pl = g_calT K g 2 (g_part K pl 1) (g_part K pl 2) (g_part K pl 3) := by
  unfold g_perT
  dsimp only
  rw [if_neg (by decide), if_neg (by decide), if_neg (by decide), if_neg (by decide), if_neg (by decide), if_neg (by decide), if_neg (by decide), if_neg (by decide), if_neg (by decide), if_neg (by decide), if_neg (by decide), if_neg (by decide)]
theorem gpX_2 (K : kM) (g : Nat) (pl : Int32) : g_perX K g 2 pl = g_calX K g 2 (g_part K pl 2) := by
  unfold g_perX
  dsimp only
  rw [if_neg (by decide), if_neg (by decide), if_neg (by decide), if_neg (by decide), if_neg (by decide), if_neg (by decide), if_neg (by decide), if_neg (by decide), if_neg (by decide), if_neg (by decide), if_neg (by decide), if_neg (by decide)]
theorem gpT_3 (K : kM) (g : Nat) (pl : Int32) : g_perT K g 3 pl = g_calT K g 3 (g_part K pl 1) (g_part K pl 2) (g_part K pl 3) := by
  unfold g_perT
  dsimp only
  rw [if_neg (by decide), if_neg (by decide), if_neg (by decide), if_neg (by decide), if_neg (by decide), if_neg (by decide), if_neg (by decide), if_neg (by decide), if_neg (by decide), if_neg (by decide), if_neg (by decide), if_neg (by decide)]
theorem gpX_3 (K : kM) (g : Nat) (pl : Int32) : g_perX K g 3 pl = g_calX K g 3 (g_part K pl 2) := by
  unfold g_perX
  dsimp only
  rw [if_neg (by decide), if_neg (by decide), if_neg (by decide), if_neg (by decide), if_neg (by decide), if_neg (by decide), if_neg (by decide), if_neg (by decide), if_neg (by decide), if_neg (by decide), if_neg (by decide), if_neg (by decide)]
theorem gpT_4 (K : kM) (g : Nat) (pl : Int32) : g_perT K g 4 pl = g_calT K g 4 (g_part K pl 1) (g_part K pl 2) (g_part K pl 3) := by
  unfold g_perT
  dsimp only
  rw [if_neg (by decide), if_neg (by decide), if_neg (by decide), if_neg (by decide), if_neg (by decide), if_neg (by decide), if_neg (by decide), if_neg (by decide), if_neg (by decide), if_neg (by decide), if_neg (by decide), if_neg (by decide)]
theorem gpX_4 (K : kM) (g : Nat) (pl : Int32) : g_perX K g 4 pl = g_calX K g 4 (g_part K pl 2) := by
  unfold g_perX
  dsimp only
  rw [if_neg (by decide), if_neg (by decide), if_neg (by decide), if_neg (by decide), if_neg (by decide), if_neg (by decide), if_neg (by decide), if_neg (by decide), if_neg (by decide), if_neg (by decide), if_neg (by decide), if_neg (by decide)]
theorem gpT_5 (K : kM) (g : Nat) (pl : Int32) : g_perT K g 5 pl = g_calT K g 5 (g_part K pl 1) (g_part K pl 2) (g_part K pl 3) := by
  unfold g_perT
  dsimp only
  rw [if_neg (by decide), if_neg (by decide), if_neg (by decide), if_neg (by decide), if_neg (by decide), if_neg (by decide), if_neg (by decide), if_neg (by decide), if_neg (by decide), if_neg (by decide), if_neg (by decide), if_neg (by decide)]
theorem gpX_5 (K : kM) (g : Nat) (pl : Int32) : g_perX K g 5 pl = g_calX K g 5 (g_part K pl 2) := by
  unfold g_perX
  dsimp only
  rw [if_neg (by decide), if_neg (by decide), if_neg (by decide), if_neg (by decide), if_neg (by decide), if_neg (by decide), if_neg (by decide), if_neg (by decide), if_neg (by decide), if_neg (by decide), if_neg (by decide), if_neg (by decide)]
theorem gpT_6 (K : kM) (g : Nat) (pl : Int32) : g_perT K g 6 pl = g_calT K g 6 (g_part K pl 1) (g_part K pl 2) (g_part K pl 3) := by
  unfold g_perT
  dsimp only
  rw [if_neg (by decide), if_neg (by decide), if_neg (by decide), if_neg (by decide), if_neg (by decide), if_neg (by decide), if_neg (by decide), if_neg (by decide), if_neg (by decide), if_neg (by decide), if_neg (by decide), if_neg (by decide)]
theorem gpX_6 (K : kM) (g : Nat) (pl : Int32) : g_perX K g 6 pl = g_calX K g 6 (g_part K pl 2) := by
  unfold g_perX
  dsimp only
  rw [if_neg (by decide), if_neg (by decide), if_neg (by decide), if_neg (by decide), if_neg (by decide), if_neg (by decide), if_neg (by decide), if_neg (by decide), if_neg (by decide), if_neg (by decide), if_neg (by decide), if_neg (by decide)]
theorem gpT_7 (K : kM) (g : Nat) (pl : Int32) : g_perT K g 7 pl = g_ldT K g (g_part K pl 1) (K 8 g (g_part K pl 2).toNatClampNeg + g_part K pl 3) := by
  unfold g_perT
  dsimp only
  rw [if_neg (by decide), if_pos rfl]
theorem gpX_7 (K : kM) (g : Nat) (pl : Int32) : g_perX K g 7 pl = g_addr K g (K 8 g (g_part K pl 2).toNatClampNeg + g_part K pl 3) := by
  unfold g_perX
  dsimp only
  rw [if_neg (by decide), if_pos rfl]
theorem gpT_8 (K : kM) (g : Nat) (pl : Int32) : g_perT K g 8 pl = g_stT K g (g_part K pl 1) (K 8 g (g_part K pl 2).toNatClampNeg + g_part K pl 3) := by
  unfold g_perT
  dsimp only
  rw [if_neg (by decide), if_neg (by decide), if_pos rfl]
theorem gpX_8 (K : kM) (g : Nat) (pl : Int32) : g_perX K g 8 pl = g_addr K g (K 8 g (g_part K pl 2).toNatClampNeg + g_part K pl 3) := by
  unfold g_perX
  dsimp only
  rw [if_neg (by decide), if_neg (by decide), if_pos rfl]
theorem gpT_9 (K : kM) (g : Nat) (pl : Int32) : g_perT K g 9 pl = g_calT K g 9 (g_part K pl 1) (g_part K pl 2) (g_part K pl 3) := by
  unfold g_perT
  dsimp only
  rw [if_neg (by decide), if_neg (by decide), if_neg (by decide), if_neg (by decide), if_neg (by decide), if_neg (by decide), if_neg (by decide), if_neg (by decide), if_neg (by decide), if_neg (by decide), if_neg (by decide), if_neg (by decide)]
theorem gpX_9 (K : kM) (g : Nat) (pl : Int32) : g_perX K g 9 pl = g_calX K g 9 (g_part K pl 2) := by
  unfold g_perX
  dsimp only
  rw [if_neg (by decide), if_neg (by decide), if_neg (by decide), if_neg (by decide), if_neg (by decide), if_neg (by decide), if_neg (by decide), if_neg (by decide), if_neg (by decide), if_neg (by decide), if_neg (by decide), if_neg (by decide)]
theorem gpT_10 (K : kM) (g : Nat) (pl : Int32) : g_perT K g 10 pl = g_calT K g 10 (g_part K pl 1) (g_part K pl 2) (g_part K pl 3) := by
  unfold g_perT
  dsimp only
  rw [if_neg (by decide), if_neg (by decide), if_neg (by decide), if_neg (by decide), if_neg (by decide), if_neg (by decide), if_neg (by decide), if_neg (by decide), if_neg (by decide), if_neg (by decide), if_neg (by decide), if_neg (by decide)]
theorem gpX_10 (K : kM) (g : Nat) (pl : Int32) : g_perX K g 10 pl = g_calX K g 10 (g_part K pl 2) := by
  unfold g_perX
  dsimp only
  rw [if_neg (by decide), if_neg (by decide), if_neg (by decide), if_neg (by decide), if_neg (by decide), if_neg (by decide), if_neg (by decide), if_neg (by decide), if_neg (by decide), if_neg (by decide), if_neg (by decide), if_neg (by decide)]
theorem gpT_11 (K : kM) (g : Nat) (pl : Int32) : g_perT K g 11 pl = g_calT K g 11 (g_part K pl 1) (g_part K pl 2) (g_part K pl 3) := by
  unfold g_perT
  dsimp only
  rw [if_neg (by decide), if_neg (by decide), if_neg (by decide), if_neg (by decide), if_neg (by decide), if_neg (by decide), if_neg (by decide), if_neg (by decide), if_neg (by decide), if_neg (by decide), if_neg (by decide), if_neg (by decide)]
theorem gpX_11 (K : kM) (g : Nat) (pl : Int32) : g_perX K g 11 pl = g_calX K g 11 (g_part K pl 2) := by
  unfold g_perX
  dsimp only
  rw [if_neg (by decide), if_neg (by decide), if_neg (by decide), if_neg (by decide), if_neg (by decide), if_neg (by decide), if_neg (by decide), if_neg (by decide), if_neg (by decide), if_neg (by decide), if_neg (by decide), if_neg (by decide)]
theorem gpT_12 (K : kM) (g : Nat) (pl : Int32) : g_perT K g 12 pl = g_calT K g 12 (g_part K pl 1) (g_part K pl 2) (g_part K pl 3) := by
  unfold g_perT
  dsimp only
  rw [if_neg (by decide), if_neg (by decide), if_neg (by decide), if_neg (by decide), if_neg (by decide), if_neg (by decide), if_neg (by decide), if_neg (by decide), if_neg (by decide), if_neg (by decide), if_neg (by decide), if_neg (by decide)]
theorem gpX_12 (K : kM) (g : Nat) (pl : Int32) : g_perX K g 12 pl = g_calX K g 12 (g_part K pl 2) := by
  unfold g_perX
  dsimp only
  rw [if_neg (by decide), if_neg (by decide), if_neg (by decide), if_neg (by decide), if_neg (by decide), if_neg (by decide), if_neg (by decide), if_neg (by decide), if_neg (by decide), if_neg (by decide), if_neg (by decide), if_neg (by decide)]
theorem gpT_13 (K : kM) (g : Nat) (pl : Int32) : g_perT K g 13 pl = g_mapT K g (g_part K pl 1) (g_part K pl 3) := by
  unfold g_perT
  dsimp only
  rw [if_neg (by decide), if_neg (by decide), if_neg (by decide), if_pos rfl]
theorem gpX_13 (K : kM) (g : Nat) (pl : Int32) : g_perX K g 13 pl = g_n4 (g_part K pl 3) := by
  unfold g_perX
  dsimp only
  rw [if_neg (by decide), if_neg (by decide), if_neg (by decide), if_pos rfl]
theorem gpT_14 (K : kM) (g : Nat) (pl : Int32) : g_perT K g 14 pl = g_unT K g (g_part K pl 1) (g_part K pl 3) := by
  unfold g_perT
  dsimp only
  rw [if_neg (by decide), if_neg (by decide), if_neg (by decide), if_neg (by decide), if_pos rfl]
theorem gpX_14 (K : kM) (g : Nat) (pl : Int32) : g_perX K g 14 pl = g_n4 (g_part K pl 3) := by
  unfold g_perX
  dsimp only
  rw [if_neg (by decide), if_neg (by decide), if_neg (by decide), if_neg (by decide), if_pos rfl]
theorem gpT_15 (K : kM) (g : Nat) (pl : Int32) : g_perT K g 15 pl = k_up (g_spT K g (K 8 g (g_part K pl 1).toNatClampNeg) (K 8 g (g_part K pl 2).toNatClampNeg) (g_part K pl 3)) 8 g (g_part K pl 1).toNatClampNeg (g_spX K g (K 8 g (g_part K pl 2).toNatClampNeg)) := by
  unfold g_perT
  dsimp only
  rw [if_neg (by decide), if_neg (by decide), if_neg (by decide), if_neg (by decide), if_neg (by decide), if_pos rfl]
theorem gpX_15 (K : kM) (g : Nat) (pl : Int32) : g_perX K g 15 pl = 0 := by
  unfold g_perX
  dsimp only
  rw [if_neg (by decide), if_neg (by decide), if_neg (by decide), if_neg (by decide), if_neg (by decide), if_pos rfl]
theorem gpT_16 (K : kM) (g : Nat) (pl : Int32) : g_perT K g 16 pl = g_sendT K g (g_part K pl 1) (g_part K pl 3) := by
  unfold g_perT
  dsimp only
  rw [if_neg (by decide), if_neg (by decide), if_neg (by decide), if_neg (by decide), if_neg (by decide), if_neg (by decide), if_pos rfl]
theorem gpX_16 (K : kM) (g : Nat) (pl : Int32) : g_perX K g 16 pl = g_n4 (g_part K pl 3) := by
  unfold g_perX
  dsimp only
  rw [if_neg (by decide), if_neg (by decide), if_neg (by decide), if_neg (by decide), if_neg (by decide), if_neg (by decide), if_pos rfl]
theorem gpT_17 (K : kM) (g : Nat) (pl : Int32) : g_perT K g 17 pl = g_recvT K g (g_part K pl 1) (g_part K pl 3) := by
  unfold g_perT
  dsimp only
  rw [if_neg (by decide), if_neg (by decide), if_neg (by decide), if_neg (by decide), if_neg (by decide), if_neg (by decide), if_neg (by decide), if_pos rfl]
theorem gpX_17 (K : kM) (g : Nat) (pl : Int32) : g_perX K g 17 pl = g_n4 (g_part K pl 3) := by
  unfold g_perX
  dsimp only
  rw [if_neg (by decide), if_neg (by decide), if_neg (by decide), if_neg (by decide), if_neg (by decide), if_neg (by decide), if_neg (by decide), if_pos rfl]
theorem gpT_18 (K : kM) (g : Nat) (pl : Int32) : g_perT K g 18 pl = g_lockT K g (g_part K pl 1) (g_part K pl 3) := by
  unfold g_perT
  dsimp only
  rw [if_neg (by decide), if_neg (by decide), if_neg (by decide), if_neg (by decide), if_neg (by decide), if_neg (by decide), if_neg (by decide), if_neg (by decide), if_pos rfl]
theorem gpX_18 (K : kM) (g : Nat) (pl : Int32) : g_perX K g 18 pl = g_n4 (g_part K pl 3) := by
  unfold g_perX
  dsimp only
  rw [if_neg (by decide), if_neg (by decide), if_neg (by decide), if_neg (by decide), if_neg (by decide), if_neg (by decide), if_neg (by decide), if_neg (by decide), if_pos rfl]
theorem gpT_19 (K : kM) (g : Nat) (pl : Int32) : g_perT K g 19 pl = g_unlT K g (g_part K pl 3) := by
  unfold g_perT
  dsimp only
  rw [if_neg (by decide), if_neg (by decide), if_neg (by decide), if_neg (by decide), if_neg (by decide), if_neg (by decide), if_neg (by decide), if_neg (by decide), if_neg (by decide), if_pos rfl]
theorem gpX_19 (K : kM) (g : Nat) (pl : Int32) : g_perX K g 19 pl = g_unlX K g (g_part K pl 3) := by
  unfold g_perX
  dsimp only
  rw [if_neg (by decide), if_neg (by decide), if_neg (by decide), if_neg (by decide), if_neg (by decide), if_neg (by decide), if_neg (by decide), if_neg (by decide), if_neg (by decide), if_pos rfl]
theorem gpT_20 (K : kM) (g : Nat) (pl : Int32) : g_perT K g 20 pl = g_end K g (K 8 g (g_part K pl 1).toNatClampNeg) := by
  unfold g_perT
  dsimp only
  rw [if_neg (by decide), if_neg (by decide), if_neg (by decide), if_neg (by decide), if_neg (by decide), if_neg (by decide), if_neg (by decide), if_neg (by decide), if_neg (by decide), if_neg (by decide), if_pos rfl]
theorem gpX_20 (K : kM) (g : Nat) (pl : Int32) : g_perX K g 20 pl = 0 := by
  unfold g_perX
  dsimp only
  rw [if_neg (by decide), if_neg (by decide), if_neg (by decide), if_neg (by decide), if_neg (by decide), if_neg (by decide), if_neg (by decide), if_neg (by decide), if_neg (by decide), if_neg (by decide), if_pos rfl]
theorem gpT_21 (K : kM) (g : Nat) (pl : Int32) : g_perT K g 21 pl = g_rpT K g (g_part K pl 1) (g_part K pl 2) 6 0 := by
  unfold g_perT
  dsimp only
  rw [if_neg (by decide), if_neg (by decide), if_neg (by decide), if_neg (by decide), if_neg (by decide), if_neg (by decide), if_neg (by decide), if_neg (by decide), if_neg (by decide), if_neg (by decide), if_neg (by decide), if_pos rfl]
theorem gpX_21 (K : kM) (g : Nat) (pl : Int32) : g_perX K g 21 pl = 0 := by
  unfold g_perX
  dsimp only
  rw [if_neg (by decide), if_neg (by decide), if_neg (by decide), if_neg (by decide), if_neg (by decide), if_neg (by decide), if_neg (by decide), if_neg (by decide), if_neg (by decide), if_neg (by decide), if_neg (by decide), if_pos rfl]
theorem gcT_0 (K : kM) (g : Nat) (a b n : Int32) : g_calT K g 0 a b n = K := by
  unfold g_calT
  rw [if_neg (by decide), if_neg (by decide), if_neg (by decide), if_neg (by decide), if_neg (by decide), if_neg (by decide), if_neg (by decide), if_neg (by decide), if_neg (by decide)]
theorem gcX_0 (K : kM) (g : Nat) (b : Int32) : g_calX K g 0 b = 0 := by
  unfold g_calX
  rw [if_neg (by decide)]
theorem gcT_1 (K : kM) (g : Nat) (a b n : Int32) : g_calT K g 1 a b n = k_up K 8 g a.toNatClampNeg n := by
  unfold g_calT
  rw [if_pos rfl]
theorem gcX_1 (K : kM) (g : Nat) (b : Int32) : g_calX K g 1 b = 0 := by
  unfold g_calX
  rw [if_neg (by decide)]
theorem gcT_2 (K : kM) (g : Nat) (a b n : Int32) : g_calT K g 2 a b n = k_up K 8 g a.toNatClampNeg (K 8 g b.toNatClampNeg + n) := by
  unfold g_calT
  rw [if_neg (by decide), if_pos rfl]
theorem gcX_2 (K : kM) (g : Nat) (b : Int32) : g_calX K g 2 b = 0 := by
  unfold g_calX
  rw [if_neg (by decide)]
theorem gcT_3 (K : kM) (g : Nat) (a b n : Int32) : g_calT K g 3 a b n = k_up K 8 g a.toNatClampNeg (K 8 g a.toNatClampNeg + K 8 g b.toNatClampNeg) := by
  unfold g_calT
  rw [if_neg (by decide), if_neg (by decide), if_pos rfl]
theorem gcX_3 (K : kM) (g : Nat) (b : Int32) : g_calX K g 3 b = 0 := by
  unfold g_calX
  rw [if_neg (by decide)]
theorem gcT_4 (K : kM) (g : Nat) (a b n : Int32) : g_calT K g 4 a b n = k_up K 8 g a.toNatClampNeg (K 8 g a.toNatClampNeg - K 8 g b.toNatClampNeg) := by
  unfold g_calT
  rw [if_neg (by decide), if_neg (by decide), if_neg (by decide), if_pos rfl]
theorem gcX_4 (K : kM) (g : Nat) (b : Int32) : g_calX K g 4 b = 0 := by
  unfold g_calX
  rw [if_neg (by decide)]
theorem gcT_5 (K : kM) (g : Nat) (a b n : Int32) : g_calT K g 5 a b n = k_up K 8 g a.toNatClampNeg (K 8 g a.toNatClampNeg * K 8 g b.toNatClampNeg) := by
  unfold g_calT
  rw [if_neg (by decide), if_neg (by decide), if_neg (by decide), if_neg (by decide), if_pos rfl]
theorem gcX_5 (K : kM) (g : Nat) (b : Int32) : g_calX K g 5 b = 0 := by
  unfold g_calX
  rw [if_neg (by decide)]
theorem gcT_6 (K : kM) (g : Nat) (a b n : Int32) : g_calT K g 6 a b n = (if K 8 g b.toNatClampNeg = 0 then K else k_up K 8 g a.toNatClampNeg (K 8 g a.toNatClampNeg / K 8 g b.toNatClampNeg)) := by
  unfold g_calT
  rw [if_neg (by decide), if_neg (by decide), if_neg (by decide), if_neg (by decide), if_neg (by decide), if_pos rfl]
theorem gcX_6 (K : kM) (g : Nat) (b : Int32) : g_calX K g 6 b = (if K 8 g b.toNatClampNeg = 0 then 1 else 0) := by
  unfold g_calX
  rw [if_pos rfl]
theorem gcT_7 (K : kM) (g : Nat) (a b n : Int32) : g_calT K g 7 a b n = K := by
  unfold g_calT
  rw [if_neg (by decide), if_neg (by decide), if_neg (by decide), if_neg (by decide), if_neg (by decide), if_neg (by decide), if_neg (by decide), if_neg (by decide), if_neg (by decide)]
theorem gcX_7 (K : kM) (g : Nat) (b : Int32) : g_calX K g 7 b = 0 := by
  unfold g_calX
  rw [if_neg (by decide)]
theorem gcT_8 (K : kM) (g : Nat) (a b n : Int32) : g_calT K g 8 a b n = K := by
  unfold g_calT
  rw [if_neg (by decide), if_neg (by decide), if_neg (by decide), if_neg (by decide), if_neg (by decide), if_neg (by decide), if_neg (by decide), if_neg (by decide), if_neg (by decide)]
theorem gcX_8 (K : kM) (g : Nat) (b : Int32) : g_calX K g 8 b = 0 := by
  unfold g_calX
  rw [if_neg (by decide)]
theorem gcT_9 (K : kM) (g : Nat) (a b n : Int32) : g_calT K g 9 a b n = (if K 8 g b.toNatClampNeg ≤ K 8 g a.toNatClampNeg then K else g_goTo K g n) := by
  unfold g_calT
  rw [if_neg (by decide), if_neg (by decide), if_neg (by decide), if_neg (by decide), if_neg (by decide), if_neg (by decide), if_pos rfl]
theorem gcX_9 (K : kM) (g : Nat) (b : Int32) : g_calX K g 9 b = 0 := by
  unfold g_calX
  rw [if_neg (by decide)]
theorem gcT_10 (K : kM) (g : Nat) (a b n : Int32) : g_calT K g 10 a b n = (if K 8 g a.toNatClampNeg = 0 then g_goTo K g n else K) := by
  unfold g_calT
  rw [if_neg (by decide), if_neg (by decide), if_neg (by decide), if_neg (by decide), if_neg (by decide), if_neg (by decide), if_neg (by decide), if_pos rfl]
theorem gcX_10 (K : kM) (g : Nat) (b : Int32) : g_calX K g 10 b = 0 := by
  unfold g_calX
  rw [if_neg (by decide)]
theorem gcT_11 (K : kM) (g : Nat) (a b n : Int32) : g_calT K g 11 a b n = k_up K 7 g 5 (if 0 ≤ n then k_rem n 32 else -1) := by
  unfold g_calT
  rw [if_neg (by decide), if_neg (by decide), if_neg (by decide), if_neg (by decide), if_neg (by decide), if_neg (by decide), if_neg (by decide), if_neg (by decide), if_pos rfl]
theorem gcX_11 (K : kM) (g : Nat) (b : Int32) : g_calX K g 11 b = 0 := by
  unfold g_calX
  rw [if_neg (by decide)]
theorem gcT_12 (K : kM) (g : Nat) (a b n : Int32) : g_calT K g 12 a b n = K := by
  unfold g_calT
  rw [if_neg (by decide), if_neg (by decide), if_neg (by decide), if_neg (by decide), if_neg (by decide), if_neg (by decide), if_neg (by decide), if_neg (by decide), if_neg (by decide)]
theorem gcX_12 (K : kM) (g : Nat) (b : Int32) : g_calX K g 12 b = 0 := by
  unfold g_calX
  rw [if_neg (by decide)]
theorem gcT_13 (K : kM) (g : Nat) (a b n : Int32) : g_calT K g 13 a b n = K := by
  unfold g_calT
  rw [if_neg (by decide), if_neg (by decide), if_neg (by decide), if_neg (by decide), if_neg (by decide), if_neg (by decide), if_neg (by decide), if_neg (by decide), if_neg (by decide)]
theorem gcX_13 (K : kM) (g : Nat) (b : Int32) : g_calX K g 13 b = 0 := by
  unfold g_calX
  rw [if_neg (by decide)]
theorem gcT_14 (K : kM) (g : Nat) (a b n : Int32) : g_calT K g 14 a b n = K := by
  unfold g_calT
  rw [if_neg (by decide), if_neg (by decide), if_neg (by decide), if_neg (by decide), if_neg (by decide), if_neg (by decide), if_neg (by decide), if_neg (by decide), if_neg (by decide)]
theorem gcX_14 (K : kM) (g : Nat) (b : Int32) : g_calX K g 14 b = 0 := by
  unfold g_calX
  rw [if_neg (by decide)]
theorem gcT_15 (K : kM) (g : Nat) (a b n : Int32) : g_calT K g 15 a b n = K := by
  unfold g_calT
  rw [if_neg (by decide), if_neg (by decide), if_neg (by decide), if_neg (by decide), if_neg (by decide), if_neg (by decide), if_neg (by decide), if_neg (by decide), if_neg (by decide)]
theorem gcX_15 (K : kM) (g : Nat) (b : Int32) : g_calX K g 15 b = 0 := by
  unfold g_calX
  rw [if_neg (by decide)]
theorem gcT_16 (K : kM) (g : Nat) (a b n : Int32) : g_calT K g 16 a b n = K := by
  unfold g_calT
  rw [if_neg (by decide), if_neg (by decide), if_neg (by decide), if_neg (by decide), if_neg (by decide), if_neg (by decide), if_neg (by decide), if_neg (by decide), if_neg (by decide)]
theorem gcX_16 (K : kM) (g : Nat) (b : Int32) : g_calX K g 16 b = 0 := by
  unfold g_calX
  rw [if_neg (by decide)]
theorem gcT_17 (K : kM) (g : Nat) (a b n : Int32) : g_calT K g 17 a b n = K := by
  unfold g_calT
  rw [if_neg (by decide), if_neg (by decide), if_neg (by decide), if_neg (by decide), if_neg (by decide), if_neg (by decide), if_neg (by decide), if_neg (by decide), if_neg (by decide)]
theorem gcX_17 (K : kM) (g : Nat) (b : Int32) : g_calX K g 17 b = 0 := by
  unfold g_calX
  rw [if_neg (by decide)]
theorem gcT_18 (K : kM) (g : Nat) (a b n : Int32) : g_calT K g 18 a b n = K := by
  unfold g_calT
  rw [if_neg (by decide), if_neg (by decide), if_neg (by decide), if_neg (by decide), if_neg (by decide), if_neg (by decide), if_neg (by decide), if_neg (by decide), if_neg (by decide)]
theorem gcX_18 (K : kM) (g : Nat) (b : Int32) : g_calX K g 18 b = 0 := by
  unfold g_calX
  rw [if_neg (by decide)]
theorem gcT_19 (K : kM) (g : Nat) (a b n : Int32) : g_calT K g 19 a b n = K := by
  unfold g_calT
  rw [if_neg (by decide), if_neg (by decide), if_neg (by decide), if_neg (by decide), if_neg (by decide), if_neg (by decide), if_neg (by decide), if_neg (by decide), if_neg (by decide)]
theorem gcX_19 (K : kM) (g : Nat) (b : Int32) : g_calX K g 19 b = 0 := by
  unfold g_calX
  rw [if_neg (by decide)]
theorem gcT_20 (K : kM) (g : Nat) (a b n : Int32) : g_calT K g 20 a b n = K := by
  unfold g_calT
  rw [if_neg (by decide), if_neg (by decide), if_neg (by decide), if_neg (by decide), if_neg (by decide), if_neg (by decide), if_neg (by decide), if_neg (by decide), if_neg (by decide)]
theorem gcX_20 (K : kM) (g : Nat) (b : Int32) : g_calX K g 20 b = 0 := by
  unfold g_calX
  rw [if_neg (by decide)]
theorem gcT_21 (K : kM) (g : Nat) (a b n : Int32) : g_calT K g 21 a b n = K := by
  unfold g_calT
  rw [if_neg (by decide), if_neg (by decide), if_neg (by decide), if_neg (by decide), if_neg (by decide), if_neg (by decide), if_neg (by decide), if_neg (by decide), if_neg (by decide)]
theorem gcX_21 (K : kM) (g : Nat) (b : Int32) : g_calX K g 21 b = 0 := by
  unfold g_calX
  rw [if_neg (by decide)]
def g_count (K : kM) (w : Int32) : Int32 :=
  if w = 0 then K 0 0 6 else if w = 1 then K 0 0 7 else if w = 2 then K 0 0 8 else if w = 3 then K 0 0 9 else if w = 4 then K 0 0 10 else if w = 5 then K 3 0 2 else if w = 6 then K 0 0 11 else if w = 7 then K 0 0 12
  else if w = 10 then K 11 0 1 else if w = 11 then K 11 1 1 else if w = 20 then K 12 0 2 else if w = 21 then K 12 1 2 else -2
theorem r_c22 {x : Int32} (h : vp_in x 22) : x = 0 ∨ x = 1 ∨ x = 2 ∨ x = 3 ∨ x = 4 ∨ x = 5 ∨ x = 6 ∨ x = 7 ∨ x = 8 ∨ x = 9 ∨ x = 10 ∨ x = 11 ∨ x = 12 ∨ x = 13 ∨ x = 14 ∨ x = 15 ∨ x = 16 ∨ x = 17 ∨ x = 18 ∨ x = 19 ∨ x = 20 ∨ x = 21 := by
  obtain ⟨j, hj, rfl⟩ := r_nat h (by decide)
  have : ∀ j : Fin 22, (nI j.val = 0 ∨ nI j.val = 1 ∨ nI j.val = 2 ∨ nI j.val = 3 ∨ nI j.val = 4 ∨ nI j.val = 5 ∨ nI j.val = 6 ∨ nI j.val = 7 ∨ nI j.val = 8 ∨ nI j.val = 9 ∨ nI j.val = 10 ∨ nI j.val = 11 ∨ nI j.val = 12 ∨ nI j.val = 13 ∨ nI j.val = 14 ∨ nI j.val = 15 ∨ nI j.val = 16 ∨ nI j.val = 17 ∨ nI j.val = 18 ∨ nI j.val = 19 ∨ nI j.val = 20 ∨ nI j.val = 21) := by decide +kernel
  exact this ⟨j, hj⟩
theorem gk_0 (K : kM) : g_count K 0 = K 0 0 6 := by
  unfold g_count
  rw [if_pos rfl]
theorem gk_1 (K : kM) : g_count K 1 = K 0 0 7 := by
  unfold g_count
  rw [if_neg (by decide), if_pos rfl]
theorem gk_2 (K : kM) : g_count K 2 = K 0 0 8 := by
  unfold g_count
  rw [if_neg (by decide), if_neg (by decide), if_pos rfl]
theorem gk_3 (K : kM) : g_count K 3 = K 0 0 9 := by
  unfold g_count
  rw [if_neg (by decide), if_neg (by decide), if_neg (by decide), if_pos rfl]
theorem gk_4 (K : kM) : g_count K 4 = K 0 0 10 := by
  unfold g_count
  rw [if_neg (by decide), if_neg (by decide), if_neg (by decide), if_neg (by decide), if_pos rfl]
theorem gk_5 (K : kM) : g_count K 5 = K 3 0 2 := by
  unfold g_count
  rw [if_neg (by decide), if_neg (by decide), if_neg (by decide), if_neg (by decide), if_neg (by decide), if_pos rfl]
theorem gk_6 (K : kM) : g_count K 6 = K 0 0 11 := by
  unfold g_count
  rw [if_neg (by decide), if_neg (by decide), if_neg (by decide), if_neg (by decide), if_neg (by decide), if_neg (by decide), if_pos rfl]
theorem gk_7 (K : kM) : g_count K 7 = K 0 0 12 := by
  unfold g_count
  rw [if_neg (by decide), if_neg (by decide), if_neg (by decide), if_neg (by decide), if_neg (by decide), if_neg (by decide), if_neg (by decide), if_pos rfl]
theorem gk_8 (K : kM) : g_count K 8 = -2 := by
  unfold g_count
  rw [if_neg (by decide), if_neg (by decide), if_neg (by decide), if_neg (by decide), if_neg (by decide), if_neg (by decide), if_neg (by decide), if_neg (by decide), if_neg (by decide), if_neg (by decide), if_neg (by decide), if_neg (by decide)]
theorem gk_9 (K : kM) : g_count K 9 = -2 := by
  unfold g_count
  rw [if_neg (by decide), if_neg (by decide), if_neg (by decide), if_neg (by decide), if_neg (by decide), if_neg (by decide), if_neg (by decide), if_neg (by decide), if_neg (by decide), if_neg (by decide), if_neg (by decide), if_neg (by decide)]
theorem gk_10 (K : kM) : g_count K 10 = K 11 0 1 := by
  unfold g_count
  rw [if_neg (by decide), if_neg (by decide), if_neg (by decide), if_neg (by decide), if_neg (by decide), if_neg (by decide), if_neg (by decide), if_neg (by decide), if_pos rfl]
theorem gk_11 (K : kM) : g_count K 11 = K 11 1 1 := by
  unfold g_count
  rw [if_neg (by decide), if_neg (by decide), if_neg (by decide), if_neg (by decide), if_neg (by decide), if_neg (by decide), if_neg (by decide), if_neg (by decide), if_neg (by decide), if_pos rfl]
theorem gk_12 (K : kM) : g_count K 12 = -2 := by
  unfold g_count
  rw [if_neg (by decide), if_neg (by decide), if_neg (by decide), if_neg (by decide), if_neg (by decide), if_neg (by decide), if_neg (by decide), if_neg (by decide), if_neg (by decide), if_neg (by decide), if_neg (by decide), if_neg (by decide)]
theorem gk_13 (K : kM) : g_count K 13 = -2 := by
  unfold g_count
  rw [if_neg (by decide), if_neg (by decide), if_neg (by decide), if_neg (by decide), if_neg (by decide), if_neg (by decide), if_neg (by decide), if_neg (by decide), if_neg (by decide), if_neg (by decide), if_neg (by decide), if_neg (by decide)]
theorem gk_14 (K : kM) : g_count K 14 = -2 := by
  unfold g_count
  rw [if_neg (by decide), if_neg (by decide), if_neg (by decide), if_neg (by decide), if_neg (by decide), if_neg (by decide), if_neg (by decide), if_neg (by decide), if_neg (by decide), if_neg (by decide), if_neg (by decide), if_neg (by decide)]
theorem gk_15 (K : kM) : g_count K 15 = -2 := by
  unfold g_count
  rw [if_neg (by decide), if_neg (by decide), if_neg (by decide), if_neg (by decide), if_neg (by decide), if_neg (by decide), if_neg (by decide), if_neg (by decide), if_neg (by decide), if_neg (by decide), if_neg (by decide), if_neg (by decide)]
theorem gk_16 (K : kM) : g_count K 16 = -2 := by
  unfold g_count
  rw [if_neg (by decide), if_neg (by decide), if_neg (by decide), if_neg (by decide), if_neg (by decide), if_neg (by decide), if_neg (by decide), if_neg (by decide), if_neg (by decide), if_neg (by decide), if_neg (by decide), if_neg (by decide)]
theorem gk_17 (K : kM) : g_count K 17 = -2 := by
  unfold g_count
  rw [if_neg (by decide), if_neg (by decide), if_neg (by decide), if_neg (by decide), if_neg (by decide), if_neg (by decide), if_neg (by decide), if_neg (by decide), if_neg (by decide), if_neg (by decide), if_neg (by decide), if_neg (by decide)]
theorem gk_18 (K : kM) : g_count K 18 = -2 := by
  unfold g_count
  rw [if_neg (by decide), if_neg (by decide), if_neg (by decide), if_neg (by decide), if_neg (by decide), if_neg (by decide), if_neg (by decide), if_neg (by decide), if_neg (by decide), if_neg (by decide), if_neg (by decide), if_neg (by decide)]
theorem gk_19 (K : kM) : g_count K 19 = -2 := by
  unfold g_count
  rw [if_neg (by decide), if_neg (by decide), if_neg (by decide), if_neg (by decide), if_neg (by decide), if_neg (by decide), if_neg (by decide), if_neg (by decide), if_neg (by decide), if_neg (by decide), if_neg (by decide), if_neg (by decide)]
theorem gk_20 (K : kM) : g_count K 20 = K 12 0 2 := by
  unfold g_count
  rw [if_neg (by decide), if_neg (by decide), if_neg (by decide), if_neg (by decide), if_neg (by decide), if_neg (by decide), if_neg (by decide), if_neg (by decide), if_neg (by decide), if_neg (by decide), if_pos rfl]
theorem gk_21 (K : kM) : g_count K 21 = K 12 1 2 := by
  unfold g_count
  rw [if_neg (by decide), if_neg (by decide), if_neg (by decide), if_neg (by decide), if_neg (by decide), if_neg (by decide), if_neg (by decide), if_neg (by decide), if_neg (by decide), if_neg (by decide), if_neg (by decide), if_pos rfl]
theorem r_ni {x k : Int32} {a : Int} (h : x.toInt < 0 ∨ 21 < x.toInt) (hk : k.toInt = a) (h0 : 0 ≤ a) (h1 : a ≤ 21) : ¬ x = k := fun e => by
  rw [e, hk] at h
  omega
theorem gk_o (K : kM) {w : Int32} (h : w.toInt < 0 ∨ 21 < w.toInt) : g_count K w = -2 := by
  unfold g_count
  rw [if_neg (r_ni h (k := 0) (a := 0) (by decide) (by decide) (by decide)), if_neg (r_ni h (k := 1) (a := 1) (by decide) (by decide) (by decide)), if_neg (r_ni h (k := 2) (a := 2) (by decide) (by decide) (by decide)), if_neg (r_ni h (k := 3) (a := 3) (by decide) (by decide) (by decide)), if_neg (r_ni h (k := 4) (a := 4) (by decide) (by decide) (by decide)), if_neg (r_ni h (k := 5) (a := 5) (by decide) (by decide) (by decide)), if_neg (r_ni h (k := 6) (a := 6) (by decide) (by decide) (by decide)), if_neg (r_ni h (k := 7) (a := 7) (by decide) (by decide) (by decide)), if_neg (r_ni h (k := 10) (a := 10) (by decide) (by decide) (by decide)), if_neg (r_ni h (k := 11) (a := 11) (by decide) (by decide) (by decide)), if_neg (r_ni h (k := 20) (a := 20) (by decide) (by decide) (by decide)), if_neg (r_ni h (k := 21) (a := 21) (by decide) (by decide) (by decide))]
theorem r_w22 (x : Int32) : (x.toInt < 0 ∨ 21 < x.toInt) ∨ x = 0 ∨ x = 1 ∨ x = 2 ∨ x = 3 ∨ x = 4 ∨ x = 5 ∨ x = 6 ∨ x = 7 ∨ x = 8 ∨ x = 9 ∨ x = 10 ∨ x = 11 ∨ x = 12 ∨ x = 13 ∨ x = 14 ∨ x = 15 ∨ x = 16 ∨ x = 17 ∨ x = 18 ∨ x = 19 ∨ x = 20 ∨ x = 21 := by
  by_cases h : x.toInt < 0 ∨ 21 < x.toInt
  · exact Or.inl h
  · refine Or.inr (r_c22 (vp_in_iff.mpr ⟨by omega, by omega⟩))
end
section
/-! ===== more of the reference's ranges ===== -/
theorem m_fin {f n : Nat} (hn : n < 2 ^ 31) (h : f ≤ n) (q : ¬ nI f = nI n) : f < n := by
  rcases Nat.lt_or_eq_of_le h with z | z
  · exact z
  · exact absurd (by rw [z]) q
theorem r_h2 {x : Int32} (h : 0 ≤ x ∧ x ≤ 2) (q : ¬ 2 ≤ x) : vp_in x 2 := by
  refine r_lt (by decide) ?_ ?_
  · exact Int32.not_lt.mpr h.1
  · exact Int32.not_le.mp q
theorem r_hm {x : Int32} (h : 0 ≤ x ∧ x ≤ 2) (q : ¬ x = 0) : 0 ≤ x - 1 ∧ x - 1 ≤ 2 :=
  r_szm2 h (fun z => q (Int32.le_antisymm z h.1))
theorem iv_mblk {K : kM} {g r : Nat} (I : m_Inv K) (ht : m_tot K ≤ 5) (hr : r < 14) (hg : g < 6) : m_Inv (m_blk K g r) := by
  have e : m_tot (k_up K 5 0 g 2) = m_tot K := mt_ne (by decide)
  exact iv_madd (k_Inv.up I trivial) (by omega) hr hg
theorem mt_blk {K : kM} {g r : Nat} (I : m_Inv K) (ht : m_tot K ≤ 5) (hr : r < 14) : m_tot (m_blk K g r) = m_tot K + 1 := by
  have e : m_tot (k_up K 5 0 g 2) = m_tot K := mt_ne (by decide)
  have I1 : m_Inv (k_up K 5 0 g 2) := k_Inv.up I trivial
  unfold m_blk
  rw [mt_add I1 (by omega) hr, e]
theorem mt_rc1 {K : kM} {g k a : Nat} : m_tot (m_rc1 K g k a) = m_tot K := by
  unfold m_rc1
  rw [mt_ne (by decide), mt_ne (by decide), mt_ne (by decide)]
theorem m_mfle {K : kM} : ∀ c i : Nat, m_mf K c i ≤ c + i
  | 0, i => by simp [m_mf]
  | c + 1, i => by
    unfold m_mf
    split
    · omega
    · have := m_mfle (K := K) c (i + 1)
      omega
theorem m_sfle {K : kM} : ∀ c i : Nat, m_sf K c i ≤ c + i
  | 0, i => by simp [m_sf]
  | c + 1, i => by
    unfold m_sf
    split
    · omega
    · have := m_sfle (K := K) c (i + 1)
      omega
end
section
set_option maxHeartbeats 4000000 in
set_option maxRecDepth 100000 in
theorem c_Mo_thrown (l : Launch) (G : kG) (K : kM)    (I0 : m_Inv K) : k_Met l mS kT y_Mo_thrown b_Mo_thrown 1 (some .int) (k_rm 0) G [.ref (G.2.2 0 0)] K (some (.int (K 0 0 32))) (K) := by
  refine k_intro (by decide +kernel) rfl (Nat.le_of_ble_eq_true rfl) ?_
  intro X C E
  refine k_aload_n C d_Mo_thrown_0 rfl ?_
  refine k_get C d_Mo_thrown_1 fg_Mo_90 (by decide) rfl ?_
  exact k_ireturn C (E.to (by first | rfl | (simp only [m_no, ↓reduceIte, Nat.reduceAdd]; done) | (simp only [m_no, ↓reduceIte, Nat.reduceAdd]; rfl) | contradiction | (simp [m_no, ↓reduceIte, Nat.reduceAdd]; done) | (simp [m_no, ↓reduceIte, Nat.reduceAdd]; rfl)) (by first | rfl | (simp only [m_no, ↓reduceIte, Nat.reduceAdd]; done) | (simp only [m_no, ↓reduceIte, Nat.reduceAdd]; rfl) | contradiction | (simp [m_no, ↓reduceIte, Nat.reduceAdd]; done) | (simp [m_no, ↓reduceIte, Nat.reduceAdd]; rfl))) d_Mo_thrown_4
set_option maxHeartbeats 4000000 in
set_option maxRecDepth 100000 in
theorem c_Mo_no (l : Launch) (G : kG) (K : kM) (v : Int32) (w : Int32)   (I0 : m_Inv K) : k_Met l mS kT y_Mo_no b_Mo_no 3 (some .boolean) (k_rm 0) G [.ref (G.2.2 0 0), .int v, .int w] K (some (.int (m_no v w))) (K) := by
  refine k_intro (by decide +kernel) rfl (Nat.le_of_ble_eq_true rfl) ?_
  intro X C E
  refine k_iload_n C d_Mo_no_0 rfl ?_
  refine k_if_lt C d_Mo_no_1 (tgt := 9) (by decide) (fun h1 => ?_) (fun h1 => ?_)
  · refine k_iconst C d_Mo_no_9 (v := 1) (by decide) ?_
    refine k_goto C d_Mo_no_10 (tgt := 14) (by decide) ?_
    exact k_zreturn C (E.to (by first | (simp only [m_no, h1, ↓reduceIte]; done) | (simp only [m_no, h1, ↓reduceIte]; rfl) | contradiction | rfl) (by first | (simp only [m_no, h1, ↓reduceIte]; done) | (simp only [m_no, h1, ↓reduceIte]; rfl) | contradiction | rfl)) d_Mo_no_14 (by first | rfl | decide)
  · refine k_iload_n C d_Mo_no_4 rfl ?_
    refine k_iload_n C d_Mo_no_5 rfl ?_
    refine k_icmp_le C d_Mo_no_6 (tgt := 13) (by decide) (fun h2 => ?_) (fun h2 => ?_)
    · refine k_iconst C d_Mo_no_13 (v := 0) (by decide) ?_
      exact k_zreturn C (E.to (by first | (simp only [m_no, h1, h2, ↓reduceIte]; done) | (simp only [m_no, h1, h2, ↓reduceIte]; rfl) | contradiction | rfl) (by first | (simp only [m_no, h1, h2, ↓reduceIte]; done) | (simp only [m_no, h1, h2, ↓reduceIte]; rfl) | contradiction | rfl)) d_Mo_no_14 (by first | rfl | decide)
    · refine k_iconst C d_Mo_no_9 (v := 1) (by decide) ?_
      refine k_goto C d_Mo_no_10 (tgt := 14) (by decide) ?_
      exact k_zreturn C (E.to (by first | (simp only [m_no, h1, h2, ↓reduceIte]; done) | (simp only [m_no, h1, h2, ↓reduceIte]; rfl) | contradiction | rfl) (by first | (simp only [m_no, h1, h2, ↓reduceIte]; done) | (simp only [m_no, h1, h2, ↓reduceIte]; rfl) | contradiction | rfl)) d_Mo_no_14 (by first | rfl | decide)
set_option maxHeartbeats 4000000 in
set_option maxRecDepth 100000 in
theorem c_Mo_add (l : Launch) (G : kG) (K : kM) (x0 : Int32) (x1 : Int32) (r g : Nat) (e0 : x0 = nI r) (e1 : x1 = nI g) (I0 : m_Inv K) (hr : r < 14) (hg : g < 6) (ht : m_tot K ≤ 5) : k_Met l mS kT y_Mo_add b_Mo_add 3 none (k_rm 0) G [.ref (G.2.2 0 0), .int x0, .int x1] K none (m_add K r g) := by
  subst e0
  subst e1
  refine k_intro (by decide +kernel) rfl (Nat.le_of_ble_eq_true rfl) ?_
  intro X C E
  have hs := mt_v I0 ht hr
  have hq := k_lt hs
  refine k_aload_n C d_Mo_add_0 rfl ?_
  refine k_getr C d_Mo_add_1 fg_Mo_65 (by decide) rfl ?_
  refine k_iload_n C d_Mo_add_4 rfl ?_
  refine k_bipush C d_Mo_add_5 (v := 6) (by decide) ?_
  refine k_imul C d_Mo_add_7 ?_
  refine k_aload_n C d_Mo_add_8 rfl ?_
  refine k_getr C d_Mo_add_9 fg_Mo_68 (by decide) rfl ?_
  refine k_iload_n C d_Mo_add_12 rfl ?_
  refine k_iaload C d_Mo_add_13 am_20 (by decide) (vp_in_nI (by omega) (by decide)) (nI_clamp (by omega)) ?_
  refine k_top (r_id hs (by decide)) ?_
  refine k_iadd C d_Mo_add_14 ?_
  refine k_iload_n C d_Mo_add_15 rfl ?_
  refine k_iastore C d_Mo_add_16 am_19 (by decide) (mx (r) 6 ((K 20 0 r).toNatClampNeg) 84 (by omega) (by decide)).1 (mx (r) 6 ((K 20 0 r).toNatClampNeg) 84 (by omega) (by decide)).2 I0 (vp_in_nI hg (by decide)) (fun I1 => ?_)
  refine k_aload_n C d_Mo_add_17 rfl ?_
  refine k_getr C d_Mo_add_18 fg_Mo_68 (by decide) rfl ?_
  refine k_iload_n C d_Mo_add_21 rfl ?_
  refine k_dup2 C d_Mo_add_22 rfl rfl ?_
  refine k_iaload C d_Mo_add_23 am_20 (by decide) (vp_in_nI (by omega) (by decide)) (nI_clamp (by omega)) ?_
  refine k_iconst C d_Mo_add_24 (v := 1) (by decide) ?_
  refine k_iadd C d_Mo_add_25 ?_
  refine k_iastore C d_Mo_add_26 am_20 (by decide) (vp_in_nI (by omega) (by decide)) (nI_clamp (by omega)) I1 (r_szp (I0 20 0 r) (m_n6 hs)) (fun I2 => ?_)
  exact k_return C (E.to rfl (by first | rfl | (simp only [m_add, ↓reduceIte, Nat.reduceAdd]; done) | (simp only [m_add, ↓reduceIte, Nat.reduceAdd]; rfl) | contradiction | (simp [m_add, ↓reduceIte, Nat.reduceAdd]; done) | (simp [m_add, ↓reduceIte, Nat.reduceAdd]; rfl))) d_Mo_add_27
set_option maxHeartbeats 4000000 in
set_option maxRecDepth 100000 in
theorem b_tk {X : kX} {G : kG} {l : Launch} (C : k_C X kT b_Mo_take y_Mo_take.cls mS G 4 l (k_rm 0)) (r : Nat) (x : Int32) (hr : r < 14) : ∀ (c k : Nat) {K : kM}, c + k ≤ 5 → K 20 0 r = nI (c + k) → m_Inv K → k_E X (some .int) (some (.int x)) (m_sh K r c k) 0 0 → k_W X 0 0 22 [(3, .int (nI k)), (0, .ref (G.2.2 0 0)), (1, .int (nI r)), (2, .int x)] [] K
  | 0, k, K, hk, hz, I0, E => by
    refine k_iload_n C d_Mo_take_22 rfl ?_
    refine k_aload_n C d_Mo_take_23 rfl ?_
    refine k_getr C d_Mo_take_24 fg_Mo_68 (by decide) rfl ?_
    refine k_iload_n C d_Mo_take_27 rfl ?_
    refine k_iaload C d_Mo_take_28 am_20 (by decide) (vp_in_nI (by omega) (by decide)) (nI_clamp (by omega)) ?_
    refine k_top hz ?_
    refine k_icmp_ge C d_Mo_take_29 (tgt := 62) (by decide) (fun h1 => ?_) (fun h1 => absurd (by rw [Nat.zero_add]; exact Int32.le_refl _) h1)
    refine k_iload_n C d_Mo_take_62 rfl ?_
    exact k_ireturn C (E.to (by first | rfl | (simp only [m_sh, ↓reduceIte, Nat.reduceAdd]; done) | (simp only [m_sh, ↓reduceIte, Nat.reduceAdd]; rfl) | contradiction | (simp [m_sh, ↓reduceIte, Nat.reduceAdd]; done) | (simp [m_sh, ↓reduceIte, Nat.reduceAdd]; rfl)) (by first | rfl | (simp only [m_sh, ↓reduceIte, Nat.reduceAdd]; done) | (simp only [m_sh, ↓reduceIte, Nat.reduceAdd]; rfl) | contradiction | (simp [m_sh, ↓reduceIte, Nat.reduceAdd]; done) | (simp [m_sh, ↓reduceIte, Nat.reduceAdd]; rfl))) d_Mo_take_63
  | c + 1, k, K, hk, hz, I0, E => by
    refine k_iload_n C d_Mo_take_22 rfl ?_
    refine k_aload_n C d_Mo_take_23 rfl ?_
    refine k_getr C d_Mo_take_24 fg_Mo_68 (by decide) rfl ?_
    refine k_iload_n C d_Mo_take_27 rfl ?_
    refine k_iaload C d_Mo_take_28 am_20 (by decide) (vp_in_nI (by omega) (by decide)) (nI_clamp (by omega)) ?_
    refine k_top hz ?_
    refine k_icmp_ge C d_Mo_take_29 (tgt := 62) (by decide) (fun h1 => absurd h1 (nI_ge (by omega) (by omega))) (fun h1 => ?_)
    refine k_aload_n C d_Mo_take_32 rfl ?_
    refine k_getr C d_Mo_take_33 fg_Mo_65 (by decide) rfl ?_
    refine k_iload_n C d_Mo_take_36 rfl ?_
    refine k_bipush C d_Mo_take_37 (v := 6) (by decide) ?_
    refine k_imul C d_Mo_take_39 ?_
    refine k_iload_n C d_Mo_take_40 rfl ?_
    refine k_iadd C d_Mo_take_41 ?_
    refine k_aload_n C d_Mo_take_42 rfl ?_
    refine k_getr C d_Mo_take_43 fg_Mo_65 (by decide) rfl ?_
    refine k_iload_n C d_Mo_take_46 rfl ?_
    refine k_bipush C d_Mo_take_47 (v := 6) (by decide) ?_
    refine k_imul C d_Mo_take_49 ?_
    refine k_iload_n C d_Mo_take_50 rfl ?_
    refine k_iadd C d_Mo_take_51 ?_
    refine k_iconst C d_Mo_take_52 (v := 1) (by decide) ?_
    refine k_iadd C d_Mo_take_53 ?_
    refine k_iaload C d_Mo_take_54 am_19 (by decide) (mx1 (r) 6 (k) 1 84 (by omega) (by decide)).1 (mx1 (r) 6 (k) 1 84 (by omega) (by decide)).2 ?_
    refine k_iastore C d_Mo_take_55 am_19 (by decide) (mx (r) 6 (k) 84 (by omega) (by decide)).1 (mx (r) 6 (k) 84 (by omega) (by decide)).2 I0 (I0 19 0 _) (fun I2 => ?_)
    refine k_iinc C d_Mo_take_56 rfl (v := nI (k + 1)) (nI_1 k) (by decide) ?_
    refine k_goto C d_Mo_take_59 (tgt := 22) (by decide) ?_
    exact k_loc [(3, .int (nI (k + 1))), (0, .ref (G.2.2 0 0)), (1, .int (nI r)), (2, .int x)] ⟨rfl, rfl, rfl, rfl, trivial⟩ (b_tk C r x hr c (k + 1) (by omega) (by rw [show c + (k + 1) = c + 1 + k by omega]; exact hz) I2 E)
set_option maxHeartbeats 4000000 in
set_option maxRecDepth 100000 in
theorem c_Mo_take (l : Launch) (G : kG) (K : kM) (x0 : Int32) (r : Nat) (e0 : x0 = nI r) (I0 : m_Inv K) (hr : r < 14) (h0 : ¬ K 20 0 r ≤ 0) : k_Met l mS kT y_Mo_take b_Mo_take 4 (some .int) (k_rm 0) G [.ref (G.2.2 0 0), .int x0] K (some (.int (m_tkX K r))) (m_tkT K r) := by
  subst e0
  refine k_intro (by decide +kernel) rfl (Nat.le_of_ble_eq_true rfl) ?_
  intro X C E
  refine k_aload_n C d_Mo_take_0 rfl ?_
  refine k_getr C d_Mo_take_1 fg_Mo_65 (by decide) rfl ?_
  refine k_iload_n C d_Mo_take_4 rfl ?_
  refine k_bipush C d_Mo_take_5 (v := 6) (by decide) ?_
  refine k_imul C d_Mo_take_7 ?_
  refine k_iaload C d_Mo_take_8 am_19 (by decide) (mxp (r) 6 84 (by omega) (by decide)).1 (mxp (r) 6 84 (by omega) (by decide)).2 ?_
  refine k_istore_n C d_Mo_take_9 (by decide) ?_
  refine k_aload_n C d_Mo_take_10 rfl ?_
  refine k_getr C d_Mo_take_11 fg_Mo_68 (by decide) rfl ?_
  refine k_iload_n C d_Mo_take_14 rfl ?_
  refine k_dup2 C d_Mo_take_15 rfl rfl ?_
  refine k_iaload C d_Mo_take_16 am_20 (by decide) (vp_in_nI (by omega) (by decide)) (nI_clamp (by omega)) ?_
  refine k_iconst C d_Mo_take_17 (v := 1) (by decide) ?_
  refine k_isub C d_Mo_take_18 ?_
  refine k_iastore C d_Mo_take_19 am_20 (by decide) (vp_in_nI (by omega) (by decide)) (nI_clamp (by omega)) I0 (r_szm (I0 20 0 r) (fun e => h0 (by rw [e]; decide))) (fun I1 => ?_)
  refine k_iconst C d_Mo_take_20 (v := 0) (by decide) ?_
  refine k_istore_n C d_Mo_take_21 (by decide) ?_
  exact k_loc [(3, .int (nI 0)), (0, .ref (G.2.2 0 0)), (1, .int (nI r)), (2, .int (K 19 0 (r * 6)))] ⟨rfl, rfl, rfl, rfl, trivial⟩ (b_tk C r _ hr (m_tk1 K r 20 0 r).toNatClampNeg 0 (m_tkz I0 h0).2 (m_tkz I0 h0).1 I1 E)
set_option maxHeartbeats 4000000 in
set_option maxRecDepth 100000 in
theorem c_Mo_wake (l : Launch) (G : kG) (K : kM) (x0 : Int32) (g : Nat) (e0 : x0 = nI g) (I0 : m_Inv K) (hg : g < 6) (ht : m_tot K ≤ 5) : k_Met l mS kT y_Mo_wake b_Mo_wake 2 none (k_rm 1) G [.ref (G.2.2 0 0), .int x0] K none (m_wake K g) := by
  subst e0
  refine k_intro (by decide +kernel) rfl (Nat.le_of_ble_eq_true rfl) ?_
  intro X C E
  refine k_aload_n C d_Mo_wake_0 rfl ?_
  refine k_getr C d_Mo_wake_1 fg_Mo_22 (by decide) rfl ?_
  refine k_iload_n C d_Mo_wake_4 rfl ?_
  refine k_iconst C d_Mo_wake_5 (v := 0) (by decide) ?_
  refine k_iastore C d_Mo_wake_6 am_5 (by decide) (vp_in_nI (by omega) (by decide)) (nI_clamp (by omega)) I0 (trivial) (fun I1 => ?_)
  refine k_aload_n C d_Mo_wake_7 rfl ?_
  refine k_iload_n C d_Mo_wake_8 rfl ?_
  refine k_iconst C d_Mo_wake_9 (v := 2) (by decide) ?_
  refine k_irem C d_Mo_wake_10 (by first | decide | assumption) ?_
  refine k_iload_n C d_Mo_wake_11 rfl ?_
  refine k_callVv C kg_all (c_Mo_add l G _ _ _ (g % 2) g (mr2 hg) rfl I1 (by omega) hg (by (repeat rw [mt_ne (by decide)]); first | assumption | omega)) cs_Mo_94 cv_Mo_add om_0 (by decide) rfl rfl (Nat.le_of_ble_eq_true rfl) ⟨rfl, rfl⟩ ⟨by decide, by decide⟩ ⟨Nat.zero_le _, Nat.zero_le _⟩ d_Mo_wake_12 (iv_madd I1 (by (repeat rw [mt_ne (by decide)]); first | assumption | omega) (by omega) hg) (fun I2 => ?_)
  exact k_return C (E.to rfl (by first | rfl | (simp only [m_wake, ↓reduceIte, Nat.reduceAdd]; done) | (simp only [m_wake, ↓reduceIte, Nat.reduceAdd]; rfl) | contradiction | (simp [m_wake, ↓reduceIte, Nat.reduceAdd]; done) | (simp [m_wake, ↓reduceIte, Nat.reduceAdd]; rfl))) d_Mo_wake_15
set_option maxHeartbeats 4000000 in
set_option maxRecDepth 100000 in
theorem c_Mo_begin (l : Launch) (G : kG) (K : kM) (x0 : Int32) (a : Int32) (q : Int32) (b : Int32) (g : Nat) (e0 : x0 = nI g) (I0 : m_Inv K) (hg : g < 6) (ht : m_tot K ≤ 5) (ha : vp_in a 32) : k_Met l mS kT y_Mo_begin b_Mo_begin 6 none (k_rm 2) G [.ref (G.2.2 0 0), .int x0, .int a, .int q, .int b] K none (m_begin K g a q b) := by
  subst e0
  refine k_intro (by decide +kernel) rfl (Nat.le_of_ble_eq_true rfl) ?_
  intro X C E
  refine k_aload_n C d_Mo_begin_0 rfl ?_
  refine k_getr C d_Mo_begin_1 fg_Mo_25 (by decide) rfl ?_
  refine k_iload_n C d_Mo_begin_4 rfl ?_
  refine k_iload_n C d_Mo_begin_5 rfl ?_
  refine k_iastore C d_Mo_begin_6 am_6 (by decide) (vp_in_nI (by omega) (by decide)) (nI_clamp (by omega)) I0 (ha) (fun I1 => ?_)
  refine k_aload_n C d_Mo_begin_7 rfl ?_
  refine k_getr C d_Mo_begin_8 fg_Mo_31 (by decide) rfl ?_
  refine k_iload_n C d_Mo_begin_11 rfl ?_
  refine k_iload_n C d_Mo_begin_12 rfl ?_
  refine k_iastore C d_Mo_begin_13 am_8 (by decide) (vp_in_nI (by omega) (by decide)) (nI_clamp (by omega)) I1 (trivial) (fun I2 => ?_)
  refine k_aload_n C d_Mo_begin_14 rfl ?_
  refine k_getr C d_Mo_begin_15 fg_Mo_40 (by decide) rfl ?_
  refine k_iload_n C d_Mo_begin_18 rfl ?_
  refine k_iload C d_Mo_begin_19 rfl ?_
  refine k_iastore C d_Mo_begin_21 am_11 (by decide) (vp_in_nI (by omega) (by decide)) (nI_clamp (by omega)) I2 (trivial) (fun I3 => ?_)
  refine k_aload_n C d_Mo_begin_22 rfl ?_
  refine k_getr C d_Mo_begin_23 fg_Mo_28 (by decide) rfl ?_
  refine k_iload_n C d_Mo_begin_26 rfl ?_
  refine k_iconst C d_Mo_begin_27 (v := (-1)) (by decide) ?_
  refine k_iastore C d_Mo_begin_28 am_7 (by decide) (vp_in_nI (by omega) (by decide)) (nI_clamp (by omega)) I3 (Or.inl rfl) (fun I4 => ?_)
  refine k_aload_n C d_Mo_begin_29 rfl ?_
  refine k_getr C d_Mo_begin_30 fg_Mo_34 (by decide) rfl ?_
  refine k_iload_n C d_Mo_begin_33 rfl ?_
  refine k_iconst C d_Mo_begin_34 (v := 0) (by decide) ?_
  refine k_iastore C d_Mo_begin_35 am_9 (by decide) (vp_in_nI (by omega) (by decide)) (nI_clamp (by omega)) I4 (trivial) (fun I5 => ?_)
  refine k_aload_n C d_Mo_begin_36 rfl ?_
  refine k_getr C d_Mo_begin_37 fg_Mo_37 (by decide) rfl ?_
  refine k_iload_n C d_Mo_begin_40 rfl ?_
  refine k_iconst C d_Mo_begin_41 (v := 0) (by decide) ?_
  refine k_iastore C d_Mo_begin_42 am_10 (by decide) (vp_in_nI (by omega) (by decide)) (nI_clamp (by omega)) I5 (trivial) (fun I6 => ?_)
  refine k_aload_n C d_Mo_begin_43 rfl ?_
  refine k_getr C d_Mo_begin_44 fg_Mo_43 (by decide) rfl ?_
  refine k_iload_n C d_Mo_begin_47 rfl ?_
  refine k_iconst C d_Mo_begin_48 (v := 0) (by decide) ?_
  refine k_iastore C d_Mo_begin_49 am_12 (by decide) (vp_in_nI (by omega) (by decide)) (nI_clamp (by omega)) I6 (trivial) (fun I7 => ?_)
  refine k_aload_n C d_Mo_begin_50 rfl ?_
  refine k_getr C d_Mo_begin_51 fg_Mo_46 (by decide) rfl ?_
  refine k_iload_n C d_Mo_begin_54 rfl ?_
  refine k_iconst C d_Mo_begin_55 (v := 0) (by decide) ?_
  refine k_iastore C d_Mo_begin_56 am_13 (by decide) (vp_in_nI (by omega) (by decide)) (nI_clamp (by omega)) I7 (trivial) (fun I8 => ?_)
  refine k_iconst C d_Mo_begin_57 (v := 0) (by decide) ?_
  refine k_istore C d_Mo_begin_58 (by decide) ?_
  refine k_iload C d_Mo_begin_60 rfl ?_
  refine k_iconst C d_Mo_begin_62 (v := 4) (by decide) ?_
  refine k_icmp_ge C d_Mo_begin_63 (tgt := 96) (by decide) (fun h => absurd h (by decide)) (fun _ => ?_)
  refine k_aload_n C d_Mo_begin_66 rfl ?_
  refine k_getr C d_Mo_begin_67 fg_Mo_52 (by decide) rfl ?_
  refine k_iload_n C d_Mo_begin_70 rfl ?_
  refine k_iconst C d_Mo_begin_71 (v := 4) (by decide) ?_
  refine k_imul C d_Mo_begin_72 ?_
  refine k_iload C d_Mo_begin_73 rfl ?_
  refine k_iadd C d_Mo_begin_75 ?_
  refine k_iconst C d_Mo_begin_76 (v := 0) (by decide) ?_
  refine k_iastore C d_Mo_begin_77 am_15 (by decide) (mx (g) 4 (0) 24 (by omega) (by decide)).1 (mx (g) 4 (0) 24 (by omega) (by decide)).2 I8 (trivial) (fun I9 => ?_)
  refine k_aload_n C d_Mo_begin_78 rfl ?_
  refine k_getr C d_Mo_begin_79 fg_Mo_55 (by decide) rfl ?_
  refine k_iload_n C d_Mo_begin_82 rfl ?_
  refine k_iconst C d_Mo_begin_83 (v := 4) (by decide) ?_
  refine k_imul C d_Mo_begin_84 ?_
  refine k_iload C d_Mo_begin_85 rfl ?_
  refine k_iadd C d_Mo_begin_87 ?_
  refine k_iconst C d_Mo_begin_88 (v := (-1)) (by decide) ?_
  refine k_iastore C d_Mo_begin_89 am_16 (by decide) (mx (g) 4 (0) 24 (by omega) (by decide)).1 (mx (g) 4 (0) 24 (by omega) (by decide)).2 I9 (Or.inl rfl) (fun I10 => ?_)
  refine k_iinc C d_Mo_begin_90 rfl (v := 1) (by decide) (by decide) ?_
  refine k_goto C d_Mo_begin_93 (tgt := 60) (by decide) ?_
  refine k_iload C d_Mo_begin_60 rfl ?_
  refine k_iconst C d_Mo_begin_62 (v := 4) (by decide) ?_
  refine k_icmp_ge C d_Mo_begin_63 (tgt := 96) (by decide) (fun h => absurd h (by decide)) (fun _ => ?_)
  refine k_aload_n C d_Mo_begin_66 rfl ?_
  refine k_getr C d_Mo_begin_67 fg_Mo_52 (by decide) rfl ?_
  refine k_iload_n C d_Mo_begin_70 rfl ?_
  refine k_iconst C d_Mo_begin_71 (v := 4) (by decide) ?_
  refine k_imul C d_Mo_begin_72 ?_
  refine k_iload C d_Mo_begin_73 rfl ?_
  refine k_iadd C d_Mo_begin_75 ?_
  refine k_iconst C d_Mo_begin_76 (v := 0) (by decide) ?_
  refine k_iastore C d_Mo_begin_77 am_15 (by decide) (mx (g) 4 (1) 24 (by omega) (by decide)).1 (mx (g) 4 (1) 24 (by omega) (by decide)).2 I10 (trivial) (fun I11 => ?_)
  refine k_aload_n C d_Mo_begin_78 rfl ?_
  refine k_getr C d_Mo_begin_79 fg_Mo_55 (by decide) rfl ?_
  refine k_iload_n C d_Mo_begin_82 rfl ?_
  refine k_iconst C d_Mo_begin_83 (v := 4) (by decide) ?_
  refine k_imul C d_Mo_begin_84 ?_
  refine k_iload C d_Mo_begin_85 rfl ?_
  refine k_iadd C d_Mo_begin_87 ?_
  refine k_iconst C d_Mo_begin_88 (v := (-1)) (by decide) ?_
  refine k_iastore C d_Mo_begin_89 am_16 (by decide) (mx (g) 4 (1) 24 (by omega) (by decide)).1 (mx (g) 4 (1) 24 (by omega) (by decide)).2 I11 (Or.inl rfl) (fun I12 => ?_)
  refine k_iinc C d_Mo_begin_90 rfl (v := 2) (by decide) (by decide) ?_
  refine k_goto C d_Mo_begin_93 (tgt := 60) (by decide) ?_
  refine k_iload C d_Mo_begin_60 rfl ?_
  refine k_iconst C d_Mo_begin_62 (v := 4) (by decide) ?_
  refine k_icmp_ge C d_Mo_begin_63 (tgt := 96) (by decide) (fun h => absurd h (by decide)) (fun _ => ?_)
  refine k_aload_n C d_Mo_begin_66 rfl ?_
  refine k_getr C d_Mo_begin_67 fg_Mo_52 (by decide) rfl ?_
  refine k_iload_n C d_Mo_begin_70 rfl ?_
  refine k_iconst C d_Mo_begin_71 (v := 4) (by decide) ?_
  refine k_imul C d_Mo_begin_72 ?_
  refine k_iload C d_Mo_begin_73 rfl ?_
  refine k_iadd C d_Mo_begin_75 ?_
  refine k_iconst C d_Mo_begin_76 (v := 0) (by decide) ?_
  refine k_iastore C d_Mo_begin_77 am_15 (by decide) (mx (g) 4 (2) 24 (by omega) (by decide)).1 (mx (g) 4 (2) 24 (by omega) (by decide)).2 I12 (trivial) (fun I13 => ?_)
  refine k_aload_n C d_Mo_begin_78 rfl ?_
  refine k_getr C d_Mo_begin_79 fg_Mo_55 (by decide) rfl ?_
  refine k_iload_n C d_Mo_begin_82 rfl ?_
  refine k_iconst C d_Mo_begin_83 (v := 4) (by decide) ?_
  refine k_imul C d_Mo_begin_84 ?_
  refine k_iload C d_Mo_begin_85 rfl ?_
  refine k_iadd C d_Mo_begin_87 ?_
  refine k_iconst C d_Mo_begin_88 (v := (-1)) (by decide) ?_
  refine k_iastore C d_Mo_begin_89 am_16 (by decide) (mx (g) 4 (2) 24 (by omega) (by decide)).1 (mx (g) 4 (2) 24 (by omega) (by decide)).2 I13 (Or.inl rfl) (fun I14 => ?_)
  refine k_iinc C d_Mo_begin_90 rfl (v := 3) (by decide) (by decide) ?_
  refine k_goto C d_Mo_begin_93 (tgt := 60) (by decide) ?_
  refine k_iload C d_Mo_begin_60 rfl ?_
  refine k_iconst C d_Mo_begin_62 (v := 4) (by decide) ?_
  refine k_icmp_ge C d_Mo_begin_63 (tgt := 96) (by decide) (fun h => absurd h (by decide)) (fun _ => ?_)
  refine k_aload_n C d_Mo_begin_66 rfl ?_
  refine k_getr C d_Mo_begin_67 fg_Mo_52 (by decide) rfl ?_
  refine k_iload_n C d_Mo_begin_70 rfl ?_
  refine k_iconst C d_Mo_begin_71 (v := 4) (by decide) ?_
  refine k_imul C d_Mo_begin_72 ?_
  refine k_iload C d_Mo_begin_73 rfl ?_
  refine k_iadd C d_Mo_begin_75 ?_
  refine k_iconst C d_Mo_begin_76 (v := 0) (by decide) ?_
  refine k_iastore C d_Mo_begin_77 am_15 (by decide) (mx (g) 4 (3) 24 (by omega) (by decide)).1 (mx (g) 4 (3) 24 (by omega) (by decide)).2 I14 (trivial) (fun I15 => ?_)
  refine k_aload_n C d_Mo_begin_78 rfl ?_
  refine k_getr C d_Mo_begin_79 fg_Mo_55 (by decide) rfl ?_
  refine k_iload_n C d_Mo_begin_82 rfl ?_
  refine k_iconst C d_Mo_begin_83 (v := 4) (by decide) ?_
  refine k_imul C d_Mo_begin_84 ?_
  refine k_iload C d_Mo_begin_85 rfl ?_
  refine k_iadd C d_Mo_begin_87 ?_
  refine k_iconst C d_Mo_begin_88 (v := (-1)) (by decide) ?_
  refine k_iastore C d_Mo_begin_89 am_16 (by decide) (mx (g) 4 (3) 24 (by omega) (by decide)).1 (mx (g) 4 (3) 24 (by omega) (by decide)).2 I15 (Or.inl rfl) (fun I16 => ?_)
  refine k_iinc C d_Mo_begin_90 rfl (v := 4) (by decide) (by decide) ?_
  refine k_goto C d_Mo_begin_93 (tgt := 60) (by decide) ?_
  refine k_iload C d_Mo_begin_60 rfl ?_
  refine k_iconst C d_Mo_begin_62 (v := 4) (by decide) ?_
  refine k_icmp_ge C d_Mo_begin_63 (tgt := 96) (by decide) (fun _ => ?_) (fun h => absurd h (by decide))
  refine k_aload_n C d_Mo_begin_96 rfl ?_
  refine k_iload_n C d_Mo_begin_97 rfl ?_
  refine k_callVv C kg_all (c_Mo_wake l G _ _ g rfl I16 hg (by (repeat rw [mt_ne (by decide)]); first | assumption | omega)) cs_Mo_98 cv_Mo_wake om_0 (by decide) rfl rfl (Nat.le_of_ble_eq_true rfl) ⟨rfl, rfl⟩ ⟨by decide, by decide⟩ ⟨Nat.zero_le _, Nat.zero_le _⟩ d_Mo_begin_98 (iv_mwake I16 (by (repeat rw [mt_ne (by decide)]); first | assumption | omega) hg) (fun I17 => ?_)
  exact k_return C (E.to rfl (by first | rfl | (simp only [m_begin, m_begL, m_beg0, ↓reduceIte, Nat.reduceAdd]; done) | (simp only [m_begin, m_begL, m_beg0, ↓reduceIte, Nat.reduceAdd]; rfl) | contradiction | (simp [m_begin, m_begL, m_beg0, ↓reduceIte, Nat.reduceAdd]; done) | (simp [m_begin, m_begL, m_beg0, ↓reduceIte, Nat.reduceAdd]; rfl))) d_Mo_begin_101
set_option maxHeartbeats 4000000 in
set_option maxRecDepth 100000 in
theorem c_Mo_unmap (l : Launch) (G : kG) (K : kM) (x0 : Int32) (x1 : Int32) (g p : Nat) (e0 : x0 = nI g) (e1 : x1 = nI p) (I0 : m_Inv K) (hg : g < 6) (hp : p < 4) : k_Met l mS kT y_Mo_unmap b_Mo_unmap 3 none (k_rm 0) G [.ref (G.2.2 0 0), .int x0, .int x1] K none (m_unmap K g p) := by
  subst e0
  subst e1
  refine k_intro (by decide +kernel) rfl (Nat.le_of_ble_eq_true rfl) ?_
  intro X C E
  refine k_aload_n C d_Mo_unmap_0 rfl ?_
  refine k_getr C d_Mo_unmap_1 fg_Mo_55 (by decide) rfl ?_
  refine k_iload_n C d_Mo_unmap_4 rfl ?_
  refine k_iconst C d_Mo_unmap_5 (v := 4) (by decide) ?_
  refine k_imul C d_Mo_unmap_6 ?_
  refine k_iload_n C d_Mo_unmap_7 rfl ?_
  refine k_iadd C d_Mo_unmap_8 ?_
  refine k_iaload C d_Mo_unmap_9 am_16 (by decide) (mx (g) 4 (p) 24 (by omega) (by decide)).1 (mx (g) 4 (p) 24 (by omega) (by decide)).2 ?_
  refine k_if_ge C d_Mo_unmap_10 (tgt := 14) (by decide) (fun h1 => ?_) (fun h1 => ?_)
  · refine k_aload_n C d_Mo_unmap_14 rfl ?_
    refine k_getr C d_Mo_unmap_15 fg_Mo_61 (by decide) rfl ?_
    refine k_aload_n C d_Mo_unmap_18 rfl ?_
    refine k_getr C d_Mo_unmap_19 fg_Mo_55 (by decide) rfl ?_
    refine k_iload_n C d_Mo_unmap_22 rfl ?_
    refine k_iconst C d_Mo_unmap_23 (v := 4) (by decide) ?_
    refine k_imul C d_Mo_unmap_24 ?_
    refine k_iload_n C d_Mo_unmap_25 rfl ?_
    refine k_iadd C d_Mo_unmap_26 ?_
    refine k_iaload C d_Mo_unmap_27 am_16 (by decide) (mx (g) 4 (p) 24 (by omega) (by decide)).1 (mx (g) 4 (p) 24 (by omega) (by decide)).2 ?_
    refine k_iconst C d_Mo_unmap_28 (v := 0) (by decide) ?_
    refine k_zastore C d_Mo_unmap_29 am_18 (by decide) (m_neg12 (I0 16 0 _) h1) rfl (by first | rfl | decide) I0 (trivial) (fun I2 => ?_)
    refine k_aload_n C d_Mo_unmap_30 rfl ?_
    refine k_getr C d_Mo_unmap_31 fg_Mo_55 (by decide) rfl ?_
    refine k_iload_n C d_Mo_unmap_34 rfl ?_
    refine k_iconst C d_Mo_unmap_35 (v := 4) (by decide) ?_
    refine k_imul C d_Mo_unmap_36 ?_
    refine k_iload_n C d_Mo_unmap_37 rfl ?_
    refine k_iadd C d_Mo_unmap_38 ?_
    refine k_iconst C d_Mo_unmap_39 (v := (-1)) (by decide) ?_
    refine k_iastore C d_Mo_unmap_40 am_16 (by decide) (mx (g) 4 (p) 24 (by omega) (by decide)).1 (mx (g) 4 (p) 24 (by omega) (by decide)).2 I2 (Or.inl rfl) (fun I3 => ?_)
    refine k_aload_n C d_Mo_unmap_41 rfl ?_
    refine k_getr C d_Mo_unmap_42 fg_Mo_34 (by decide) rfl ?_
    refine k_iload_n C d_Mo_unmap_45 rfl ?_
    refine k_dup2 C d_Mo_unmap_46 rfl rfl ?_
    refine k_iaload C d_Mo_unmap_47 am_9 (by decide) (vp_in_nI (by omega) (by decide)) (nI_clamp (by omega)) ?_
    refine k_iconst C d_Mo_unmap_48 (v := 1) (by decide) ?_
    refine k_isub C d_Mo_unmap_49 ?_
    refine k_iastore C d_Mo_unmap_50 am_9 (by decide) (vp_in_nI (by omega) (by decide)) (nI_clamp (by omega)) I3 (trivial) (fun I4 => ?_)
    exact k_return C (E.to rfl (by first | (simp only [m_unmap, h1, ↓reduceIte]; done) | (simp only [m_unmap, h1, ↓reduceIte]; rfl) | contradiction | rfl)) d_Mo_unmap_51
  · exact k_return C (E.to rfl (by first | (simp only [m_unmap, h1, ↓reduceIte]; done) | (simp only [m_unmap, h1, ↓reduceIte]; rfl) | contradiction | rfl)) d_Mo_unmap_13
set_option maxHeartbeats 4000000 in
set_option maxRecDepth 100000 in
theorem c_Mo_unlock (l : Launch) (G : kG) (K : kM) (x0 : Int32) (k : Nat) (e0 : x0 = nI k) (I0 : m_Inv K) (hk : k < 4) (ht : m_tot K ≤ 6) : k_Met l mS kT y_Mo_unlock b_Mo_unlock 2 none (k_rm 2) G [.ref (G.2.2 0 0), .int x0] K none (m_unl K k) := by
  subst e0
  refine k_intro (by decide +kernel) rfl (Nat.le_of_ble_eq_true rfl) ?_
  intro X C E
  refine k_aload_n C d_Mo_unlock_0 rfl ?_
  refine k_getr C d_Mo_unlock_1 fg_Mo_77 (by decide) rfl ?_
  refine k_iload_n C d_Mo_unlock_4 rfl ?_
  refine k_aload_n C d_Mo_unlock_5 rfl ?_
  refine k_getr C d_Mo_unlock_6 fg_Mo_68 (by decide) rfl ?_
  refine k_bipush C d_Mo_unlock_9 (v := 10) (by decide) ?_
  refine k_iload_n C d_Mo_unlock_11 rfl ?_
  refine k_iadd C d_Mo_unlock_12 ?_
  refine k_iaload C d_Mo_unlock_13 am_20 (by decide) (mt (10) (k) 14 (by omega) (by decide)).1 (mt (10) (k) 14 (by omega) (by decide)).2 ?_
  refine k_if_le C d_Mo_unlock_14 (tgt := 28) (by decide) (fun h1 => ?_) (fun h1 => ?_)
  · refine k_iconst C d_Mo_unlock_28 (v := (-1)) (by decide) ?_
    refine k_iastore C d_Mo_unlock_29 am_23 (by decide) (vp_in_nI (by omega) (by decide)) (nI_clamp (by omega)) I0 (Or.inl rfl) (fun I2 => ?_)
    refine k_aload_n C d_Mo_unlock_30 rfl ?_
    refine k_getr C d_Mo_unlock_31 fg_Mo_77 (by decide) rfl ?_
    refine k_iload_n C d_Mo_unlock_34 rfl ?_
    refine k_iaload C d_Mo_unlock_35 am_23 (by decide) (vp_in_nI (by omega) (by decide)) (nI_clamp (by omega)) ?_
    refine k_if_lt C d_Mo_unlock_36 (tgt := 49) (by decide) (fun h3 => ?_) (fun h3 => absurd (by rw [k_up_eq]; decide) h3)
    exact k_return C (E.to rfl (by first | (simp only [m_unl, m_unl1, h1, h3, ↓reduceIte]; done) | (simp only [m_unl, m_unl1, h1, h3, ↓reduceIte]; rfl) | contradiction | rfl)) d_Mo_unlock_49
  · refine k_aload_n C d_Mo_unlock_17 rfl ?_
    refine k_bipush C d_Mo_unlock_18 (v := 10) (by decide) ?_
    refine k_iload_n C d_Mo_unlock_20 rfl ?_
    refine k_iadd C d_Mo_unlock_21 ?_
    refine k_callVi C kg_all (c_Mo_take l G _ _ (10 + k) (nI_add 10 k) I0 (by omega) h1) cs_Mo_106 cv_Mo_take om_0 (by decide) rfl rfl (Nat.le_of_ble_eq_true rfl) ⟨rfl, rfl⟩ ⟨by decide, by decide⟩ ⟨Nat.zero_le _, Nat.zero_le _⟩ d_Mo_unlock_22 (iv_mtk I0 h1) (fun I4 => ?_)
    refine k_goto C d_Mo_unlock_25 (tgt := 29) (by decide) ?_
    refine k_iastore C d_Mo_unlock_29 am_23 (by decide) (vp_in_nI (by omega) (by decide)) (nI_clamp (by omega)) I4 (Or.inr (r_tkX _ I0)) (fun I5 => ?_)
    refine k_aload_n C d_Mo_unlock_30 rfl ?_
    refine k_getr C d_Mo_unlock_31 fg_Mo_77 (by decide) rfl ?_
    refine k_iload_n C d_Mo_unlock_34 rfl ?_
    refine k_iaload C d_Mo_unlock_35 am_23 (by decide) (vp_in_nI (by omega) (by decide)) (nI_clamp (by omega)) ?_
    refine k_if_lt C d_Mo_unlock_36 (tgt := 49) (by decide) (fun h6 => ?_) (fun h6 => ?_)
    · exact k_return C (E.to rfl (by first | (simp only [m_unl, m_unl1, h1, h6, ↓reduceIte]; done) | (simp only [m_unl, m_unl1, h1, h6, ↓reduceIte]; rfl) | contradiction | rfl)) d_Mo_unlock_49
    · refine k_aload_n C d_Mo_unlock_39 rfl ?_
      refine k_aload_n C d_Mo_unlock_40 rfl ?_
      refine k_getr C d_Mo_unlock_41 fg_Mo_77 (by decide) rfl ?_
      refine k_iload_n C d_Mo_unlock_44 rfl ?_
      refine k_iaload C d_Mo_unlock_45 am_23 (by decide) (vp_in_nI (by omega) (by decide)) (nI_clamp (by omega)) ?_
      refine k_callVv C kg_all (c_Mo_wake l G _ _ _ (r_id (m_neg (I5 23 0 k) h6) (by decide)) I5 (k_lt (m_neg (I5 23 0 k) h6)) (by rw [mt_ne (by decide)]; have := mt_tk I0 h1 (show 10 + k < 14 by omega); omega)) cs_Mo_98 cv_Mo_wake om_0 (by decide) rfl rfl (Nat.le_of_ble_eq_true rfl) ⟨rfl, rfl⟩ ⟨by decide, by decide⟩ ⟨Nat.zero_le _, Nat.zero_le _⟩ d_Mo_unlock_46 (iv_mwake I5 (by rw [mt_ne (by decide)]; have := mt_tk I0 h1 (show 10 + k < 14 by omega); omega) (k_lt (m_neg (I5 23 0 k) h6))) (fun I7 => ?_)
      exact k_return C (E.to rfl (by first | (simp only [m_unl, m_unl1, h1, h6, ↓reduceIte]; done) | (simp only [m_unl, m_unl1, h1, h6, ↓reduceIte]; rfl) | contradiction | rfl)) d_Mo_unlock_49
set_option maxHeartbeats 4000000 in
set_option maxRecDepth 100000 in
theorem c_Mo_block (l : Launch) (G : kG) (K : kM) (x0 : Int32) (x1 : Int32) (g r : Nat) (e0 : x0 = nI g) (e1 : x1 = nI r) (I0 : m_Inv K) (hg : g < 6) (hr : r < 14) (ht : m_tot K ≤ 5) : k_Met l mS kT y_Mo_block b_Mo_block 3 none (k_rm 1) G [.ref (G.2.2 0 0), .int x0, .int x1] K none (m_blk K g r) := by
  subst e0
  subst e1
  refine k_intro (by decide +kernel) rfl (Nat.le_of_ble_eq_true rfl) ?_
  intro X C E
  refine k_aload_n C d_Mo_block_0 rfl ?_
  refine k_getr C d_Mo_block_1 fg_Mo_22 (by decide) rfl ?_
  refine k_iload_n C d_Mo_block_4 rfl ?_
  refine k_iconst C d_Mo_block_5 (v := 2) (by decide) ?_
  refine k_iastore C d_Mo_block_6 am_5 (by decide) (vp_in_nI (by omega) (by decide)) (nI_clamp (by omega)) I0 (trivial) (fun I1 => ?_)
  refine k_aload_n C d_Mo_block_7 rfl ?_
  refine k_iload_n C d_Mo_block_8 rfl ?_
  refine k_iload_n C d_Mo_block_9 rfl ?_
  refine k_callVv C kg_all (c_Mo_add l G _ _ _ r g rfl rfl I1 hr hg (by (repeat rw [mt_ne (by decide)]); first | assumption | omega)) cs_Mo_94 cv_Mo_add om_0 (by decide) rfl rfl (Nat.le_of_ble_eq_true rfl) ⟨rfl, rfl⟩ ⟨by decide, by decide⟩ ⟨Nat.zero_le _, Nat.zero_le _⟩ d_Mo_block_10 (iv_madd I1 (by (repeat rw [mt_ne (by decide)]); first | assumption | omega) hr hg) (fun I2 => ?_)
  exact k_return C (E.to rfl (by first | rfl | (simp only [m_blk, ↓reduceIte, Nat.reduceAdd]; done) | (simp only [m_blk, ↓reduceIte, Nat.reduceAdd]; rfl) | contradiction | (simp [m_blk, ↓reduceIte, Nat.reduceAdd]; done) | (simp [m_blk, ↓reduceIte, Nat.reduceAdd]; rfl))) d_Mo_block_13
end
section
set_option maxHeartbeats 4000000 in
set_option maxRecDepth 100000 in
theorem b_mdL {X : kX} {G : kG} {l : Launch} {K : kM} (C : k_C X kT b_Mo_die y_Mo_die.cls mS G 4 l (k_rm 3)) (g i : Nat) (hg : g < 6) (hi : i < 4) (ht : m_tot K ≤ 6) (I0 : m_Inv K) (k : m_Inv (m_dL1 K g i) → k_W X 0 0 35 [(3, .int (nI (i + 1))), (0, .ref (G.2.2 0 0)), (1, .int (nI g))] [] (m_dL1 K g i)) : k_W X 0 0 35 [(3, .int (nI i)), (0, .ref (G.2.2 0 0)), (1, .int (nI g))] [] K := by
  refine k_iload_n C d_Mo_die_35 rfl ?_
  refine k_iconst C d_Mo_die_36 (v := 4) (by decide) ?_
  refine k_icmp_ge C d_Mo_die_37 (tgt := 61) (by decide) (fun h1 => absurd h1 (nI_ge hi (by decide))) (fun h1 => ?_)
  refine k_aload_n C d_Mo_die_40 rfl ?_
  refine k_getr C d_Mo_die_41 fg_Mo_77 (by decide) rfl ?_
  refine k_iload_n C d_Mo_die_44 rfl ?_
  refine k_iaload C d_Mo_die_45 am_23 (by decide) (vp_in_nI (by omega) (by decide)) (nI_clamp (by omega)) ?_
  refine k_iload_n C d_Mo_die_46 rfl ?_
  refine k_icmp_ne C d_Mo_die_47 (tgt := 55) (by decide) (fun h2 => ?_) (fun h2 => ?_)
  · refine k_iinc C d_Mo_die_55 rfl (v := nI (i + 1)) (nI_1 i) (by decide) ?_
    refine k_goto C d_Mo_die_58 (tgt := 35) (by decide) ?_
    exact k_loc [(3, .int (nI (i + 1))), (0, .ref (G.2.2 0 0)), (1, .int (nI g))] ⟨rfl, rfl, rfl, trivial⟩ (k_mem (by first | rfl | (simp only [m_dL1, h2, ↓reduceIte]; done) | (simp only [m_dL1, h2, ↓reduceIte]; rfl) | (simp [m_dL1, h2]; done)) (k (j_dL1 I0 ht hi).1))
  · refine k_aload_n C d_Mo_die_50 rfl ?_
    refine k_iload_n C d_Mo_die_51 rfl ?_
    refine k_callVv C kg_all (c_Mo_unlock l G _ _ i rfl I0 hi ht) cs_Mo_113 cv_Mo_unlock om_0 (by decide) rfl rfl (Nat.le_of_ble_eq_true rfl) ⟨rfl, rfl⟩ ⟨by decide, by decide⟩ ⟨Nat.zero_le _, Nat.zero_le _⟩ d_Mo_die_52 (iv_munl I0 ht hi) (fun I3 => ?_)
    refine k_iinc C d_Mo_die_55 rfl (v := nI (i + 1)) (nI_1 i) (by decide) ?_
    refine k_goto C d_Mo_die_58 (tgt := 35) (by decide) ?_
    exact k_loc [(3, .int (nI (i + 1))), (0, .ref (G.2.2 0 0)), (1, .int (nI g))] ⟨rfl, rfl, rfl, trivial⟩ (k_mem (by first | rfl | (simp only [m_dL1, h2, ↓reduceIte]; done) | (simp only [m_dL1, h2, ↓reduceIte]; rfl) | (simp [m_dL1, h2]; done)) (k (j_dL1 I0 ht hi).1))
set_option maxHeartbeats 4000000 in
set_option maxRecDepth 100000 in
theorem b_mdC {X : kX} {G : kG} {l : Launch} {K : kM} (C : k_C X kT b_Mo_die y_Mo_die.cls mS G 4 l (k_rm 3)) (g i : Nat) (hg : g < 6) (hi : i < 6) (I0 : m_Inv K) (k : m_Inv (m_dC1 K g i) → k_W X 0 0 63 [(3, .int (nI (i + 1))), (0, .ref (G.2.2 0 0)), (1, .int (nI g))] [] (m_dC1 K g i)) : k_W X 0 0 63 [(3, .int (nI i)), (0, .ref (G.2.2 0 0)), (1, .int (nI g))] [] K := by
  refine k_iload_n C d_Mo_die_63 rfl ?_
  refine k_bipush C d_Mo_die_64 (v := 6) (by decide) ?_
  refine k_icmp_ge C d_Mo_die_66 (tgt := 121) (by decide) (fun h1 => absurd h1 (nI_ge hi (by decide))) (fun h1 => ?_)
  refine k_aload_n C d_Mo_die_69 rfl ?_
  refine k_getr C d_Mo_die_70 fg_Mo_22 (by decide) rfl ?_
  refine k_iload_n C d_Mo_die_73 rfl ?_
  refine k_iaload C d_Mo_die_74 am_5 (by decide) (vp_in_nI (by omega) (by decide)) (nI_clamp (by omega)) ?_
  refine k_if_lt C d_Mo_die_75 (tgt := 115) (by decide) (fun h2 => ?_) (fun h2 => ?_)
  · refine k_iinc C d_Mo_die_115 rfl (v := nI (i + 1)) (nI_1 i) (by decide) ?_
    refine k_goto C d_Mo_die_118 (tgt := 63) (by decide) ?_
    exact k_loc [(3, .int (nI (i + 1))), (0, .ref (G.2.2 0 0)), (1, .int (nI g))] ⟨rfl, rfl, rfl, trivial⟩ (k_mem (by first | rfl | (simp only [m_dC1, h2, ↓reduceIte]; done) | (simp only [m_dC1, h2, ↓reduceIte]; rfl) | (simp [m_dC1, h2]; done)) (k (iv_mdC1 I0)))
  · refine k_aload_n C d_Mo_die_78 rfl ?_
    refine k_getr C d_Mo_die_79 fg_Mo_40 (by decide) rfl ?_
    refine k_iload_n C d_Mo_die_82 rfl ?_
    refine k_iaload C d_Mo_die_83 am_11 (by decide) (vp_in_nI (by omega) (by decide)) (nI_clamp (by omega)) ?_
    refine k_iload_n C d_Mo_die_84 rfl ?_
    refine k_icmp_ne C d_Mo_die_85 (tgt := 115) (by decide) (fun h3 => ?_) (fun h3 => ?_)
    · refine k_iinc C d_Mo_die_115 rfl (v := nI (i + 1)) (nI_1 i) (by decide) ?_
      refine k_goto C d_Mo_die_118 (tgt := 63) (by decide) ?_
      exact k_loc [(3, .int (nI (i + 1))), (0, .ref (G.2.2 0 0)), (1, .int (nI g))] ⟨rfl, rfl, rfl, trivial⟩ (k_mem (by first | rfl | (simp only [m_dC1, h2, h3, ↓reduceIte]; done) | (simp only [m_dC1, h2, h3, ↓reduceIte]; rfl) | (simp [m_dC1, h2, h3]; done)) (k (iv_mdC1 I0)))
    · refine k_aload_n C d_Mo_die_88 rfl ?_
      refine k_getr C d_Mo_die_89 fg_Mo_40 (by decide) rfl ?_
      refine k_iload_n C d_Mo_die_92 rfl ?_
      refine k_aload_n C d_Mo_die_93 rfl ?_
      refine k_getr C d_Mo_die_94 fg_Mo_40 (by decide) rfl ?_
      refine k_iload_n C d_Mo_die_97 rfl ?_
      refine k_iaload C d_Mo_die_98 am_11 (by decide) (vp_in_nI (by omega) (by decide)) (nI_clamp (by omega)) ?_
      refine k_iastore C d_Mo_die_99 am_11 (by decide) (vp_in_nI (by omega) (by decide)) (nI_clamp (by omega)) I0 (trivial) (fun I4 => ?_)
      refine k_aload_n C d_Mo_die_100 rfl ?_
      refine k_getr C d_Mo_die_101 fg_Mo_31 (by decide) rfl ?_
      refine k_iload_n C d_Mo_die_104 rfl ?_
      refine k_dup2 C d_Mo_die_105 rfl rfl ?_
      refine k_iaload C d_Mo_die_106 am_8 (by decide) (vp_in_nI (by omega) (by decide)) (nI_clamp (by omega)) ?_
      refine k_aload_n C d_Mo_die_107 rfl ?_
      refine k_getr C d_Mo_die_108 fg_Mo_31 (by decide) rfl ?_
      refine k_iload_n C d_Mo_die_111 rfl ?_
      refine k_iaload C d_Mo_die_112 am_8 (by decide) (vp_in_nI (by omega) (by decide)) (nI_clamp (by omega)) ?_
      refine k_isub C d_Mo_die_113 ?_
      refine k_iastore C d_Mo_die_114 am_8 (by decide) (vp_in_nI (by omega) (by decide)) (nI_clamp (by omega)) I4 (trivial) (fun I5 => ?_)
      refine k_iinc C d_Mo_die_115 rfl (v := nI (i + 1)) (nI_1 i) (by decide) ?_
      refine k_goto C d_Mo_die_118 (tgt := 63) (by decide) ?_
      exact k_loc [(3, .int (nI (i + 1))), (0, .ref (G.2.2 0 0)), (1, .int (nI g))] ⟨rfl, rfl, rfl, trivial⟩ (k_mem (by first | rfl | (simp only [m_dC1, h2, h3, ↓reduceIte]; done) | (simp only [m_dC1, h2, h3, ↓reduceIte]; rfl) | (simp [m_dC1, h2, h3]; done)) (k (iv_mdC1 I0)))
set_option maxHeartbeats 4000000 in
set_option maxRecDepth 100000 in
theorem c_Mo_die (l : Launch) (G : kG) (K : kM) (x0 : Int32) (w : Int32) (g : Nat) (e0 : x0 = nI g) (I0 : m_Inv K) (hg : g < 6) (ht : m_tot K ≤ 6) : k_Met l mS kT y_Mo_die b_Mo_die 4 none (k_rm 3) G [.ref (G.2.2 0 0), .int x0, .int w] K none (m_die K g w) := by
  subst e0
  refine k_intro (by decide +kernel) rfl (Nat.le_of_ble_eq_true rfl) ?_
  intro X C E
  refine k_aload_n C d_Mo_die_0 rfl ?_
  refine k_getr C d_Mo_die_1 fg_Mo_22 (by decide) rfl ?_
  refine k_iload_n C d_Mo_die_4 rfl ?_
  refine k_iconst C d_Mo_die_5 (v := 3) (by decide) ?_
  refine k_iastore C d_Mo_die_6 am_5 (by decide) (vp_in_nI (by omega) (by decide)) (nI_clamp (by omega)) I0 (trivial) (fun I1 => ?_)
  refine k_aload_n C d_Mo_die_7 rfl ?_
  refine k_getr C d_Mo_die_8 fg_Mo_43 (by decide) rfl ?_
  refine k_iload_n C d_Mo_die_11 rfl ?_
  refine k_iload_n C d_Mo_die_12 rfl ?_
  refine k_iastore C d_Mo_die_13 am_12 (by decide) (vp_in_nI (by omega) (by decide)) (nI_clamp (by omega)) I1 (trivial) (fun I2 => ?_)
  refine k_iconst C d_Mo_die_14 (v := 0) (by decide) ?_
  refine k_istore_n C d_Mo_die_15 (by decide) ?_
  refine k_iload_n C d_Mo_die_16 rfl ?_
  refine k_iconst C d_Mo_die_17 (v := 4) (by decide) ?_
  refine k_icmp_ge C d_Mo_die_18 (tgt := 33) (by decide) (fun h => absurd h (by decide)) (fun _ => ?_)
  refine k_aload_n C d_Mo_die_21 rfl ?_
  refine k_iload_n C d_Mo_die_22 rfl ?_
  refine k_iload_n C d_Mo_die_23 rfl ?_
  refine k_callVv C kg_all (c_Mo_unmap l G _ _ _ g 0 rfl rfl I2 hg (by decide)) cs_Mo_110 cv_Mo_unmap om_0 (by decide) rfl rfl (Nat.le_of_ble_eq_true rfl) ⟨rfl, rfl⟩ ⟨by decide, by decide⟩ ⟨Nat.zero_le _, Nat.zero_le _⟩ d_Mo_die_24 (iv_munmap I2) (fun I3 => ?_)
  refine k_iinc C d_Mo_die_27 rfl (v := 1) (by decide) (by decide) ?_
  refine k_goto C d_Mo_die_30 (tgt := 16) (by decide) ?_
  refine k_iload_n C d_Mo_die_16 rfl ?_
  refine k_iconst C d_Mo_die_17 (v := 4) (by decide) ?_
  refine k_icmp_ge C d_Mo_die_18 (tgt := 33) (by decide) (fun h => absurd h (by decide)) (fun _ => ?_)
  refine k_aload_n C d_Mo_die_21 rfl ?_
  refine k_iload_n C d_Mo_die_22 rfl ?_
  refine k_iload_n C d_Mo_die_23 rfl ?_
  refine k_callVv C kg_all (c_Mo_unmap l G _ _ _ g 1 rfl rfl I3 hg (by decide)) cs_Mo_110 cv_Mo_unmap om_0 (by decide) rfl rfl (Nat.le_of_ble_eq_true rfl) ⟨rfl, rfl⟩ ⟨by decide, by decide⟩ ⟨Nat.zero_le _, Nat.zero_le _⟩ d_Mo_die_24 (iv_munmap I3) (fun I4 => ?_)
  refine k_iinc C d_Mo_die_27 rfl (v := 2) (by decide) (by decide) ?_
  refine k_goto C d_Mo_die_30 (tgt := 16) (by decide) ?_
  refine k_iload_n C d_Mo_die_16 rfl ?_
  refine k_iconst C d_Mo_die_17 (v := 4) (by decide) ?_
  refine k_icmp_ge C d_Mo_die_18 (tgt := 33) (by decide) (fun h => absurd h (by decide)) (fun _ => ?_)
  refine k_aload_n C d_Mo_die_21 rfl ?_
  refine k_iload_n C d_Mo_die_22 rfl ?_
  refine k_iload_n C d_Mo_die_23 rfl ?_
  refine k_callVv C kg_all (c_Mo_unmap l G _ _ _ g 2 rfl rfl I4 hg (by decide)) cs_Mo_110 cv_Mo_unmap om_0 (by decide) rfl rfl (Nat.le_of_ble_eq_true rfl) ⟨rfl, rfl⟩ ⟨by decide, by decide⟩ ⟨Nat.zero_le _, Nat.zero_le _⟩ d_Mo_die_24 (iv_munmap I4) (fun I5 => ?_)
  refine k_iinc C d_Mo_die_27 rfl (v := 3) (by decide) (by decide) ?_
  refine k_goto C d_Mo_die_30 (tgt := 16) (by decide) ?_
  refine k_iload_n C d_Mo_die_16 rfl ?_
  refine k_iconst C d_Mo_die_17 (v := 4) (by decide) ?_
  refine k_icmp_ge C d_Mo_die_18 (tgt := 33) (by decide) (fun h => absurd h (by decide)) (fun _ => ?_)
  refine k_aload_n C d_Mo_die_21 rfl ?_
  refine k_iload_n C d_Mo_die_22 rfl ?_
  refine k_iload_n C d_Mo_die_23 rfl ?_
  refine k_callVv C kg_all (c_Mo_unmap l G _ _ _ g 3 rfl rfl I5 hg (by decide)) cs_Mo_110 cv_Mo_unmap om_0 (by decide) rfl rfl (Nat.le_of_ble_eq_true rfl) ⟨rfl, rfl⟩ ⟨by decide, by decide⟩ ⟨Nat.zero_le _, Nat.zero_le _⟩ d_Mo_die_24 (iv_munmap I5) (fun I6 => ?_)
  refine k_iinc C d_Mo_die_27 rfl (v := 4) (by decide) (by decide) ?_
  refine k_goto C d_Mo_die_30 (tgt := 16) (by decide) ?_
  refine k_iload_n C d_Mo_die_16 rfl ?_
  refine k_iconst C d_Mo_die_17 (v := 4) (by decide) ?_
  refine k_icmp_ge C d_Mo_die_18 (tgt := 33) (by decide) (fun _ => ?_) (fun h => absurd h (by decide))
  refine k_iconst C d_Mo_die_33 (v := 0) (by decide) ?_
  refine k_istore_n C d_Mo_die_34 (by decide) ?_
  refine k_loc [(3, .int (nI 0)), (0, .ref (G.2.2 0 0)), (1, .int (nI g))] ⟨rfl, rfl, rfl, trivial⟩ ?_
  have J0 : m_Inv (m_dU (k_up (k_up K 5 0 g 3) 12 0 g w) g 4) := I6
  have t0 : m_tot (m_dU (k_up (k_up K 5 0 g 3) 12 0 g w) g 4) ≤ 6 := by rw [mt_dU, mt_ne (by decide), mt_ne (by decide)]; exact ht
  have t1 := Nat.le_trans (j_dL1 (g := g) J0 t0 (show 0 < 4 by decide)).2 t0
  refine b_mdL C g 0 hg (by decide) t0 J0 (fun J1 => ?_)
  have t2 := Nat.le_trans (j_dL1 (g := g) J1 t1 (show 1 < 4 by decide)).2 t1
  refine b_mdL C g 1 hg (by decide) t1 J1 (fun J2 => ?_)
  have t3 := Nat.le_trans (j_dL1 (g := g) J2 t2 (show 2 < 4 by decide)).2 t2
  refine b_mdL C g 2 hg (by decide) t2 J2 (fun J3 => ?_)
  have t4 := Nat.le_trans (j_dL1 (g := g) J3 t3 (show 3 < 4 by decide)).2 t3
  refine b_mdL C g 3 hg (by decide) t3 J3 (fun J4 => ?_)
  refine k_iload_n C d_Mo_die_35 rfl ?_
  refine k_iconst C d_Mo_die_36 (v := 4) (by decide) ?_
  refine k_icmp_ge C d_Mo_die_37 (tgt := 61) (by decide) (fun h21 => ?_) (fun h21 => absurd (by decide : (4 : Int32) ≤ nI 4) h21)
  refine k_iconst C d_Mo_die_61 (v := 0) (by decide) ?_
  refine k_istore_n C d_Mo_die_62 (by decide) ?_
  refine k_loc [(3, .int (nI 0)), (0, .ref (G.2.2 0 0)), (1, .int (nI g))] ⟨rfl, rfl, rfl, trivial⟩ ?_
  refine b_mdC C g 0 hg (by decide) J4 (fun J5 => ?_)
  refine b_mdC C g 1 hg (by decide) J5 (fun J6 => ?_)
  refine b_mdC C g 2 hg (by decide) J6 (fun J7 => ?_)
  refine b_mdC C g 3 hg (by decide) J7 (fun J8 => ?_)
  refine b_mdC C g 4 hg (by decide) J8 (fun J9 => ?_)
  refine b_mdC C g 5 hg (by decide) J9 (fun J10 => ?_)
  refine k_iload_n C d_Mo_die_63 rfl ?_
  refine k_bipush C d_Mo_die_64 (v := 6) (by decide) ?_
  refine k_icmp_ge C d_Mo_die_66 (tgt := 121) (by decide) (fun h41 => ?_) (fun h41 => absurd (by decide : (6 : Int32) ≤ nI 6) h41)
  refine k_aload_n C d_Mo_die_121 rfl ?_
  refine k_getr C d_Mo_die_122 fg_Mo_37 (by decide) rfl ?_
  refine k_iload_n C d_Mo_die_125 rfl ?_
  refine k_iconst C d_Mo_die_126 (v := 0) (by decide) ?_
  refine k_iastore C d_Mo_die_127 am_10 (by decide) (vp_in_nI (by omega) (by decide)) (nI_clamp (by omega)) J10 (trivial) (fun I42 => ?_)
  exact k_return C (E.to rfl (by first | rfl | (simp only [m_die, m_dL, m_dU, m_dC, ↓reduceIte, Nat.reduceAdd]; done) | (simp only [m_die, m_dL, m_dU, m_dC, ↓reduceIte, Nat.reduceAdd]; rfl) | contradiction | (simp [m_die, m_dL, m_dU, m_dC, ↓reduceIte, Nat.reduceAdd]; done) | (simp [m_die, m_dL, m_dU, m_dC, ↓reduceIte, Nat.reduceAdd]; rfl))) d_Mo_die_128
set_option maxHeartbeats 4000000 in
set_option maxRecDepth 100000 in
theorem c_Mo_trap (l : Launch) (G : kG) (K : kM) (x0 : Int32) (kd : Int32) (g : Nat) (e0 : x0 = nI g) (I0 : m_Inv K) (hg : g < 6) (ht : m_tot K ≤ 6) : k_Met l mS kT y_Mo_trap b_Mo_trap 3 none (k_rm 4) G [.ref (G.2.2 0 0), .int x0, .int kd] K none (m_trap K g kd) := by
  subst e0
  refine k_intro (by decide +kernel) rfl (Nat.le_of_ble_eq_true rfl) ?_
  intro X C E
  refine k_aload_n C d_Mo_trap_0 rfl ?_
  refine k_getr C d_Mo_trap_1 fg_Mo_46 (by decide) rfl ?_
  refine k_iload_n C d_Mo_trap_4 rfl ?_
  refine k_dup2 C d_Mo_trap_5 rfl rfl ?_
  refine k_iaload C d_Mo_trap_6 am_13 (by decide) (vp_in_nI (by omega) (by decide)) (nI_clamp (by omega)) ?_
  refine k_iconst C d_Mo_trap_7 (v := 1) (by decide) ?_
  refine k_iadd C d_Mo_trap_8 ?_
  refine k_iastore C d_Mo_trap_9 am_13 (by decide) (vp_in_nI (by omega) (by decide)) (nI_clamp (by omega)) I0 (trivial) (fun I1 => ?_)
  refine k_aload_n C d_Mo_trap_10 rfl ?_
  refine k_dup C d_Mo_trap_11 rfl ?_
  refine k_get C d_Mo_trap_12 fg_Mo_116 (by decide) rfl ?_
  refine k_iconst C d_Mo_trap_15 (v := 1) (by decide) ?_
  refine k_iadd C d_Mo_trap_16 ?_
  refine k_put C d_Mo_trap_17 fp_Mo_116 (by decide) rfl I1 (trivial) (fun I2 => ?_)
  refine k_aload_n C d_Mo_trap_20 rfl ?_
  refine k_getr C d_Mo_trap_21 fg_Mo_28 (by decide) rfl ?_
  refine k_iload_n C d_Mo_trap_24 rfl ?_
  refine k_iaload C d_Mo_trap_25 am_7 (by decide) (vp_in_nI (by omega) (by decide)) (nI_clamp (by omega)) ?_
  refine k_if_ge C d_Mo_trap_26 (tgt := 41) (by decide) (fun h3 => ?_) (fun h3 => ?_)
  · refine k_aload_n C d_Mo_trap_41 rfl ?_
    refine k_getr C d_Mo_trap_42 fg_Mo_52 (by decide) rfl ?_
    refine k_iload_n C d_Mo_trap_45 rfl ?_
    refine k_iconst C d_Mo_trap_46 (v := 4) (by decide) ?_
    refine k_imul C d_Mo_trap_47 ?_
    refine k_iconst C d_Mo_trap_48 (v := 3) (by decide) ?_
    refine k_iadd C d_Mo_trap_49 ?_
    refine k_iload_n C d_Mo_trap_50 rfl ?_
    refine k_iastore C d_Mo_trap_51 am_15 (by decide) (mx (g) 4 (3) 24 (by omega) (by decide)).1 (mx (g) 4 (3) 24 (by omega) (by decide)).2 I2 (trivial) (fun I4 => ?_)
    refine k_aload_n C d_Mo_trap_52 rfl ?_
    refine k_getr C d_Mo_trap_53 fg_Mo_25 (by decide) rfl ?_
    refine k_iload_n C d_Mo_trap_56 rfl ?_
    refine k_aload_n C d_Mo_trap_57 rfl ?_
    refine k_getr C d_Mo_trap_58 fg_Mo_28 (by decide) rfl ?_
    refine k_iload_n C d_Mo_trap_61 rfl ?_
    refine k_iaload C d_Mo_trap_62 am_7 (by decide) (vp_in_nI (by omega) (by decide)) (nI_clamp (by omega)) ?_
    refine k_iastore C d_Mo_trap_63 am_6 (by decide) (vp_in_nI (by omega) (by decide)) (nI_clamp (by omega)) I4 (m_neg32 (I4 7 0 g) h3) (fun I5 => ?_)
    refine k_aload_n C d_Mo_trap_64 rfl ?_
    refine k_getr C d_Mo_trap_65 fg_Mo_28 (by decide) rfl ?_
    refine k_iload_n C d_Mo_trap_68 rfl ?_
    refine k_iconst C d_Mo_trap_69 (v := (-1)) (by decide) ?_
    refine k_iastore C d_Mo_trap_70 am_7 (by decide) (vp_in_nI (by omega) (by decide)) (nI_clamp (by omega)) I5 (Or.inl rfl) (fun I6 => ?_)
    exact k_return C (E.to rfl (by first | (simp only [m_trap, m_tr2, h3, ↓reduceIte]; done) | (simp only [m_trap, m_tr2, h3, ↓reduceIte]; rfl) | contradiction | rfl)) d_Mo_trap_71
  · refine k_aload_n C d_Mo_trap_29 rfl ?_
    refine k_iload_n C d_Mo_trap_30 rfl ?_
    refine k_bipush C d_Mo_trap_31 (v := (-100)) (by decide) ?_
    refine k_iload_n C d_Mo_trap_33 rfl ?_
    refine k_isub C d_Mo_trap_34 ?_
    refine k_callVv C kg_all (c_Mo_die l G _ _ _ g rfl I2 hg (by (repeat rw [mt_ne (by decide)]); first | assumption | omega)) cs_Mo_119 cv_Mo_die om_0 (by decide) rfl rfl (Nat.le_of_ble_eq_true rfl) ⟨rfl, rfl⟩ ⟨by decide, by decide⟩ ⟨Nat.zero_le _, Nat.zero_le _⟩ d_Mo_trap_35 (j_die I2 (by (repeat rw [mt_ne (by decide)]); first | assumption | omega)).1 (fun I7 => ?_)
    refine k_goto C d_Mo_trap_38 (tgt := 71) (by decide) ?_
    exact k_return C (E.to rfl (by first | (simp only [m_trap, m_tr2, h3, ↓reduceIte]; done) | (simp only [m_trap, m_tr2, h3, ↓reduceIte]; rfl) | contradiction | rfl)) d_Mo_trap_71
set_option maxHeartbeats 4000000 in
set_option maxRecDepth 100000 in
theorem c_Mo_where (l : Launch) (G : kG) (K : kM) (x0 : Int32) (ad : Int32) (g : Nat) (e0 : x0 = nI g) (I0 : m_Inv K) (hg : g < 6) : k_Met l mS kT y_Mo_where b_Mo_where 4 (some .int) (k_rm 1) G [.ref (G.2.2 0 0), .int x0, .int ad] K (some (.int (m_wh K g ad))) (K) := by
  subst e0
  refine k_intro (by decide +kernel) rfl (Nat.le_of_ble_eq_true rfl) ?_
  intro X C E
  refine k_aload_n C d_Mo_where_0 rfl ?_
  refine k_iload_n C d_Mo_where_1 rfl ?_
  refine k_bipush C d_Mo_where_2 (v := 31) (by decide) ?_
  refine k_callVi C kg_all (c_Mo_no l G _ _ _ I0) cs_Mo_102 cv_Mo_no om_0 (by decide) rfl rfl (Nat.le_of_ble_eq_true rfl) ⟨rfl, rfl⟩ ⟨by decide, by decide⟩ ⟨Nat.zero_le _, Nat.zero_le _⟩ d_Mo_where_4 I0 (fun I1 => ?_)
  refine k_if_eq C d_Mo_where_7 (tgt := 13) (by decide) (fun h2 => ?_) (fun h2 => ?_)
  · refine k_aload_n C d_Mo_where_13 rfl ?_
    refine k_getr C d_Mo_where_14 fg_Mo_55 (by decide) rfl ?_
    refine k_iload_n C d_Mo_where_17 rfl ?_
    refine k_iconst C d_Mo_where_18 (v := 4) (by decide) ?_
    refine k_imul C d_Mo_where_19 ?_
    have hd := r_div8 (r_no (n := 31) (by decide) h2)
    have hq := k_lt hd
    refine k_iload_n C d_Mo_where_20 rfl ?_
    refine k_bipush C d_Mo_where_21 (v := 8) (by decide) ?_
    refine k_idiv C d_Mo_where_23 (by first | decide | assumption) ?_
    refine k_top (r_id hd (by decide)) ?_
    refine k_iadd C d_Mo_where_24 ?_
    refine k_iaload C d_Mo_where_25 am_16 (by decide) (mx (g) 4 ((ad / 8).toNatClampNeg) 24 (by omega) (by decide)).1 (mx (g) 4 ((ad / 8).toNatClampNeg) 24 (by omega) (by decide)).2 ?_
    refine k_istore_n C d_Mo_where_26 (by decide) ?_
    refine k_iload_n C d_Mo_where_27 rfl ?_
    refine k_if_ge C d_Mo_where_28 (tgt := 36) (by decide) (fun h3 => ?_) (fun h3 => ?_)
    · refine k_iload_n C d_Mo_where_36 rfl ?_
      refine k_bipush C d_Mo_where_37 (v := 8) (by decide) ?_
      refine k_imul C d_Mo_where_39 ?_
      refine k_iload_n C d_Mo_where_40 rfl ?_
      refine k_bipush C d_Mo_where_41 (v := 8) (by decide) ?_
      refine k_irem C d_Mo_where_43 (by first | decide | assumption) ?_
      refine k_iadd C d_Mo_where_44 ?_
      exact k_ireturn C (E.to (by first | (simp only [m_wh, h2, h3, ↓reduceIte]; done) | (simp only [m_wh, h2, h3, ↓reduceIte]; rfl) | contradiction | rfl) (by first | (simp only [m_wh, h2, h3, ↓reduceIte]; done) | (simp only [m_wh, h2, h3, ↓reduceIte]; rfl) | contradiction | rfl)) d_Mo_where_45
    · refine k_bipush C d_Mo_where_31 (v := (-3)) (by decide) ?_
      refine k_goto C d_Mo_where_33 (tgt := 45) (by decide) ?_
      exact k_ireturn C (E.to (by first | (simp only [m_wh, h2, h3, ↓reduceIte]; done) | (simp only [m_wh, h2, h3, ↓reduceIte]; rfl) | contradiction | rfl) (by first | (simp only [m_wh, h2, h3, ↓reduceIte]; done) | (simp only [m_wh, h2, h3, ↓reduceIte]; rfl) | contradiction | rfl)) d_Mo_where_45
  · refine k_bipush C d_Mo_where_10 (v := (-2)) (by decide) ?_
    exact k_ireturn C (E.to (by first | (simp only [m_wh, h2, ↓reduceIte]; done) | (simp only [m_wh, h2, ↓reduceIte]; rfl) | contradiction | rfl) (by first | (simp only [m_wh, h2, ↓reduceIte]; done) | (simp only [m_wh, h2, ↓reduceIte]; rfl) | contradiction | rfl)) d_Mo_where_12
set_option maxHeartbeats 4000000 in
set_option maxRecDepth 100000 in
theorem b_mmf {X : kX} {G : kG} {l : Launch} {K : kM} (C : k_C X kT b_Mo_map y_Mo_map.cls mS G 5 l (k_rm 0)) (g p : Nat) (I0 : m_Inv K) : ∀ (c i : Nat), c + i = 12 → k_W X 0 0 23 [(3, .int (nI (m_mf K c i))), (0, .ref (G.2.2 0 0)), (1, .int (nI g)), (2, .int (nI p))] [] K → k_W X 0 0 2 [(3, .int (nI i)), (0, .ref (G.2.2 0 0)), (1, .int (nI g)), (2, .int (nI p))] [] K
  | 0, i, hc, k => by
    have e : i = 12 := by omega
    subst e
    refine k_iload_n C d_Mo_map_2 rfl ?_
    refine k_bipush C d_Mo_map_3 (v := 12) (by decide) ?_
    refine k_icmp_ge C d_Mo_map_5 (tgt := 23) (by decide) (fun h1 => ?_) (fun h1 => absurd (by decide : (12 : Int32) ≤ nI 12) h1)
    exact k
  | c + 1, i, hc, k => by
    have hi : i < 12 := by omega
    refine k_iload_n C d_Mo_map_2 rfl ?_
    refine k_bipush C d_Mo_map_3 (v := 12) (by decide) ?_
    refine k_icmp_ge C d_Mo_map_5 (tgt := 23) (by decide) (fun h1 => absurd h1 (nI_ge hi (by decide))) (fun h1 => ?_)
    refine k_aload_n C d_Mo_map_8 rfl ?_
    refine k_getr C d_Mo_map_9 fg_Mo_61 (by decide) rfl ?_
    refine k_iload_n C d_Mo_map_12 rfl ?_
    refine k_zaload C d_Mo_map_13 am_18 (by decide) (vp_in_nI (by omega) (by decide)) (nI_clamp (by omega)) ?_
    refine k_if_eq C d_Mo_map_14 (tgt := 23) (by decide) (fun h2 => ?_) (fun h2 => ?_)
    · rw [show m_mf K (c + 1) i = i by simp only [m_mf, h2, ↓reduceIte]] at k; exact k
    · refine k_iinc C d_Mo_map_17 rfl (v := nI (i + 1)) (nI_1 i) (by decide) ?_
      refine k_goto C d_Mo_map_20 (tgt := 2) (by decide) ?_
      rw [show m_mf K (c + 1) i = m_mf K c (i + 1) by simp only [m_mf, h2, ↓reduceIte]] at k; exact k_loc [(3, .int (nI (i + 1))), (0, .ref (G.2.2 0 0)), (1, .int (nI g)), (2, .int (nI p))] ⟨rfl, rfl, rfl, rfl, trivial⟩ (b_mmf C g p I0 c (i + 1) (by omega) k)
set_option maxHeartbeats 4000000 in
set_option maxRecDepth 100000 in
theorem b_mpt {X : kX} {G : kG} {l : Launch} {K : kM} (C : k_C X kT b_Mo_map y_Mo_map.cls mS G 5 l (k_rm 0)) (g p f : Nat) (hg : g < 6) (hp : p < 4) (hf : f ≤ 12) (I0 : m_Inv K) (E : k_E X (some .int) (some (.int (m_mpX K g p f))) (m_mpT K g p f) 0 0) : k_W X 0 0 23 [(3, .int (nI f)), (0, .ref (G.2.2 0 0)), (1, .int (nI g)), (2, .int (nI p))] [] K := by
  refine k_aload_n C d_Mo_map_23 rfl ?_
  refine k_getr C d_Mo_map_24 fg_Mo_55 (by decide) rfl ?_
  refine k_iload_n C d_Mo_map_27 rfl ?_
  refine k_iconst C d_Mo_map_28 (v := 4) (by decide) ?_
  refine k_imul C d_Mo_map_29 ?_
  refine k_iload_n C d_Mo_map_30 rfl ?_
  refine k_iadd C d_Mo_map_31 ?_
  refine k_iaload C d_Mo_map_32 am_16 (by decide) (mx (g) 4 (p) 24 (by omega) (by decide)).1 (mx (g) 4 (p) 24 (by omega) (by decide)).2 ?_
  refine k_if_ge C d_Mo_map_33 (tgt := 64) (by decide) (fun h1 => ?_) (fun h1 => ?_)
  · refine k_iconst C d_Mo_map_64 (v := 0) (by decide) ?_
    exact k_ireturn C (E.to (by first | (simp only [m_mpX, m_mpT, m_map1, m_clr, h1, ↓reduceIte]; done) | (simp only [m_mpX, m_mpT, m_map1, m_clr, h1, ↓reduceIte]; rfl) | contradiction | rfl) (by first | (simp only [m_mpX, m_mpT, m_map1, m_clr, h1, ↓reduceIte]; done) | (simp only [m_mpX, m_mpT, m_map1, m_clr, h1, ↓reduceIte]; rfl) | contradiction | rfl)) d_Mo_map_65
  · refine k_aload_n C d_Mo_map_36 rfl ?_
    refine k_getr C d_Mo_map_37 fg_Mo_34 (by decide) rfl ?_
    refine k_iload_n C d_Mo_map_40 rfl ?_
    refine k_iaload C d_Mo_map_41 am_9 (by decide) (vp_in_nI (by omega) (by decide)) (nI_clamp (by omega)) ?_
    refine k_aload_n C d_Mo_map_42 rfl ?_
    refine k_getr C d_Mo_map_43 fg_Mo_37 (by decide) rfl ?_
    refine k_iload_n C d_Mo_map_46 rfl ?_
    refine k_iaload C d_Mo_map_47 am_10 (by decide) (vp_in_nI (by omega) (by decide)) (nI_clamp (by omega)) ?_
    refine k_iadd C d_Mo_map_48 ?_
    refine k_aload_n C d_Mo_map_49 rfl ?_
    refine k_getr C d_Mo_map_50 fg_Mo_31 (by decide) rfl ?_
    refine k_iload_n C d_Mo_map_53 rfl ?_
    refine k_iaload C d_Mo_map_54 am_8 (by decide) (vp_in_nI (by omega) (by decide)) (nI_clamp (by omega)) ?_
    refine k_icmp_ge C d_Mo_map_55 (tgt := 64) (by decide) (fun h2 => ?_) (fun h2 => ?_)
    · refine k_iconst C d_Mo_map_64 (v := 0) (by decide) ?_
      exact k_ireturn C (E.to (by first | (simp only [m_mpX, m_mpT, m_map1, m_clr, h1, h2, ↓reduceIte]; done) | (simp only [m_mpX, m_mpT, m_map1, m_clr, h1, h2, ↓reduceIte]; rfl) | contradiction | rfl) (by first | (simp only [m_mpX, m_mpT, m_map1, m_clr, h1, h2, ↓reduceIte]; done) | (simp only [m_mpX, m_mpT, m_map1, m_clr, h1, h2, ↓reduceIte]; rfl) | contradiction | rfl)) d_Mo_map_65
    · refine k_iload_n C d_Mo_map_58 rfl ?_
      refine k_bipush C d_Mo_map_59 (v := 12) (by decide) ?_
      refine k_icmp_ne C d_Mo_map_61 (tgt := 66) (by decide) (fun h3 => ?_) (fun h3 => ?_)
      · have hf2 : f < 12 := m_fin (n := 12) (by decide) hf ‹_›
        refine k_aload_n C d_Mo_map_66 rfl ?_
        refine k_getr C d_Mo_map_67 fg_Mo_61 (by decide) rfl ?_
        refine k_iload_n C d_Mo_map_70 rfl ?_
        refine k_iconst C d_Mo_map_71 (v := 1) (by decide) ?_
        refine k_zastore C d_Mo_map_72 am_18 (by decide) (vp_in_nI (by omega) (by decide)) (nI_clamp (by omega)) (by first | rfl | decide) I0 (trivial) (fun I4 => ?_)
        refine k_iconst C d_Mo_map_73 (v := 0) (by decide) ?_
        refine k_istore C d_Mo_map_74 (by decide) ?_
        refine k_iload C d_Mo_map_76 rfl ?_
        refine k_bipush C d_Mo_map_78 (v := 8) (by decide) ?_
        refine k_icmp_ge C d_Mo_map_80 (tgt := 102) (by decide) (fun h => absurd h (by decide)) (fun _ => ?_)
        refine k_aload_n C d_Mo_map_83 rfl ?_
        refine k_getr C d_Mo_map_84 fg_Mo_58 (by decide) rfl ?_
        refine k_iload_n C d_Mo_map_87 rfl ?_
        refine k_bipush C d_Mo_map_88 (v := 8) (by decide) ?_
        refine k_imul C d_Mo_map_90 ?_
        refine k_iload C d_Mo_map_91 rfl ?_
        refine k_iadd C d_Mo_map_93 ?_
        refine k_iconst C d_Mo_map_94 (v := 0) (by decide) ?_
        refine k_iastore C d_Mo_map_95 am_17 (by decide) (mx (f) 8 (0) 96 (by omega) (by decide)).1 (mx (f) 8 (0) 96 (by omega) (by decide)).2 I4 (trivial) (fun I5 => ?_)
        refine k_iinc C d_Mo_map_96 rfl (v := 1) (by decide) (by decide) ?_
        refine k_goto C d_Mo_map_99 (tgt := 76) (by decide) ?_
        refine k_iload C d_Mo_map_76 rfl ?_
        refine k_bipush C d_Mo_map_78 (v := 8) (by decide) ?_
        refine k_icmp_ge C d_Mo_map_80 (tgt := 102) (by decide) (fun h => absurd h (by decide)) (fun _ => ?_)
        refine k_aload_n C d_Mo_map_83 rfl ?_
        refine k_getr C d_Mo_map_84 fg_Mo_58 (by decide) rfl ?_
        refine k_iload_n C d_Mo_map_87 rfl ?_
        refine k_bipush C d_Mo_map_88 (v := 8) (by decide) ?_
        refine k_imul C d_Mo_map_90 ?_
        refine k_iload C d_Mo_map_91 rfl ?_
        refine k_iadd C d_Mo_map_93 ?_
        refine k_iconst C d_Mo_map_94 (v := 0) (by decide) ?_
        refine k_iastore C d_Mo_map_95 am_17 (by decide) (mx (f) 8 (1) 96 (by omega) (by decide)).1 (mx (f) 8 (1) 96 (by omega) (by decide)).2 I5 (trivial) (fun I6 => ?_)
        refine k_iinc C d_Mo_map_96 rfl (v := 2) (by decide) (by decide) ?_
        refine k_goto C d_Mo_map_99 (tgt := 76) (by decide) ?_
        refine k_iload C d_Mo_map_76 rfl ?_
        refine k_bipush C d_Mo_map_78 (v := 8) (by decide) ?_
        refine k_icmp_ge C d_Mo_map_80 (tgt := 102) (by decide) (fun h => absurd h (by decide)) (fun _ => ?_)
        refine k_aload_n C d_Mo_map_83 rfl ?_
        refine k_getr C d_Mo_map_84 fg_Mo_58 (by decide) rfl ?_
        refine k_iload_n C d_Mo_map_87 rfl ?_
        refine k_bipush C d_Mo_map_88 (v := 8) (by decide) ?_
        refine k_imul C d_Mo_map_90 ?_
        refine k_iload C d_Mo_map_91 rfl ?_
        refine k_iadd C d_Mo_map_93 ?_
        refine k_iconst C d_Mo_map_94 (v := 0) (by decide) ?_
        refine k_iastore C d_Mo_map_95 am_17 (by decide) (mx (f) 8 (2) 96 (by omega) (by decide)).1 (mx (f) 8 (2) 96 (by omega) (by decide)).2 I6 (trivial) (fun I7 => ?_)
        refine k_iinc C d_Mo_map_96 rfl (v := 3) (by decide) (by decide) ?_
        refine k_goto C d_Mo_map_99 (tgt := 76) (by decide) ?_
        refine k_iload C d_Mo_map_76 rfl ?_
        refine k_bipush C d_Mo_map_78 (v := 8) (by decide) ?_
        refine k_icmp_ge C d_Mo_map_80 (tgt := 102) (by decide) (fun h => absurd h (by decide)) (fun _ => ?_)
        refine k_aload_n C d_Mo_map_83 rfl ?_
        refine k_getr C d_Mo_map_84 fg_Mo_58 (by decide) rfl ?_
        refine k_iload_n C d_Mo_map_87 rfl ?_
        refine k_bipush C d_Mo_map_88 (v := 8) (by decide) ?_
        refine k_imul C d_Mo_map_90 ?_
        refine k_iload C d_Mo_map_91 rfl ?_
        refine k_iadd C d_Mo_map_93 ?_
        refine k_iconst C d_Mo_map_94 (v := 0) (by decide) ?_
        refine k_iastore C d_Mo_map_95 am_17 (by decide) (mx (f) 8 (3) 96 (by omega) (by decide)).1 (mx (f) 8 (3) 96 (by omega) (by decide)).2 I7 (trivial) (fun I8 => ?_)
        refine k_iinc C d_Mo_map_96 rfl (v := 4) (by decide) (by decide) ?_
        refine k_goto C d_Mo_map_99 (tgt := 76) (by decide) ?_
        refine k_iload C d_Mo_map_76 rfl ?_
        refine k_bipush C d_Mo_map_78 (v := 8) (by decide) ?_
        refine k_icmp_ge C d_Mo_map_80 (tgt := 102) (by decide) (fun h => absurd h (by decide)) (fun _ => ?_)
        refine k_aload_n C d_Mo_map_83 rfl ?_
        refine k_getr C d_Mo_map_84 fg_Mo_58 (by decide) rfl ?_
        refine k_iload_n C d_Mo_map_87 rfl ?_
        refine k_bipush C d_Mo_map_88 (v := 8) (by decide) ?_
        refine k_imul C d_Mo_map_90 ?_
        refine k_iload C d_Mo_map_91 rfl ?_
        refine k_iadd C d_Mo_map_93 ?_
        refine k_iconst C d_Mo_map_94 (v := 0) (by decide) ?_
        refine k_iastore C d_Mo_map_95 am_17 (by decide) (mx (f) 8 (4) 96 (by omega) (by decide)).1 (mx (f) 8 (4) 96 (by omega) (by decide)).2 I8 (trivial) (fun I9 => ?_)
        refine k_iinc C d_Mo_map_96 rfl (v := 5) (by decide) (by decide) ?_
        refine k_goto C d_Mo_map_99 (tgt := 76) (by decide) ?_
        refine k_iload C d_Mo_map_76 rfl ?_
        refine k_bipush C d_Mo_map_78 (v := 8) (by decide) ?_
        refine k_icmp_ge C d_Mo_map_80 (tgt := 102) (by decide) (fun h => absurd h (by decide)) (fun _ => ?_)
        refine k_aload_n C d_Mo_map_83 rfl ?_
        refine k_getr C d_Mo_map_84 fg_Mo_58 (by decide) rfl ?_
        refine k_iload_n C d_Mo_map_87 rfl ?_
        refine k_bipush C d_Mo_map_88 (v := 8) (by decide) ?_
        refine k_imul C d_Mo_map_90 ?_
        refine k_iload C d_Mo_map_91 rfl ?_
        refine k_iadd C d_Mo_map_93 ?_
        refine k_iconst C d_Mo_map_94 (v := 0) (by decide) ?_
        refine k_iastore C d_Mo_map_95 am_17 (by decide) (mx (f) 8 (5) 96 (by omega) (by decide)).1 (mx (f) 8 (5) 96 (by omega) (by decide)).2 I9 (trivial) (fun I10 => ?_)
        refine k_iinc C d_Mo_map_96 rfl (v := 6) (by decide) (by decide) ?_
        refine k_goto C d_Mo_map_99 (tgt := 76) (by decide) ?_
        refine k_iload C d_Mo_map_76 rfl ?_
        refine k_bipush C d_Mo_map_78 (v := 8) (by decide) ?_
        refine k_icmp_ge C d_Mo_map_80 (tgt := 102) (by decide) (fun h => absurd h (by decide)) (fun _ => ?_)
        refine k_aload_n C d_Mo_map_83 rfl ?_
        refine k_getr C d_Mo_map_84 fg_Mo_58 (by decide) rfl ?_
        refine k_iload_n C d_Mo_map_87 rfl ?_
        refine k_bipush C d_Mo_map_88 (v := 8) (by decide) ?_
        refine k_imul C d_Mo_map_90 ?_
        refine k_iload C d_Mo_map_91 rfl ?_
        refine k_iadd C d_Mo_map_93 ?_
        refine k_iconst C d_Mo_map_94 (v := 0) (by decide) ?_
        refine k_iastore C d_Mo_map_95 am_17 (by decide) (mx (f) 8 (6) 96 (by omega) (by decide)).1 (mx (f) 8 (6) 96 (by omega) (by decide)).2 I10 (trivial) (fun I11 => ?_)
        refine k_iinc C d_Mo_map_96 rfl (v := 7) (by decide) (by decide) ?_
        refine k_goto C d_Mo_map_99 (tgt := 76) (by decide) ?_
        refine k_iload C d_Mo_map_76 rfl ?_
        refine k_bipush C d_Mo_map_78 (v := 8) (by decide) ?_
        refine k_icmp_ge C d_Mo_map_80 (tgt := 102) (by decide) (fun h => absurd h (by decide)) (fun _ => ?_)
        refine k_aload_n C d_Mo_map_83 rfl ?_
        refine k_getr C d_Mo_map_84 fg_Mo_58 (by decide) rfl ?_
        refine k_iload_n C d_Mo_map_87 rfl ?_
        refine k_bipush C d_Mo_map_88 (v := 8) (by decide) ?_
        refine k_imul C d_Mo_map_90 ?_
        refine k_iload C d_Mo_map_91 rfl ?_
        refine k_iadd C d_Mo_map_93 ?_
        refine k_iconst C d_Mo_map_94 (v := 0) (by decide) ?_
        refine k_iastore C d_Mo_map_95 am_17 (by decide) (mx (f) 8 (7) 96 (by omega) (by decide)).1 (mx (f) 8 (7) 96 (by omega) (by decide)).2 I11 (trivial) (fun I12 => ?_)
        refine k_iinc C d_Mo_map_96 rfl (v := 8) (by decide) (by decide) ?_
        refine k_goto C d_Mo_map_99 (tgt := 76) (by decide) ?_
        refine k_iload C d_Mo_map_76 rfl ?_
        refine k_bipush C d_Mo_map_78 (v := 8) (by decide) ?_
        refine k_icmp_ge C d_Mo_map_80 (tgt := 102) (by decide) (fun _ => ?_) (fun h => absurd h (by decide))
        refine k_aload_n C d_Mo_map_102 rfl ?_
        refine k_getr C d_Mo_map_103 fg_Mo_55 (by decide) rfl ?_
        refine k_iload_n C d_Mo_map_106 rfl ?_
        refine k_iconst C d_Mo_map_107 (v := 4) (by decide) ?_
        refine k_imul C d_Mo_map_108 ?_
        refine k_iload_n C d_Mo_map_109 rfl ?_
        refine k_iadd C d_Mo_map_110 ?_
        refine k_iload_n C d_Mo_map_111 rfl ?_
        refine k_iastore C d_Mo_map_112 am_16 (by decide) (mx (g) 4 (p) 24 (by omega) (by decide)).1 (mx (g) 4 (p) 24 (by omega) (by decide)).2 I12 (Or.inr (vp_in_nI hf2 (by decide))) (fun I13 => ?_)
        refine k_aload_n C d_Mo_map_113 rfl ?_
        refine k_getr C d_Mo_map_114 fg_Mo_34 (by decide) rfl ?_
        refine k_iload_n C d_Mo_map_117 rfl ?_
        refine k_dup2 C d_Mo_map_118 rfl rfl ?_
        refine k_iaload C d_Mo_map_119 am_9 (by decide) (vp_in_nI (by omega) (by decide)) (nI_clamp (by omega)) ?_
        refine k_iconst C d_Mo_map_120 (v := 1) (by decide) ?_
        refine k_iadd C d_Mo_map_121 ?_
        refine k_iastore C d_Mo_map_122 am_9 (by decide) (vp_in_nI (by omega) (by decide)) (nI_clamp (by omega)) I13 (trivial) (fun I14 => ?_)
        refine k_iconst C d_Mo_map_123 (v := 1) (by decide) ?_
        exact k_ireturn C (E.to (by first | (simp only [m_mpX, m_mpT, m_map1, m_clr, h1, h2, h3, ↓reduceIte]; done) | (simp only [m_mpX, m_mpT, m_map1, m_clr, h1, h2, h3, ↓reduceIte]; rfl) | contradiction | rfl) (by first | (simp only [m_mpX, m_mpT, m_map1, m_clr, h1, h2, h3, ↓reduceIte]; done) | (simp only [m_mpX, m_mpT, m_map1, m_clr, h1, h2, h3, ↓reduceIte]; rfl) | contradiction | rfl)) d_Mo_map_124
      · refine k_iconst C d_Mo_map_64 (v := 0) (by decide) ?_
        exact k_ireturn C (E.to (by first | (simp only [m_mpX, m_mpT, m_map1, m_clr, h1, h2, h3, ↓reduceIte]; done) | (simp only [m_mpX, m_mpT, m_map1, m_clr, h1, h2, h3, ↓reduceIte]; rfl) | contradiction | rfl) (by first | (simp only [m_mpX, m_mpT, m_map1, m_clr, h1, h2, h3, ↓reduceIte]; done) | (simp only [m_mpX, m_mpT, m_map1, m_clr, h1, h2, h3, ↓reduceIte]; rfl) | contradiction | rfl)) d_Mo_map_65
set_option maxHeartbeats 4000000 in
set_option maxRecDepth 100000 in
theorem c_Mo_map (l : Launch) (G : kG) (K : kM) (x0 : Int32) (x1 : Int32) (g p : Nat) (e0 : x0 = nI g) (e1 : x1 = nI p) (I0 : m_Inv K) (hg : g < 6) (hp : p < 4) : k_Met l mS kT y_Mo_map b_Mo_map 5 (some .int) (k_rm 0) G [.ref (G.2.2 0 0), .int x0, .int x1] K (some (.int (m_mapX K g p))) (m_mapT K g p) := by
  subst e0
  subst e1
  refine k_intro (by decide +kernel) rfl (Nat.le_of_ble_eq_true rfl) ?_
  intro X C E
  refine k_iconst C d_Mo_map_0 (v := 0) (by decide) ?_
  refine k_istore_n C d_Mo_map_1 (by decide) ?_
  exact k_loc [(3, .int (nI 0)), (0, .ref (G.2.2 0 0)), (1, .int (nI g)), (2, .int (nI p))] ⟨rfl, rfl, rfl, rfl, trivial⟩ (b_mmf C g p I0 12 0 rfl (b_mpt C g p _ hg hp (m_mfle 12 0) I0 E))
set_option maxHeartbeats 4000000 in
set_option maxRecDepth 100000 in
theorem b_msf {X : kX} {G : kG} {l : Launch} {K : kM} (C : k_C X kT b_Mo_spawn y_Mo_spawn.cls mS G 6 l (k_rm 3)) (g : Nat) (a q v : Int32) (I0 : m_Inv K) : ∀ (c i : Nat), c + i = 6 → k_W X 0 0 26 [(5, .int (nI (m_sf K c i))), (0, .ref (G.2.2 0 0)), (1, .int (nI g)), (2, .int a), (3, .int q), (4, .int v)] [] K → k_W X 0 0 3 [(5, .int (nI i)), (0, .ref (G.2.2 0 0)), (1, .int (nI g)), (2, .int a), (3, .int q), (4, .int v)] [] K
  | 0, i, hc, k => by
    have e : i = 6 := by omega
    subst e
    refine k_iload C d_Mo_spawn_3 rfl ?_
    refine k_bipush C d_Mo_spawn_5 (v := 6) (by decide) ?_
    refine k_icmp_ge C d_Mo_spawn_7 (tgt := 26) (by decide) (fun h1 => ?_) (fun h1 => absurd (by decide : (6 : Int32) ≤ nI 6) h1)
    exact k
  | c + 1, i, hc, k => by
    have hi : i < 6 := by omega
    refine k_iload C d_Mo_spawn_3 rfl ?_
    refine k_bipush C d_Mo_spawn_5 (v := 6) (by decide) ?_
    refine k_icmp_ge C d_Mo_spawn_7 (tgt := 26) (by decide) (fun h1 => absurd h1 (nI_ge hi (by decide))) (fun h1 => ?_)
    refine k_aload_n C d_Mo_spawn_10 rfl ?_
    refine k_getr C d_Mo_spawn_11 fg_Mo_22 (by decide) rfl ?_
    refine k_iload C d_Mo_spawn_14 rfl ?_
    refine k_iaload C d_Mo_spawn_16 am_5 (by decide) (vp_in_nI (by omega) (by decide)) (nI_clamp (by omega)) ?_
    refine k_if_lt C d_Mo_spawn_17 (tgt := 26) (by decide) (fun h2 => ?_) (fun h2 => ?_)
    · rw [show m_sf K (c + 1) i = i by simp only [m_sf, h2, ↓reduceIte]] at k; exact k
    · refine k_iinc C d_Mo_spawn_20 rfl (v := nI (i + 1)) (nI_1 i) (by decide) ?_
      refine k_goto C d_Mo_spawn_23 (tgt := 3) (by decide) ?_
      rw [show m_sf K (c + 1) i = m_sf K c (i + 1) by simp only [m_sf, h2, ↓reduceIte]] at k; exact k_loc [(5, .int (nI (i + 1))), (0, .ref (G.2.2 0 0)), (1, .int (nI g)), (2, .int a), (3, .int q), (4, .int v)] ⟨rfl, rfl, rfl, rfl, rfl, rfl, trivial⟩ (b_msf C g a q v I0 c (i + 1) (by omega) k)
set_option maxHeartbeats 4000000 in
set_option maxRecDepth 100000 in
theorem b_msq {X : kX} {G : kG} {l : Launch} {K : kM} (C : k_C X kT b_Mo_spawn y_Mo_spawn.cls mS G 6 l (k_rm 3)) (g : Nat) (a q v : Int32) (c : Nat) (hg : g < 6) (hc : c ≤ 6) (ht : m_tot K ≤ 5) (ha : vp_in a 32) (I0 : m_Inv K) (E : k_E X (some .int) (some (.int (m_sqX K g q c))) (m_sqT K g a q v c) 0 0) : k_W X 0 0 26 [(5, .int (nI c)), (0, .ref (G.2.2 0 0)), (1, .int (nI g)), (2, .int a), (3, .int q), (4, .int v)] [] K := by
  refine k_iload_n C d_Mo_spawn_26 rfl ?_
  refine k_if_lt C d_Mo_spawn_27 (tgt := 61) (by decide) (fun h1 => ?_) (fun h1 => ?_)
  · refine k_iconst C d_Mo_spawn_61 (v := (-1)) (by decide) ?_
    exact k_ireturn C (E.to (by first | (simp only [m_sqX, m_sqT, m_sp1, h1, ↓reduceIte]; done) | (simp only [m_sqX, m_sqT, m_sp1, h1, ↓reduceIte]; rfl) | contradiction | rfl) (by first | (simp only [m_sqX, m_sqT, m_sp1, h1, ↓reduceIte]; done) | (simp only [m_sqX, m_sqT, m_sp1, h1, ↓reduceIte]; rfl) | contradiction | rfl)) d_Mo_spawn_62
  · refine k_iload_n C d_Mo_spawn_30 rfl ?_
    refine k_aload_n C d_Mo_spawn_31 rfl ?_
    refine k_getr C d_Mo_spawn_32 fg_Mo_31 (by decide) rfl ?_
    refine k_iload_n C d_Mo_spawn_35 rfl ?_
    refine k_iaload C d_Mo_spawn_36 am_8 (by decide) (vp_in_nI (by omega) (by decide)) (nI_clamp (by omega)) ?_
    refine k_aload_n C d_Mo_spawn_37 rfl ?_
    refine k_getr C d_Mo_spawn_38 fg_Mo_34 (by decide) rfl ?_
    refine k_iload_n C d_Mo_spawn_41 rfl ?_
    refine k_iaload C d_Mo_spawn_42 am_9 (by decide) (vp_in_nI (by omega) (by decide)) (nI_clamp (by omega)) ?_
    refine k_isub C d_Mo_spawn_43 ?_
    refine k_aload_n C d_Mo_spawn_44 rfl ?_
    refine k_getr C d_Mo_spawn_45 fg_Mo_37 (by decide) rfl ?_
    refine k_iload_n C d_Mo_spawn_48 rfl ?_
    refine k_iaload C d_Mo_spawn_49 am_10 (by decide) (vp_in_nI (by omega) (by decide)) (nI_clamp (by omega)) ?_
    refine k_isub C d_Mo_spawn_50 ?_
    refine k_icmp_gt C d_Mo_spawn_51 (tgt := 61) (by decide) (fun h2 => ?_) (fun h2 => ?_)
    · refine k_iconst C d_Mo_spawn_61 (v := (-1)) (by decide) ?_
      exact k_ireturn C (E.to (by first | (simp only [m_sqX, m_sqT, m_sp1, h1, h2, ↓reduceIte]; done) | (simp only [m_sqX, m_sqT, m_sp1, h1, h2, ↓reduceIte]; rfl) | contradiction | rfl) (by first | (simp only [m_sqX, m_sqT, m_sp1, h1, h2, ↓reduceIte]; done) | (simp only [m_sqX, m_sqT, m_sp1, h1, h2, ↓reduceIte]; rfl) | contradiction | rfl)) d_Mo_spawn_62
    · refine k_iload C d_Mo_spawn_54 rfl ?_
      refine k_bipush C d_Mo_spawn_56 (v := 6) (by decide) ?_
      refine k_icmp_ne C d_Mo_spawn_58 (tgt := 63) (by decide) (fun h3 => ?_) (fun h3 => ?_)
      · have hc2 : c < 6 := m_fin (n := 6) (by decide) hc ‹_›
        refine k_aload_n C d_Mo_spawn_63 rfl ?_
        refine k_getr C d_Mo_spawn_64 fg_Mo_37 (by decide) rfl ?_
        refine k_iload_n C d_Mo_spawn_67 rfl ?_
        refine k_dup2 C d_Mo_spawn_68 rfl rfl ?_
        refine k_iaload C d_Mo_spawn_69 am_10 (by decide) (vp_in_nI (by omega) (by decide)) (nI_clamp (by omega)) ?_
        refine k_iload_n C d_Mo_spawn_70 rfl ?_
        refine k_iadd C d_Mo_spawn_71 ?_
        refine k_iastore C d_Mo_spawn_72 am_10 (by decide) (vp_in_nI (by omega) (by decide)) (nI_clamp (by omega)) I0 (trivial) (fun I4 => ?_)
        refine k_aload_n C d_Mo_spawn_73 rfl ?_
        refine k_iload C d_Mo_spawn_74 rfl ?_
        refine k_iload_n C d_Mo_spawn_76 rfl ?_
        refine k_iload_n C d_Mo_spawn_77 rfl ?_
        refine k_iload_n C d_Mo_spawn_78 rfl ?_
        refine k_callVv C kg_all (c_Mo_begin l G _ _ _ _ _ c rfl I4 hc2 (by (repeat rw [mt_ne (by decide)]); first | assumption | omega) ha) cs_Mo_86 cv_Mo_begin om_0 (by decide) rfl rfl (Nat.le_of_ble_eq_true rfl) ⟨rfl, rfl⟩ ⟨by decide, by decide⟩ ⟨Nat.zero_le _, Nat.zero_le _⟩ d_Mo_spawn_79 (iv_mbegin I4 (by (repeat rw [mt_ne (by decide)]); first | assumption | omega) hc2 ha) (fun I5 => ?_)
        refine k_aload_n C d_Mo_spawn_82 rfl ?_
        refine k_getr C d_Mo_spawn_83 fg_Mo_52 (by decide) rfl ?_
        refine k_iload C d_Mo_spawn_86 rfl ?_
        refine k_iconst C d_Mo_spawn_88 (v := 4) (by decide) ?_
        refine k_imul C d_Mo_spawn_89 ?_
        refine k_iload C d_Mo_spawn_90 rfl ?_
        refine k_iastore C d_Mo_spawn_92 am_15 (by decide) (mxp (c) 4 24 (by omega) (by decide)).1 (mxp (c) 4 24 (by omega) (by decide)).2 I5 (trivial) (fun I6 => ?_)
        refine k_aload_n C d_Mo_spawn_93 rfl ?_
        refine k_dup C d_Mo_spawn_94 rfl ?_
        refine k_get C d_Mo_spawn_95 fg_Mo_122 (by decide) rfl ?_
        refine k_iconst C d_Mo_spawn_98 (v := 1) (by decide) ?_
        refine k_iadd C d_Mo_spawn_99 ?_
        refine k_put C d_Mo_spawn_100 fp_Mo_122 (by decide) rfl I6 (trivial) (fun I7 => ?_)
        refine k_iload C d_Mo_spawn_103 rfl ?_
        exact k_ireturn C (E.to (by first | (simp only [m_sqX, m_sqT, m_sp1, h1, h2, h3, ↓reduceIte]; done) | (simp only [m_sqX, m_sqT, m_sp1, h1, h2, h3, ↓reduceIte]; rfl) | contradiction | rfl) (by first | (simp only [m_sqX, m_sqT, m_sp1, h1, h2, h3, ↓reduceIte]; done) | (simp only [m_sqX, m_sqT, m_sp1, h1, h2, h3, ↓reduceIte]; rfl) | contradiction | rfl)) d_Mo_spawn_105
      · refine k_iconst C d_Mo_spawn_61 (v := (-1)) (by decide) ?_
        exact k_ireturn C (E.to (by first | (simp only [m_sqX, m_sqT, m_sp1, h1, h2, h3, ↓reduceIte]; done) | (simp only [m_sqX, m_sqT, m_sp1, h1, h2, h3, ↓reduceIte]; rfl) | contradiction | rfl) (by first | (simp only [m_sqX, m_sqT, m_sp1, h1, h2, h3, ↓reduceIte]; done) | (simp only [m_sqX, m_sqT, m_sp1, h1, h2, h3, ↓reduceIte]; rfl) | contradiction | rfl)) d_Mo_spawn_62
set_option maxHeartbeats 4000000 in
set_option maxRecDepth 100000 in
theorem c_Mo_spawn (l : Launch) (G : kG) (K : kM) (x0 : Int32) (a : Int32) (q : Int32) (v : Int32) (g : Nat) (e0 : x0 = nI g) (I0 : m_Inv K) (hg : g < 6) (ht : m_tot K ≤ 5) (ha : vp_in a 32) : k_Met l mS kT y_Mo_spawn b_Mo_spawn 6 (some .int) (k_rm 3) G [.ref (G.2.2 0 0), .int x0, .int a, .int q, .int v] K (some (.int (m_spX K g q))) (m_spT K g a q v) := by
  subst e0
  refine k_intro (by decide +kernel) rfl (Nat.le_of_ble_eq_true rfl) ?_
  intro X C E
  refine k_iconst C d_Mo_spawn_0 (v := 0) (by decide) ?_
  refine k_istore C d_Mo_spawn_1 (by decide) ?_
  exact k_loc [(5, .int (nI 0)), (0, .ref (G.2.2 0 0)), (1, .int (nI g)), (2, .int a), (3, .int q), (4, .int v)] ⟨rfl, rfl, rfl, rfl, rfl, rfl, trivial⟩ (b_msf C g a q v I0 6 0 rfl (b_msq C g a q v _ hg (m_sfle 6 0) ht ha I0 E))
set_option maxHeartbeats 4000000 in
set_option maxRecDepth 100000 in
theorem b_mrp {X : kX} {G : kG} {l : Launch} {K : kM} (C : k_C X kT b_Mo_reap y_Mo_reap.cls mS G 3 l (k_rm 0)) (g : Nat) (hg : g < 6) : ∀ (c i : Nat), c + i = 6 → m_Inv K → k_E X (some .int) (some (.int (m_rpX K g c i))) (m_rpT K g c i) 0 0 → k_W X 0 0 2 [(2, .int (nI i)), (0, .ref (G.2.2 0 0)), (1, .int (nI g))] [] K
  | 0, i, hc, I0, E => by
    have e : i = 6 := by omega
    subst e
    refine k_iload_n C d_Mo_reap_2 rfl ?_
    refine k_bipush C d_Mo_reap_3 (v := 6) (by decide) ?_
    refine k_icmp_ge C d_Mo_reap_5 (tgt := 68) (by decide) (fun h1 => ?_) (fun h1 => absurd (by decide : (6 : Int32) ≤ nI 6) h1)
    refine k_iconst C d_Mo_reap_68 (v := (-1)) (by decide) ?_
    exact k_ireturn C (E.to (by first | (simp only [m_rpX, m_rpT, ↓reduceIte]; done) | (simp only [m_rpX, m_rpT, ↓reduceIte]; rfl) | contradiction | rfl) (by first | (simp only [m_rpX, m_rpT, ↓reduceIte]; done) | (simp only [m_rpX, m_rpT, ↓reduceIte]; rfl) | contradiction | rfl)) d_Mo_reap_69
  | c + 1, i, hc, I0, E => by
    have hi : i < 6 := by omega
    refine k_iload_n C d_Mo_reap_2 rfl ?_
    refine k_bipush C d_Mo_reap_3 (v := 6) (by decide) ?_
    refine k_icmp_ge C d_Mo_reap_5 (tgt := 68) (by decide) (fun h1 => absurd h1 (nI_ge hi (by decide))) (fun h1 => ?_)
    refine k_aload_n C d_Mo_reap_8 rfl ?_
    refine k_getr C d_Mo_reap_9 fg_Mo_22 (by decide) rfl ?_
    refine k_iload_n C d_Mo_reap_12 rfl ?_
    refine k_iaload C d_Mo_reap_13 am_5 (by decide) (vp_in_nI (by omega) (by decide)) (nI_clamp (by omega)) ?_
    refine k_iconst C d_Mo_reap_14 (v := 3) (by decide) ?_
    refine k_icmp_ne C d_Mo_reap_15 (tgt := 62) (by decide) (fun h2 => ?_) (fun h2 => ?_)
    · refine k_iinc C d_Mo_reap_62 rfl (v := nI (i + 1)) (nI_1 i) (by decide) ?_
      refine k_goto C d_Mo_reap_65 (tgt := 2) (by decide) ?_
      exact k_loc [(2, .int (nI (i + 1))), (0, .ref (G.2.2 0 0)), (1, .int (nI g))] ⟨rfl, rfl, rfl, trivial⟩ (b_mrp C g hg c (i + 1) (by omega) I0 (E.to (by simp only [m_rpX, h2, ↓reduceIte]) (by simp only [m_rpT, h2, ↓reduceIte])))
    · refine k_aload_n C d_Mo_reap_18 rfl ?_
      refine k_getr C d_Mo_reap_19 fg_Mo_40 (by decide) rfl ?_
      refine k_iload_n C d_Mo_reap_22 rfl ?_
      refine k_iaload C d_Mo_reap_23 am_11 (by decide) (vp_in_nI (by omega) (by decide)) (nI_clamp (by omega)) ?_
      refine k_iload_n C d_Mo_reap_24 rfl ?_
      refine k_icmp_ne C d_Mo_reap_25 (tgt := 62) (by decide) (fun h3 => ?_) (fun h3 => ?_)
      · refine k_iinc C d_Mo_reap_62 rfl (v := nI (i + 1)) (nI_1 i) (by decide) ?_
        refine k_goto C d_Mo_reap_65 (tgt := 2) (by decide) ?_
        exact k_loc [(2, .int (nI (i + 1))), (0, .ref (G.2.2 0 0)), (1, .int (nI g))] ⟨rfl, rfl, rfl, trivial⟩ (b_mrp C g hg c (i + 1) (by omega) I0 (E.to (by simp only [m_rpX, h2, h3, ↓reduceIte]) (by simp only [m_rpT, h2, h3, ↓reduceIte])))
      · refine k_aload_n C d_Mo_reap_28 rfl ?_
        refine k_getr C d_Mo_reap_29 fg_Mo_22 (by decide) rfl ?_
        refine k_iload_n C d_Mo_reap_32 rfl ?_
        refine k_iconst C d_Mo_reap_33 (v := (-1)) (by decide) ?_
        refine k_iastore C d_Mo_reap_34 am_5 (by decide) (vp_in_nI (by omega) (by decide)) (nI_clamp (by omega)) I0 (trivial) (fun I4 => ?_)
        refine k_aload_n C d_Mo_reap_35 rfl ?_
        refine k_getr C d_Mo_reap_36 fg_Mo_37 (by decide) rfl ?_
        refine k_iload_n C d_Mo_reap_39 rfl ?_
        refine k_dup2 C d_Mo_reap_40 rfl rfl ?_
        refine k_iaload C d_Mo_reap_41 am_10 (by decide) (vp_in_nI (by omega) (by decide)) (nI_clamp (by omega)) ?_
        refine k_aload_n C d_Mo_reap_42 rfl ?_
        refine k_getr C d_Mo_reap_43 fg_Mo_31 (by decide) rfl ?_
        refine k_iload_n C d_Mo_reap_46 rfl ?_
        refine k_iaload C d_Mo_reap_47 am_8 (by decide) (vp_in_nI (by omega) (by decide)) (nI_clamp (by omega)) ?_
        refine k_isub C d_Mo_reap_48 ?_
        refine k_iastore C d_Mo_reap_49 am_10 (by decide) (vp_in_nI (by omega) (by decide)) (nI_clamp (by omega)) I4 (trivial) (fun I5 => ?_)
        refine k_aload_n C d_Mo_reap_50 rfl ?_
        refine k_dup C d_Mo_reap_51 rfl ?_
        refine k_get C d_Mo_reap_52 fg_Mo_125 (by decide) rfl ?_
        refine k_iconst C d_Mo_reap_55 (v := 1) (by decide) ?_
        refine k_iadd C d_Mo_reap_56 ?_
        refine k_put C d_Mo_reap_57 fp_Mo_125 (by decide) rfl I5 (trivial) (fun I6 => ?_)
        refine k_iload_n C d_Mo_reap_60 rfl ?_
        exact k_ireturn C (E.to (by first | (simp only [m_rpX, m_rpT, m_rp1, h2, h3, ↓reduceIte]; done) | (simp only [m_rpX, m_rpT, m_rp1, h2, h3, ↓reduceIte]; rfl) | contradiction | rfl) (by first | (simp only [m_rpX, m_rpT, m_rp1, h2, h3, ↓reduceIte]; done) | (simp only [m_rpX, m_rpT, m_rp1, h2, h3, ↓reduceIte]; rfl) | contradiction | rfl)) d_Mo_reap_61
set_option maxHeartbeats 4000000 in
set_option maxRecDepth 100000 in
theorem c_Mo_reap (l : Launch) (G : kG) (K : kM) (x0 : Int32) (g : Nat) (e0 : x0 = nI g) (I0 : m_Inv K) (hg : g < 6) : k_Met l mS kT y_Mo_reap b_Mo_reap 3 (some .int) (k_rm 0) G [.ref (G.2.2 0 0), .int x0] K (some (.int (m_rpX K g 6 0))) (m_rpT K g 6 0) := by
  subst e0
  refine k_intro (by decide +kernel) rfl (Nat.le_of_ble_eq_true rfl) ?_
  intro X C E
  refine k_iconst C d_Mo_reap_0 (v := 0) (by decide) ?_
  refine k_istore_n C d_Mo_reap_1 (by decide) ?_
  exact k_loc [(2, .int (nI 0)), (0, .ref (G.2.2 0 0)), (1, .int (nI g))] ⟨rfl, rfl, rfl, trivial⟩ (b_mrp C g hg 6 0 rfl I0 E)
set_option maxHeartbeats 4000000 in
set_option maxRecDepth 100000 in
theorem c_Mo_send (l : Launch) (G : kG) (K : kM) (x0 : Int32) (x1 : Int32) (v : Int32) (g k : Nat) (e0 : x0 = nI g) (e1 : x1 = nI k) (I0 : m_Inv K) (hg : g < 6) (hk : k < 4) (ht : m_tot K ≤ 5) (hcar : ¬ K 20 0 (6 + k) ≤ 0 → vp_in (m_tkT K (6 + k) 14 0 (m_tkX K (6 + k)).toNatClampNeg) 4) : k_Met l mS kT y_Mo_send b_Mo_send 5 none (k_rm 2) G [.ref (G.2.2 0 0), .int x0, .int x1, .int v] K none (m_snd K g k v) := by
  subst e0
  subst e1
  refine k_intro (by decide +kernel) rfl (Nat.le_of_ble_eq_true rfl) ?_
  intro X C E
  refine k_aload_n C d_Mo_send_0 rfl ?_
  refine k_getr C d_Mo_send_1 fg_Mo_74 (by decide) rfl ?_
  refine k_iload_n C d_Mo_send_4 rfl ?_
  refine k_iaload C d_Mo_send_5 am_22 (by decide) (vp_in_nI (by omega) (by decide)) (nI_clamp (by omega)) ?_
  refine k_if_ne C d_Mo_send_6 (tgt := 58) (by decide) (fun h1 => ?_) (fun h1 => ?_)
  · refine k_aload_n C d_Mo_send_58 rfl ?_
    refine k_getr C d_Mo_send_59 fg_Mo_74 (by decide) rfl ?_
    refine k_iload_n C d_Mo_send_62 rfl ?_
    refine k_iaload C d_Mo_send_63 am_22 (by decide) (vp_in_nI (by omega) (by decide)) (nI_clamp (by omega)) ?_
    refine k_iconst C d_Mo_send_64 (v := 2) (by decide) ?_
    refine k_icmp_ge C d_Mo_send_65 (tgt := 97) (by decide) (fun h2 => ?_) (fun h2 => ?_)
    · refine k_aload_n C d_Mo_send_97 rfl ?_
      refine k_getr C d_Mo_send_98 fg_Mo_49 (by decide) rfl ?_
      refine k_iload_n C d_Mo_send_101 rfl ?_
      refine k_iload_n C d_Mo_send_102 rfl ?_
      refine k_iastore C d_Mo_send_103 am_14 (by decide) (vp_in_nI (by omega) (by decide)) (nI_clamp (by omega)) I0 (trivial) (fun I3 => ?_)
      refine k_aload_n C d_Mo_send_104 rfl ?_
      refine k_iload_n C d_Mo_send_105 rfl ?_
      refine k_iconst C d_Mo_send_106 (v := 2) (by decide) ?_
      refine k_iload_n C d_Mo_send_107 rfl ?_
      refine k_iadd C d_Mo_send_108 ?_
      refine k_callVv C kg_all (c_Mo_block l G _ _ _ g (2 + k) rfl (nI_add 2 k) I3 hg (by omega) (by (repeat rw [mt_ne (by decide)]); first | assumption | omega)) cs_Mo_128 cv_Mo_block om_0 (by decide) rfl rfl (Nat.le_of_ble_eq_true rfl) ⟨rfl, rfl⟩ ⟨by decide, by decide⟩ ⟨Nat.zero_le _, Nat.zero_le _⟩ d_Mo_send_109 (iv_mblk I3 (by (repeat rw [mt_ne (by decide)]); first | assumption | omega) (by omega) hg) (fun I4 => ?_)
      exact k_return C (E.to rfl (by first | (simp only [m_snd, m_snd0, m_snd1, h1, h2, ↓reduceIte]; done) | (simp only [m_snd, m_snd0, m_snd1, h1, h2, ↓reduceIte]; rfl) | contradiction | rfl)) d_Mo_send_112
    · refine k_aload_n C d_Mo_send_68 rfl ?_
      refine k_getr C d_Mo_send_69 fg_Mo_71 (by decide) rfl ?_
      refine k_iload_n C d_Mo_send_72 rfl ?_
      refine k_iconst C d_Mo_send_73 (v := 2) (by decide) ?_
      refine k_imul C d_Mo_send_74 ?_
      refine k_aload_n C d_Mo_send_75 rfl ?_
      refine k_getr C d_Mo_send_76 fg_Mo_74 (by decide) rfl ?_
      refine k_iload_n C d_Mo_send_79 rfl ?_
      have hq3 := k_lt (r_h2 (I0 22 0 k) (by assumption))
      refine k_iaload C d_Mo_send_80 am_22 (by decide) (vp_in_nI (by omega) (by decide)) (nI_clamp (by omega)) ?_
      refine k_top (r_id (r_h2 (I0 22 0 k) (by assumption)) (by decide)) ?_
      refine k_iadd C d_Mo_send_81 ?_
      refine k_iload_n C d_Mo_send_82 rfl ?_
      refine k_iastore C d_Mo_send_83 am_21 (by decide) (mx (k) 2 ((K 22 0 k).toNatClampNeg) 8 (by omega) (by decide)).1 (mx (k) 2 ((K 22 0 k).toNatClampNeg) 8 (by omega) (by decide)).2 I0 (trivial) (fun I5 => ?_)
      refine k_aload_n C d_Mo_send_84 rfl ?_
      refine k_getr C d_Mo_send_85 fg_Mo_74 (by decide) rfl ?_
      refine k_iload_n C d_Mo_send_88 rfl ?_
      refine k_dup2 C d_Mo_send_89 rfl rfl ?_
      refine k_iaload C d_Mo_send_90 am_22 (by decide) (vp_in_nI (by omega) (by decide)) (nI_clamp (by omega)) ?_
      refine k_iconst C d_Mo_send_91 (v := 1) (by decide) ?_
      refine k_iadd C d_Mo_send_92 ?_
      refine k_iastore C d_Mo_send_93 am_22 (by decide) (vp_in_nI (by omega) (by decide)) (nI_clamp (by omega)) I5 (r_szp2 (r_h2 (I0 22 0 k) (by assumption))) (fun I6 => ?_)
      refine k_goto C d_Mo_send_94 (tgt := 112) (by decide) ?_
      exact k_return C (E.to rfl (by first | (simp only [m_snd, m_snd0, m_snd1, h1, h2, ↓reduceIte]; done) | (simp only [m_snd, m_snd0, m_snd1, h1, h2, ↓reduceIte]; rfl) | contradiction | rfl)) d_Mo_send_112
  · refine k_aload_n C d_Mo_send_9 rfl ?_
    refine k_getr C d_Mo_send_10 fg_Mo_68 (by decide) rfl ?_
    refine k_bipush C d_Mo_send_13 (v := 6) (by decide) ?_
    refine k_iload_n C d_Mo_send_15 rfl ?_
    refine k_iadd C d_Mo_send_16 ?_
    refine k_iaload C d_Mo_send_17 am_20 (by decide) (mt (6) (k) 14 (by omega) (by decide)).1 (mt (6) (k) 14 (by omega) (by decide)).2 ?_
    refine k_if_le C d_Mo_send_18 (tgt := 58) (by decide) (fun h7 => ?_) (fun h7 => ?_)
    · refine k_aload_n C d_Mo_send_58 rfl ?_
      refine k_getr C d_Mo_send_59 fg_Mo_74 (by decide) rfl ?_
      refine k_iload_n C d_Mo_send_62 rfl ?_
      refine k_iaload C d_Mo_send_63 am_22 (by decide) (vp_in_nI (by omega) (by decide)) (nI_clamp (by omega)) ?_
      refine k_iconst C d_Mo_send_64 (v := 2) (by decide) ?_
      refine k_icmp_ge C d_Mo_send_65 (tgt := 97) (by decide) (fun h8 => absurd (h1 ▸ h8 : (2 : Int32) ≤ 0) (by decide)) (fun h8 => ?_)
      refine k_aload_n C d_Mo_send_68 rfl ?_
      refine k_getr C d_Mo_send_69 fg_Mo_71 (by decide) rfl ?_
      refine k_iload_n C d_Mo_send_72 rfl ?_
      refine k_iconst C d_Mo_send_73 (v := 2) (by decide) ?_
      refine k_imul C d_Mo_send_74 ?_
      refine k_aload_n C d_Mo_send_75 rfl ?_
      refine k_getr C d_Mo_send_76 fg_Mo_74 (by decide) rfl ?_
      refine k_iload_n C d_Mo_send_79 rfl ?_
      have hq3 := k_lt (r_h2 (I0 22 0 k) (by assumption))
      refine k_iaload C d_Mo_send_80 am_22 (by decide) (vp_in_nI (by omega) (by decide)) (nI_clamp (by omega)) ?_
      refine k_top (r_id (r_h2 (I0 22 0 k) (by assumption)) (by decide)) ?_
      refine k_iadd C d_Mo_send_81 ?_
      refine k_iload_n C d_Mo_send_82 rfl ?_
      refine k_iastore C d_Mo_send_83 am_21 (by decide) (mx (k) 2 ((K 22 0 k).toNatClampNeg) 8 (by omega) (by decide)).1 (mx (k) 2 ((K 22 0 k).toNatClampNeg) 8 (by omega) (by decide)).2 I0 (trivial) (fun I9 => ?_)
      refine k_aload_n C d_Mo_send_84 rfl ?_
      refine k_getr C d_Mo_send_85 fg_Mo_74 (by decide) rfl ?_
      refine k_iload_n C d_Mo_send_88 rfl ?_
      refine k_dup2 C d_Mo_send_89 rfl rfl ?_
      refine k_iaload C d_Mo_send_90 am_22 (by decide) (vp_in_nI (by omega) (by decide)) (nI_clamp (by omega)) ?_
      refine k_iconst C d_Mo_send_91 (v := 1) (by decide) ?_
      refine k_iadd C d_Mo_send_92 ?_
      refine k_iastore C d_Mo_send_93 am_22 (by decide) (vp_in_nI (by omega) (by decide)) (nI_clamp (by omega)) I9 (r_szp2 (r_h2 (I0 22 0 k) (by assumption))) (fun I10 => ?_)
      refine k_goto C d_Mo_send_94 (tgt := 112) (by decide) ?_
      exact k_return C (E.to rfl (by first | (simp only [m_snd, m_snd0, m_snd1, h1, h7, ↓reduceIte]; done) | (simp only [m_snd, m_snd0, m_snd1, h1, h7, ↓reduceIte]; rfl) | contradiction | rfl)) d_Mo_send_112
    · refine k_aload_n C d_Mo_send_21 rfl ?_
      refine k_bipush C d_Mo_send_22 (v := 6) (by decide) ?_
      refine k_iload_n C d_Mo_send_24 rfl ?_
      refine k_iadd C d_Mo_send_25 ?_
      have hq1 := k_lt (r_tkX (6 + k) I0)
      have hq2 := k_lt (hcar h7)
      refine k_callVi C kg_all (c_Mo_take l G _ _ (6 + k) (nI_add 6 k) I0 (by omega) h7) cs_Mo_106 cv_Mo_take om_0 (by decide) rfl rfl (Nat.le_of_ble_eq_true rfl) ⟨rfl, rfl⟩ ⟨by decide, by decide⟩ ⟨Nat.zero_le _, Nat.zero_le _⟩ d_Mo_send_26 (iv_mtk I0 h7) (fun I11 => ?_)
      refine k_top (r_id (r_tkX (6 + k) I0) (by decide)) ?_
      refine k_istore C d_Mo_send_29 (by decide) ?_
      refine k_aload_n C d_Mo_send_31 rfl ?_
      refine k_getr C d_Mo_send_32 fg_Mo_52 (by decide) rfl ?_
      refine k_iload C d_Mo_send_35 rfl ?_
      refine k_iconst C d_Mo_send_37 (v := 4) (by decide) ?_
      refine k_imul C d_Mo_send_38 ?_
      refine k_aload_n C d_Mo_send_39 rfl ?_
      refine k_getr C d_Mo_send_40 fg_Mo_49 (by decide) rfl ?_
      refine k_iload C d_Mo_send_43 rfl ?_
      refine k_iaload C d_Mo_send_45 am_14 (by decide) (vp_in_nI (by omega) (by decide)) (nI_clamp (by omega)) ?_
      refine k_top (r_id (hcar h7) (by decide)) ?_
      refine k_iadd C d_Mo_send_46 ?_
      refine k_iload_n C d_Mo_send_47 rfl ?_
      refine k_iastore C d_Mo_send_48 am_15 (by decide) (mx ((m_tkX K (6 + k)).toNatClampNeg) 4 ((m_tkT K (6 + k) 14 0 (m_tkX K (6 + k)).toNatClampNeg).toNatClampNeg) 24 (by omega) (by decide)).1 (mx ((m_tkX K (6 + k)).toNatClampNeg) 4 ((m_tkT K (6 + k) 14 0 (m_tkX K (6 + k)).toNatClampNeg).toNatClampNeg) 24 (by omega) (by decide)).2 I11 (trivial) (fun I12 => ?_)
      refine k_aload_n C d_Mo_send_49 rfl ?_
      refine k_iload C d_Mo_send_50 rfl ?_
      refine k_callVv C kg_all (c_Mo_wake l G _ _ _ rfl I12 hq1 (by rw [mt_ne (by decide)]; have := mt_tk I0 h7 (show 6 + k < 14 by omega); omega)) cs_Mo_98 cv_Mo_wake om_0 (by decide) rfl rfl (Nat.le_of_ble_eq_true rfl) ⟨rfl, rfl⟩ ⟨by decide, by decide⟩ ⟨Nat.zero_le _, Nat.zero_le _⟩ d_Mo_send_52 (iv_mwake I12 (by rw [mt_ne (by decide)]; have := mt_tk I0 h7 (show 6 + k < 14 by omega); omega) hq1) (fun I13 => ?_)
      refine k_goto C d_Mo_send_55 (tgt := 112) (by decide) ?_
      exact k_return C (E.to rfl (by first | (simp only [m_snd, m_snd0, m_snd1, h1, h7, ↓reduceIte]; done) | (simp only [m_snd, m_snd0, m_snd1, h1, h7, ↓reduceIte]; rfl) | contradiction | rfl)) d_Mo_send_112
set_option maxHeartbeats 4000000 in
set_option maxRecDepth 100000 in
theorem c_Mo_receive (l : Launch) (G : kG) (K : kM) (x0 : Int32) (x1 : Int32) (x2 : Int32) (g k a : Nat) (e0 : x0 = nI g) (e1 : x1 = nI k) (e2 : x2 = nI a) (I0 : m_Inv K) (hg : g < 6) (hk : k < 4) (ha : a < 4) (ht : m_tot K ≤ 5) : k_Met l mS kT y_Mo_receive b_Mo_receive 5 none (k_rm 2) G [.ref (G.2.2 0 0), .int x0, .int x1, .int x2] K none (m_rcv K g k a) := by
  subst e0
  subst e1
  subst e2
  refine k_intro (by decide +kernel) rfl (Nat.le_of_ble_eq_true rfl) ?_
  intro X C E
  refine k_aload_n C d_Mo_receive_0 rfl ?_
  refine k_getr C d_Mo_receive_1 fg_Mo_74 (by decide) rfl ?_
  refine k_iload_n C d_Mo_receive_4 rfl ?_
  refine k_iaload C d_Mo_receive_5 am_22 (by decide) (vp_in_nI (by omega) (by decide)) (nI_clamp (by omega)) ?_
  refine k_if_ne C d_Mo_receive_6 (tgt := 26) (by decide) (fun h1 => ?_) (fun h1 => ?_)
  · refine k_aload_n C d_Mo_receive_26 rfl ?_
    refine k_getr C d_Mo_receive_27 fg_Mo_52 (by decide) rfl ?_
    refine k_iload_n C d_Mo_receive_30 rfl ?_
    refine k_iconst C d_Mo_receive_31 (v := 4) (by decide) ?_
    refine k_imul C d_Mo_receive_32 ?_
    refine k_iload_n C d_Mo_receive_33 rfl ?_
    refine k_iadd C d_Mo_receive_34 ?_
    refine k_aload_n C d_Mo_receive_35 rfl ?_
    refine k_getr C d_Mo_receive_36 fg_Mo_71 (by decide) rfl ?_
    refine k_iload_n C d_Mo_receive_39 rfl ?_
    refine k_iconst C d_Mo_receive_40 (v := 2) (by decide) ?_
    refine k_imul C d_Mo_receive_41 ?_
    refine k_iaload C d_Mo_receive_42 am_21 (by decide) (mxp (k) 2 8 (by omega) (by decide)).1 (mxp (k) 2 8 (by omega) (by decide)).2 ?_
    refine k_iastore C d_Mo_receive_43 am_15 (by decide) (mx (g) 4 (a) 24 (by omega) (by decide)).1 (mx (g) 4 (a) 24 (by omega) (by decide)).2 I0 (trivial) (fun I2 => ?_)
    refine k_aload_n C d_Mo_receive_44 rfl ?_
    refine k_getr C d_Mo_receive_45 fg_Mo_71 (by decide) rfl ?_
    refine k_iload_n C d_Mo_receive_48 rfl ?_
    refine k_iconst C d_Mo_receive_49 (v := 2) (by decide) ?_
    refine k_imul C d_Mo_receive_50 ?_
    refine k_aload_n C d_Mo_receive_51 rfl ?_
    refine k_getr C d_Mo_receive_52 fg_Mo_71 (by decide) rfl ?_
    refine k_iload_n C d_Mo_receive_55 rfl ?_
    refine k_iconst C d_Mo_receive_56 (v := 2) (by decide) ?_
    refine k_imul C d_Mo_receive_57 ?_
    refine k_iconst C d_Mo_receive_58 (v := 1) (by decide) ?_
    refine k_iadd C d_Mo_receive_59 ?_
    refine k_iaload C d_Mo_receive_60 am_21 (by decide) (mx (k) 2 (1) 8 (by omega) (by decide)).1 (mx (k) 2 (1) 8 (by omega) (by decide)).2 ?_
    refine k_iastore C d_Mo_receive_61 am_21 (by decide) (mxp (k) 2 8 (by omega) (by decide)).1 (mxp (k) 2 8 (by omega) (by decide)).2 I2 (trivial) (fun I3 => ?_)
    refine k_aload_n C d_Mo_receive_62 rfl ?_
    refine k_getr C d_Mo_receive_63 fg_Mo_74 (by decide) rfl ?_
    refine k_iload_n C d_Mo_receive_66 rfl ?_
    refine k_dup2 C d_Mo_receive_67 rfl rfl ?_
    refine k_iaload C d_Mo_receive_68 am_22 (by decide) (vp_in_nI (by omega) (by decide)) (nI_clamp (by omega)) ?_
    refine k_iconst C d_Mo_receive_69 (v := 1) (by decide) ?_
    refine k_isub C d_Mo_receive_70 ?_
    refine k_iastore C d_Mo_receive_71 am_22 (by decide) (vp_in_nI (by omega) (by decide)) (nI_clamp (by omega)) I3 (r_hm (I0 22 0 k) h1) (fun I4 => ?_)
    refine k_aload_n C d_Mo_receive_72 rfl ?_
    refine k_getr C d_Mo_receive_73 fg_Mo_74 (by decide) rfl ?_
    refine k_iload_n C d_Mo_receive_76 rfl ?_
    refine k_iaload C d_Mo_receive_77 am_22 (by decide) (vp_in_nI (by omega) (by decide)) (nI_clamp (by omega)) ?_
    refine k_iconst C d_Mo_receive_78 (v := 1) (by decide) ?_
    refine k_icmp_ne C d_Mo_receive_79 (tgt := 132) (by decide) (fun h5 => ?_) (fun h5 => ?_)
    · exact k_return C (E.to rfl (by first | (simp only [m_rcv, m_rc1, m_rc2, h1, h5, ↓reduceIte]; done) | (simp only [m_rcv, m_rc1, m_rc2, h1, h5, ↓reduceIte]; rfl) | contradiction | rfl)) d_Mo_receive_132
    · refine k_aload_n C d_Mo_receive_82 rfl ?_
      refine k_getr C d_Mo_receive_83 fg_Mo_68 (by decide) rfl ?_
      refine k_iconst C d_Mo_receive_86 (v := 2) (by decide) ?_
      refine k_iload_n C d_Mo_receive_87 rfl ?_
      refine k_iadd C d_Mo_receive_88 ?_
      refine k_iaload C d_Mo_receive_89 am_20 (by decide) (mt (2) (k) 14 (by omega) (by decide)).1 (mt (2) (k) 14 (by omega) (by decide)).2 ?_
      refine k_if_le C d_Mo_receive_90 (tgt := 132) (by decide) (fun h6 => ?_) (fun h6 => ?_)
      · exact k_return C (E.to rfl (by first | (simp only [m_rcv, m_rc1, m_rc2, h1, h5, h6, ↓reduceIte]; done) | (simp only [m_rcv, m_rc1, m_rc2, h1, h5, h6, ↓reduceIte]; rfl) | contradiction | rfl)) d_Mo_receive_132
      · refine k_mem (K' := m_rc1 K g k a) rfl ?_
        refine k_aload_n C d_Mo_receive_93 rfl ?_
        refine k_iconst C d_Mo_receive_94 (v := 2) (by decide) ?_
        refine k_iload_n C d_Mo_receive_95 rfl ?_
        refine k_iadd C d_Mo_receive_96 ?_
        have hI : m_Inv (m_rc1 K g k a) := I4
        have hx := r_tkX (2 + k) hI
        have hq := k_lt hx
        have e0 := mt_rc1 (K := K) (g := g) (k := k) (a := a)
        refine k_callVi C kg_all (c_Mo_take l G _ _ (2 + k) (nI_add 2 k) hI (by omega) h6) cs_Mo_106 cv_Mo_take om_0 (by decide) rfl rfl (Nat.le_of_ble_eq_true rfl) ⟨rfl, rfl⟩ ⟨by decide, by decide⟩ ⟨Nat.zero_le _, Nat.zero_le _⟩ d_Mo_receive_97 (iv_mtk hI h6) (fun I7 => ?_)
        refine k_top (r_id hx (by decide)) ?_
        refine k_istore C d_Mo_receive_100 (by decide) ?_
        refine k_aload_n C d_Mo_receive_102 rfl ?_
        refine k_getr C d_Mo_receive_103 fg_Mo_71 (by decide) rfl ?_
        refine k_iload_n C d_Mo_receive_106 rfl ?_
        refine k_iconst C d_Mo_receive_107 (v := 2) (by decide) ?_
        refine k_imul C d_Mo_receive_108 ?_
        refine k_iconst C d_Mo_receive_109 (v := 1) (by decide) ?_
        refine k_iadd C d_Mo_receive_110 ?_
        refine k_aload_n C d_Mo_receive_111 rfl ?_
        refine k_getr C d_Mo_receive_112 fg_Mo_49 (by decide) rfl ?_
        refine k_iload C d_Mo_receive_115 rfl ?_
        refine k_iaload C d_Mo_receive_117 am_14 (by decide) (vp_in_nI (by omega) (by decide)) (nI_clamp (by omega)) ?_
        refine k_iastore C d_Mo_receive_118 am_21 (by decide) (mx (k) 2 (1) 8 (by omega) (by decide)).1 (mx (k) 2 (1) 8 (by omega) (by decide)).2 I7 (trivial) (fun I8 => ?_)
        refine k_aload_n C d_Mo_receive_119 rfl ?_
        refine k_getr C d_Mo_receive_120 fg_Mo_74 (by decide) rfl ?_
        refine k_iload_n C d_Mo_receive_123 rfl ?_
        refine k_iconst C d_Mo_receive_124 (v := 2) (by decide) ?_
        refine k_iastore C d_Mo_receive_125 am_22 (by decide) (vp_in_nI (by omega) (by decide)) (nI_clamp (by omega)) I8 ((by decide : (0 : Int32) ≤ 2 ∧ (2 : Int32) ≤ 2)) (fun I9 => ?_)
        refine k_aload_n C d_Mo_receive_126 rfl ?_
        refine k_iload C d_Mo_receive_127 rfl ?_
        refine k_callVv C kg_all (c_Mo_wake l G _ _ _ rfl I9 hq (by rw [mt_ne (by decide), mt_ne (by decide)]; have := mt_tk hI h6 (show 2 + k < 14 by omega); omega)) cs_Mo_98 cv_Mo_wake om_0 (by decide) rfl rfl (Nat.le_of_ble_eq_true rfl) ⟨rfl, rfl⟩ ⟨by decide, by decide⟩ ⟨Nat.zero_le _, Nat.zero_le _⟩ d_Mo_receive_129 (iv_mwake I9 (by rw [mt_ne (by decide), mt_ne (by decide)]; have := mt_tk hI h6 (show 2 + k < 14 by omega); omega) hq) (fun I10 => ?_)
        exact k_return C (E.to rfl (by first | (simp only [m_rcv, m_rc1, m_rc2, h1, h5, h6, ↓reduceIte]; done) | (simp only [m_rcv, m_rc1, m_rc2, h1, h5, h6, ↓reduceIte]; rfl) | contradiction | rfl)) d_Mo_receive_132
  · refine k_aload_n C d_Mo_receive_9 rfl ?_
    refine k_getr C d_Mo_receive_10 fg_Mo_49 (by decide) rfl ?_
    refine k_iload_n C d_Mo_receive_13 rfl ?_
    refine k_iload_n C d_Mo_receive_14 rfl ?_
    refine k_iastore C d_Mo_receive_15 am_14 (by decide) (vp_in_nI (by omega) (by decide)) (nI_clamp (by omega)) I0 (trivial) (fun I11 => ?_)
    refine k_aload_n C d_Mo_receive_16 rfl ?_
    refine k_iload_n C d_Mo_receive_17 rfl ?_
    refine k_bipush C d_Mo_receive_18 (v := 6) (by decide) ?_
    refine k_iload_n C d_Mo_receive_20 rfl ?_
    refine k_iadd C d_Mo_receive_21 ?_
    refine k_callVv C kg_all (c_Mo_block l G _ _ _ g (6 + k) rfl (nI_add 6 k) I11 hg (by omega) (by (repeat rw [mt_ne (by decide)]); first | assumption | omega)) cs_Mo_128 cv_Mo_block om_0 (by decide) rfl rfl (Nat.le_of_ble_eq_true rfl) ⟨rfl, rfl⟩ ⟨by decide, by decide⟩ ⟨Nat.zero_le _, Nat.zero_le _⟩ d_Mo_receive_22 (iv_mblk I11 (by (repeat rw [mt_ne (by decide)]); first | assumption | omega) (by omega) hg) (fun I12 => ?_)
    exact k_return C (E.to rfl (by first | (simp only [m_rcv, m_rc1, m_rc2, h1, ↓reduceIte]; done) | (simp only [m_rcv, m_rc1, m_rc2, h1, ↓reduceIte]; rfl) | contradiction | rfl)) d_Mo_receive_25
end
section
/-! ===== the reference's instructions ===== -/
def m_car (K : kM) : Prop := ∀ k : Nat, k < 4 → ¬ K 20 0 (6 + k) ≤ 0 → vp_in (m_tkT K (6 + k) 14 0 (m_tkX K (6 + k)).toNatClampNeg) 4
def m_shX (K : kM) (g : Nat) (o : Int32) (n : Nat) : Int32 := if o = 16 then 0 else if o = 17 then 0 else if o = 19 then (if K 23 0 n = nI g then 0 else 5) else 0
def m_shT (K : kM) (g : Nat) (o : Int32) (a n : Nat) : kM := if o = 16 then m_snd K g n (K 15 0 (g * 4 + a)) else if o = 17 then m_rcv K g n a else if o = 19 then (if K 23 0 n = nI g then m_unl K n else K)
  else if 0 ≤ K 23 0 n then m_blk K g (10 + n) else k_up K 23 0 n (nI g)
def m_rpE (K : kM) (g b : Nat) (c : Int32) : kM := if c < 0 then K else k_up K 15 0 (g * 4 + b) (K 12 0 c.toNatClampNeg)
def m_pfT (K : kM) (g : Nat) (o : Int32) (a b : Nat) (n : Int32) : kM := match o.toNatClampNeg with
  | 1 => k_up K 15 0 (g * 4 + a) n
  | 2 => k_up K 15 0 (g * 4 + a) (K 15 0 (g * 4 + b) + n)
  | 3 => k_up K 15 0 (g * 4 + a) (K 15 0 (g * 4 + a) + K 15 0 (g * 4 + b))
  | 4 => k_up K 15 0 (g * 4 + a) (K 15 0 (g * 4 + a) - K 15 0 (g * 4 + b))
  | 5 => k_up K 15 0 (g * 4 + a) (K 15 0 (g * 4 + a) * K 15 0 (g * 4 + b))
  | 6 => if K 15 0 (g * 4 + b) = 0 then K else k_up K 15 0 (g * 4 + a) (K 15 0 (g * 4 + a) / K 15 0 (g * 4 + b))
  | 7 => if 0 ≤ m_wh K g (K 15 0 (g * 4 + b) + n) then k_up K 15 0 (g * 4 + a) (K 17 0 (m_wh K g (K 15 0 (g * 4 + b) + n)).toNatClampNeg) else K
  | 8 => if 0 ≤ m_wh K g (K 15 0 (g * 4 + b) + n) then k_up K 17 0 (m_wh K g (K 15 0 (g * 4 + b) + n)).toNatClampNeg (K 15 0 (g * 4 + a)) else K
  | 11 => k_up K 7 0 g (if 0 ≤ n then n &&& 31 else -1)
  | 13 => if m_no n 3 = 0 then k_up (m_mapT K g n.toNatClampNeg) 15 0 (g * 4 + a) (m_mapX K g n.toNatClampNeg) else K
  | 14 => if m_no n 3 = 0 then k_up (m_unmap K g n.toNatClampNeg) 15 0 (g * 4 + a) (if 0 ≤ K 16 0 (g * 4 + n.toNatClampNeg) then 1 else 0) else K
  | 15 => k_up (m_spT K g (n &&& 31) (K 15 0 (g * 4 + b)) (K 15 0 (g * 4 + a))) 15 0 (g * 4 + a) (m_spX K g (K 15 0 (g * 4 + b)))
  | 16 => if m_no n 3 = 0 then m_shT K g 16 a n.toNatClampNeg else K
  | 17 => if m_no n 3 = 0 then m_shT K g 17 a n.toNatClampNeg else K
  | 18 => if m_no n 3 = 0 then m_shT K g 18 a n.toNatClampNeg else K
  | 19 => if m_no n 3 = 0 then m_shT K g 19 a n.toNatClampNeg else K
  | 21 => m_rpE (k_up (m_rpT K g 6 0) 15 0 (g * 4 + a) (m_rpX K g 6 0)) g b (m_rpX K g 6 0)
  | _ => K
def m_pfX (K : kM) (g : Nat) (o : Int32) (b : Nat) (n : Int32) : Int32 := match o.toNatClampNeg with
  | 1 => 0
  | 2 => 0
  | 3 => 0
  | 4 => 0
  | 5 => 0
  | 6 => if K 15 0 (g * 4 + b) = 0 then 1 else 0
  | 7 => if 0 ≤ m_wh K g (K 15 0 (g * 4 + b) + n) then 0 else - m_wh K g (K 15 0 (g * 4 + b) + n)
  | 8 => if 0 ≤ m_wh K g (K 15 0 (g * 4 + b) + n) then 0 else - m_wh K g (K 15 0 (g * 4 + b) + n)
  | 11 => 0
  | 13 => if m_no n 3 = 0 then 0 else 4
  | 14 => if m_no n 3 = 0 then 0 else 4
  | 15 => 0
  | 16 => if m_no n 3 = 0 then m_shX K g 16 n.toNatClampNeg else 4
  | 17 => if m_no n 3 = 0 then m_shX K g 17 n.toNatClampNeg else 4
  | 18 => if m_no n 3 = 0 then m_shX K g 18 n.toNatClampNeg else 4
  | 19 => if m_no n 3 = 0 then m_shX K g 19 n.toNatClampNeg else 4
  | 21 => 0
  | _ => 0
theorem mpT_0 (K : kM) (g a b : Nat) (n : Int32) : m_pfT K g 0 a b n = (K) := rfl
theorem mpX_0 (K : kM) (g b : Nat) (n : Int32) : m_pfX K g 0 b n = (0) := rfl
theorem mpT_1 (K : kM) (g a b : Nat) (n : Int32) : m_pfT K g 1 a b n = (k_up K 15 0 (g * 4 + a) n) := rfl
theorem mpX_1 (K : kM) (g b : Nat) (n : Int32) : m_pfX K g 1 b n = (0) := rfl
theorem mpT_2 (K : kM) (g a b : Nat) (n : Int32) : m_pfT K g 2 a b n = (k_up K 15 0 (g * 4 + a) (K 15 0 (g * 4 + b) + n)) := rfl
theorem mpX_2 (K : kM) (g b : Nat) (n : Int32) : m_pfX K g 2 b n = (0) := rfl
theorem mpT_3 (K : kM) (g a b : Nat) (n : Int32) : m_pfT K g 3 a b n = (k_up K 15 0 (g * 4 + a) (K 15 0 (g * 4 + a) + K 15 0 (g * 4 + b))) := rfl
theorem mpX_3 (K : kM) (g b : Nat) (n : Int32) : m_pfX K g 3 b n = (0) := rfl
theorem mpT_4 (K : kM) (g a b : Nat) (n : Int32) : m_pfT K g 4 a b n = (k_up K 15 0 (g * 4 + a) (K 15 0 (g * 4 + a) - K 15 0 (g * 4 + b))) := rfl
theorem mpX_4 (K : kM) (g b : Nat) (n : Int32) : m_pfX K g 4 b n = (0) := rfl
theorem mpT_5 (K : kM) (g a b : Nat) (n : Int32) : m_pfT K g 5 a b n = (k_up K 15 0 (g * 4 + a) (K 15 0 (g * 4 + a) * K 15 0 (g * 4 + b))) := rfl
theorem mpX_5 (K : kM) (g b : Nat) (n : Int32) : m_pfX K g 5 b n = (0) := rfl
theorem mpT_6 (K : kM) (g a b : Nat) (n : Int32) : m_pfT K g 6 a b n = (if K 15 0 (g * 4 + b) = 0 then K else k_up K 15 0 (g * 4 + a) (K 15 0 (g * 4 + a) / K 15 0 (g * 4 + b))) := rfl
theorem mpX_6 (K : kM) (g b : Nat) (n : Int32) : m_pfX K g 6 b n = (if K 15 0 (g * 4 + b) = 0 then 1 else 0) := rfl
theorem mpT_7 (K : kM) (g a b : Nat) (n : Int32) : m_pfT K g 7 a b n = (if 0 ≤ m_wh K g (K 15 0 (g * 4 + b) + n) then k_up K 15 0 (g * 4 + a) (K 17 0 (m_wh K g (K 15 0 (g * 4 + b) + n)).toNatClampNeg) else K) := rfl
theorem mpX_7 (K : kM) (g b : Nat) (n : Int32) : m_pfX K g 7 b n = (if 0 ≤ m_wh K g (K 15 0 (g * 4 + b) + n) then 0 else - m_wh K g (K 15 0 (g * 4 + b) + n)) := rfl
theorem mpT_8 (K : kM) (g a b : Nat) (n : Int32) : m_pfT K g 8 a b n = (if 0 ≤ m_wh K g (K 15 0 (g * 4 + b) + n) then k_up K 17 0 (m_wh K g (K 15 0 (g * 4 + b) + n)).toNatClampNeg (K 15 0 (g * 4 + a)) else K) := rfl
theorem mpX_8 (K : kM) (g b : Nat) (n : Int32) : m_pfX K g 8 b n = (if 0 ≤ m_wh K g (K 15 0 (g * 4 + b) + n) then 0 else - m_wh K g (K 15 0 (g * 4 + b) + n)) := rfl
theorem mpT_9 (K : kM) (g a b : Nat) (n : Int32) : m_pfT K g 9 a b n = (K) := rfl
theorem mpX_9 (K : kM) (g b : Nat) (n : Int32) : m_pfX K g 9 b n = (0) := rfl
theorem mpT_10 (K : kM) (g a b : Nat) (n : Int32) : m_pfT K g 10 a b n = (K) := rfl
theorem mpX_10 (K : kM) (g b : Nat) (n : Int32) : m_pfX K g 10 b n = (0) := rfl
theorem mpT_11 (K : kM) (g a b : Nat) (n : Int32) : m_pfT K g 11 a b n = (k_up K 7 0 g (if 0 ≤ n then n &&& 31 else -1)) := rfl
theorem mpX_11 (K : kM) (g b : Nat) (n : Int32) : m_pfX K g 11 b n = (0) := rfl
theorem mpT_12 (K : kM) (g a b : Nat) (n : Int32) : m_pfT K g 12 a b n = (K) := rfl
theorem mpX_12 (K : kM) (g b : Nat) (n : Int32) : m_pfX K g 12 b n = (0) := rfl
theorem mpT_13 (K : kM) (g a b : Nat) (n : Int32) : m_pfT K g 13 a b n = (if m_no n 3 = 0 then k_up (m_mapT K g n.toNatClampNeg) 15 0 (g * 4 + a) (m_mapX K g n.toNatClampNeg) else K) := rfl
theorem mpX_13 (K : kM) (g b : Nat) (n : Int32) : m_pfX K g 13 b n = (if m_no n 3 = 0 then 0 else 4) := rfl
theorem mpT_14 (K : kM) (g a b : Nat) (n : Int32) : m_pfT K g 14 a b n = (if m_no n 3 = 0 then k_up (m_unmap K g n.toNatClampNeg) 15 0 (g * 4 + a) (if 0 ≤ K 16 0 (g * 4 + n.toNatClampNeg) then 1 else 0) else K) := rfl
theorem mpX_14 (K : kM) (g b : Nat) (n : Int32) : m_pfX K g 14 b n = (if m_no n 3 = 0 then 0 else 4) := rfl
theorem mpT_15 (K : kM) (g a b : Nat) (n : Int32) : m_pfT K g 15 a b n = (k_up (m_spT K g (n &&& 31) (K 15 0 (g * 4 + b)) (K 15 0 (g * 4 + a))) 15 0 (g * 4 + a) (m_spX K g (K 15 0 (g * 4 + b)))) := rfl
theorem mpX_15 (K : kM) (g b : Nat) (n : Int32) : m_pfX K g 15 b n = (0) := rfl
theorem mpT_16 (K : kM) (g a b : Nat) (n : Int32) : m_pfT K g 16 a b n = (if m_no n 3 = 0 then m_shT K g 16 a n.toNatClampNeg else K) := rfl
theorem mpX_16 (K : kM) (g b : Nat) (n : Int32) : m_pfX K g 16 b n = (if m_no n 3 = 0 then m_shX K g 16 n.toNatClampNeg else 4) := rfl
theorem mpT_17 (K : kM) (g a b : Nat) (n : Int32) : m_pfT K g 17 a b n = (if m_no n 3 = 0 then m_shT K g 17 a n.toNatClampNeg else K) := rfl
theorem mpX_17 (K : kM) (g b : Nat) (n : Int32) : m_pfX K g 17 b n = (if m_no n 3 = 0 then m_shX K g 17 n.toNatClampNeg else 4) := rfl
theorem mpT_18 (K : kM) (g a b : Nat) (n : Int32) : m_pfT K g 18 a b n = (if m_no n 3 = 0 then m_shT K g 18 a n.toNatClampNeg else K) := rfl
theorem mpX_18 (K : kM) (g b : Nat) (n : Int32) : m_pfX K g 18 b n = (if m_no n 3 = 0 then m_shX K g 18 n.toNatClampNeg else 4) := rfl
theorem mpT_19 (K : kM) (g a b : Nat) (n : Int32) : m_pfT K g 19 a b n = (if m_no n 3 = 0 then m_shT K g 19 a n.toNatClampNeg else K) := rfl
theorem mpX_19 (K : kM) (g b : Nat) (n : Int32) : m_pfX K g 19 b n = (if m_no n 3 = 0 then m_shX K g 19 n.toNatClampNeg else 4) := rfl
theorem mpT_20 (K : kM) (g a b : Nat) (n : Int32) : m_pfT K g 20 a b n = (K) := rfl
theorem mpX_20 (K : kM) (g b : Nat) (n : Int32) : m_pfX K g 20 b n = (0) := rfl
theorem mpT_21 (K : kM) (g a b : Nat) (n : Int32) : m_pfT K g 21 a b n = (m_rpE (k_up (m_rpT K g 6 0) 15 0 (g * 4 + a) (m_rpX K g 6 0)) g b (m_rpX K g 6 0)) := rfl
theorem mpX_21 (K : kM) (g b : Nat) (n : Int32) : m_pfX K g 21 b n = (0) := rfl
def m_st1 (K : kM) (p : Nat) : kM := k_up (k_up K 0 0 26 (K 0 0 26 + 1)) 25 0 p (k_up K 0 0 26 (K 0 0 26 + 1) 25 0 p - 1)
def m_jp (K : kM) (g : Nat) (o : Int32) (a b : Nat) : Int32 := if o = 9 then (if K 15 0 (g * 4 + a) < K 15 0 (g * 4 + b) then 1 else 0) else if o = 10 then (if K 15 0 (g * 4 + a) = 0 then 1 else 0) else 0
def m_st2 (K : kM) (g : Nat) (o : Int32) (a b : Nat) (n : Int32) (i : Nat) (j : Int32) : kM := if m_pfX K g o b n = 0 then
    k_up (m_pfT K g o a b n) 6 0 g (if j = 0 then (nI i + 1) &&& 31 else (m_pfT K g o a b n 4 0 i) &&& 31) else m_trap (m_pfT K g o a b n) g (m_pfX K g o b n)
def m_stD (K : kM) (g i : Nat) : kM := k_up K 6 0 g ((nI i + 1) &&& 31)
def m_stM (K : kM) (g i : Nat) (o : Int32) : kM := if o = 0 then m_die (m_stD K g i) g 0 else if o = 20 then m_die (m_stD K g i) g (m_stD K g i 15 0 (g * 4 + (K 2 0 i).toNatClampNeg))
  else m_st2 K g o (K 2 0 i).toNatClampNeg (K 3 0 i).toNatClampNeg (K 4 0 i) i (m_jp K g o (K 2 0 i).toNatClampNeg (K 3 0 i).toNatClampNeg)
def m_st4 (K : kM) (p g : Nat) : kM := if k_up K 24 0 p (-1) 5 0 g = 1 then m_wake (k_up K 24 0 p (-1)) g else k_up K 24 0 p (-1)
def m_st3 (K : kM) (p g : Nat) (o : Int32) : kM := if K 5 0 g = 1 then (if K 25 0 p ≤ 0 then m_st4 K p g else if o = 12 then m_st4 K p g else K) else m_st4 K p g
def m_hg (K : kM) (p : Nat) : Nat := (K 24 0 p).toNatClampNeg
def m_hi (K : kM) (p : Nat) : Nat := (K 6 0 (m_hg K p)).toNatClampNeg
def m_mid (K : kM) (p : Nat) : kM := m_stM (m_st1 K p) (m_hg K p) (m_hi K p) (K 1 0 (m_hi K p))
def m_step (K : kM) (p : Nat) : kM := m_st3 (m_mid K p) p (m_hg K p) (K 1 0 (m_hi K p))
def m_ch (K : kM) (p : Nat) : kM :=
  let K1 := k_up (m_tkT K p) 24 0 p (m_tkX K p)
  let K2 := k_up K1 5 0 (K1 24 0 p).toNatClampNeg 1
  let K3 := k_up K2 25 0 p 3
  k_up K3 0 0 31 (K3 0 0 31 + 1)
def m_tk (K : kM) (p : Nat) : kM := if 0 ≤ K 24 0 p then K else if K 20 0 p ≤ 0 then K else m_ch K p
def m_tu (K : kM) (p : Nat) : kM := if 0 ≤ K 24 0 p then m_step K p else k_up K 0 0 30 (K 0 0 30 + 1)
def m_turn (K : kM) (p : Nat) : kM := m_tu (m_tk K p) p
def m_tick (K : kM) : kM := m_turn (m_turn (k_up K 0 0 25 (K 0 0 25 + 1)) 0) 1
/-- what a step wants of the memory -/
def m_ok (K : kM) (p : Nat) : Prop := m_tot K ≤ 5 ∧ m_car (m_st1 K p) ∧ (m_mid K p 5 0 (m_hg K p) = 1 → m_tot (m_mid K p) ≤ 5)
def m_okU (K : kM) (p : Nat) : Prop := 0 ≤ m_tk K p 24 0 p → m_ok (m_tk K p) p
def m_okT (K : kM) : Prop := m_okU (k_up K 0 0 25 (K 0 0 25 + 1)) 0 ∧ m_okU (m_turn (k_up K 0 0 25 (K 0 0 25 + 1)) 0) 1
def m_mny (K : kM) (w : Int32) : Nat → Int32
  | 0 => 0
  | n + 1 => if K 5 0 n = w then m_mny K w n + 1 else m_mny K w n
def m_all (K : kM) : Int32 := m_mny K 0 6 + m_mny K 1 6 + m_mny K 2 6
def m_act (K : kM) : Int32 := m_mny K 0 6 + m_mny K 1 6
def m_rnT (K : kM) : Nat → kM
  | 0 => K
  | c + 1 => if m_all K ≤ 0 then K else if m_act K = 0 then k_up K 0 0 32 2 else m_rnT (m_tick K) c
def m_rnX (K : kM) : Nat → Nat → Int32
  | 0, k => nI k
  | c + 1, k => if m_all K ≤ 0 then nI k else if m_act K = 0 then 0 else m_rnX (m_tick K) c (k + 1)
def m_runT (K : kM) (n : Int32) : kM := if n < 1 then k_up K 0 0 32 1 else if n ≤ 300 then m_rnT (k_up K 0 0 32 0) n.toNatClampNeg else k_up K 0 0 32 1
def m_runX (K : kM) (n : Int32) : Int32 := if n < 1 then 0 else if n ≤ 300 then m_rnX (k_up K 0 0 32 0) n.toNatClampNeg 0 else 0
def m_gs (K : kM) (g bad : Int32) : Int32 := if m_no g 5 = 0 then (if bad = 0 then (if 0 ≤ K 5 0 g.toNatClampNeg then 0 else 2) else 1) else 1
def m_gT (K : kM) (g bad : Int32) : kM := k_up K 0 0 32 (m_gs K g bad)
def m_gX (K : kM) (g bad : Int32) : Int32 := if m_gs K g bad = 0 then 1 else 0
def m_no2 (a m b n : Int32) : Int32 := if m_no a m = 0 then (if m_no b n = 0 then 0 else 1) else 1
def m_regX (K : kM) (g r : Int32) : Int32 := if m_gX K g (m_no r 3) = 0 then 0 else K 15 0 (g.toNatClampNeg * 4 + r.toNatClampNeg)
def m_pagX (K : kM) (g r : Int32) : Int32 := if m_gX K g (m_no r 3) = 0 then 0 else K 16 0 (g.toNatClampNeg * 4 + r.toNatClampNeg)
def m_memX (K : kM) (f i : Int32) : Int32 := if m_no2 f 11 i 7 = 0 then K 17 0 (f.toNatClampNeg * 8 + i.toNatClampNeg) else 0
def m_telX (K : kM) (g w : Int32) : Int32 := if m_gX K g (m_no w 8) = 0 then 0 else match w.toNatClampNeg with
  | 0 => K 5 0 g.toNatClampNeg
  | 1 => K 6 0 g.toNatClampNeg
  | 2 => K 7 0 g.toNatClampNeg
  | 3 => K 8 0 g.toNatClampNeg
  | 4 => K 9 0 g.toNatClampNeg
  | 5 => K 10 0 g.toNatClampNeg
  | 6 => K 11 0 g.toNatClampNeg
  | 7 => K 12 0 g.toNatClampNeg
  | _ => K 13 0 g.toNatClampNeg
def m_objX (K : kM) (k w : Int32) : Int32 := if m_no2 k 3 w 4 = 0 then (match w.toNatClampNeg with
  | 0 => K 23 0 k.toNatClampNeg
  | 1 => K 20 0 (10 + k.toNatClampNeg)
  | 2 => K 22 0 k.toNatClampNeg
  | 3 => K 20 0 (2 + k.toNatClampNeg)
  | _ => K 20 0 (6 + k.toNatClampNeg)) else 0
def m_wriX (K : kM) (i w : Int32) : Int32 := if m_no2 i 31 w 3 = 0 then (if w = 0 then K 1 0 i.toNatClampNeg else if w = 1 then K 2 0 i.toNatClampNeg else if w = 2 then K 3 0 i.toNatClampNeg else K 4 0 i.toNatClampNeg) else 0
def m_th (K : kM) (x : Int32) : kM := k_up K 0 0 32 x
def m_fr (K : kM) : Nat → Int32
  | 0 => 0
  | n + 1 => if K 18 0 n = 0 then m_fr K n + 1 else m_fr K n
def m_cntX (K : kM) (w : Int32) : Int32 := if w = 0 then K 0 0 25 else if w = 1 then K 0 0 26 else if w = 2 then K 0 0 27 else if w = 3 then K 0 0 28 else if w = 4 then K 0 0 29 else if w = 5 then m_fr K 12 else if w = 6 then K 0 0 30 else if w = 7 then K 0 0 31
  else if w = 10 then K 24 0 0 else if w = 11 then K 24 0 1 else if w = 20 then K 20 0 0 else if w = 21 then K 20 0 1 else -2
def m_cdS (i o a b : Int32) : Int32 := if m_no i 31 = 0 then (if m_no o 21 = 0 then (if m_no a 3 = 0 then (if m_no b 3 = 0 then 0 else 1) else 1) else 1) else 1
def m_codT (K : kM) (i o a b n : Int32) : kM := if m_cdS i o a b = 0 then k_up (k_up (k_up (k_up (k_up K 0 0 32 0) 1 0 i.toNatClampNeg o) 2 0 i.toNatClampNeg a) 3 0 i.toNatClampNeg b) 4 0 i.toNatClampNeg n else k_up K 0 0 32 1
end
section
/-! ===== the reference's instructions keep the ranges ===== -/
theorem m_31 (t : Int32) : vp_in (t &&& 31) 32 := by
  rw [vp_in_iff]
  have h1 : (t &&& 31).toInt = (t.toBitVec &&& 31#32).toInt := rfl
  have h2 : (t.toBitVec &&& 31#32).toNat < 32 := by
    rw [BitVec.toNat_and]
    exact Nat.lt_of_le_of_lt Nat.and_le_right (by decide)
  rw [h1, BitVec.toInt_eq_toNat_of_lt (by omega)]
  omega
theorem m_h0 {x : Int32} (h : x = -1 ∨ vp_in x 6) (q : 0 ≤ x) : vp_in x 6 := m_neg h (Int32.not_lt.mpr q)
theorem iv_msnd0 {K : kM} {g k : Nat} {v : Int32} (I : m_Inv K) (ht : m_tot K ≤ 5) (hg : g < 6) (hk : k < 4) : m_Inv (m_snd0 K g k v) ∧ m_tot (m_snd0 K g k v) ≤ m_tot K + 1 := by
  unfold m_snd0
  have e : m_tot (k_up K 14 0 g v) = m_tot K := mt_ne (by decide)
  have I1 : m_Inv (k_up K 14 0 g v) := k_Inv.up I trivial
  split
  · exact ⟨iv_mblk I1 (by omega) (by omega) hg, by rw [mt_blk I1 (by omega) (by omega), e]; omega⟩
  · rename_i h
    refine ⟨k_Inv.up (k_Inv.up I trivial) (r_szp2 (r_h2 (I 22 0 k) h)), ?_⟩
    rw [mt_ne (by decide), mt_ne (by decide)]
    omega
theorem j_snd {K : kM} {g k : Nat} {v : Int32} (I : m_Inv K) (ht : m_tot K ≤ 5) (hg : g < 6) (hk : k < 4) : m_Inv (m_snd K g k v) ∧ m_tot (m_snd K g k v) ≤ m_tot K + 1 := by
  unfold m_snd
  split
  · split
    · exact iv_msnd0 I ht hg hk
    · rename_i h
      have t1 := mt_tk I h (show 6 + k < 14 by omega)
      have I1 : m_Inv (k_up (m_tkT K (6 + k)) 15 0 ((m_tkX K (6 + k)).toNatClampNeg * 4 + (m_tkT K (6 + k) 14 0 (m_tkX K (6 + k)).toNatClampNeg).toNatClampNeg) v) := k_Inv.up (iv_mtk I h) trivial
      have e1 : m_tot (k_up (m_tkT K (6 + k)) 15 0 ((m_tkX K (6 + k)).toNatClampNeg * 4 + (m_tkT K (6 + k) 14 0 (m_tkX K (6 + k)).toNatClampNeg).toNatClampNeg) v) = m_tot (m_tkT K (6 + k)) := mt_ne (by decide)
      exact ⟨iv_mwake I1 (by omega) (k_lt (r_tkX _ I)), by unfold m_snd1; rw [mt_wake I1 (by omega)]; omega⟩
  · exact iv_msnd0 I ht hg hk
theorem iv_mrc1 {K : kM} {g k a : Nat} (I : m_Inv K) (h : ¬ K 22 0 k = 0) : m_Inv (m_rc1 K g k a) := by
  unfold m_rc1
  exact k_Inv.up (k_Inv.up (k_Inv.up I trivial) trivial) (r_hm (I 22 0 k) h)
theorem j_rcv {K : kM} {g k a : Nat} (I : m_Inv K) (ht : m_tot K ≤ 5) (hg : g < 6) (hk : k < 4) : m_Inv (m_rcv K g k a) ∧ m_tot (m_rcv K g k a) ≤ m_tot K + 1 := by
  have e0 := mt_rc1 (K := K) (g := g) (k := k) (a := a)
  unfold m_rcv
  split
  · have e : m_tot (k_up K 14 0 g (nI a)) = m_tot K := mt_ne (by decide)
    have I1 : m_Inv (k_up K 14 0 g (nI a)) := k_Inv.up I trivial
    exact ⟨iv_mblk I1 (by omega) (by omega) hg, by rw [mt_blk I1 (by omega) (by omega), e]; omega⟩
  · rename_i h0
    have I0 := iv_mrc1 (g := g) (a := a) I h0
    split
    · split
      · exact ⟨I0, by omega⟩
      · rename_i h
        have t1 := mt_tk I0 h (show 2 + k < 14 by omega)
        have I1 : m_Inv (k_up (k_up (m_tkT (m_rc1 K g k a) (2 + k)) 21 0 (k * 2 + 1) (m_tkT (m_rc1 K g k a) (2 + k) 14 0 (m_tkX (m_rc1 K g k a) (2 + k)).toNatClampNeg)) 22 0 k 2) := k_Inv.up (k_Inv.up (iv_mtk I0 h) trivial) ⟨by decide, by decide⟩
        have e1 : m_tot (k_up (k_up (m_tkT (m_rc1 K g k a) (2 + k)) 21 0 (k * 2 + 1) (m_tkT (m_rc1 K g k a) (2 + k) 14 0 (m_tkX (m_rc1 K g k a) (2 + k)).toNatClampNeg)) 22 0 k 2) = m_tot (m_tkT (m_rc1 K g k a) (2 + k)) := by rw [mt_ne (by decide), mt_ne (by decide)]
        exact ⟨iv_mwake I1 (by omega) (k_lt (r_tkX _ I0)), by unfold m_rc2; rw [mt_wake I1 (by omega)]; omega⟩
    · exact ⟨I0, by omega⟩
theorem j_clr {K : kM} {f : Nat} (I : m_Inv K) : ∀ n, m_Inv (m_clr K f n) ∧ m_tot (m_clr K f n) = m_tot K
  | 0 => ⟨I, rfl⟩
  | n + 1 => by
    obtain ⟨a, b⟩ := j_clr (f := f) I n
    unfold m_clr
    exact ⟨k_Inv.up a trivial, by rw [mt_ne (by decide), b]⟩
theorem j_map {K : kM} {g p : Nat} (I : m_Inv K) : m_Inv (m_mapT K g p) ∧ m_tot (m_mapT K g p) = m_tot K := by
  have hf := m_mfle (K := K) 12 0
  unfold m_mapT m_mpT
  split
  · exact ⟨I, rfl⟩
  · split
    · exact ⟨I, rfl⟩
    · split
      · exact ⟨I, rfl⟩
      · rename_i h
        obtain ⟨a, b⟩ := j_clr (K := k_up K 18 0 (m_mf K 12 0) 1) (f := m_mf K 12 0) (k_Inv.up I trivial) 8
        unfold m_map1
        refine ⟨k_Inv.up (k_Inv.up a (Or.inr (vp_in_nI (m_fin (n := 12) (by decide) hf h) (by decide)))) trivial, ?_⟩
        rw [mt_ne (by decide), mt_ne (by decide), b, mt_ne (by decide)]
theorem j_sp {K : kM} {g : Nat} {a q v : Int32} (I : m_Inv K) (ht : m_tot K ≤ 5) (ha : vp_in a 32) : m_Inv (m_spT K g a q v) ∧ m_tot (m_spT K g a q v) ≤ m_tot K + 1 := by
  have hf := m_sfle (K := K) 6 0
  unfold m_spT m_sqT
  split
  · exact ⟨I, Nat.le_succ _⟩
  · split
    · exact ⟨I, Nat.le_succ _⟩
    · split
      · exact ⟨I, Nat.le_succ _⟩
      · rename_i h
        have e : m_tot (k_up K 10 0 g (K 10 0 g + q)) = m_tot K := mt_ne (by decide)
        have I1 : m_Inv (k_up K 10 0 g (K 10 0 g + q)) := k_Inv.up I trivial
        unfold m_sp1
        refine ⟨k_Inv.up (k_Inv.up (iv_mbegin I1 (by omega) (m_fin (n := 6) (by decide) hf h) ha) trivial) trivial, ?_⟩
        rw [mt_ne (by decide), mt_ne (by decide), mt_begin I1 (by omega) ha, e]
        omega
theorem j_rp {K : kM} {g : Nat} (I : m_Inv K) : ∀ n c, m_Inv (m_rpT K g n c) ∧ m_tot (m_rpT K g n c) = m_tot K
  | 0, _ => ⟨I, rfl⟩
  | n + 1, c => by
    unfold m_rpT
    split
    · split
      · unfold m_rp1
        refine ⟨k_Inv.up (k_Inv.up (k_Inv.up I trivial) trivial) trivial, ?_⟩
        rw [mt_ne (by decide), mt_ne (by decide), mt_ne (by decide)]
      · exact j_rp I n (c + 1)
    · exact j_rp I n (c + 1)
theorem m_rpv {K : kM} {g : Nat} : ∀ n c, n + c = 6 → ¬ m_rpX K g n c < 0 → vp_in (m_rpX K g n c) 6
  | 0, c, _, h => absurd (show (-1 : Int32) < 0 by decide) h
  | n + 1, c, hc, h => by
    unfold m_rpX at h ⊢
    split at h
    · rename_i h1
      rw [if_pos h1]
      split at h
      · rename_i h2
        rw [if_pos h2]
        exact vp_in_nI (by omega) (by decide)
      · rename_i h2
        rw [if_neg h2]
        exact m_rpv n (c + 1) (by omega) h
    · rename_i h1
      rw [if_neg h1]
      exact m_rpv n (c + 1) (by omega) h
theorem m_whv {K : kM} {g : Nat} {ad : Int32} (I : m_Inv K) (h : 0 ≤ m_wh K g ad) : vp_in (m_wh K g ad) 96 := by
  unfold m_wh at h ⊢
  split at h
  · rename_i h1
    rw [if_pos h1]
    split at h
    · rename_i h2
      rw [if_pos h2]
      exact r_mem (m_neg12 (I 16 0 _) h2) (r_rem8 (r_no (n := 31) (by decide) h1))
    · exact absurd h (by decide)
  · exact absurd h (by decide)
theorem j_sh {K : kM} {g a n : Nat} {o : Int32} (I : m_Inv K) (ht : m_tot K ≤ 5) (hg : g < 6) (hn : n < 4) : m_Inv (m_shT K g o a n) ∧ m_tot (m_shT K g o a n) ≤ m_tot K + 1 := by
  unfold m_shT
  split
  · exact j_snd I ht hg hn
  · split
    · exact j_rcv I ht hg hn
    · split
      · split
        · exact ⟨iv_munl I (by omega) hn, Nat.le_succ_of_le (mt_unl I (by omega) hn)⟩
        · exact ⟨I, Nat.le_succ _⟩
      · split
        · exact ⟨iv_mblk I ht (by omega) hg, by rw [mt_blk I ht (by omega)]; omega⟩
        · exact ⟨k_Inv.up I (Or.inr (vp_in_nI hg (by decide))), by rw [mt_ne (by decide)]; omega⟩
theorem j_pf {K : kM} {g a b : Nat} {o n : Int32} (I : m_Inv K) (ht : m_tot K ≤ 5) (hg : g < 6) (ho : vp_in o 22) : m_Inv (m_pfT K g o a b n) ∧ m_tot (m_pfT K g o a b n) ≤ m_tot K + 1 := by
  have c0 : ∀ x : Int32, ∀ f i j : Nat, f = 15 ∨ f = 17 → m_Inv (k_up K f i j x) ∧ m_tot (k_up K f i j x) ≤ m_tot K + 1 := by
    intro x f i j hf
    rcases hf with rfl | rfl
    · exact ⟨k_Inv.up I trivial, by rw [mt_ne (by decide)]; omega⟩
    · exact ⟨k_Inv.up I trivial, by rw [mt_ne (by decide)]; omega⟩
  have cK : m_Inv K ∧ m_tot K ≤ m_tot K + 1 := ⟨I, Nat.le_succ _⟩
  rcases r_c22 ho with rfl | rfl | rfl | rfl | rfl | rfl | rfl | rfl | rfl | rfl | rfl | rfl | rfl | rfl | rfl | rfl | rfl | rfl | rfl | rfl | rfl | rfl
  · rw [mpT_0]; exact cK
  · rw [mpT_1]; exact c0 _ _ _ _ (Or.inl rfl)
  · rw [mpT_2]; exact c0 _ _ _ _ (Or.inl rfl)
  · rw [mpT_3]; exact c0 _ _ _ _ (Or.inl rfl)
  · rw [mpT_4]; exact c0 _ _ _ _ (Or.inl rfl)
  · rw [mpT_5]; exact c0 _ _ _ _ (Or.inl rfl)
  · rw [mpT_6]
    split
    · exact cK
    · exact c0 _ _ _ _ (Or.inl rfl)
  · rw [mpT_7]
    split
    · exact c0 _ _ _ _ (Or.inl rfl)
    · exact cK
  · rw [mpT_8]
    split
    · exact c0 _ _ _ _ (Or.inr rfl)
    · exact cK
  · rw [mpT_9]; exact cK
  · rw [mpT_10]; exact cK
  · rw [mpT_11]
    refine ⟨k_Inv.up I ?_, by rw [mt_ne (by decide)]; omega⟩
    split
    · exact Or.inr (m_31 n)
    · exact Or.inl rfl
  · rw [mpT_12]; exact cK
  · rw [mpT_13]
    split
    · obtain ⟨x, y⟩ := j_map (g := g) (p := n.toNatClampNeg) I
      exact ⟨k_Inv.up x trivial, by rw [mt_ne (by decide), y]; omega⟩
    · exact cK
  · rw [mpT_14]
    split
    · exact ⟨k_Inv.up (iv_munmap I) trivial, by rw [mt_ne (by decide), mt_unmap]; omega⟩
    · exact cK
  · rw [mpT_15]
    obtain ⟨x, y⟩ := j_sp (g := g) (a := n &&& 31) (q := K 15 0 (g * 4 + b)) (v := K 15 0 (g * 4 + a)) I ht (m_31 n)
    exact ⟨k_Inv.up x trivial, by rw [mt_ne (by decide)]; exact y⟩
  · rw [mpT_16]
    split
    · rename_i h
      exact j_sh I ht hg (k_lt (r_no (n := 3) (by decide) h))
    · exact cK
  · rw [mpT_17]
    split
    · rename_i h
      exact j_sh I ht hg (k_lt (r_no (n := 3) (by decide) h))
    · exact cK
  · rw [mpT_18]
    split
    · rename_i h
      exact j_sh I ht hg (k_lt (r_no (n := 3) (by decide) h))
    · exact cK
  · rw [mpT_19]
    split
    · rename_i h
      exact j_sh I ht hg (k_lt (r_no (n := 3) (by decide) h))
    · exact cK
  · rw [mpT_20]; exact cK
  · rw [mpT_21]
    obtain ⟨x, y⟩ := j_rp (g := g) I 6 0
    have z : m_tot (k_up (m_rpT K g 6 0) 15 0 (g * 4 + a) (m_rpX K g 6 0)) = m_tot K := by rw [mt_ne (by decide), y]
    have w : m_Inv (k_up (m_rpT K g 6 0) 15 0 (g * 4 + a) (m_rpX K g 6 0)) := k_Inv.up x trivial
    unfold m_rpE
    split
    · exact ⟨w, by omega⟩
    · exact ⟨k_Inv.up w trivial, by rw [mt_ne (by decide)]; omega⟩
theorem iv_mst1 {K : kM} {p : Nat} (I : m_Inv K) : m_Inv (m_st1 K p) := k_Inv.up (k_Inv.up I trivial) trivial
theorem mt_st1 {K : kM} {p : Nat} : m_tot (m_st1 K p) = m_tot K := by
  unfold m_st1
  rw [mt_ne (by decide), mt_ne (by decide)]
theorem iv_mst2 {K : kM} {g a b i : Nat} {o n j : Int32} (I : m_Inv K) (ht : m_tot K ≤ 5) (hg : g < 6) (ho : vp_in o 22) : m_Inv (m_st2 K g o a b n i j) := by
  obtain ⟨x, y⟩ := j_pf (a := a) (b := b) (n := n) I ht hg ho
  unfold m_st2
  split
  · refine k_Inv.up x ?_
    split
    · exact m_31 _
    · exact m_31 _
  · exact (j_trap x (by omega)).1
theorem iv_mstM {K : kM} {g i : Nat} {o : Int32} (I : m_Inv K) (ht : m_tot K ≤ 5) (hg : g < 6) (ho : vp_in o 22) : m_Inv (m_stM K g i o) := by
  have I1 : m_Inv (m_stD K g i) := k_Inv.up I (m_31 _)
  have e1 : m_tot (m_stD K g i) = m_tot K := mt_ne (by decide)
  unfold m_stM
  split
  · exact (j_die I1 (by omega)).1
  · split
    · exact (j_die I1 (by omega)).1
    · exact iv_mst2 I ht hg ho
theorem iv_mst4 {K : kM} {p g : Nat} (I : m_Inv K) (hg : g < 6) (hw : K 5 0 g = 1 → m_tot K ≤ 5) : m_Inv (m_st4 K p g) := by
  have I1 : m_Inv (k_up K 24 0 p (-1)) := k_Inv.up I (Or.inl rfl)
  unfold m_st4
  split
  · rename_i h
    exact iv_mwake I1 (by rw [mt_ne (by decide)]; exact hw h) hg
  · exact I1
theorem iv_mst3 {K : kM} {p g : Nat} {o : Int32} (I : m_Inv K) (hg : g < 6) (hw : K 5 0 g = 1 → m_tot K ≤ 5) : m_Inv (m_st3 K p g o) := by
  unfold m_st3
  split
  · split
    · exact iv_mst4 I hg hw
    · split
      · exact iv_mst4 I hg hw
      · exact I
  · exact iv_mst4 I hg hw
theorem iv_mmid {K : kM} {p : Nat} (I : m_Inv K) (hx : vp_in (K 24 0 p) 6) (ht : m_tot K ≤ 5) : m_Inv (m_mid K p) :=
  iv_mstM (iv_mst1 I) (by rw [mt_st1]; exact ht) (k_lt hx) (I 1 0 _)
theorem iv_mstep {K : kM} {p : Nat} (I : m_Inv K) (hx : vp_in (K 24 0 p) 6) (ho : m_ok K p) : m_Inv (m_step K p) :=
  iv_mst3 (iv_mmid I hx ho.1) (k_lt hx) ho.2.2
theorem iv_mch {K : kM} {p : Nat} (I : m_Inv K) (h : ¬ K 20 0 p ≤ 0) : m_Inv (m_ch K p) := by
  unfold m_ch
  exact k_Inv.up (k_Inv.up (k_Inv.up (k_Inv.up (iv_mtk I h) (Or.inr (r_tkX p I))) trivial) trivial) trivial
theorem iv_mtk' {K : kM} {p : Nat} (I : m_Inv K) : m_Inv (m_tk K p) := by
  unfold m_tk
  split
  · exact I
  · split
    · exact I
    · exact iv_mch I ‹_›
theorem iv_mturn {K : kM} {p : Nat} (I : m_Inv K) (ho : m_okU K p) : m_Inv (m_turn K p) := by
  have I1 := iv_mtk' (p := p) I
  unfold m_turn m_tu
  split
  · rename_i h
    exact iv_mstep I1 (m_h0 (I1 24 0 p) h) (ho h)
  · exact k_Inv.up I1 trivial
theorem iv_mtick {K : kM} (I : m_Inv K) (ho : m_okT K) : m_Inv (m_tick K) := iv_mturn (iv_mturn (k_Inv.up I trivial) ho.1) ho.2
end
section
set_option maxHeartbeats 4000000 in
set_option maxRecDepth 100000 in
theorem c_Mo_share (l : Launch) (G : kG) (K : kM) (x0 : Int32) (o : Int32) (x2 : Int32) (x3 : Int32) (g a n : Nat) (e0 : x0 = nI g) (e2 : x2 = nI a) (e3 : x3 = nI n) (I0 : m_Inv K) (hg : g < 6) (ha : a < 4) (hn : n < 4) (ht : m_tot K ≤ 5) (hcar : m_car K) : k_Met l mS kT y_Mo_share b_Mo_share 5 (some .int) (k_rm 3) G [.ref (G.2.2 0 0), .int x0, .int o, .int x2, .int x3] K (some (.int (m_shX K g o n))) (m_shT K g o a n) := by
  subst e0
  subst e2
  subst e3
  refine k_intro (by decide +kernel) rfl (Nat.le_of_ble_eq_true rfl) ?_
  intro X C E
  refine k_iload_n C d_Mo_share_0 rfl ?_
  refine k_bipush C d_Mo_share_1 (v := 16) (by decide) ?_
  refine k_icmp_ne C d_Mo_share_3 (tgt := 26) (by decide) (fun h1 => ?_) (fun h1 => ?_)
  · refine k_iload_n C d_Mo_share_26 rfl ?_
    refine k_bipush C d_Mo_share_27 (v := 17) (by decide) ?_
    refine k_icmp_ne C d_Mo_share_29 (tgt := 43) (by decide) (fun h2 => ?_) (fun h2 => ?_)
    · refine k_iload_n C d_Mo_share_43 rfl ?_
      refine k_bipush C d_Mo_share_44 (v := 19) (by decide) ?_
      refine k_icmp_ne C d_Mo_share_46 (tgt := 71) (by decide) (fun h3 => ?_) (fun h3 => ?_)
      · refine k_aload_n C d_Mo_share_71 rfl ?_
        refine k_getr C d_Mo_share_72 fg_Mo_77 (by decide) rfl ?_
        refine k_iload C d_Mo_share_75 rfl ?_
        refine k_iaload C d_Mo_share_77 am_23 (by decide) (vp_in_nI (by omega) (by decide)) (nI_clamp (by omega)) ?_
        refine k_if_ge C d_Mo_share_78 (tgt := 92) (by decide) (fun h4 => ?_) (fun h4 => ?_)
        · refine k_aload_n C d_Mo_share_92 rfl ?_
          refine k_iload_n C d_Mo_share_93 rfl ?_
          refine k_bipush C d_Mo_share_94 (v := 10) (by decide) ?_
          refine k_iload C d_Mo_share_96 rfl ?_
          refine k_iadd C d_Mo_share_98 ?_
          refine k_callVv C kg_all (c_Mo_block l G _ _ _ g (10 + n) rfl (nI_add 10 n) I0 hg (by omega) ht) cs_Mo_128 cv_Mo_block om_0 (by decide) rfl rfl (Nat.le_of_ble_eq_true rfl) ⟨rfl, rfl⟩ ⟨by decide, by decide⟩ ⟨Nat.zero_le _, Nat.zero_le _⟩ d_Mo_share_99 (iv_mblk I0 ht (by omega) hg) (fun I5 => ?_)
          refine k_iconst C d_Mo_share_102 (v := 0) (by decide) ?_
          exact k_ireturn C (E.to (by first | (simp only [m_shX, m_shT, h1, h2, h3, h4, ↓reduceIte]; done) | (simp only [m_shX, m_shT, h1, h2, h3, h4, ↓reduceIte]; rfl) | contradiction | rfl) (by first | (simp only [m_shX, m_shT, h1, h2, h3, h4, ↓reduceIte]; done) | (simp only [m_shX, m_shT, h1, h2, h3, h4, ↓reduceIte]; rfl) | contradiction | rfl)) d_Mo_share_103
        · refine k_aload_n C d_Mo_share_81 rfl ?_
          refine k_getr C d_Mo_share_82 fg_Mo_77 (by decide) rfl ?_
          refine k_iload C d_Mo_share_85 rfl ?_
          refine k_iload_n C d_Mo_share_87 rfl ?_
          refine k_iastore C d_Mo_share_88 am_23 (by decide) (vp_in_nI (by omega) (by decide)) (nI_clamp (by omega)) I0 (Or.inr (vp_in_nI hg (by decide))) (fun I6 => ?_)
          refine k_goto C d_Mo_share_89 (tgt := 102) (by decide) ?_
          refine k_iconst C d_Mo_share_102 (v := 0) (by decide) ?_
          exact k_ireturn C (E.to (by first | (simp only [m_shX, m_shT, h1, h2, h3, h4, ↓reduceIte]; done) | (simp only [m_shX, m_shT, h1, h2, h3, h4, ↓reduceIte]; rfl) | contradiction | rfl) (by first | (simp only [m_shX, m_shT, h1, h2, h3, h4, ↓reduceIte]; done) | (simp only [m_shX, m_shT, h1, h2, h3, h4, ↓reduceIte]; rfl) | contradiction | rfl)) d_Mo_share_103
      · refine k_aload_n C d_Mo_share_49 rfl ?_
        refine k_getr C d_Mo_share_50 fg_Mo_77 (by decide) rfl ?_
        refine k_iload C d_Mo_share_53 rfl ?_
        refine k_iaload C d_Mo_share_55 am_23 (by decide) (vp_in_nI (by omega) (by decide)) (nI_clamp (by omega)) ?_
        refine k_iload_n C d_Mo_share_56 rfl ?_
        refine k_icmp_eq C d_Mo_share_57 (tgt := 62) (by decide) (fun h7 => ?_) (fun h7 => ?_)
        · refine k_aload_n C d_Mo_share_62 rfl ?_
          refine k_iload C d_Mo_share_63 rfl ?_
          refine k_callVv C kg_all (c_Mo_unlock l G _ _ n rfl I0 hn (by omega)) cs_Mo_113 cv_Mo_unlock om_0 (by decide) rfl rfl (Nat.le_of_ble_eq_true rfl) ⟨rfl, rfl⟩ ⟨by decide, by decide⟩ ⟨Nat.zero_le _, Nat.zero_le _⟩ d_Mo_share_65 (iv_munl I0 (by omega) hn) (fun I8 => ?_)
          refine k_goto C d_Mo_share_68 (tgt := 102) (by decide) ?_
          refine k_iconst C d_Mo_share_102 (v := 0) (by decide) ?_
          exact k_ireturn C (E.to (by first | (simp only [m_shX, m_shT, h1, h2, h3, h7, ↓reduceIte]; done) | (simp only [m_shX, m_shT, h1, h2, h3, h7, ↓reduceIte]; rfl) | contradiction | rfl) (by first | (simp only [m_shX, m_shT, h1, h2, h3, h7, ↓reduceIte]; done) | (simp only [m_shX, m_shT, h1, h2, h3, h7, ↓reduceIte]; rfl) | contradiction | rfl)) d_Mo_share_103
        · refine k_iconst C d_Mo_share_60 (v := 5) (by decide) ?_
          exact k_ireturn C (E.to (by first | (simp only [m_shX, m_shT, h1, h2, h3, h7, ↓reduceIte]; done) | (simp only [m_shX, m_shT, h1, h2, h3, h7, ↓reduceIte]; rfl) | contradiction | rfl) (by first | (simp only [m_shX, m_shT, h1, h2, h3, h7, ↓reduceIte]; done) | (simp only [m_shX, m_shT, h1, h2, h3, h7, ↓reduceIte]; rfl) | contradiction | rfl)) d_Mo_share_61
    · refine k_aload_n C d_Mo_share_32 rfl ?_
      refine k_iload_n C d_Mo_share_33 rfl ?_
      refine k_iload C d_Mo_share_34 rfl ?_
      refine k_iload_n C d_Mo_share_36 rfl ?_
      refine k_callVv C kg_all (c_Mo_receive l G _ _ _ _ g n a rfl rfl rfl I0 hg hn ha ht) cs_Mo_152 cv_Mo_receive om_0 (by decide) rfl rfl (Nat.le_of_ble_eq_true rfl) ⟨rfl, rfl⟩ ⟨by decide, by decide⟩ ⟨Nat.zero_le _, Nat.zero_le _⟩ d_Mo_share_37 (j_rcv I0 ht hg hn).1 (fun I9 => ?_)
      refine k_goto C d_Mo_share_40 (tgt := 102) (by decide) ?_
      refine k_iconst C d_Mo_share_102 (v := 0) (by decide) ?_
      exact k_ireturn C (E.to (by first | (simp only [m_shX, m_shT, h1, h2, ↓reduceIte]; done) | (simp only [m_shX, m_shT, h1, h2, ↓reduceIte]; rfl) | contradiction | rfl) (by first | (simp only [m_shX, m_shT, h1, h2, ↓reduceIte]; done) | (simp only [m_shX, m_shT, h1, h2, ↓reduceIte]; rfl) | contradiction | rfl)) d_Mo_share_103
  · refine k_aload_n C d_Mo_share_6 rfl ?_
    refine k_iload_n C d_Mo_share_7 rfl ?_
    refine k_iload C d_Mo_share_8 rfl ?_
    refine k_aload_n C d_Mo_share_10 rfl ?_
    refine k_getr C d_Mo_share_11 fg_Mo_52 (by decide) rfl ?_
    refine k_iload_n C d_Mo_share_14 rfl ?_
    refine k_iconst C d_Mo_share_15 (v := 4) (by decide) ?_
    refine k_imul C d_Mo_share_16 ?_
    refine k_iload_n C d_Mo_share_17 rfl ?_
    refine k_iadd C d_Mo_share_18 ?_
    refine k_iaload C d_Mo_share_19 am_15 (by decide) (mx (g) 4 (a) 24 (by omega) (by decide)).1 (mx (g) 4 (a) 24 (by omega) (by decide)).2 ?_
    refine k_callVv C kg_all (c_Mo_send l G _ _ _ _ g n rfl rfl I0 hg hn ht (hcar n hn)) cs_Mo_148 cv_Mo_send om_0 (by decide) rfl rfl (Nat.le_of_ble_eq_true rfl) ⟨rfl, rfl⟩ ⟨by decide, by decide⟩ ⟨Nat.zero_le _, Nat.zero_le _⟩ d_Mo_share_20 (j_snd I0 ht hg hn).1 (fun I10 => ?_)
    refine k_goto C d_Mo_share_23 (tgt := 102) (by decide) ?_
    refine k_iconst C d_Mo_share_102 (v := 0) (by decide) ?_
    exact k_ireturn C (E.to (by first | (simp only [m_shX, m_shT, h1, ↓reduceIte]; done) | (simp only [m_shX, m_shT, h1, ↓reduceIte]; rfl) | contradiction | rfl) (by first | (simp only [m_shX, m_shT, h1, ↓reduceIte]; done) | (simp only [m_shX, m_shT, h1, ↓reduceIte]; rfl) | contradiction | rfl)) d_Mo_share_103
set_option maxHeartbeats 4000000 in
set_option maxRecDepth 100000 in
theorem c_Mo_perform (l : Launch) (G : kG) (K : kM) (x0 : Int32) (o : Int32) (x2 : Int32) (x3 : Int32) (n : Int32) (g a b : Nat) (e0 : x0 = nI g) (e2 : x2 = nI a) (e3 : x3 = nI b) (I0 : m_Inv K) (hg : g < 6) (ho : vp_in o 22) (ha : a < 4) (hb : b < 4) (ht : m_tot K ≤ 5) (hcar : m_car K) : k_Met l mS kT y_Mo_perform b_Mo_perform 11 (some .int) (k_rm 4) G [.ref (G.2.2 0 0), .int x0, .int o, .int x2, .int x3, .int n] K (some (.int (m_pfX K g o b n))) (m_pfT K g o a b n) := by
  subst e0
  subst e2
  subst e3
  refine k_intro (by decide +kernel) rfl (Nat.le_of_ble_eq_true rfl) ?_
  intro X C E
  refine k_iload_n C d_Mo_perform_0 rfl ?_
  refine k_iconst C d_Mo_perform_1 (v := 4) (by decide) ?_
  refine k_imul C d_Mo_perform_2 ?_
  refine k_iload_n C d_Mo_perform_3 rfl ?_
  refine k_iadd C d_Mo_perform_4 ?_
  refine k_istore C d_Mo_perform_5 (by decide) ?_
  refine k_aload_n C d_Mo_perform_7 rfl ?_
  refine k_getr C d_Mo_perform_8 fg_Mo_52 (by decide) rfl ?_
  refine k_iload_n C d_Mo_perform_11 rfl ?_
  refine k_iconst C d_Mo_perform_12 (v := 4) (by decide) ?_
  refine k_imul C d_Mo_perform_13 ?_
  refine k_iload C d_Mo_perform_14 rfl ?_
  refine k_iadd C d_Mo_perform_16 ?_
  refine k_iaload C d_Mo_perform_17 am_15 (by decide) (mx (g) 4 (b) 24 (by omega) (by decide)).1 (mx (g) 4 (b) 24 (by omega) (by decide)).2 ?_
  refine k_istore C d_Mo_perform_18 (by decide) ?_
  refine k_iload_n C d_Mo_perform_20 rfl ?_
  rcases r_c22 ho with rfl | rfl | rfl | rfl | rfl | rfl | rfl | rfl | rfl | rfl | rfl | rfl | rfl | rfl | rfl | rfl | rfl | rfl | rfl | rfl | rfl | rfl
  · refine k_tabOut C d_Mo_perform_21 (by decide) (tgt := 456) (by decide) ?_
    refine k_iconst C d_Mo_perform_456 (v := 0) (by decide) ?_
    exact k_ireturn C (E.to (by first | (simp only [mpT_0, mpT_1, mpT_2, mpT_3, mpT_4, mpT_5, mpT_6, mpT_7, mpT_8, mpT_9, mpT_10, mpT_11, mpT_12, mpT_13, mpT_14, mpT_15, mpT_16, mpT_17, mpT_18, mpT_19, mpT_20, mpT_21, mpX_0, mpX_1, mpX_2, mpX_3, mpX_4, mpX_5, mpX_6, mpX_7, mpX_8, mpX_9, mpX_10, mpX_11, mpX_12, mpX_13, mpX_14, mpX_15, mpX_16, mpX_17, mpX_18, mpX_19, mpX_20, mpX_21, m_rpE, ↓reduceIte]; done) | (simp only [mpT_0, mpT_1, mpT_2, mpT_3, mpT_4, mpT_5, mpT_6, mpT_7, mpT_8, mpT_9, mpT_10, mpT_11, mpT_12, mpT_13, mpT_14, mpT_15, mpT_16, mpT_17, mpT_18, mpT_19, mpT_20, mpT_21, mpX_0, mpX_1, mpX_2, mpX_3, mpX_4, mpX_5, mpX_6, mpX_7, mpX_8, mpX_9, mpX_10, mpX_11, mpX_12, mpX_13, mpX_14, mpX_15, mpX_16, mpX_17, mpX_18, mpX_19, mpX_20, mpX_21, m_rpE, ↓reduceIte]; rfl) | contradiction | rfl) (by first | (simp only [mpT_0, mpT_1, mpT_2, mpT_3, mpT_4, mpT_5, mpT_6, mpT_7, mpT_8, mpT_9, mpT_10, mpT_11, mpT_12, mpT_13, mpT_14, mpT_15, mpT_16, mpT_17, mpT_18, mpT_19, mpT_20, mpT_21, mpX_0, mpX_1, mpX_2, mpX_3, mpX_4, mpX_5, mpX_6, mpX_7, mpX_8, mpX_9, mpX_10, mpX_11, mpX_12, mpX_13, mpX_14, mpX_15, mpX_16, mpX_17, mpX_18, mpX_19, mpX_20, mpX_21, m_rpE, ↓reduceIte]; done) | (simp only [mpT_0, mpT_1, mpT_2, mpT_3, mpT_4, mpT_5, mpT_6, mpT_7, mpT_8, mpT_9, mpT_10, mpT_11, mpT_12, mpT_13, mpT_14, mpT_15, mpT_16, mpT_17, mpT_18, mpT_19, mpT_20, mpT_21, mpX_0, mpX_1, mpX_2, mpX_3, mpX_4, mpX_5, mpX_6, mpX_7, mpX_8, mpX_9, mpX_10, mpX_11, mpX_12, mpX_13, mpX_14, mpX_15, mpX_16, mpX_17, mpX_18, mpX_19, mpX_20, mpX_21, m_rpE, ↓reduceIte]; rfl) | contradiction | rfl)) d_Mo_perform_457
  · refine k_tabIn C d_Mo_perform_21 (by decide) (by decide) (off := 99) (by decide) (tgt := 120) (by decide) ?_
    refine k_aload_n C d_Mo_perform_120 rfl ?_
    refine k_getr C d_Mo_perform_121 fg_Mo_52 (by decide) rfl ?_
    refine k_iload C d_Mo_perform_124 rfl ?_
    refine k_iload C d_Mo_perform_126 rfl ?_
    refine k_iastore C d_Mo_perform_128 am_15 (by decide) (mx (g) 4 (a) 24 (by omega) (by decide)).1 (mx (g) 4 (a) 24 (by omega) (by decide)).2 I0 (trivial) (fun I1 => ?_)
    refine k_iconst C d_Mo_perform_129 (v := 0) (by decide) ?_
    exact k_ireturn C (E.to (by first | (simp only [mpT_0, mpT_1, mpT_2, mpT_3, mpT_4, mpT_5, mpT_6, mpT_7, mpT_8, mpT_9, mpT_10, mpT_11, mpT_12, mpT_13, mpT_14, mpT_15, mpT_16, mpT_17, mpT_18, mpT_19, mpT_20, mpT_21, mpX_0, mpX_1, mpX_2, mpX_3, mpX_4, mpX_5, mpX_6, mpX_7, mpX_8, mpX_9, mpX_10, mpX_11, mpX_12, mpX_13, mpX_14, mpX_15, mpX_16, mpX_17, mpX_18, mpX_19, mpX_20, mpX_21, m_rpE, ↓reduceIte]; done) | (simp only [mpT_0, mpT_1, mpT_2, mpT_3, mpT_4, mpT_5, mpT_6, mpT_7, mpT_8, mpT_9, mpT_10, mpT_11, mpT_12, mpT_13, mpT_14, mpT_15, mpT_16, mpT_17, mpT_18, mpT_19, mpT_20, mpT_21, mpX_0, mpX_1, mpX_2, mpX_3, mpX_4, mpX_5, mpX_6, mpX_7, mpX_8, mpX_9, mpX_10, mpX_11, mpX_12, mpX_13, mpX_14, mpX_15, mpX_16, mpX_17, mpX_18, mpX_19, mpX_20, mpX_21, m_rpE, ↓reduceIte]; rfl) | contradiction | rfl) (by first | (simp only [mpT_0, mpT_1, mpT_2, mpT_3, mpT_4, mpT_5, mpT_6, mpT_7, mpT_8, mpT_9, mpT_10, mpT_11, mpT_12, mpT_13, mpT_14, mpT_15, mpT_16, mpT_17, mpT_18, mpT_19, mpT_20, mpT_21, mpX_0, mpX_1, mpX_2, mpX_3, mpX_4, mpX_5, mpX_6, mpX_7, mpX_8, mpX_9, mpX_10, mpX_11, mpX_12, mpX_13, mpX_14, mpX_15, mpX_16, mpX_17, mpX_18, mpX_19, mpX_20, mpX_21, m_rpE, ↓reduceIte]; done) | (simp only [mpT_0, mpT_1, mpT_2, mpT_3, mpT_4, mpT_5, mpT_6, mpT_7, mpT_8, mpT_9, mpT_10, mpT_11, mpT_12, mpT_13, mpT_14, mpT_15, mpT_16, mpT_17, mpT_18, mpT_19, mpT_20, mpT_21, mpX_0, mpX_1, mpX_2, mpX_3, mpX_4, mpX_5, mpX_6, mpX_7, mpX_8, mpX_9, mpX_10, mpX_11, mpX_12, mpX_13, mpX_14, mpX_15, mpX_16, mpX_17, mpX_18, mpX_19, mpX_20, mpX_21, m_rpE, ↓reduceIte]; rfl) | contradiction | rfl)) d_Mo_perform_130
  · refine k_tabIn C d_Mo_perform_21 (by decide) (by decide) (off := 110) (by decide) (tgt := 131) (by decide) ?_
    refine k_aload_n C d_Mo_perform_131 rfl ?_
    refine k_getr C d_Mo_perform_132 fg_Mo_52 (by decide) rfl ?_
    refine k_iload C d_Mo_perform_135 rfl ?_
    refine k_iload C d_Mo_perform_137 rfl ?_
    refine k_iload C d_Mo_perform_139 rfl ?_
    refine k_iadd C d_Mo_perform_141 ?_
    refine k_iastore C d_Mo_perform_142 am_15 (by decide) (mx (g) 4 (a) 24 (by omega) (by decide)).1 (mx (g) 4 (a) 24 (by omega) (by decide)).2 I0 (trivial) (fun I2 => ?_)
    refine k_iconst C d_Mo_perform_143 (v := 0) (by decide) ?_
    exact k_ireturn C (E.to (by first | (simp only [mpT_0, mpT_1, mpT_2, mpT_3, mpT_4, mpT_5, mpT_6, mpT_7, mpT_8, mpT_9, mpT_10, mpT_11, mpT_12, mpT_13, mpT_14, mpT_15, mpT_16, mpT_17, mpT_18, mpT_19, mpT_20, mpT_21, mpX_0, mpX_1, mpX_2, mpX_3, mpX_4, mpX_5, mpX_6, mpX_7, mpX_8, mpX_9, mpX_10, mpX_11, mpX_12, mpX_13, mpX_14, mpX_15, mpX_16, mpX_17, mpX_18, mpX_19, mpX_20, mpX_21, m_rpE, ↓reduceIte]; done) | (simp only [mpT_0, mpT_1, mpT_2, mpT_3, mpT_4, mpT_5, mpT_6, mpT_7, mpT_8, mpT_9, mpT_10, mpT_11, mpT_12, mpT_13, mpT_14, mpT_15, mpT_16, mpT_17, mpT_18, mpT_19, mpT_20, mpT_21, mpX_0, mpX_1, mpX_2, mpX_3, mpX_4, mpX_5, mpX_6, mpX_7, mpX_8, mpX_9, mpX_10, mpX_11, mpX_12, mpX_13, mpX_14, mpX_15, mpX_16, mpX_17, mpX_18, mpX_19, mpX_20, mpX_21, m_rpE, ↓reduceIte]; rfl) | contradiction | rfl) (by first | (simp only [mpT_0, mpT_1, mpT_2, mpT_3, mpT_4, mpT_5, mpT_6, mpT_7, mpT_8, mpT_9, mpT_10, mpT_11, mpT_12, mpT_13, mpT_14, mpT_15, mpT_16, mpT_17, mpT_18, mpT_19, mpT_20, mpT_21, mpX_0, mpX_1, mpX_2, mpX_3, mpX_4, mpX_5, mpX_6, mpX_7, mpX_8, mpX_9, mpX_10, mpX_11, mpX_12, mpX_13, mpX_14, mpX_15, mpX_16, mpX_17, mpX_18, mpX_19, mpX_20, mpX_21, m_rpE, ↓reduceIte]; done) | (simp only [mpT_0, mpT_1, mpT_2, mpT_3, mpT_4, mpT_5, mpT_6, mpT_7, mpT_8, mpT_9, mpT_10, mpT_11, mpT_12, mpT_13, mpT_14, mpT_15, mpT_16, mpT_17, mpT_18, mpT_19, mpT_20, mpT_21, mpX_0, mpX_1, mpX_2, mpX_3, mpX_4, mpX_5, mpX_6, mpX_7, mpX_8, mpX_9, mpX_10, mpX_11, mpX_12, mpX_13, mpX_14, mpX_15, mpX_16, mpX_17, mpX_18, mpX_19, mpX_20, mpX_21, m_rpE, ↓reduceIte]; rfl) | contradiction | rfl)) d_Mo_perform_144
  · refine k_tabIn C d_Mo_perform_21 (by decide) (by decide) (off := 124) (by decide) (tgt := 145) (by decide) ?_
    refine k_aload_n C d_Mo_perform_145 rfl ?_
    refine k_getr C d_Mo_perform_146 fg_Mo_52 (by decide) rfl ?_
    refine k_iload C d_Mo_perform_149 rfl ?_
    refine k_dup2 C d_Mo_perform_151 rfl rfl ?_
    refine k_iaload C d_Mo_perform_152 am_15 (by decide) (mx (g) 4 (a) 24 (by omega) (by decide)).1 (mx (g) 4 (a) 24 (by omega) (by decide)).2 ?_
    refine k_iload C d_Mo_perform_153 rfl ?_
    refine k_iadd C d_Mo_perform_155 ?_
    refine k_iastore C d_Mo_perform_156 am_15 (by decide) (mx (g) 4 (a) 24 (by omega) (by decide)).1 (mx (g) 4 (a) 24 (by omega) (by decide)).2 I0 (trivial) (fun I3 => ?_)
    refine k_iconst C d_Mo_perform_157 (v := 0) (by decide) ?_
    exact k_ireturn C (E.to (by first | (simp only [mpT_0, mpT_1, mpT_2, mpT_3, mpT_4, mpT_5, mpT_6, mpT_7, mpT_8, mpT_9, mpT_10, mpT_11, mpT_12, mpT_13, mpT_14, mpT_15, mpT_16, mpT_17, mpT_18, mpT_19, mpT_20, mpT_21, mpX_0, mpX_1, mpX_2, mpX_3, mpX_4, mpX_5, mpX_6, mpX_7, mpX_8, mpX_9, mpX_10, mpX_11, mpX_12, mpX_13, mpX_14, mpX_15, mpX_16, mpX_17, mpX_18, mpX_19, mpX_20, mpX_21, m_rpE, ↓reduceIte]; done) | (simp only [mpT_0, mpT_1, mpT_2, mpT_3, mpT_4, mpT_5, mpT_6, mpT_7, mpT_8, mpT_9, mpT_10, mpT_11, mpT_12, mpT_13, mpT_14, mpT_15, mpT_16, mpT_17, mpT_18, mpT_19, mpT_20, mpT_21, mpX_0, mpX_1, mpX_2, mpX_3, mpX_4, mpX_5, mpX_6, mpX_7, mpX_8, mpX_9, mpX_10, mpX_11, mpX_12, mpX_13, mpX_14, mpX_15, mpX_16, mpX_17, mpX_18, mpX_19, mpX_20, mpX_21, m_rpE, ↓reduceIte]; rfl) | contradiction | rfl) (by first | (simp only [mpT_0, mpT_1, mpT_2, mpT_3, mpT_4, mpT_5, mpT_6, mpT_7, mpT_8, mpT_9, mpT_10, mpT_11, mpT_12, mpT_13, mpT_14, mpT_15, mpT_16, mpT_17, mpT_18, mpT_19, mpT_20, mpT_21, mpX_0, mpX_1, mpX_2, mpX_3, mpX_4, mpX_5, mpX_6, mpX_7, mpX_8, mpX_9, mpX_10, mpX_11, mpX_12, mpX_13, mpX_14, mpX_15, mpX_16, mpX_17, mpX_18, mpX_19, mpX_20, mpX_21, m_rpE, ↓reduceIte]; done) | (simp only [mpT_0, mpT_1, mpT_2, mpT_3, mpT_4, mpT_5, mpT_6, mpT_7, mpT_8, mpT_9, mpT_10, mpT_11, mpT_12, mpT_13, mpT_14, mpT_15, mpT_16, mpT_17, mpT_18, mpT_19, mpT_20, mpT_21, mpX_0, mpX_1, mpX_2, mpX_3, mpX_4, mpX_5, mpX_6, mpX_7, mpX_8, mpX_9, mpX_10, mpX_11, mpX_12, mpX_13, mpX_14, mpX_15, mpX_16, mpX_17, mpX_18, mpX_19, mpX_20, mpX_21, m_rpE, ↓reduceIte]; rfl) | contradiction | rfl)) d_Mo_perform_158
  · refine k_tabIn C d_Mo_perform_21 (by decide) (by decide) (off := 138) (by decide) (tgt := 159) (by decide) ?_
    refine k_aload_n C d_Mo_perform_159 rfl ?_
    refine k_getr C d_Mo_perform_160 fg_Mo_52 (by decide) rfl ?_
    refine k_iload C d_Mo_perform_163 rfl ?_
    refine k_dup2 C d_Mo_perform_165 rfl rfl ?_
    refine k_iaload C d_Mo_perform_166 am_15 (by decide) (mx (g) 4 (a) 24 (by omega) (by decide)).1 (mx (g) 4 (a) 24 (by omega) (by decide)).2 ?_
    refine k_iload C d_Mo_perform_167 rfl ?_
    refine k_isub C d_Mo_perform_169 ?_
    refine k_iastore C d_Mo_perform_170 am_15 (by decide) (mx (g) 4 (a) 24 (by omega) (by decide)).1 (mx (g) 4 (a) 24 (by omega) (by decide)).2 I0 (trivial) (fun I4 => ?_)
    refine k_iconst C d_Mo_perform_171 (v := 0) (by decide) ?_
    exact k_ireturn C (E.to (by first | (simp only [mpT_0, mpT_1, mpT_2, mpT_3, mpT_4, mpT_5, mpT_6, mpT_7, mpT_8, mpT_9, mpT_10, mpT_11, mpT_12, mpT_13, mpT_14, mpT_15, mpT_16, mpT_17, mpT_18, mpT_19, mpT_20, mpT_21, mpX_0, mpX_1, mpX_2, mpX_3, mpX_4, mpX_5, mpX_6, mpX_7, mpX_8, mpX_9, mpX_10, mpX_11, mpX_12, mpX_13, mpX_14, mpX_15, mpX_16, mpX_17, mpX_18, mpX_19, mpX_20, mpX_21, m_rpE, ↓reduceIte]; done) | (simp only [mpT_0, mpT_1, mpT_2, mpT_3, mpT_4, mpT_5, mpT_6, mpT_7, mpT_8, mpT_9, mpT_10, mpT_11, mpT_12, mpT_13, mpT_14, mpT_15, mpT_16, mpT_17, mpT_18, mpT_19, mpT_20, mpT_21, mpX_0, mpX_1, mpX_2, mpX_3, mpX_4, mpX_5, mpX_6, mpX_7, mpX_8, mpX_9, mpX_10, mpX_11, mpX_12, mpX_13, mpX_14, mpX_15, mpX_16, mpX_17, mpX_18, mpX_19, mpX_20, mpX_21, m_rpE, ↓reduceIte]; rfl) | contradiction | rfl) (by first | (simp only [mpT_0, mpT_1, mpT_2, mpT_3, mpT_4, mpT_5, mpT_6, mpT_7, mpT_8, mpT_9, mpT_10, mpT_11, mpT_12, mpT_13, mpT_14, mpT_15, mpT_16, mpT_17, mpT_18, mpT_19, mpT_20, mpT_21, mpX_0, mpX_1, mpX_2, mpX_3, mpX_4, mpX_5, mpX_6, mpX_7, mpX_8, mpX_9, mpX_10, mpX_11, mpX_12, mpX_13, mpX_14, mpX_15, mpX_16, mpX_17, mpX_18, mpX_19, mpX_20, mpX_21, m_rpE, ↓reduceIte]; done) | (simp only [mpT_0, mpT_1, mpT_2, mpT_3, mpT_4, mpT_5, mpT_6, mpT_7, mpT_8, mpT_9, mpT_10, mpT_11, mpT_12, mpT_13, mpT_14, mpT_15, mpT_16, mpT_17, mpT_18, mpT_19, mpT_20, mpT_21, mpX_0, mpX_1, mpX_2, mpX_3, mpX_4, mpX_5, mpX_6, mpX_7, mpX_8, mpX_9, mpX_10, mpX_11, mpX_12, mpX_13, mpX_14, mpX_15, mpX_16, mpX_17, mpX_18, mpX_19, mpX_20, mpX_21, m_rpE, ↓reduceIte]; rfl) | contradiction | rfl)) d_Mo_perform_172
  · refine k_tabIn C d_Mo_perform_21 (by decide) (by decide) (off := 152) (by decide) (tgt := 173) (by decide) ?_
    refine k_aload_n C d_Mo_perform_173 rfl ?_
    refine k_getr C d_Mo_perform_174 fg_Mo_52 (by decide) rfl ?_
    refine k_iload C d_Mo_perform_177 rfl ?_
    refine k_dup2 C d_Mo_perform_179 rfl rfl ?_
    refine k_iaload C d_Mo_perform_180 am_15 (by decide) (mx (g) 4 (a) 24 (by omega) (by decide)).1 (mx (g) 4 (a) 24 (by omega) (by decide)).2 ?_
    refine k_iload C d_Mo_perform_181 rfl ?_
    refine k_imul C d_Mo_perform_183 ?_
    refine k_iastore C d_Mo_perform_184 am_15 (by decide) (mx (g) 4 (a) 24 (by omega) (by decide)).1 (mx (g) 4 (a) 24 (by omega) (by decide)).2 I0 (trivial) (fun I5 => ?_)
    refine k_iconst C d_Mo_perform_185 (v := 0) (by decide) ?_
    exact k_ireturn C (E.to (by first | (simp only [mpT_0, mpT_1, mpT_2, mpT_3, mpT_4, mpT_5, mpT_6, mpT_7, mpT_8, mpT_9, mpT_10, mpT_11, mpT_12, mpT_13, mpT_14, mpT_15, mpT_16, mpT_17, mpT_18, mpT_19, mpT_20, mpT_21, mpX_0, mpX_1, mpX_2, mpX_3, mpX_4, mpX_5, mpX_6, mpX_7, mpX_8, mpX_9, mpX_10, mpX_11, mpX_12, mpX_13, mpX_14, mpX_15, mpX_16, mpX_17, mpX_18, mpX_19, mpX_20, mpX_21, m_rpE, ↓reduceIte]; done) | (simp only [mpT_0, mpT_1, mpT_2, mpT_3, mpT_4, mpT_5, mpT_6, mpT_7, mpT_8, mpT_9, mpT_10, mpT_11, mpT_12, mpT_13, mpT_14, mpT_15, mpT_16, mpT_17, mpT_18, mpT_19, mpT_20, mpT_21, mpX_0, mpX_1, mpX_2, mpX_3, mpX_4, mpX_5, mpX_6, mpX_7, mpX_8, mpX_9, mpX_10, mpX_11, mpX_12, mpX_13, mpX_14, mpX_15, mpX_16, mpX_17, mpX_18, mpX_19, mpX_20, mpX_21, m_rpE, ↓reduceIte]; rfl) | contradiction | rfl) (by first | (simp only [mpT_0, mpT_1, mpT_2, mpT_3, mpT_4, mpT_5, mpT_6, mpT_7, mpT_8, mpT_9, mpT_10, mpT_11, mpT_12, mpT_13, mpT_14, mpT_15, mpT_16, mpT_17, mpT_18, mpT_19, mpT_20, mpT_21, mpX_0, mpX_1, mpX_2, mpX_3, mpX_4, mpX_5, mpX_6, mpX_7, mpX_8, mpX_9, mpX_10, mpX_11, mpX_12, mpX_13, mpX_14, mpX_15, mpX_16, mpX_17, mpX_18, mpX_19, mpX_20, mpX_21, m_rpE, ↓reduceIte]; done) | (simp only [mpT_0, mpT_1, mpT_2, mpT_3, mpT_4, mpT_5, mpT_6, mpT_7, mpT_8, mpT_9, mpT_10, mpT_11, mpT_12, mpT_13, mpT_14, mpT_15, mpT_16, mpT_17, mpT_18, mpT_19, mpT_20, mpT_21, mpX_0, mpX_1, mpX_2, mpX_3, mpX_4, mpX_5, mpX_6, mpX_7, mpX_8, mpX_9, mpX_10, mpX_11, mpX_12, mpX_13, mpX_14, mpX_15, mpX_16, mpX_17, mpX_18, mpX_19, mpX_20, mpX_21, m_rpE, ↓reduceIte]; rfl) | contradiction | rfl)) d_Mo_perform_186
  · refine k_tabIn C d_Mo_perform_21 (by decide) (by decide) (off := 166) (by decide) (tgt := 187) (by decide) ?_
    refine k_iload C d_Mo_perform_187 rfl ?_
    refine k_if_ne C d_Mo_perform_189 (tgt := 194) (by decide) (fun h6 => ?_) (fun h6 => ?_)
    · refine k_aload_n C d_Mo_perform_194 rfl ?_
      refine k_getr C d_Mo_perform_195 fg_Mo_52 (by decide) rfl ?_
      refine k_iload C d_Mo_perform_198 rfl ?_
      refine k_dup2 C d_Mo_perform_200 rfl rfl ?_
      refine k_iaload C d_Mo_perform_201 am_15 (by decide) (mx (g) 4 (a) 24 (by omega) (by decide)).1 (mx (g) 4 (a) 24 (by omega) (by decide)).2 ?_
      refine k_iload C d_Mo_perform_202 rfl ?_
      refine k_idiv C d_Mo_perform_204 (by first | decide | assumption) ?_
      refine k_iastore C d_Mo_perform_205 am_15 (by decide) (mx (g) 4 (a) 24 (by omega) (by decide)).1 (mx (g) 4 (a) 24 (by omega) (by decide)).2 I0 (trivial) (fun I7 => ?_)
      refine k_iconst C d_Mo_perform_206 (v := 0) (by decide) ?_
      exact k_ireturn C (E.to (by first | (simp only [mpT_0, mpT_1, mpT_2, mpT_3, mpT_4, mpT_5, mpT_6, mpT_7, mpT_8, mpT_9, mpT_10, mpT_11, mpT_12, mpT_13, mpT_14, mpT_15, mpT_16, mpT_17, mpT_18, mpT_19, mpT_20, mpT_21, mpX_0, mpX_1, mpX_2, mpX_3, mpX_4, mpX_5, mpX_6, mpX_7, mpX_8, mpX_9, mpX_10, mpX_11, mpX_12, mpX_13, mpX_14, mpX_15, mpX_16, mpX_17, mpX_18, mpX_19, mpX_20, mpX_21, m_rpE, h6, ↓reduceIte]; done) | (simp only [mpT_0, mpT_1, mpT_2, mpT_3, mpT_4, mpT_5, mpT_6, mpT_7, mpT_8, mpT_9, mpT_10, mpT_11, mpT_12, mpT_13, mpT_14, mpT_15, mpT_16, mpT_17, mpT_18, mpT_19, mpT_20, mpT_21, mpX_0, mpX_1, mpX_2, mpX_3, mpX_4, mpX_5, mpX_6, mpX_7, mpX_8, mpX_9, mpX_10, mpX_11, mpX_12, mpX_13, mpX_14, mpX_15, mpX_16, mpX_17, mpX_18, mpX_19, mpX_20, mpX_21, m_rpE, h6, ↓reduceIte]; rfl) | contradiction | rfl) (by first | (simp only [mpT_0, mpT_1, mpT_2, mpT_3, mpT_4, mpT_5, mpT_6, mpT_7, mpT_8, mpT_9, mpT_10, mpT_11, mpT_12, mpT_13, mpT_14, mpT_15, mpT_16, mpT_17, mpT_18, mpT_19, mpT_20, mpT_21, mpX_0, mpX_1, mpX_2, mpX_3, mpX_4, mpX_5, mpX_6, mpX_7, mpX_8, mpX_9, mpX_10, mpX_11, mpX_12, mpX_13, mpX_14, mpX_15, mpX_16, mpX_17, mpX_18, mpX_19, mpX_20, mpX_21, m_rpE, h6, ↓reduceIte]; done) | (simp only [mpT_0, mpT_1, mpT_2, mpT_3, mpT_4, mpT_5, mpT_6, mpT_7, mpT_8, mpT_9, mpT_10, mpT_11, mpT_12, mpT_13, mpT_14, mpT_15, mpT_16, mpT_17, mpT_18, mpT_19, mpT_20, mpT_21, mpX_0, mpX_1, mpX_2, mpX_3, mpX_4, mpX_5, mpX_6, mpX_7, mpX_8, mpX_9, mpX_10, mpX_11, mpX_12, mpX_13, mpX_14, mpX_15, mpX_16, mpX_17, mpX_18, mpX_19, mpX_20, mpX_21, m_rpE, h6, ↓reduceIte]; rfl) | contradiction | rfl)) d_Mo_perform_207
    · refine k_iconst C d_Mo_perform_192 (v := 1) (by decide) ?_
      exact k_ireturn C (E.to (by first | (simp only [mpT_0, mpT_1, mpT_2, mpT_3, mpT_4, mpT_5, mpT_6, mpT_7, mpT_8, mpT_9, mpT_10, mpT_11, mpT_12, mpT_13, mpT_14, mpT_15, mpT_16, mpT_17, mpT_18, mpT_19, mpT_20, mpT_21, mpX_0, mpX_1, mpX_2, mpX_3, mpX_4, mpX_5, mpX_6, mpX_7, mpX_8, mpX_9, mpX_10, mpX_11, mpX_12, mpX_13, mpX_14, mpX_15, mpX_16, mpX_17, mpX_18, mpX_19, mpX_20, mpX_21, m_rpE, h6, ↓reduceIte]; done) | (simp only [mpT_0, mpT_1, mpT_2, mpT_3, mpT_4, mpT_5, mpT_6, mpT_7, mpT_8, mpT_9, mpT_10, mpT_11, mpT_12, mpT_13, mpT_14, mpT_15, mpT_16, mpT_17, mpT_18, mpT_19, mpT_20, mpT_21, mpX_0, mpX_1, mpX_2, mpX_3, mpX_4, mpX_5, mpX_6, mpX_7, mpX_8, mpX_9, mpX_10, mpX_11, mpX_12, mpX_13, mpX_14, mpX_15, mpX_16, mpX_17, mpX_18, mpX_19, mpX_20, mpX_21, m_rpE, h6, ↓reduceIte]; rfl) | contradiction | rfl) (by first | (simp only [mpT_0, mpT_1, mpT_2, mpT_3, mpT_4, mpT_5, mpT_6, mpT_7, mpT_8, mpT_9, mpT_10, mpT_11, mpT_12, mpT_13, mpT_14, mpT_15, mpT_16, mpT_17, mpT_18, mpT_19, mpT_20, mpT_21, mpX_0, mpX_1, mpX_2, mpX_3, mpX_4, mpX_5, mpX_6, mpX_7, mpX_8, mpX_9, mpX_10, mpX_11, mpX_12, mpX_13, mpX_14, mpX_15, mpX_16, mpX_17, mpX_18, mpX_19, mpX_20, mpX_21, m_rpE, h6, ↓reduceIte]; done) | (simp only [mpT_0, mpT_1, mpT_2, mpT_3, mpT_4, mpT_5, mpT_6, mpT_7, mpT_8, mpT_9, mpT_10, mpT_11, mpT_12, mpT_13, mpT_14, mpT_15, mpT_16, mpT_17, mpT_18, mpT_19, mpT_20, mpT_21, mpX_0, mpX_1, mpX_2, mpX_3, mpX_4, mpX_5, mpX_6, mpX_7, mpX_8, mpX_9, mpX_10, mpX_11, mpX_12, mpX_13, mpX_14, mpX_15, mpX_16, mpX_17, mpX_18, mpX_19, mpX_20, mpX_21, m_rpE, h6, ↓reduceIte]; rfl) | contradiction | rfl)) d_Mo_perform_193
  · refine k_tabIn C d_Mo_perform_21 (by decide) (by decide) (off := 187) (by decide) (tgt := 208) (by decide) ?_
    refine k_aload_n C d_Mo_perform_208 rfl ?_
    refine k_iload_n C d_Mo_perform_209 rfl ?_
    refine k_iload C d_Mo_perform_210 rfl ?_
    refine k_iload C d_Mo_perform_212 rfl ?_
    refine k_iadd C d_Mo_perform_214 ?_
    refine k_callVi C kg_all (c_Mo_where l G _ _ _ g rfl I0 hg) cs_Mo_131 cv_Mo_where om_0 (by decide) rfl rfl (Nat.le_of_ble_eq_true rfl) ⟨rfl, rfl⟩ ⟨by decide, by decide⟩ ⟨Nat.zero_le _, Nat.zero_le _⟩ d_Mo_perform_215 I0 (fun I8 => ?_)
    refine k_istore C d_Mo_perform_218 (by decide) ?_
    refine k_iload C d_Mo_perform_220 rfl ?_
    refine k_if_ge C d_Mo_perform_222 (tgt := 229) (by decide) (fun h9 => ?_) (fun h9 => ?_)
    · refine k_iload_n C d_Mo_perform_229 rfl ?_
      refine k_bipush C d_Mo_perform_230 (v := 7) (by decide) ?_
      refine k_icmp_ne C d_Mo_perform_232 (tgt := 252) (by decide) (fun h => absurd h (by decide)) (fun _ => ?_)
      refine k_aload_n C d_Mo_perform_235 rfl ?_
      refine k_getr C d_Mo_perform_236 fg_Mo_52 (by decide) rfl ?_
      refine k_iload C d_Mo_perform_239 rfl ?_
      refine k_aload_n C d_Mo_perform_241 rfl ?_
      refine k_getr C d_Mo_perform_242 fg_Mo_58 (by decide) rfl ?_
      refine k_iload C d_Mo_perform_245 rfl ?_
      refine k_iaload C d_Mo_perform_247 am_17 (by decide) (m_whv I0 ‹_›) rfl ?_
      refine k_iastore C d_Mo_perform_248 am_15 (by decide) (mx (g) 4 (a) 24 (by omega) (by decide)).1 (mx (g) 4 (a) 24 (by omega) (by decide)).2 I8 (trivial) (fun I10 => ?_)
      refine k_goto C d_Mo_perform_249 (tgt := 266) (by decide) ?_
      refine k_iconst C d_Mo_perform_266 (v := 0) (by decide) ?_
      exact k_ireturn C (E.to (by first | (simp only [mpT_0, mpT_1, mpT_2, mpT_3, mpT_4, mpT_5, mpT_6, mpT_7, mpT_8, mpT_9, mpT_10, mpT_11, mpT_12, mpT_13, mpT_14, mpT_15, mpT_16, mpT_17, mpT_18, mpT_19, mpT_20, mpT_21, mpX_0, mpX_1, mpX_2, mpX_3, mpX_4, mpX_5, mpX_6, mpX_7, mpX_8, mpX_9, mpX_10, mpX_11, mpX_12, mpX_13, mpX_14, mpX_15, mpX_16, mpX_17, mpX_18, mpX_19, mpX_20, mpX_21, m_rpE, h9, ↓reduceIte]; done) | (simp only [mpT_0, mpT_1, mpT_2, mpT_3, mpT_4, mpT_5, mpT_6, mpT_7, mpT_8, mpT_9, mpT_10, mpT_11, mpT_12, mpT_13, mpT_14, mpT_15, mpT_16, mpT_17, mpT_18, mpT_19, mpT_20, mpT_21, mpX_0, mpX_1, mpX_2, mpX_3, mpX_4, mpX_5, mpX_6, mpX_7, mpX_8, mpX_9, mpX_10, mpX_11, mpX_12, mpX_13, mpX_14, mpX_15, mpX_16, mpX_17, mpX_18, mpX_19, mpX_20, mpX_21, m_rpE, h9, ↓reduceIte]; rfl) | contradiction | rfl) (by first | (simp only [mpT_0, mpT_1, mpT_2, mpT_3, mpT_4, mpT_5, mpT_6, mpT_7, mpT_8, mpT_9, mpT_10, mpT_11, mpT_12, mpT_13, mpT_14, mpT_15, mpT_16, mpT_17, mpT_18, mpT_19, mpT_20, mpT_21, mpX_0, mpX_1, mpX_2, mpX_3, mpX_4, mpX_5, mpX_6, mpX_7, mpX_8, mpX_9, mpX_10, mpX_11, mpX_12, mpX_13, mpX_14, mpX_15, mpX_16, mpX_17, mpX_18, mpX_19, mpX_20, mpX_21, m_rpE, h9, ↓reduceIte]; done) | (simp only [mpT_0, mpT_1, mpT_2, mpT_3, mpT_4, mpT_5, mpT_6, mpT_7, mpT_8, mpT_9, mpT_10, mpT_11, mpT_12, mpT_13, mpT_14, mpT_15, mpT_16, mpT_17, mpT_18, mpT_19, mpT_20, mpT_21, mpX_0, mpX_1, mpX_2, mpX_3, mpX_4, mpX_5, mpX_6, mpX_7, mpX_8, mpX_9, mpX_10, mpX_11, mpX_12, mpX_13, mpX_14, mpX_15, mpX_16, mpX_17, mpX_18, mpX_19, mpX_20, mpX_21, m_rpE, h9, ↓reduceIte]; rfl) | contradiction | rfl)) d_Mo_perform_267
    · refine k_iload C d_Mo_perform_225 rfl ?_
      refine k_ineg C d_Mo_perform_227 ?_
      exact k_ireturn C (E.to (by first | (simp only [mpT_0, mpT_1, mpT_2, mpT_3, mpT_4, mpT_5, mpT_6, mpT_7, mpT_8, mpT_9, mpT_10, mpT_11, mpT_12, mpT_13, mpT_14, mpT_15, mpT_16, mpT_17, mpT_18, mpT_19, mpT_20, mpT_21, mpX_0, mpX_1, mpX_2, mpX_3, mpX_4, mpX_5, mpX_6, mpX_7, mpX_8, mpX_9, mpX_10, mpX_11, mpX_12, mpX_13, mpX_14, mpX_15, mpX_16, mpX_17, mpX_18, mpX_19, mpX_20, mpX_21, m_rpE, h9, ↓reduceIte]; done) | (simp only [mpT_0, mpT_1, mpT_2, mpT_3, mpT_4, mpT_5, mpT_6, mpT_7, mpT_8, mpT_9, mpT_10, mpT_11, mpT_12, mpT_13, mpT_14, mpT_15, mpT_16, mpT_17, mpT_18, mpT_19, mpT_20, mpT_21, mpX_0, mpX_1, mpX_2, mpX_3, mpX_4, mpX_5, mpX_6, mpX_7, mpX_8, mpX_9, mpX_10, mpX_11, mpX_12, mpX_13, mpX_14, mpX_15, mpX_16, mpX_17, mpX_18, mpX_19, mpX_20, mpX_21, m_rpE, h9, ↓reduceIte]; rfl) | contradiction | rfl) (by first | (simp only [mpT_0, mpT_1, mpT_2, mpT_3, mpT_4, mpT_5, mpT_6, mpT_7, mpT_8, mpT_9, mpT_10, mpT_11, mpT_12, mpT_13, mpT_14, mpT_15, mpT_16, mpT_17, mpT_18, mpT_19, mpT_20, mpT_21, mpX_0, mpX_1, mpX_2, mpX_3, mpX_4, mpX_5, mpX_6, mpX_7, mpX_8, mpX_9, mpX_10, mpX_11, mpX_12, mpX_13, mpX_14, mpX_15, mpX_16, mpX_17, mpX_18, mpX_19, mpX_20, mpX_21, m_rpE, h9, ↓reduceIte]; done) | (simp only [mpT_0, mpT_1, mpT_2, mpT_3, mpT_4, mpT_5, mpT_6, mpT_7, mpT_8, mpT_9, mpT_10, mpT_11, mpT_12, mpT_13, mpT_14, mpT_15, mpT_16, mpT_17, mpT_18, mpT_19, mpT_20, mpT_21, mpX_0, mpX_1, mpX_2, mpX_3, mpX_4, mpX_5, mpX_6, mpX_7, mpX_8, mpX_9, mpX_10, mpX_11, mpX_12, mpX_13, mpX_14, mpX_15, mpX_16, mpX_17, mpX_18, mpX_19, mpX_20, mpX_21, m_rpE, h9, ↓reduceIte]; rfl) | contradiction | rfl)) d_Mo_perform_228
  · refine k_tabIn C d_Mo_perform_21 (by decide) (by decide) (off := 187) (by decide) (tgt := 208) (by decide) ?_
    refine k_aload_n C d_Mo_perform_208 rfl ?_
    refine k_iload_n C d_Mo_perform_209 rfl ?_
    refine k_iload C d_Mo_perform_210 rfl ?_
    refine k_iload C d_Mo_perform_212 rfl ?_
    refine k_iadd C d_Mo_perform_214 ?_
    refine k_callVi C kg_all (c_Mo_where l G _ _ _ g rfl I0 hg) cs_Mo_131 cv_Mo_where om_0 (by decide) rfl rfl (Nat.le_of_ble_eq_true rfl) ⟨rfl, rfl⟩ ⟨by decide, by decide⟩ ⟨Nat.zero_le _, Nat.zero_le _⟩ d_Mo_perform_215 I0 (fun I11 => ?_)
    refine k_istore C d_Mo_perform_218 (by decide) ?_
    refine k_iload C d_Mo_perform_220 rfl ?_
    refine k_if_ge C d_Mo_perform_222 (tgt := 229) (by decide) (fun h12 => ?_) (fun h12 => ?_)
    · refine k_iload_n C d_Mo_perform_229 rfl ?_
      refine k_bipush C d_Mo_perform_230 (v := 7) (by decide) ?_
      refine k_icmp_ne C d_Mo_perform_232 (tgt := 252) (by decide) (fun _ => ?_) (fun h => absurd h (by decide))
      refine k_aload_n C d_Mo_perform_252 rfl ?_
      refine k_getr C d_Mo_perform_253 fg_Mo_58 (by decide) rfl ?_
      refine k_iload C d_Mo_perform_256 rfl ?_
      refine k_aload_n C d_Mo_perform_258 rfl ?_
      refine k_getr C d_Mo_perform_259 fg_Mo_52 (by decide) rfl ?_
      refine k_iload C d_Mo_perform_262 rfl ?_
      refine k_iaload C d_Mo_perform_264 am_15 (by decide) (mx (g) 4 (a) 24 (by omega) (by decide)).1 (mx (g) 4 (a) 24 (by omega) (by decide)).2 ?_
      refine k_iastore C d_Mo_perform_265 am_17 (by decide) (m_whv I0 ‹_›) rfl I11 (trivial) (fun I13 => ?_)
      refine k_iconst C d_Mo_perform_266 (v := 0) (by decide) ?_
      exact k_ireturn C (E.to (by first | (simp only [mpT_0, mpT_1, mpT_2, mpT_3, mpT_4, mpT_5, mpT_6, mpT_7, mpT_8, mpT_9, mpT_10, mpT_11, mpT_12, mpT_13, mpT_14, mpT_15, mpT_16, mpT_17, mpT_18, mpT_19, mpT_20, mpT_21, mpX_0, mpX_1, mpX_2, mpX_3, mpX_4, mpX_5, mpX_6, mpX_7, mpX_8, mpX_9, mpX_10, mpX_11, mpX_12, mpX_13, mpX_14, mpX_15, mpX_16, mpX_17, mpX_18, mpX_19, mpX_20, mpX_21, m_rpE, h12, ↓reduceIte]; done) | (simp only [mpT_0, mpT_1, mpT_2, mpT_3, mpT_4, mpT_5, mpT_6, mpT_7, mpT_8, mpT_9, mpT_10, mpT_11, mpT_12, mpT_13, mpT_14, mpT_15, mpT_16, mpT_17, mpT_18, mpT_19, mpT_20, mpT_21, mpX_0, mpX_1, mpX_2, mpX_3, mpX_4, mpX_5, mpX_6, mpX_7, mpX_8, mpX_9, mpX_10, mpX_11, mpX_12, mpX_13, mpX_14, mpX_15, mpX_16, mpX_17, mpX_18, mpX_19, mpX_20, mpX_21, m_rpE, h12, ↓reduceIte]; rfl) | contradiction | rfl) (by first | (simp only [mpT_0, mpT_1, mpT_2, mpT_3, mpT_4, mpT_5, mpT_6, mpT_7, mpT_8, mpT_9, mpT_10, mpT_11, mpT_12, mpT_13, mpT_14, mpT_15, mpT_16, mpT_17, mpT_18, mpT_19, mpT_20, mpT_21, mpX_0, mpX_1, mpX_2, mpX_3, mpX_4, mpX_5, mpX_6, mpX_7, mpX_8, mpX_9, mpX_10, mpX_11, mpX_12, mpX_13, mpX_14, mpX_15, mpX_16, mpX_17, mpX_18, mpX_19, mpX_20, mpX_21, m_rpE, h12, ↓reduceIte]; done) | (simp only [mpT_0, mpT_1, mpT_2, mpT_3, mpT_4, mpT_5, mpT_6, mpT_7, mpT_8, mpT_9, mpT_10, mpT_11, mpT_12, mpT_13, mpT_14, mpT_15, mpT_16, mpT_17, mpT_18, mpT_19, mpT_20, mpT_21, mpX_0, mpX_1, mpX_2, mpX_3, mpX_4, mpX_5, mpX_6, mpX_7, mpX_8, mpX_9, mpX_10, mpX_11, mpX_12, mpX_13, mpX_14, mpX_15, mpX_16, mpX_17, mpX_18, mpX_19, mpX_20, mpX_21, m_rpE, h12, ↓reduceIte]; rfl) | contradiction | rfl)) d_Mo_perform_267
    · refine k_iload C d_Mo_perform_225 rfl ?_
      refine k_ineg C d_Mo_perform_227 ?_
      exact k_ireturn C (E.to (by first | (simp only [mpT_0, mpT_1, mpT_2, mpT_3, mpT_4, mpT_5, mpT_6, mpT_7, mpT_8, mpT_9, mpT_10, mpT_11, mpT_12, mpT_13, mpT_14, mpT_15, mpT_16, mpT_17, mpT_18, mpT_19, mpT_20, mpT_21, mpX_0, mpX_1, mpX_2, mpX_3, mpX_4, mpX_5, mpX_6, mpX_7, mpX_8, mpX_9, mpX_10, mpX_11, mpX_12, mpX_13, mpX_14, mpX_15, mpX_16, mpX_17, mpX_18, mpX_19, mpX_20, mpX_21, m_rpE, h12, ↓reduceIte]; done) | (simp only [mpT_0, mpT_1, mpT_2, mpT_3, mpT_4, mpT_5, mpT_6, mpT_7, mpT_8, mpT_9, mpT_10, mpT_11, mpT_12, mpT_13, mpT_14, mpT_15, mpT_16, mpT_17, mpT_18, mpT_19, mpT_20, mpT_21, mpX_0, mpX_1, mpX_2, mpX_3, mpX_4, mpX_5, mpX_6, mpX_7, mpX_8, mpX_9, mpX_10, mpX_11, mpX_12, mpX_13, mpX_14, mpX_15, mpX_16, mpX_17, mpX_18, mpX_19, mpX_20, mpX_21, m_rpE, h12, ↓reduceIte]; rfl) | contradiction | rfl) (by first | (simp only [mpT_0, mpT_1, mpT_2, mpT_3, mpT_4, mpT_5, mpT_6, mpT_7, mpT_8, mpT_9, mpT_10, mpT_11, mpT_12, mpT_13, mpT_14, mpT_15, mpT_16, mpT_17, mpT_18, mpT_19, mpT_20, mpT_21, mpX_0, mpX_1, mpX_2, mpX_3, mpX_4, mpX_5, mpX_6, mpX_7, mpX_8, mpX_9, mpX_10, mpX_11, mpX_12, mpX_13, mpX_14, mpX_15, mpX_16, mpX_17, mpX_18, mpX_19, mpX_20, mpX_21, m_rpE, h12, ↓reduceIte]; done) | (simp only [mpT_0, mpT_1, mpT_2, mpT_3, mpT_4, mpT_5, mpT_6, mpT_7, mpT_8, mpT_9, mpT_10, mpT_11, mpT_12, mpT_13, mpT_14, mpT_15, mpT_16, mpT_17, mpT_18, mpT_19, mpT_20, mpT_21, mpX_0, mpX_1, mpX_2, mpX_3, mpX_4, mpX_5, mpX_6, mpX_7, mpX_8, mpX_9, mpX_10, mpX_11, mpX_12, mpX_13, mpX_14, mpX_15, mpX_16, mpX_17, mpX_18, mpX_19, mpX_20, mpX_21, m_rpE, h12, ↓reduceIte]; rfl) | contradiction | rfl)) d_Mo_perform_228
  · refine k_tabIn C d_Mo_perform_21 (by decide) (by decide) (off := 435) (by decide) (tgt := 456) (by decide) ?_
    refine k_iconst C d_Mo_perform_456 (v := 0) (by decide) ?_
    exact k_ireturn C (E.to (by first | (simp only [mpT_0, mpT_1, mpT_2, mpT_3, mpT_4, mpT_5, mpT_6, mpT_7, mpT_8, mpT_9, mpT_10, mpT_11, mpT_12, mpT_13, mpT_14, mpT_15, mpT_16, mpT_17, mpT_18, mpT_19, mpT_20, mpT_21, mpX_0, mpX_1, mpX_2, mpX_3, mpX_4, mpX_5, mpX_6, mpX_7, mpX_8, mpX_9, mpX_10, mpX_11, mpX_12, mpX_13, mpX_14, mpX_15, mpX_16, mpX_17, mpX_18, mpX_19, mpX_20, mpX_21, m_rpE, ↓reduceIte]; done) | (simp only [mpT_0, mpT_1, mpT_2, mpT_3, mpT_4, mpT_5, mpT_6, mpT_7, mpT_8, mpT_9, mpT_10, mpT_11, mpT_12, mpT_13, mpT_14, mpT_15, mpT_16, mpT_17, mpT_18, mpT_19, mpT_20, mpT_21, mpX_0, mpX_1, mpX_2, mpX_3, mpX_4, mpX_5, mpX_6, mpX_7, mpX_8, mpX_9, mpX_10, mpX_11, mpX_12, mpX_13, mpX_14, mpX_15, mpX_16, mpX_17, mpX_18, mpX_19, mpX_20, mpX_21, m_rpE, ↓reduceIte]; rfl) | contradiction | rfl) (by first | (simp only [mpT_0, mpT_1, mpT_2, mpT_3, mpT_4, mpT_5, mpT_6, mpT_7, mpT_8, mpT_9, mpT_10, mpT_11, mpT_12, mpT_13, mpT_14, mpT_15, mpT_16, mpT_17, mpT_18, mpT_19, mpT_20, mpT_21, mpX_0, mpX_1, mpX_2, mpX_3, mpX_4, mpX_5, mpX_6, mpX_7, mpX_8, mpX_9, mpX_10, mpX_11, mpX_12, mpX_13, mpX_14, mpX_15, mpX_16, mpX_17, mpX_18, mpX_19, mpX_20, mpX_21, m_rpE, ↓reduceIte]; done) | (simp only [mpT_0, mpT_1, mpT_2, mpT_3, mpT_4, mpT_5, mpT_6, mpT_7, mpT_8, mpT_9, mpT_10, mpT_11, mpT_12, mpT_13, mpT_14, mpT_15, mpT_16, mpT_17, mpT_18, mpT_19, mpT_20, mpT_21, mpX_0, mpX_1, mpX_2, mpX_3, mpX_4, mpX_5, mpX_6, mpX_7, mpX_8, mpX_9, mpX_10, mpX_11, mpX_12, mpX_13, mpX_14, mpX_15, mpX_16, mpX_17, mpX_18, mpX_19, mpX_20, mpX_21, m_rpE, ↓reduceIte]; rfl) | contradiction | rfl)) d_Mo_perform_457
  · refine k_tabIn C d_Mo_perform_21 (by decide) (by decide) (off := 435) (by decide) (tgt := 456) (by decide) ?_
    refine k_iconst C d_Mo_perform_456 (v := 0) (by decide) ?_
    exact k_ireturn C (E.to (by first | (simp only [mpT_0, mpT_1, mpT_2, mpT_3, mpT_4, mpT_5, mpT_6, mpT_7, mpT_8, mpT_9, mpT_10, mpT_11, mpT_12, mpT_13, mpT_14, mpT_15, mpT_16, mpT_17, mpT_18, mpT_19, mpT_20, mpT_21, mpX_0, mpX_1, mpX_2, mpX_3, mpX_4, mpX_5, mpX_6, mpX_7, mpX_8, mpX_9, mpX_10, mpX_11, mpX_12, mpX_13, mpX_14, mpX_15, mpX_16, mpX_17, mpX_18, mpX_19, mpX_20, mpX_21, m_rpE, ↓reduceIte]; done) | (simp only [mpT_0, mpT_1, mpT_2, mpT_3, mpT_4, mpT_5, mpT_6, mpT_7, mpT_8, mpT_9, mpT_10, mpT_11, mpT_12, mpT_13, mpT_14, mpT_15, mpT_16, mpT_17, mpT_18, mpT_19, mpT_20, mpT_21, mpX_0, mpX_1, mpX_2, mpX_3, mpX_4, mpX_5, mpX_6, mpX_7, mpX_8, mpX_9, mpX_10, mpX_11, mpX_12, mpX_13, mpX_14, mpX_15, mpX_16, mpX_17, mpX_18, mpX_19, mpX_20, mpX_21, m_rpE, ↓reduceIte]; rfl) | contradiction | rfl) (by first | (simp only [mpT_0, mpT_1, mpT_2, mpT_3, mpT_4, mpT_5, mpT_6, mpT_7, mpT_8, mpT_9, mpT_10, mpT_11, mpT_12, mpT_13, mpT_14, mpT_15, mpT_16, mpT_17, mpT_18, mpT_19, mpT_20, mpT_21, mpX_0, mpX_1, mpX_2, mpX_3, mpX_4, mpX_5, mpX_6, mpX_7, mpX_8, mpX_9, mpX_10, mpX_11, mpX_12, mpX_13, mpX_14, mpX_15, mpX_16, mpX_17, mpX_18, mpX_19, mpX_20, mpX_21, m_rpE, ↓reduceIte]; done) | (simp only [mpT_0, mpT_1, mpT_2, mpT_3, mpT_4, mpT_5, mpT_6, mpT_7, mpT_8, mpT_9, mpT_10, mpT_11, mpT_12, mpT_13, mpT_14, mpT_15, mpT_16, mpT_17, mpT_18, mpT_19, mpT_20, mpT_21, mpX_0, mpX_1, mpX_2, mpX_3, mpX_4, mpX_5, mpX_6, mpX_7, mpX_8, mpX_9, mpX_10, mpX_11, mpX_12, mpX_13, mpX_14, mpX_15, mpX_16, mpX_17, mpX_18, mpX_19, mpX_20, mpX_21, m_rpE, ↓reduceIte]; rfl) | contradiction | rfl)) d_Mo_perform_457
  · refine k_tabIn C d_Mo_perform_21 (by decide) (by decide) (off := 247) (by decide) (tgt := 268) (by decide) ?_
    refine k_aload_n C d_Mo_perform_268 rfl ?_
    refine k_getr C d_Mo_perform_269 fg_Mo_28 (by decide) rfl ?_
    refine k_iload_n C d_Mo_perform_272 rfl ?_
    refine k_iload C d_Mo_perform_273 rfl ?_
    refine k_if_ge C d_Mo_perform_275 (tgt := 282) (by decide) (fun h14 => ?_) (fun h14 => ?_)
    · refine k_iload C d_Mo_perform_282 rfl ?_
      refine k_bipush C d_Mo_perform_284 (v := 31) (by decide) ?_
      refine k_iand C d_Mo_perform_286 ?_
      refine k_iastore C d_Mo_perform_287 am_7 (by decide) (vp_in_nI (by omega) (by decide)) (nI_clamp (by omega)) I0 (Or.inr (m_31 n)) (fun I15 => ?_)
      refine k_iconst C d_Mo_perform_288 (v := 0) (by decide) ?_
      exact k_ireturn C (E.to (by first | (simp only [mpT_0, mpT_1, mpT_2, mpT_3, mpT_4, mpT_5, mpT_6, mpT_7, mpT_8, mpT_9, mpT_10, mpT_11, mpT_12, mpT_13, mpT_14, mpT_15, mpT_16, mpT_17, mpT_18, mpT_19, mpT_20, mpT_21, mpX_0, mpX_1, mpX_2, mpX_3, mpX_4, mpX_5, mpX_6, mpX_7, mpX_8, mpX_9, mpX_10, mpX_11, mpX_12, mpX_13, mpX_14, mpX_15, mpX_16, mpX_17, mpX_18, mpX_19, mpX_20, mpX_21, m_rpE, h14, ↓reduceIte]; done) | (simp only [mpT_0, mpT_1, mpT_2, mpT_3, mpT_4, mpT_5, mpT_6, mpT_7, mpT_8, mpT_9, mpT_10, mpT_11, mpT_12, mpT_13, mpT_14, mpT_15, mpT_16, mpT_17, mpT_18, mpT_19, mpT_20, mpT_21, mpX_0, mpX_1, mpX_2, mpX_3, mpX_4, mpX_5, mpX_6, mpX_7, mpX_8, mpX_9, mpX_10, mpX_11, mpX_12, mpX_13, mpX_14, mpX_15, mpX_16, mpX_17, mpX_18, mpX_19, mpX_20, mpX_21, m_rpE, h14, ↓reduceIte]; rfl) | contradiction | rfl) (by first | (simp only [mpT_0, mpT_1, mpT_2, mpT_3, mpT_4, mpT_5, mpT_6, mpT_7, mpT_8, mpT_9, mpT_10, mpT_11, mpT_12, mpT_13, mpT_14, mpT_15, mpT_16, mpT_17, mpT_18, mpT_19, mpT_20, mpT_21, mpX_0, mpX_1, mpX_2, mpX_3, mpX_4, mpX_5, mpX_6, mpX_7, mpX_8, mpX_9, mpX_10, mpX_11, mpX_12, mpX_13, mpX_14, mpX_15, mpX_16, mpX_17, mpX_18, mpX_19, mpX_20, mpX_21, m_rpE, h14, ↓reduceIte]; done) | (simp only [mpT_0, mpT_1, mpT_2, mpT_3, mpT_4, mpT_5, mpT_6, mpT_7, mpT_8, mpT_9, mpT_10, mpT_11, mpT_12, mpT_13, mpT_14, mpT_15, mpT_16, mpT_17, mpT_18, mpT_19, mpT_20, mpT_21, mpX_0, mpX_1, mpX_2, mpX_3, mpX_4, mpX_5, mpX_6, mpX_7, mpX_8, mpX_9, mpX_10, mpX_11, mpX_12, mpX_13, mpX_14, mpX_15, mpX_16, mpX_17, mpX_18, mpX_19, mpX_20, mpX_21, m_rpE, h14, ↓reduceIte]; rfl) | contradiction | rfl)) d_Mo_perform_289
    · refine k_iconst C d_Mo_perform_278 (v := (-1)) (by decide) ?_
      refine k_goto C d_Mo_perform_279 (tgt := 287) (by decide) ?_
      refine k_iastore C d_Mo_perform_287 am_7 (by decide) (vp_in_nI (by omega) (by decide)) (nI_clamp (by omega)) I0 (Or.inl rfl) (fun I16 => ?_)
      refine k_iconst C d_Mo_perform_288 (v := 0) (by decide) ?_
      exact k_ireturn C (E.to (by first | (simp only [mpT_0, mpT_1, mpT_2, mpT_3, mpT_4, mpT_5, mpT_6, mpT_7, mpT_8, mpT_9, mpT_10, mpT_11, mpT_12, mpT_13, mpT_14, mpT_15, mpT_16, mpT_17, mpT_18, mpT_19, mpT_20, mpT_21, mpX_0, mpX_1, mpX_2, mpX_3, mpX_4, mpX_5, mpX_6, mpX_7, mpX_8, mpX_9, mpX_10, mpX_11, mpX_12, mpX_13, mpX_14, mpX_15, mpX_16, mpX_17, mpX_18, mpX_19, mpX_20, mpX_21, m_rpE, h14, ↓reduceIte]; done) | (simp only [mpT_0, mpT_1, mpT_2, mpT_3, mpT_4, mpT_5, mpT_6, mpT_7, mpT_8, mpT_9, mpT_10, mpT_11, mpT_12, mpT_13, mpT_14, mpT_15, mpT_16, mpT_17, mpT_18, mpT_19, mpT_20, mpT_21, mpX_0, mpX_1, mpX_2, mpX_3, mpX_4, mpX_5, mpX_6, mpX_7, mpX_8, mpX_9, mpX_10, mpX_11, mpX_12, mpX_13, mpX_14, mpX_15, mpX_16, mpX_17, mpX_18, mpX_19, mpX_20, mpX_21, m_rpE, h14, ↓reduceIte]; rfl) | contradiction | rfl) (by first | (simp only [mpT_0, mpT_1, mpT_2, mpT_3, mpT_4, mpT_5, mpT_6, mpT_7, mpT_8, mpT_9, mpT_10, mpT_11, mpT_12, mpT_13, mpT_14, mpT_15, mpT_16, mpT_17, mpT_18, mpT_19, mpT_20, mpT_21, mpX_0, mpX_1, mpX_2, mpX_3, mpX_4, mpX_5, mpX_6, mpX_7, mpX_8, mpX_9, mpX_10, mpX_11, mpX_12, mpX_13, mpX_14, mpX_15, mpX_16, mpX_17, mpX_18, mpX_19, mpX_20, mpX_21, m_rpE, h14, ↓reduceIte]; done) | (simp only [mpT_0, mpT_1, mpT_2, mpT_3, mpT_4, mpT_5, mpT_6, mpT_7, mpT_8, mpT_9, mpT_10, mpT_11, mpT_12, mpT_13, mpT_14, mpT_15, mpT_16, mpT_17, mpT_18, mpT_19, mpT_20, mpT_21, mpX_0, mpX_1, mpX_2, mpX_3, mpX_4, mpX_5, mpX_6, mpX_7, mpX_8, mpX_9, mpX_10, mpX_11, mpX_12, mpX_13, mpX_14, mpX_15, mpX_16, mpX_17, mpX_18, mpX_19, mpX_20, mpX_21, m_rpE, h14, ↓reduceIte]; rfl) | contradiction | rfl)) d_Mo_perform_289
  · refine k_tabIn C d_Mo_perform_21 (by decide) (by decide) (off := 435) (by decide) (tgt := 456) (by decide) ?_
    refine k_iconst C d_Mo_perform_456 (v := 0) (by decide) ?_
    exact k_ireturn C (E.to (by first | (simp only [mpT_0, mpT_1, mpT_2, mpT_3, mpT_4, mpT_5, mpT_6, mpT_7, mpT_8, mpT_9, mpT_10, mpT_11, mpT_12, mpT_13, mpT_14, mpT_15, mpT_16, mpT_17, mpT_18, mpT_19, mpT_20, mpT_21, mpX_0, mpX_1, mpX_2, mpX_3, mpX_4, mpX_5, mpX_6, mpX_7, mpX_8, mpX_9, mpX_10, mpX_11, mpX_12, mpX_13, mpX_14, mpX_15, mpX_16, mpX_17, mpX_18, mpX_19, mpX_20, mpX_21, m_rpE, ↓reduceIte]; done) | (simp only [mpT_0, mpT_1, mpT_2, mpT_3, mpT_4, mpT_5, mpT_6, mpT_7, mpT_8, mpT_9, mpT_10, mpT_11, mpT_12, mpT_13, mpT_14, mpT_15, mpT_16, mpT_17, mpT_18, mpT_19, mpT_20, mpT_21, mpX_0, mpX_1, mpX_2, mpX_3, mpX_4, mpX_5, mpX_6, mpX_7, mpX_8, mpX_9, mpX_10, mpX_11, mpX_12, mpX_13, mpX_14, mpX_15, mpX_16, mpX_17, mpX_18, mpX_19, mpX_20, mpX_21, m_rpE, ↓reduceIte]; rfl) | contradiction | rfl) (by first | (simp only [mpT_0, mpT_1, mpT_2, mpT_3, mpT_4, mpT_5, mpT_6, mpT_7, mpT_8, mpT_9, mpT_10, mpT_11, mpT_12, mpT_13, mpT_14, mpT_15, mpT_16, mpT_17, mpT_18, mpT_19, mpT_20, mpT_21, mpX_0, mpX_1, mpX_2, mpX_3, mpX_4, mpX_5, mpX_6, mpX_7, mpX_8, mpX_9, mpX_10, mpX_11, mpX_12, mpX_13, mpX_14, mpX_15, mpX_16, mpX_17, mpX_18, mpX_19, mpX_20, mpX_21, m_rpE, ↓reduceIte]; done) | (simp only [mpT_0, mpT_1, mpT_2, mpT_3, mpT_4, mpT_5, mpT_6, mpT_7, mpT_8, mpT_9, mpT_10, mpT_11, mpT_12, mpT_13, mpT_14, mpT_15, mpT_16, mpT_17, mpT_18, mpT_19, mpT_20, mpT_21, mpX_0, mpX_1, mpX_2, mpX_3, mpX_4, mpX_5, mpX_6, mpX_7, mpX_8, mpX_9, mpX_10, mpX_11, mpX_12, mpX_13, mpX_14, mpX_15, mpX_16, mpX_17, mpX_18, mpX_19, mpX_20, mpX_21, m_rpE, ↓reduceIte]; rfl) | contradiction | rfl)) d_Mo_perform_457
  · refine k_tabIn C d_Mo_perform_21 (by decide) (by decide) (off := 269) (by decide) (tgt := 290) (by decide) ?_
    refine k_aload_n C d_Mo_perform_290 rfl ?_
    refine k_iload C d_Mo_perform_291 rfl ?_
    refine k_iconst C d_Mo_perform_293 (v := 3) (by decide) ?_
    refine k_callVi C kg_all (c_Mo_no l G _ _ _ I0) cs_Mo_102 cv_Mo_no om_0 (by decide) rfl rfl (Nat.le_of_ble_eq_true rfl) ⟨rfl, rfl⟩ ⟨by decide, by decide⟩ ⟨Nat.zero_le _, Nat.zero_le _⟩ d_Mo_perform_294 I0 (fun I17 => ?_)
    refine k_if_eq C d_Mo_perform_297 (tgt := 302) (by decide) (fun h18 => ?_) (fun h18 => ?_)
    · have hn := r_no (n := 3) (by decide) ‹_›
      have hn4 := k_lt hn
      refine k_aload_n C d_Mo_perform_302 rfl ?_
      refine k_getr C d_Mo_perform_303 fg_Mo_55 (by decide) rfl ?_
      refine k_iload_n C d_Mo_perform_306 rfl ?_
      refine k_iconst C d_Mo_perform_307 (v := 4) (by decide) ?_
      refine k_imul C d_Mo_perform_308 ?_
      refine k_iload C d_Mo_perform_309 rfl ?_
      refine k_top (r_id hn (by decide)) ?_
      refine k_iadd C d_Mo_perform_311 ?_
      refine k_iaload C d_Mo_perform_312 am_16 (by decide) (mx (g) 4 (n.toNatClampNeg) 24 (by omega) (by decide)).1 (mx (g) 4 (n.toNatClampNeg) 24 (by omega) (by decide)).2 ?_
      refine k_if_ge C d_Mo_perform_313 (tgt := 320) (by decide) (fun h19 => ?_) (fun h19 => ?_)
      · refine k_iconst C d_Mo_perform_320 (v := 1) (by decide) ?_
        refine k_istore C d_Mo_perform_321 (by decide) ?_
        refine k_iload_n C d_Mo_perform_323 rfl ?_
        refine k_bipush C d_Mo_perform_324 (v := 14) (by decide) ?_
        refine k_icmp_ne C d_Mo_perform_326 (tgt := 336) (by decide) (fun _ => ?_) (fun h => absurd h (by decide))
        refine k_aload_n C d_Mo_perform_336 rfl ?_
        refine k_getr C d_Mo_perform_337 fg_Mo_52 (by decide) rfl ?_
        refine k_iload C d_Mo_perform_340 rfl ?_
        refine k_iload_n C d_Mo_perform_342 rfl ?_
        refine k_bipush C d_Mo_perform_343 (v := 13) (by decide) ?_
        refine k_icmp_ne C d_Mo_perform_345 (tgt := 358) (by decide) (fun h => absurd h (by decide)) (fun _ => ?_)
        refine k_aload_n C d_Mo_perform_348 rfl ?_
        refine k_iload_n C d_Mo_perform_349 rfl ?_
        refine k_iload C d_Mo_perform_350 rfl ?_
        refine k_callVi C kg_all (c_Mo_map l G _ _ _ g n.toNatClampNeg rfl (r_id hn (by decide)) I17 hg hn4) cs_Mo_135 cv_Mo_map om_0 (by decide) rfl rfl (Nat.le_of_ble_eq_true rfl) ⟨rfl, rfl⟩ ⟨by decide, by decide⟩ ⟨Nat.zero_le _, Nat.zero_le _⟩ d_Mo_perform_352 (j_map I17).1 (fun I20 => ?_)
        refine k_goto C d_Mo_perform_355 (tgt := 360) (by decide) ?_
        refine k_iastore C d_Mo_perform_360 am_15 (by decide) (mx (g) 4 (a) 24 (by omega) (by decide)).1 (mx (g) 4 (a) 24 (by omega) (by decide)).2 I20 (trivial) (fun I21 => ?_)
        refine k_iconst C d_Mo_perform_361 (v := 0) (by decide) ?_
        exact k_ireturn C (E.to (by first | (simp only [mpT_0, mpT_1, mpT_2, mpT_3, mpT_4, mpT_5, mpT_6, mpT_7, mpT_8, mpT_9, mpT_10, mpT_11, mpT_12, mpT_13, mpT_14, mpT_15, mpT_16, mpT_17, mpT_18, mpT_19, mpT_20, mpT_21, mpX_0, mpX_1, mpX_2, mpX_3, mpX_4, mpX_5, mpX_6, mpX_7, mpX_8, mpX_9, mpX_10, mpX_11, mpX_12, mpX_13, mpX_14, mpX_15, mpX_16, mpX_17, mpX_18, mpX_19, mpX_20, mpX_21, m_rpE, h18, h19, ↓reduceIte]; done) | (simp only [mpT_0, mpT_1, mpT_2, mpT_3, mpT_4, mpT_5, mpT_6, mpT_7, mpT_8, mpT_9, mpT_10, mpT_11, mpT_12, mpT_13, mpT_14, mpT_15, mpT_16, mpT_17, mpT_18, mpT_19, mpT_20, mpT_21, mpX_0, mpX_1, mpX_2, mpX_3, mpX_4, mpX_5, mpX_6, mpX_7, mpX_8, mpX_9, mpX_10, mpX_11, mpX_12, mpX_13, mpX_14, mpX_15, mpX_16, mpX_17, mpX_18, mpX_19, mpX_20, mpX_21, m_rpE, h18, h19, ↓reduceIte]; rfl) | contradiction | rfl) (by first | (simp only [mpT_0, mpT_1, mpT_2, mpT_3, mpT_4, mpT_5, mpT_6, mpT_7, mpT_8, mpT_9, mpT_10, mpT_11, mpT_12, mpT_13, mpT_14, mpT_15, mpT_16, mpT_17, mpT_18, mpT_19, mpT_20, mpT_21, mpX_0, mpX_1, mpX_2, mpX_3, mpX_4, mpX_5, mpX_6, mpX_7, mpX_8, mpX_9, mpX_10, mpX_11, mpX_12, mpX_13, mpX_14, mpX_15, mpX_16, mpX_17, mpX_18, mpX_19, mpX_20, mpX_21, m_rpE, h18, h19, ↓reduceIte]; done) | (simp only [mpT_0, mpT_1, mpT_2, mpT_3, mpT_4, mpT_5, mpT_6, mpT_7, mpT_8, mpT_9, mpT_10, mpT_11, mpT_12, mpT_13, mpT_14, mpT_15, mpT_16, mpT_17, mpT_18, mpT_19, mpT_20, mpT_21, mpX_0, mpX_1, mpX_2, mpX_3, mpX_4, mpX_5, mpX_6, mpX_7, mpX_8, mpX_9, mpX_10, mpX_11, mpX_12, mpX_13, mpX_14, mpX_15, mpX_16, mpX_17, mpX_18, mpX_19, mpX_20, mpX_21, m_rpE, h18, h19, ↓reduceIte]; rfl) | contradiction | rfl)) d_Mo_perform_362
      · refine k_iconst C d_Mo_perform_316 (v := 0) (by decide) ?_
        refine k_goto C d_Mo_perform_317 (tgt := 321) (by decide) ?_
        refine k_istore C d_Mo_perform_321 (by decide) ?_
        refine k_iload_n C d_Mo_perform_323 rfl ?_
        refine k_bipush C d_Mo_perform_324 (v := 14) (by decide) ?_
        refine k_icmp_ne C d_Mo_perform_326 (tgt := 336) (by decide) (fun _ => ?_) (fun h => absurd h (by decide))
        refine k_aload_n C d_Mo_perform_336 rfl ?_
        refine k_getr C d_Mo_perform_337 fg_Mo_52 (by decide) rfl ?_
        refine k_iload C d_Mo_perform_340 rfl ?_
        refine k_iload_n C d_Mo_perform_342 rfl ?_
        refine k_bipush C d_Mo_perform_343 (v := 13) (by decide) ?_
        refine k_icmp_ne C d_Mo_perform_345 (tgt := 358) (by decide) (fun h => absurd h (by decide)) (fun _ => ?_)
        refine k_aload_n C d_Mo_perform_348 rfl ?_
        refine k_iload_n C d_Mo_perform_349 rfl ?_
        refine k_iload C d_Mo_perform_350 rfl ?_
        refine k_callVi C kg_all (c_Mo_map l G _ _ _ g n.toNatClampNeg rfl (r_id hn (by decide)) I17 hg hn4) cs_Mo_135 cv_Mo_map om_0 (by decide) rfl rfl (Nat.le_of_ble_eq_true rfl) ⟨rfl, rfl⟩ ⟨by decide, by decide⟩ ⟨Nat.zero_le _, Nat.zero_le _⟩ d_Mo_perform_352 (j_map I17).1 (fun I22 => ?_)
        refine k_goto C d_Mo_perform_355 (tgt := 360) (by decide) ?_
        refine k_iastore C d_Mo_perform_360 am_15 (by decide) (mx (g) 4 (a) 24 (by omega) (by decide)).1 (mx (g) 4 (a) 24 (by omega) (by decide)).2 I22 (trivial) (fun I23 => ?_)
        refine k_iconst C d_Mo_perform_361 (v := 0) (by decide) ?_
        exact k_ireturn C (E.to (by first | (simp only [mpT_0, mpT_1, mpT_2, mpT_3, mpT_4, mpT_5, mpT_6, mpT_7, mpT_8, mpT_9, mpT_10, mpT_11, mpT_12, mpT_13, mpT_14, mpT_15, mpT_16, mpT_17, mpT_18, mpT_19, mpT_20, mpT_21, mpX_0, mpX_1, mpX_2, mpX_3, mpX_4, mpX_5, mpX_6, mpX_7, mpX_8, mpX_9, mpX_10, mpX_11, mpX_12, mpX_13, mpX_14, mpX_15, mpX_16, mpX_17, mpX_18, mpX_19, mpX_20, mpX_21, m_rpE, h18, h19, ↓reduceIte]; done) | (simp only [mpT_0, mpT_1, mpT_2, mpT_3, mpT_4, mpT_5, mpT_6, mpT_7, mpT_8, mpT_9, mpT_10, mpT_11, mpT_12, mpT_13, mpT_14, mpT_15, mpT_16, mpT_17, mpT_18, mpT_19, mpT_20, mpT_21, mpX_0, mpX_1, mpX_2, mpX_3, mpX_4, mpX_5, mpX_6, mpX_7, mpX_8, mpX_9, mpX_10, mpX_11, mpX_12, mpX_13, mpX_14, mpX_15, mpX_16, mpX_17, mpX_18, mpX_19, mpX_20, mpX_21, m_rpE, h18, h19, ↓reduceIte]; rfl) | contradiction | rfl) (by first | (simp only [mpT_0, mpT_1, mpT_2, mpT_3, mpT_4, mpT_5, mpT_6, mpT_7, mpT_8, mpT_9, mpT_10, mpT_11, mpT_12, mpT_13, mpT_14, mpT_15, mpT_16, mpT_17, mpT_18, mpT_19, mpT_20, mpT_21, mpX_0, mpX_1, mpX_2, mpX_3, mpX_4, mpX_5, mpX_6, mpX_7, mpX_8, mpX_9, mpX_10, mpX_11, mpX_12, mpX_13, mpX_14, mpX_15, mpX_16, mpX_17, mpX_18, mpX_19, mpX_20, mpX_21, m_rpE, h18, h19, ↓reduceIte]; done) | (simp only [mpT_0, mpT_1, mpT_2, mpT_3, mpT_4, mpT_5, mpT_6, mpT_7, mpT_8, mpT_9, mpT_10, mpT_11, mpT_12, mpT_13, mpT_14, mpT_15, mpT_16, mpT_17, mpT_18, mpT_19, mpT_20, mpT_21, mpX_0, mpX_1, mpX_2, mpX_3, mpX_4, mpX_5, mpX_6, mpX_7, mpX_8, mpX_9, mpX_10, mpX_11, mpX_12, mpX_13, mpX_14, mpX_15, mpX_16, mpX_17, mpX_18, mpX_19, mpX_20, mpX_21, m_rpE, h18, h19, ↓reduceIte]; rfl) | contradiction | rfl)) d_Mo_perform_362
    · refine k_iconst C d_Mo_perform_300 (v := 4) (by decide) ?_
      exact k_ireturn C (E.to (by first | (simp only [mpT_0, mpT_1, mpT_2, mpT_3, mpT_4, mpT_5, mpT_6, mpT_7, mpT_8, mpT_9, mpT_10, mpT_11, mpT_12, mpT_13, mpT_14, mpT_15, mpT_16, mpT_17, mpT_18, mpT_19, mpT_20, mpT_21, mpX_0, mpX_1, mpX_2, mpX_3, mpX_4, mpX_5, mpX_6, mpX_7, mpX_8, mpX_9, mpX_10, mpX_11, mpX_12, mpX_13, mpX_14, mpX_15, mpX_16, mpX_17, mpX_18, mpX_19, mpX_20, mpX_21, m_rpE, h18, ↓reduceIte]; done) | (simp only [mpT_0, mpT_1, mpT_2, mpT_3, mpT_4, mpT_5, mpT_6, mpT_7, mpT_8, mpT_9, mpT_10, mpT_11, mpT_12, mpT_13, mpT_14, mpT_15, mpT_16, mpT_17, mpT_18, mpT_19, mpT_20, mpT_21, mpX_0, mpX_1, mpX_2, mpX_3, mpX_4, mpX_5, mpX_6, mpX_7, mpX_8, mpX_9, mpX_10, mpX_11, mpX_12, mpX_13, mpX_14, mpX_15, mpX_16, mpX_17, mpX_18, mpX_19, mpX_20, mpX_21, m_rpE, h18, ↓reduceIte]; rfl) | contradiction | rfl) (by first | (simp only [mpT_0, mpT_1, mpT_2, mpT_3, mpT_4, mpT_5, mpT_6, mpT_7, mpT_8, mpT_9, mpT_10, mpT_11, mpT_12, mpT_13, mpT_14, mpT_15, mpT_16, mpT_17, mpT_18, mpT_19, mpT_20, mpT_21, mpX_0, mpX_1, mpX_2, mpX_3, mpX_4, mpX_5, mpX_6, mpX_7, mpX_8, mpX_9, mpX_10, mpX_11, mpX_12, mpX_13, mpX_14, mpX_15, mpX_16, mpX_17, mpX_18, mpX_19, mpX_20, mpX_21, m_rpE, h18, ↓reduceIte]; done) | (simp only [mpT_0, mpT_1, mpT_2, mpT_3, mpT_4, mpT_5, mpT_6, mpT_7, mpT_8, mpT_9, mpT_10, mpT_11, mpT_12, mpT_13, mpT_14, mpT_15, mpT_16, mpT_17, mpT_18, mpT_19, mpT_20, mpT_21, mpX_0, mpX_1, mpX_2, mpX_3, mpX_4, mpX_5, mpX_6, mpX_7, mpX_8, mpX_9, mpX_10, mpX_11, mpX_12, mpX_13, mpX_14, mpX_15, mpX_16, mpX_17, mpX_18, mpX_19, mpX_20, mpX_21, m_rpE, h18, ↓reduceIte]; rfl) | contradiction | rfl)) d_Mo_perform_301
  · refine k_tabIn C d_Mo_perform_21 (by decide) (by decide) (off := 269) (by decide) (tgt := 290) (by decide) ?_
    refine k_aload_n C d_Mo_perform_290 rfl ?_
    refine k_iload C d_Mo_perform_291 rfl ?_
    refine k_iconst C d_Mo_perform_293 (v := 3) (by decide) ?_
    refine k_callVi C kg_all (c_Mo_no l G _ _ _ I0) cs_Mo_102 cv_Mo_no om_0 (by decide) rfl rfl (Nat.le_of_ble_eq_true rfl) ⟨rfl, rfl⟩ ⟨by decide, by decide⟩ ⟨Nat.zero_le _, Nat.zero_le _⟩ d_Mo_perform_294 I0 (fun I24 => ?_)
    refine k_if_eq C d_Mo_perform_297 (tgt := 302) (by decide) (fun h25 => ?_) (fun h25 => ?_)
    · have hn := r_no (n := 3) (by decide) ‹_›
      have hn4 := k_lt hn
      refine k_aload_n C d_Mo_perform_302 rfl ?_
      refine k_getr C d_Mo_perform_303 fg_Mo_55 (by decide) rfl ?_
      refine k_iload_n C d_Mo_perform_306 rfl ?_
      refine k_iconst C d_Mo_perform_307 (v := 4) (by decide) ?_
      refine k_imul C d_Mo_perform_308 ?_
      refine k_iload C d_Mo_perform_309 rfl ?_
      refine k_top (r_id hn (by decide)) ?_
      refine k_iadd C d_Mo_perform_311 ?_
      refine k_iaload C d_Mo_perform_312 am_16 (by decide) (mx (g) 4 (n.toNatClampNeg) 24 (by omega) (by decide)).1 (mx (g) 4 (n.toNatClampNeg) 24 (by omega) (by decide)).2 ?_
      refine k_if_ge C d_Mo_perform_313 (tgt := 320) (by decide) (fun h26 => ?_) (fun h26 => ?_)
      · refine k_iconst C d_Mo_perform_320 (v := 1) (by decide) ?_
        refine k_istore C d_Mo_perform_321 (by decide) ?_
        refine k_iload_n C d_Mo_perform_323 rfl ?_
        refine k_bipush C d_Mo_perform_324 (v := 14) (by decide) ?_
        refine k_icmp_ne C d_Mo_perform_326 (tgt := 336) (by decide) (fun h => absurd h (by decide)) (fun _ => ?_)
        refine k_aload_n C d_Mo_perform_329 rfl ?_
        refine k_iload_n C d_Mo_perform_330 rfl ?_
        refine k_iload C d_Mo_perform_331 rfl ?_
        refine k_callVv C kg_all (c_Mo_unmap l G _ _ _ g n.toNatClampNeg rfl (r_id hn (by decide)) I24 hg hn4) cs_Mo_110 cv_Mo_unmap om_0 (by decide) rfl rfl (Nat.le_of_ble_eq_true rfl) ⟨rfl, rfl⟩ ⟨by decide, by decide⟩ ⟨Nat.zero_le _, Nat.zero_le _⟩ d_Mo_perform_333 (iv_munmap I24) (fun I27 => ?_)
        refine k_aload_n C d_Mo_perform_336 rfl ?_
        refine k_getr C d_Mo_perform_337 fg_Mo_52 (by decide) rfl ?_
        refine k_iload C d_Mo_perform_340 rfl ?_
        refine k_iload_n C d_Mo_perform_342 rfl ?_
        refine k_bipush C d_Mo_perform_343 (v := 13) (by decide) ?_
        refine k_icmp_ne C d_Mo_perform_345 (tgt := 358) (by decide) (fun _ => ?_) (fun h => absurd h (by decide))
        refine k_iload C d_Mo_perform_358 rfl ?_
        refine k_iastore C d_Mo_perform_360 am_15 (by decide) (mx (g) 4 (a) 24 (by omega) (by decide)).1 (mx (g) 4 (a) 24 (by omega) (by decide)).2 I27 (trivial) (fun I28 => ?_)
        refine k_iconst C d_Mo_perform_361 (v := 0) (by decide) ?_
        exact k_ireturn C (E.to (by first | (simp only [mpT_0, mpT_1, mpT_2, mpT_3, mpT_4, mpT_5, mpT_6, mpT_7, mpT_8, mpT_9, mpT_10, mpT_11, mpT_12, mpT_13, mpT_14, mpT_15, mpT_16, mpT_17, mpT_18, mpT_19, mpT_20, mpT_21, mpX_0, mpX_1, mpX_2, mpX_3, mpX_4, mpX_5, mpX_6, mpX_7, mpX_8, mpX_9, mpX_10, mpX_11, mpX_12, mpX_13, mpX_14, mpX_15, mpX_16, mpX_17, mpX_18, mpX_19, mpX_20, mpX_21, m_rpE, h25, h26, ↓reduceIte]; done) | (simp only [mpT_0, mpT_1, mpT_2, mpT_3, mpT_4, mpT_5, mpT_6, mpT_7, mpT_8, mpT_9, mpT_10, mpT_11, mpT_12, mpT_13, mpT_14, mpT_15, mpT_16, mpT_17, mpT_18, mpT_19, mpT_20, mpT_21, mpX_0, mpX_1, mpX_2, mpX_3, mpX_4, mpX_5, mpX_6, mpX_7, mpX_8, mpX_9, mpX_10, mpX_11, mpX_12, mpX_13, mpX_14, mpX_15, mpX_16, mpX_17, mpX_18, mpX_19, mpX_20, mpX_21, m_rpE, h25, h26, ↓reduceIte]; rfl) | contradiction | rfl) (by first | (simp only [mpT_0, mpT_1, mpT_2, mpT_3, mpT_4, mpT_5, mpT_6, mpT_7, mpT_8, mpT_9, mpT_10, mpT_11, mpT_12, mpT_13, mpT_14, mpT_15, mpT_16, mpT_17, mpT_18, mpT_19, mpT_20, mpT_21, mpX_0, mpX_1, mpX_2, mpX_3, mpX_4, mpX_5, mpX_6, mpX_7, mpX_8, mpX_9, mpX_10, mpX_11, mpX_12, mpX_13, mpX_14, mpX_15, mpX_16, mpX_17, mpX_18, mpX_19, mpX_20, mpX_21, m_rpE, h25, h26, ↓reduceIte]; done) | (simp only [mpT_0, mpT_1, mpT_2, mpT_3, mpT_4, mpT_5, mpT_6, mpT_7, mpT_8, mpT_9, mpT_10, mpT_11, mpT_12, mpT_13, mpT_14, mpT_15, mpT_16, mpT_17, mpT_18, mpT_19, mpT_20, mpT_21, mpX_0, mpX_1, mpX_2, mpX_3, mpX_4, mpX_5, mpX_6, mpX_7, mpX_8, mpX_9, mpX_10, mpX_11, mpX_12, mpX_13, mpX_14, mpX_15, mpX_16, mpX_17, mpX_18, mpX_19, mpX_20, mpX_21, m_rpE, h25, h26, ↓reduceIte]; rfl) | contradiction | rfl)) d_Mo_perform_362
      · refine k_iconst C d_Mo_perform_316 (v := 0) (by decide) ?_
        refine k_goto C d_Mo_perform_317 (tgt := 321) (by decide) ?_
        refine k_istore C d_Mo_perform_321 (by decide) ?_
        refine k_iload_n C d_Mo_perform_323 rfl ?_
        refine k_bipush C d_Mo_perform_324 (v := 14) (by decide) ?_
        refine k_icmp_ne C d_Mo_perform_326 (tgt := 336) (by decide) (fun h => absurd h (by decide)) (fun _ => ?_)
        refine k_aload_n C d_Mo_perform_329 rfl ?_
        refine k_iload_n C d_Mo_perform_330 rfl ?_
        refine k_iload C d_Mo_perform_331 rfl ?_
        refine k_callVv C kg_all (c_Mo_unmap l G _ _ _ g n.toNatClampNeg rfl (r_id hn (by decide)) I24 hg hn4) cs_Mo_110 cv_Mo_unmap om_0 (by decide) rfl rfl (Nat.le_of_ble_eq_true rfl) ⟨rfl, rfl⟩ ⟨by decide, by decide⟩ ⟨Nat.zero_le _, Nat.zero_le _⟩ d_Mo_perform_333 (iv_munmap I24) (fun I29 => ?_)
        refine k_aload_n C d_Mo_perform_336 rfl ?_
        refine k_getr C d_Mo_perform_337 fg_Mo_52 (by decide) rfl ?_
        refine k_iload C d_Mo_perform_340 rfl ?_
        refine k_iload_n C d_Mo_perform_342 rfl ?_
        refine k_bipush C d_Mo_perform_343 (v := 13) (by decide) ?_
        refine k_icmp_ne C d_Mo_perform_345 (tgt := 358) (by decide) (fun _ => ?_) (fun h => absurd h (by decide))
        refine k_iload C d_Mo_perform_358 rfl ?_
        refine k_iastore C d_Mo_perform_360 am_15 (by decide) (mx (g) 4 (a) 24 (by omega) (by decide)).1 (mx (g) 4 (a) 24 (by omega) (by decide)).2 I29 (trivial) (fun I30 => ?_)
        refine k_iconst C d_Mo_perform_361 (v := 0) (by decide) ?_
        exact k_ireturn C (E.to (by first | (simp only [mpT_0, mpT_1, mpT_2, mpT_3, mpT_4, mpT_5, mpT_6, mpT_7, mpT_8, mpT_9, mpT_10, mpT_11, mpT_12, mpT_13, mpT_14, mpT_15, mpT_16, mpT_17, mpT_18, mpT_19, mpT_20, mpT_21, mpX_0, mpX_1, mpX_2, mpX_3, mpX_4, mpX_5, mpX_6, mpX_7, mpX_8, mpX_9, mpX_10, mpX_11, mpX_12, mpX_13, mpX_14, mpX_15, mpX_16, mpX_17, mpX_18, mpX_19, mpX_20, mpX_21, m_rpE, h25, h26, ↓reduceIte]; done) | (simp only [mpT_0, mpT_1, mpT_2, mpT_3, mpT_4, mpT_5, mpT_6, mpT_7, mpT_8, mpT_9, mpT_10, mpT_11, mpT_12, mpT_13, mpT_14, mpT_15, mpT_16, mpT_17, mpT_18, mpT_19, mpT_20, mpT_21, mpX_0, mpX_1, mpX_2, mpX_3, mpX_4, mpX_5, mpX_6, mpX_7, mpX_8, mpX_9, mpX_10, mpX_11, mpX_12, mpX_13, mpX_14, mpX_15, mpX_16, mpX_17, mpX_18, mpX_19, mpX_20, mpX_21, m_rpE, h25, h26, ↓reduceIte]; rfl) | contradiction | rfl) (by first | (simp only [mpT_0, mpT_1, mpT_2, mpT_3, mpT_4, mpT_5, mpT_6, mpT_7, mpT_8, mpT_9, mpT_10, mpT_11, mpT_12, mpT_13, mpT_14, mpT_15, mpT_16, mpT_17, mpT_18, mpT_19, mpT_20, mpT_21, mpX_0, mpX_1, mpX_2, mpX_3, mpX_4, mpX_5, mpX_6, mpX_7, mpX_8, mpX_9, mpX_10, mpX_11, mpX_12, mpX_13, mpX_14, mpX_15, mpX_16, mpX_17, mpX_18, mpX_19, mpX_20, mpX_21, m_rpE, h25, h26, ↓reduceIte]; done) | (simp only [mpT_0, mpT_1, mpT_2, mpT_3, mpT_4, mpT_5, mpT_6, mpT_7, mpT_8, mpT_9, mpT_10, mpT_11, mpT_12, mpT_13, mpT_14, mpT_15, mpT_16, mpT_17, mpT_18, mpT_19, mpT_20, mpT_21, mpX_0, mpX_1, mpX_2, mpX_3, mpX_4, mpX_5, mpX_6, mpX_7, mpX_8, mpX_9, mpX_10, mpX_11, mpX_12, mpX_13, mpX_14, mpX_15, mpX_16, mpX_17, mpX_18, mpX_19, mpX_20, mpX_21, m_rpE, h25, h26, ↓reduceIte]; rfl) | contradiction | rfl)) d_Mo_perform_362
    · refine k_iconst C d_Mo_perform_300 (v := 4) (by decide) ?_
      exact k_ireturn C (E.to (by first | (simp only [mpT_0, mpT_1, mpT_2, mpT_3, mpT_4, mpT_5, mpT_6, mpT_7, mpT_8, mpT_9, mpT_10, mpT_11, mpT_12, mpT_13, mpT_14, mpT_15, mpT_16, mpT_17, mpT_18, mpT_19, mpT_20, mpT_21, mpX_0, mpX_1, mpX_2, mpX_3, mpX_4, mpX_5, mpX_6, mpX_7, mpX_8, mpX_9, mpX_10, mpX_11, mpX_12, mpX_13, mpX_14, mpX_15, mpX_16, mpX_17, mpX_18, mpX_19, mpX_20, mpX_21, m_rpE, h25, ↓reduceIte]; done) | (simp only [mpT_0, mpT_1, mpT_2, mpT_3, mpT_4, mpT_5, mpT_6, mpT_7, mpT_8, mpT_9, mpT_10, mpT_11, mpT_12, mpT_13, mpT_14, mpT_15, mpT_16, mpT_17, mpT_18, mpT_19, mpT_20, mpT_21, mpX_0, mpX_1, mpX_2, mpX_3, mpX_4, mpX_5, mpX_6, mpX_7, mpX_8, mpX_9, mpX_10, mpX_11, mpX_12, mpX_13, mpX_14, mpX_15, mpX_16, mpX_17, mpX_18, mpX_19, mpX_20, mpX_21, m_rpE, h25, ↓reduceIte]; rfl) | contradiction | rfl) (by first | (simp only [mpT_0, mpT_1, mpT_2, mpT_3, mpT_4, mpT_5, mpT_6, mpT_7, mpT_8, mpT_9, mpT_10, mpT_11, mpT_12, mpT_13, mpT_14, mpT_15, mpT_16, mpT_17, mpT_18, mpT_19, mpT_20, mpT_21, mpX_0, mpX_1, mpX_2, mpX_3, mpX_4, mpX_5, mpX_6, mpX_7, mpX_8, mpX_9, mpX_10, mpX_11, mpX_12, mpX_13, mpX_14, mpX_15, mpX_16, mpX_17, mpX_18, mpX_19, mpX_20, mpX_21, m_rpE, h25, ↓reduceIte]; done) | (simp only [mpT_0, mpT_1, mpT_2, mpT_3, mpT_4, mpT_5, mpT_6, mpT_7, mpT_8, mpT_9, mpT_10, mpT_11, mpT_12, mpT_13, mpT_14, mpT_15, mpT_16, mpT_17, mpT_18, mpT_19, mpT_20, mpT_21, mpX_0, mpX_1, mpX_2, mpX_3, mpX_4, mpX_5, mpX_6, mpX_7, mpX_8, mpX_9, mpX_10, mpX_11, mpX_12, mpX_13, mpX_14, mpX_15, mpX_16, mpX_17, mpX_18, mpX_19, mpX_20, mpX_21, m_rpE, h25, ↓reduceIte]; rfl) | contradiction | rfl)) d_Mo_perform_301
  · refine k_tabIn C d_Mo_perform_21 (by decide) (by decide) (off := 342) (by decide) (tgt := 363) (by decide) ?_
    refine k_aload_n C d_Mo_perform_363 rfl ?_
    refine k_getr C d_Mo_perform_364 fg_Mo_52 (by decide) rfl ?_
    refine k_iload C d_Mo_perform_367 rfl ?_
    refine k_aload_n C d_Mo_perform_369 rfl ?_
    refine k_iload_n C d_Mo_perform_370 rfl ?_
    refine k_iload C d_Mo_perform_371 rfl ?_
    refine k_bipush C d_Mo_perform_373 (v := 31) (by decide) ?_
    refine k_iand C d_Mo_perform_375 ?_
    refine k_iload C d_Mo_perform_376 rfl ?_
    refine k_aload_n C d_Mo_perform_378 rfl ?_
    refine k_getr C d_Mo_perform_379 fg_Mo_52 (by decide) rfl ?_
    refine k_iload C d_Mo_perform_382 rfl ?_
    refine k_iaload C d_Mo_perform_384 am_15 (by decide) (mx (g) 4 (a) 24 (by omega) (by decide)).1 (mx (g) 4 (a) 24 (by omega) (by decide)).2 ?_
    refine k_callVi C kg_all (c_Mo_spawn l G _ _ _ _ _ g rfl I0 hg ht (m_31 n)) cs_Mo_138 cv_Mo_spawn om_0 (by decide) rfl rfl (Nat.le_of_ble_eq_true rfl) ⟨rfl, rfl⟩ ⟨by decide, by decide⟩ ⟨Nat.zero_le _, Nat.zero_le _⟩ d_Mo_perform_385 (j_sp I0 ht (m_31 n)).1 (fun I31 => ?_)
    refine k_iastore C d_Mo_perform_388 am_15 (by decide) (mx (g) 4 (a) 24 (by omega) (by decide)).1 (mx (g) 4 (a) 24 (by omega) (by decide)).2 I31 (trivial) (fun I32 => ?_)
    refine k_iconst C d_Mo_perform_389 (v := 0) (by decide) ?_
    exact k_ireturn C (E.to (by first | (simp only [mpT_0, mpT_1, mpT_2, mpT_3, mpT_4, mpT_5, mpT_6, mpT_7, mpT_8, mpT_9, mpT_10, mpT_11, mpT_12, mpT_13, mpT_14, mpT_15, mpT_16, mpT_17, mpT_18, mpT_19, mpT_20, mpT_21, mpX_0, mpX_1, mpX_2, mpX_3, mpX_4, mpX_5, mpX_6, mpX_7, mpX_8, mpX_9, mpX_10, mpX_11, mpX_12, mpX_13, mpX_14, mpX_15, mpX_16, mpX_17, mpX_18, mpX_19, mpX_20, mpX_21, m_rpE, ↓reduceIte]; done) | (simp only [mpT_0, mpT_1, mpT_2, mpT_3, mpT_4, mpT_5, mpT_6, mpT_7, mpT_8, mpT_9, mpT_10, mpT_11, mpT_12, mpT_13, mpT_14, mpT_15, mpT_16, mpT_17, mpT_18, mpT_19, mpT_20, mpT_21, mpX_0, mpX_1, mpX_2, mpX_3, mpX_4, mpX_5, mpX_6, mpX_7, mpX_8, mpX_9, mpX_10, mpX_11, mpX_12, mpX_13, mpX_14, mpX_15, mpX_16, mpX_17, mpX_18, mpX_19, mpX_20, mpX_21, m_rpE, ↓reduceIte]; rfl) | contradiction | rfl) (by first | (simp only [mpT_0, mpT_1, mpT_2, mpT_3, mpT_4, mpT_5, mpT_6, mpT_7, mpT_8, mpT_9, mpT_10, mpT_11, mpT_12, mpT_13, mpT_14, mpT_15, mpT_16, mpT_17, mpT_18, mpT_19, mpT_20, mpT_21, mpX_0, mpX_1, mpX_2, mpX_3, mpX_4, mpX_5, mpX_6, mpX_7, mpX_8, mpX_9, mpX_10, mpX_11, mpX_12, mpX_13, mpX_14, mpX_15, mpX_16, mpX_17, mpX_18, mpX_19, mpX_20, mpX_21, m_rpE, ↓reduceIte]; done) | (simp only [mpT_0, mpT_1, mpT_2, mpT_3, mpT_4, mpT_5, mpT_6, mpT_7, mpT_8, mpT_9, mpT_10, mpT_11, mpT_12, mpT_13, mpT_14, mpT_15, mpT_16, mpT_17, mpT_18, mpT_19, mpT_20, mpT_21, mpX_0, mpX_1, mpX_2, mpX_3, mpX_4, mpX_5, mpX_6, mpX_7, mpX_8, mpX_9, mpX_10, mpX_11, mpX_12, mpX_13, mpX_14, mpX_15, mpX_16, mpX_17, mpX_18, mpX_19, mpX_20, mpX_21, m_rpE, ↓reduceIte]; rfl) | contradiction | rfl)) d_Mo_perform_390
  · refine k_tabIn C d_Mo_perform_21 (by decide) (by decide) (off := 370) (by decide) (tgt := 391) (by decide) ?_
    refine k_aload_n C d_Mo_perform_391 rfl ?_
    refine k_iload C d_Mo_perform_392 rfl ?_
    refine k_iconst C d_Mo_perform_394 (v := 3) (by decide) ?_
    refine k_callVi C kg_all (c_Mo_no l G _ _ _ I0) cs_Mo_102 cv_Mo_no om_0 (by decide) rfl rfl (Nat.le_of_ble_eq_true rfl) ⟨rfl, rfl⟩ ⟨by decide, by decide⟩ ⟨Nat.zero_le _, Nat.zero_le _⟩ d_Mo_perform_395 I0 (fun I33 => ?_)
    refine k_if_eq C d_Mo_perform_398 (tgt := 405) (by decide) (fun h34 => ?_) (fun h34 => ?_)
    · have hn := r_no (n := 3) (by decide) ‹_›
      have hn4 := k_lt hn
      refine k_aload_n C d_Mo_perform_405 rfl ?_
      refine k_iload_n C d_Mo_perform_406 rfl ?_
      refine k_iload_n C d_Mo_perform_407 rfl ?_
      refine k_iload_n C d_Mo_perform_408 rfl ?_
      refine k_iload C d_Mo_perform_409 rfl ?_
      refine k_callVi C kg_all (c_Mo_share l G _ _ _ _ _ g a n.toNatClampNeg rfl rfl (r_id hn (by decide)) I33 hg ha (k_lt hn) ht hcar) cs_Mo_142 cv_Mo_share om_0 (by decide) rfl rfl (Nat.le_of_ble_eq_true rfl) ⟨rfl, rfl⟩ ⟨by decide, by decide⟩ ⟨Nat.zero_le _, Nat.zero_le _⟩ d_Mo_perform_411 (j_sh I33 ht hg (k_lt hn)).1 (fun I35 => ?_)
      exact k_ireturn C (E.to (by first | (simp only [mpT_0, mpT_1, mpT_2, mpT_3, mpT_4, mpT_5, mpT_6, mpT_7, mpT_8, mpT_9, mpT_10, mpT_11, mpT_12, mpT_13, mpT_14, mpT_15, mpT_16, mpT_17, mpT_18, mpT_19, mpT_20, mpT_21, mpX_0, mpX_1, mpX_2, mpX_3, mpX_4, mpX_5, mpX_6, mpX_7, mpX_8, mpX_9, mpX_10, mpX_11, mpX_12, mpX_13, mpX_14, mpX_15, mpX_16, mpX_17, mpX_18, mpX_19, mpX_20, mpX_21, m_rpE, h34, ↓reduceIte]; done) | (simp only [mpT_0, mpT_1, mpT_2, mpT_3, mpT_4, mpT_5, mpT_6, mpT_7, mpT_8, mpT_9, mpT_10, mpT_11, mpT_12, mpT_13, mpT_14, mpT_15, mpT_16, mpT_17, mpT_18, mpT_19, mpT_20, mpT_21, mpX_0, mpX_1, mpX_2, mpX_3, mpX_4, mpX_5, mpX_6, mpX_7, mpX_8, mpX_9, mpX_10, mpX_11, mpX_12, mpX_13, mpX_14, mpX_15, mpX_16, mpX_17, mpX_18, mpX_19, mpX_20, mpX_21, m_rpE, h34, ↓reduceIte]; rfl) | contradiction | rfl) (by first | (simp only [mpT_0, mpT_1, mpT_2, mpT_3, mpT_4, mpT_5, mpT_6, mpT_7, mpT_8, mpT_9, mpT_10, mpT_11, mpT_12, mpT_13, mpT_14, mpT_15, mpT_16, mpT_17, mpT_18, mpT_19, mpT_20, mpT_21, mpX_0, mpX_1, mpX_2, mpX_3, mpX_4, mpX_5, mpX_6, mpX_7, mpX_8, mpX_9, mpX_10, mpX_11, mpX_12, mpX_13, mpX_14, mpX_15, mpX_16, mpX_17, mpX_18, mpX_19, mpX_20, mpX_21, m_rpE, h34, ↓reduceIte]; done) | (simp only [mpT_0, mpT_1, mpT_2, mpT_3, mpT_4, mpT_5, mpT_6, mpT_7, mpT_8, mpT_9, mpT_10, mpT_11, mpT_12, mpT_13, mpT_14, mpT_15, mpT_16, mpT_17, mpT_18, mpT_19, mpT_20, mpT_21, mpX_0, mpX_1, mpX_2, mpX_3, mpX_4, mpX_5, mpX_6, mpX_7, mpX_8, mpX_9, mpX_10, mpX_11, mpX_12, mpX_13, mpX_14, mpX_15, mpX_16, mpX_17, mpX_18, mpX_19, mpX_20, mpX_21, m_rpE, h34, ↓reduceIte]; rfl) | contradiction | rfl)) d_Mo_perform_414
    · refine k_iconst C d_Mo_perform_401 (v := 4) (by decide) ?_
      refine k_goto C d_Mo_perform_402 (tgt := 414) (by decide) ?_
      exact k_ireturn C (E.to (by first | (simp only [mpT_0, mpT_1, mpT_2, mpT_3, mpT_4, mpT_5, mpT_6, mpT_7, mpT_8, mpT_9, mpT_10, mpT_11, mpT_12, mpT_13, mpT_14, mpT_15, mpT_16, mpT_17, mpT_18, mpT_19, mpT_20, mpT_21, mpX_0, mpX_1, mpX_2, mpX_3, mpX_4, mpX_5, mpX_6, mpX_7, mpX_8, mpX_9, mpX_10, mpX_11, mpX_12, mpX_13, mpX_14, mpX_15, mpX_16, mpX_17, mpX_18, mpX_19, mpX_20, mpX_21, m_rpE, h34, ↓reduceIte]; done) | (simp only [mpT_0, mpT_1, mpT_2, mpT_3, mpT_4, mpT_5, mpT_6, mpT_7, mpT_8, mpT_9, mpT_10, mpT_11, mpT_12, mpT_13, mpT_14, mpT_15, mpT_16, mpT_17, mpT_18, mpT_19, mpT_20, mpT_21, mpX_0, mpX_1, mpX_2, mpX_3, mpX_4, mpX_5, mpX_6, mpX_7, mpX_8, mpX_9, mpX_10, mpX_11, mpX_12, mpX_13, mpX_14, mpX_15, mpX_16, mpX_17, mpX_18, mpX_19, mpX_20, mpX_21, m_rpE, h34, ↓reduceIte]; rfl) | contradiction | rfl) (by first | (simp only [mpT_0, mpT_1, mpT_2, mpT_3, mpT_4, mpT_5, mpT_6, mpT_7, mpT_8, mpT_9, mpT_10, mpT_11, mpT_12, mpT_13, mpT_14, mpT_15, mpT_16, mpT_17, mpT_18, mpT_19, mpT_20, mpT_21, mpX_0, mpX_1, mpX_2, mpX_3, mpX_4, mpX_5, mpX_6, mpX_7, mpX_8, mpX_9, mpX_10, mpX_11, mpX_12, mpX_13, mpX_14, mpX_15, mpX_16, mpX_17, mpX_18, mpX_19, mpX_20, mpX_21, m_rpE, h34, ↓reduceIte]; done) | (simp only [mpT_0, mpT_1, mpT_2, mpT_3, mpT_4, mpT_5, mpT_6, mpT_7, mpT_8, mpT_9, mpT_10, mpT_11, mpT_12, mpT_13, mpT_14, mpT_15, mpT_16, mpT_17, mpT_18, mpT_19, mpT_20, mpT_21, mpX_0, mpX_1, mpX_2, mpX_3, mpX_4, mpX_5, mpX_6, mpX_7, mpX_8, mpX_9, mpX_10, mpX_11, mpX_12, mpX_13, mpX_14, mpX_15, mpX_16, mpX_17, mpX_18, mpX_19, mpX_20, mpX_21, m_rpE, h34, ↓reduceIte]; rfl) | contradiction | rfl)) d_Mo_perform_414
  · refine k_tabIn C d_Mo_perform_21 (by decide) (by decide) (off := 370) (by decide) (tgt := 391) (by decide) ?_
    refine k_aload_n C d_Mo_perform_391 rfl ?_
    refine k_iload C d_Mo_perform_392 rfl ?_
    refine k_iconst C d_Mo_perform_394 (v := 3) (by decide) ?_
    refine k_callVi C kg_all (c_Mo_no l G _ _ _ I0) cs_Mo_102 cv_Mo_no om_0 (by decide) rfl rfl (Nat.le_of_ble_eq_true rfl) ⟨rfl, rfl⟩ ⟨by decide, by decide⟩ ⟨Nat.zero_le _, Nat.zero_le _⟩ d_Mo_perform_395 I0 (fun I36 => ?_)
    refine k_if_eq C d_Mo_perform_398 (tgt := 405) (by decide) (fun h37 => ?_) (fun h37 => ?_)
    · have hn := r_no (n := 3) (by decide) ‹_›
      have hn4 := k_lt hn
      refine k_aload_n C d_Mo_perform_405 rfl ?_
      refine k_iload_n C d_Mo_perform_406 rfl ?_
      refine k_iload_n C d_Mo_perform_407 rfl ?_
      refine k_iload_n C d_Mo_perform_408 rfl ?_
      refine k_iload C d_Mo_perform_409 rfl ?_
      refine k_callVi C kg_all (c_Mo_share l G _ _ _ _ _ g a n.toNatClampNeg rfl rfl (r_id hn (by decide)) I36 hg ha (k_lt hn) ht hcar) cs_Mo_142 cv_Mo_share om_0 (by decide) rfl rfl (Nat.le_of_ble_eq_true rfl) ⟨rfl, rfl⟩ ⟨by decide, by decide⟩ ⟨Nat.zero_le _, Nat.zero_le _⟩ d_Mo_perform_411 (j_sh I36 ht hg (k_lt hn)).1 (fun I38 => ?_)
      exact k_ireturn C (E.to (by first | (simp only [mpT_0, mpT_1, mpT_2, mpT_3, mpT_4, mpT_5, mpT_6, mpT_7, mpT_8, mpT_9, mpT_10, mpT_11, mpT_12, mpT_13, mpT_14, mpT_15, mpT_16, mpT_17, mpT_18, mpT_19, mpT_20, mpT_21, mpX_0, mpX_1, mpX_2, mpX_3, mpX_4, mpX_5, mpX_6, mpX_7, mpX_8, mpX_9, mpX_10, mpX_11, mpX_12, mpX_13, mpX_14, mpX_15, mpX_16, mpX_17, mpX_18, mpX_19, mpX_20, mpX_21, m_rpE, h37, ↓reduceIte]; done) | (simp only [mpT_0, mpT_1, mpT_2, mpT_3, mpT_4, mpT_5, mpT_6, mpT_7, mpT_8, mpT_9, mpT_10, mpT_11, mpT_12, mpT_13, mpT_14, mpT_15, mpT_16, mpT_17, mpT_18, mpT_19, mpT_20, mpT_21, mpX_0, mpX_1, mpX_2, mpX_3, mpX_4, mpX_5, mpX_6, mpX_7, mpX_8, mpX_9, mpX_10, mpX_11, mpX_12, mpX_13, mpX_14, mpX_15, mpX_16, mpX_17, mpX_18, mpX_19, mpX_20, mpX_21, m_rpE, h37, ↓reduceIte]; rfl) | contradiction | rfl) (by first | (simp only [mpT_0, mpT_1, mpT_2, mpT_3, mpT_4, mpT_5, mpT_6, mpT_7, mpT_8, mpT_9, mpT_10, mpT_11, mpT_12, mpT_13, mpT_14, mpT_15, mpT_16, mpT_17, mpT_18, mpT_19, mpT_20, mpT_21, mpX_0, mpX_1, mpX_2, mpX_3, mpX_4, mpX_5, mpX_6, mpX_7, mpX_8, mpX_9, mpX_10, mpX_11, mpX_12, mpX_13, mpX_14, mpX_15, mpX_16, mpX_17, mpX_18, mpX_19, mpX_20, mpX_21, m_rpE, h37, ↓reduceIte]; done) | (simp only [mpT_0, mpT_1, mpT_2, mpT_3, mpT_4, mpT_5, mpT_6, mpT_7, mpT_8, mpT_9, mpT_10, mpT_11, mpT_12, mpT_13, mpT_14, mpT_15, mpT_16, mpT_17, mpT_18, mpT_19, mpT_20, mpT_21, mpX_0, mpX_1, mpX_2, mpX_3, mpX_4, mpX_5, mpX_6, mpX_7, mpX_8, mpX_9, mpX_10, mpX_11, mpX_12, mpX_13, mpX_14, mpX_15, mpX_16, mpX_17, mpX_18, mpX_19, mpX_20, mpX_21, m_rpE, h37, ↓reduceIte]; rfl) | contradiction | rfl)) d_Mo_perform_414
    · refine k_iconst C d_Mo_perform_401 (v := 4) (by decide) ?_
      refine k_goto C d_Mo_perform_402 (tgt := 414) (by decide) ?_
      exact k_ireturn C (E.to (by first | (simp only [mpT_0, mpT_1, mpT_2, mpT_3, mpT_4, mpT_5, mpT_6, mpT_7, mpT_8, mpT_9, mpT_10, mpT_11, mpT_12, mpT_13, mpT_14, mpT_15, mpT_16, mpT_17, mpT_18, mpT_19, mpT_20, mpT_21, mpX_0, mpX_1, mpX_2, mpX_3, mpX_4, mpX_5, mpX_6, mpX_7, mpX_8, mpX_9, mpX_10, mpX_11, mpX_12, mpX_13, mpX_14, mpX_15, mpX_16, mpX_17, mpX_18, mpX_19, mpX_20, mpX_21, m_rpE, h37, ↓reduceIte]; done) | (simp only [mpT_0, mpT_1, mpT_2, mpT_3, mpT_4, mpT_5, mpT_6, mpT_7, mpT_8, mpT_9, mpT_10, mpT_11, mpT_12, mpT_13, mpT_14, mpT_15, mpT_16, mpT_17, mpT_18, mpT_19, mpT_20, mpT_21, mpX_0, mpX_1, mpX_2, mpX_3, mpX_4, mpX_5, mpX_6, mpX_7, mpX_8, mpX_9, mpX_10, mpX_11, mpX_12, mpX_13, mpX_14, mpX_15, mpX_16, mpX_17, mpX_18, mpX_19, mpX_20, mpX_21, m_rpE, h37, ↓reduceIte]; rfl) | contradiction | rfl) (by first | (simp only [mpT_0, mpT_1, mpT_2, mpT_3, mpT_4, mpT_5, mpT_6, mpT_7, mpT_8, mpT_9, mpT_10, mpT_11, mpT_12, mpT_13, mpT_14, mpT_15, mpT_16, mpT_17, mpT_18, mpT_19, mpT_20, mpT_21, mpX_0, mpX_1, mpX_2, mpX_3, mpX_4, mpX_5, mpX_6, mpX_7, mpX_8, mpX_9, mpX_10, mpX_11, mpX_12, mpX_13, mpX_14, mpX_15, mpX_16, mpX_17, mpX_18, mpX_19, mpX_20, mpX_21, m_rpE, h37, ↓reduceIte]; done) | (simp only [mpT_0, mpT_1, mpT_2, mpT_3, mpT_4, mpT_5, mpT_6, mpT_7, mpT_8, mpT_9, mpT_10, mpT_11, mpT_12, mpT_13, mpT_14, mpT_15, mpT_16, mpT_17, mpT_18, mpT_19, mpT_20, mpT_21, mpX_0, mpX_1, mpX_2, mpX_3, mpX_4, mpX_5, mpX_6, mpX_7, mpX_8, mpX_9, mpX_10, mpX_11, mpX_12, mpX_13, mpX_14, mpX_15, mpX_16, mpX_17, mpX_18, mpX_19, mpX_20, mpX_21, m_rpE, h37, ↓reduceIte]; rfl) | contradiction | rfl)) d_Mo_perform_414
  · refine k_tabIn C d_Mo_perform_21 (by decide) (by decide) (off := 370) (by decide) (tgt := 391) (by decide) ?_
    refine k_aload_n C d_Mo_perform_391 rfl ?_
    refine k_iload C d_Mo_perform_392 rfl ?_
    refine k_iconst C d_Mo_perform_394 (v := 3) (by decide) ?_
    refine k_callVi C kg_all (c_Mo_no l G _ _ _ I0) cs_Mo_102 cv_Mo_no om_0 (by decide) rfl rfl (Nat.le_of_ble_eq_true rfl) ⟨rfl, rfl⟩ ⟨by decide, by decide⟩ ⟨Nat.zero_le _, Nat.zero_le _⟩ d_Mo_perform_395 I0 (fun I39 => ?_)
    refine k_if_eq C d_Mo_perform_398 (tgt := 405) (by decide) (fun h40 => ?_) (fun h40 => ?_)
    · have hn := r_no (n := 3) (by decide) ‹_›
      have hn4 := k_lt hn
      refine k_aload_n C d_Mo_perform_405 rfl ?_
      refine k_iload_n C d_Mo_perform_406 rfl ?_
      refine k_iload_n C d_Mo_perform_407 rfl ?_
      refine k_iload_n C d_Mo_perform_408 rfl ?_
      refine k_iload C d_Mo_perform_409 rfl ?_
      refine k_callVi C kg_all (c_Mo_share l G _ _ _ _ _ g a n.toNatClampNeg rfl rfl (r_id hn (by decide)) I39 hg ha (k_lt hn) ht hcar) cs_Mo_142 cv_Mo_share om_0 (by decide) rfl rfl (Nat.le_of_ble_eq_true rfl) ⟨rfl, rfl⟩ ⟨by decide, by decide⟩ ⟨Nat.zero_le _, Nat.zero_le _⟩ d_Mo_perform_411 (j_sh I39 ht hg (k_lt hn)).1 (fun I41 => ?_)
      exact k_ireturn C (E.to (by first | (simp only [mpT_0, mpT_1, mpT_2, mpT_3, mpT_4, mpT_5, mpT_6, mpT_7, mpT_8, mpT_9, mpT_10, mpT_11, mpT_12, mpT_13, mpT_14, mpT_15, mpT_16, mpT_17, mpT_18, mpT_19, mpT_20, mpT_21, mpX_0, mpX_1, mpX_2, mpX_3, mpX_4, mpX_5, mpX_6, mpX_7, mpX_8, mpX_9, mpX_10, mpX_11, mpX_12, mpX_13, mpX_14, mpX_15, mpX_16, mpX_17, mpX_18, mpX_19, mpX_20, mpX_21, m_rpE, h40, ↓reduceIte]; done) | (simp only [mpT_0, mpT_1, mpT_2, mpT_3, mpT_4, mpT_5, mpT_6, mpT_7, mpT_8, mpT_9, mpT_10, mpT_11, mpT_12, mpT_13, mpT_14, mpT_15, mpT_16, mpT_17, mpT_18, mpT_19, mpT_20, mpT_21, mpX_0, mpX_1, mpX_2, mpX_3, mpX_4, mpX_5, mpX_6, mpX_7, mpX_8, mpX_9, mpX_10, mpX_11, mpX_12, mpX_13, mpX_14, mpX_15, mpX_16, mpX_17, mpX_18, mpX_19, mpX_20, mpX_21, m_rpE, h40, ↓reduceIte]; rfl) | contradiction | rfl) (by first | (simp only [mpT_0, mpT_1, mpT_2, mpT_3, mpT_4, mpT_5, mpT_6, mpT_7, mpT_8, mpT_9, mpT_10, mpT_11, mpT_12, mpT_13, mpT_14, mpT_15, mpT_16, mpT_17, mpT_18, mpT_19, mpT_20, mpT_21, mpX_0, mpX_1, mpX_2, mpX_3, mpX_4, mpX_5, mpX_6, mpX_7, mpX_8, mpX_9, mpX_10, mpX_11, mpX_12, mpX_13, mpX_14, mpX_15, mpX_16, mpX_17, mpX_18, mpX_19, mpX_20, mpX_21, m_rpE, h40, ↓reduceIte]; done) | (simp only [mpT_0, mpT_1, mpT_2, mpT_3, mpT_4, mpT_5, mpT_6, mpT_7, mpT_8, mpT_9, mpT_10, mpT_11, mpT_12, mpT_13, mpT_14, mpT_15, mpT_16, mpT_17, mpT_18, mpT_19, mpT_20, mpT_21, mpX_0, mpX_1, mpX_2, mpX_3, mpX_4, mpX_5, mpX_6, mpX_7, mpX_8, mpX_9, mpX_10, mpX_11, mpX_12, mpX_13, mpX_14, mpX_15, mpX_16, mpX_17, mpX_18, mpX_19, mpX_20, mpX_21, m_rpE, h40, ↓reduceIte]; rfl) | contradiction | rfl)) d_Mo_perform_414
    · refine k_iconst C d_Mo_perform_401 (v := 4) (by decide) ?_
      refine k_goto C d_Mo_perform_402 (tgt := 414) (by decide) ?_
      exact k_ireturn C (E.to (by first | (simp only [mpT_0, mpT_1, mpT_2, mpT_3, mpT_4, mpT_5, mpT_6, mpT_7, mpT_8, mpT_9, mpT_10, mpT_11, mpT_12, mpT_13, mpT_14, mpT_15, mpT_16, mpT_17, mpT_18, mpT_19, mpT_20, mpT_21, mpX_0, mpX_1, mpX_2, mpX_3, mpX_4, mpX_5, mpX_6, mpX_7, mpX_8, mpX_9, mpX_10, mpX_11, mpX_12, mpX_13, mpX_14, mpX_15, mpX_16, mpX_17, mpX_18, mpX_19, mpX_20, mpX_21, m_rpE, h40, ↓reduceIte]; done) | (simp only [mpT_0, mpT_1, mpT_2, mpT_3, mpT_4, mpT_5, mpT_6, mpT_7, mpT_8, mpT_9, mpT_10, mpT_11, mpT_12, mpT_13, mpT_14, mpT_15, mpT_16, mpT_17, mpT_18, mpT_19, mpT_20, mpT_21, mpX_0, mpX_1, mpX_2, mpX_3, mpX_4, mpX_5, mpX_6, mpX_7, mpX_8, mpX_9, mpX_10, mpX_11, mpX_12, mpX_13, mpX_14, mpX_15, mpX_16, mpX_17, mpX_18, mpX_19, mpX_20, mpX_21, m_rpE, h40, ↓reduceIte]; rfl) | contradiction | rfl) (by first | (simp only [mpT_0, mpT_1, mpT_2, mpT_3, mpT_4, mpT_5, mpT_6, mpT_7, mpT_8, mpT_9, mpT_10, mpT_11, mpT_12, mpT_13, mpT_14, mpT_15, mpT_16, mpT_17, mpT_18, mpT_19, mpT_20, mpT_21, mpX_0, mpX_1, mpX_2, mpX_3, mpX_4, mpX_5, mpX_6, mpX_7, mpX_8, mpX_9, mpX_10, mpX_11, mpX_12, mpX_13, mpX_14, mpX_15, mpX_16, mpX_17, mpX_18, mpX_19, mpX_20, mpX_21, m_rpE, h40, ↓reduceIte]; done) | (simp only [mpT_0, mpT_1, mpT_2, mpT_3, mpT_4, mpT_5, mpT_6, mpT_7, mpT_8, mpT_9, mpT_10, mpT_11, mpT_12, mpT_13, mpT_14, mpT_15, mpT_16, mpT_17, mpT_18, mpT_19, mpT_20, mpT_21, mpX_0, mpX_1, mpX_2, mpX_3, mpX_4, mpX_5, mpX_6, mpX_7, mpX_8, mpX_9, mpX_10, mpX_11, mpX_12, mpX_13, mpX_14, mpX_15, mpX_16, mpX_17, mpX_18, mpX_19, mpX_20, mpX_21, m_rpE, h40, ↓reduceIte]; rfl) | contradiction | rfl)) d_Mo_perform_414
  · refine k_tabIn C d_Mo_perform_21 (by decide) (by decide) (off := 370) (by decide) (tgt := 391) (by decide) ?_
    refine k_aload_n C d_Mo_perform_391 rfl ?_
    refine k_iload C d_Mo_perform_392 rfl ?_
    refine k_iconst C d_Mo_perform_394 (v := 3) (by decide) ?_
    refine k_callVi C kg_all (c_Mo_no l G _ _ _ I0) cs_Mo_102 cv_Mo_no om_0 (by decide) rfl rfl (Nat.le_of_ble_eq_true rfl) ⟨rfl, rfl⟩ ⟨by decide, by decide⟩ ⟨Nat.zero_le _, Nat.zero_le _⟩ d_Mo_perform_395 I0 (fun I42 => ?_)
    refine k_if_eq C d_Mo_perform_398 (tgt := 405) (by decide) (fun h43 => ?_) (fun h43 => ?_)
    · have hn := r_no (n := 3) (by decide) ‹_›
      have hn4 := k_lt hn
      refine k_aload_n C d_Mo_perform_405 rfl ?_
      refine k_iload_n C d_Mo_perform_406 rfl ?_
      refine k_iload_n C d_Mo_perform_407 rfl ?_
      refine k_iload_n C d_Mo_perform_408 rfl ?_
      refine k_iload C d_Mo_perform_409 rfl ?_
      refine k_callVi C kg_all (c_Mo_share l G _ _ _ _ _ g a n.toNatClampNeg rfl rfl (r_id hn (by decide)) I42 hg ha (k_lt hn) ht hcar) cs_Mo_142 cv_Mo_share om_0 (by decide) rfl rfl (Nat.le_of_ble_eq_true rfl) ⟨rfl, rfl⟩ ⟨by decide, by decide⟩ ⟨Nat.zero_le _, Nat.zero_le _⟩ d_Mo_perform_411 (j_sh I42 ht hg (k_lt hn)).1 (fun I44 => ?_)
      exact k_ireturn C (E.to (by first | (simp only [mpT_0, mpT_1, mpT_2, mpT_3, mpT_4, mpT_5, mpT_6, mpT_7, mpT_8, mpT_9, mpT_10, mpT_11, mpT_12, mpT_13, mpT_14, mpT_15, mpT_16, mpT_17, mpT_18, mpT_19, mpT_20, mpT_21, mpX_0, mpX_1, mpX_2, mpX_3, mpX_4, mpX_5, mpX_6, mpX_7, mpX_8, mpX_9, mpX_10, mpX_11, mpX_12, mpX_13, mpX_14, mpX_15, mpX_16, mpX_17, mpX_18, mpX_19, mpX_20, mpX_21, m_rpE, h43, ↓reduceIte]; done) | (simp only [mpT_0, mpT_1, mpT_2, mpT_3, mpT_4, mpT_5, mpT_6, mpT_7, mpT_8, mpT_9, mpT_10, mpT_11, mpT_12, mpT_13, mpT_14, mpT_15, mpT_16, mpT_17, mpT_18, mpT_19, mpT_20, mpT_21, mpX_0, mpX_1, mpX_2, mpX_3, mpX_4, mpX_5, mpX_6, mpX_7, mpX_8, mpX_9, mpX_10, mpX_11, mpX_12, mpX_13, mpX_14, mpX_15, mpX_16, mpX_17, mpX_18, mpX_19, mpX_20, mpX_21, m_rpE, h43, ↓reduceIte]; rfl) | contradiction | rfl) (by first | (simp only [mpT_0, mpT_1, mpT_2, mpT_3, mpT_4, mpT_5, mpT_6, mpT_7, mpT_8, mpT_9, mpT_10, mpT_11, mpT_12, mpT_13, mpT_14, mpT_15, mpT_16, mpT_17, mpT_18, mpT_19, mpT_20, mpT_21, mpX_0, mpX_1, mpX_2, mpX_3, mpX_4, mpX_5, mpX_6, mpX_7, mpX_8, mpX_9, mpX_10, mpX_11, mpX_12, mpX_13, mpX_14, mpX_15, mpX_16, mpX_17, mpX_18, mpX_19, mpX_20, mpX_21, m_rpE, h43, ↓reduceIte]; done) | (simp only [mpT_0, mpT_1, mpT_2, mpT_3, mpT_4, mpT_5, mpT_6, mpT_7, mpT_8, mpT_9, mpT_10, mpT_11, mpT_12, mpT_13, mpT_14, mpT_15, mpT_16, mpT_17, mpT_18, mpT_19, mpT_20, mpT_21, mpX_0, mpX_1, mpX_2, mpX_3, mpX_4, mpX_5, mpX_6, mpX_7, mpX_8, mpX_9, mpX_10, mpX_11, mpX_12, mpX_13, mpX_14, mpX_15, mpX_16, mpX_17, mpX_18, mpX_19, mpX_20, mpX_21, m_rpE, h43, ↓reduceIte]; rfl) | contradiction | rfl)) d_Mo_perform_414
    · refine k_iconst C d_Mo_perform_401 (v := 4) (by decide) ?_
      refine k_goto C d_Mo_perform_402 (tgt := 414) (by decide) ?_
      exact k_ireturn C (E.to (by first | (simp only [mpT_0, mpT_1, mpT_2, mpT_3, mpT_4, mpT_5, mpT_6, mpT_7, mpT_8, mpT_9, mpT_10, mpT_11, mpT_12, mpT_13, mpT_14, mpT_15, mpT_16, mpT_17, mpT_18, mpT_19, mpT_20, mpT_21, mpX_0, mpX_1, mpX_2, mpX_3, mpX_4, mpX_5, mpX_6, mpX_7, mpX_8, mpX_9, mpX_10, mpX_11, mpX_12, mpX_13, mpX_14, mpX_15, mpX_16, mpX_17, mpX_18, mpX_19, mpX_20, mpX_21, m_rpE, h43, ↓reduceIte]; done) | (simp only [mpT_0, mpT_1, mpT_2, mpT_3, mpT_4, mpT_5, mpT_6, mpT_7, mpT_8, mpT_9, mpT_10, mpT_11, mpT_12, mpT_13, mpT_14, mpT_15, mpT_16, mpT_17, mpT_18, mpT_19, mpT_20, mpT_21, mpX_0, mpX_1, mpX_2, mpX_3, mpX_4, mpX_5, mpX_6, mpX_7, mpX_8, mpX_9, mpX_10, mpX_11, mpX_12, mpX_13, mpX_14, mpX_15, mpX_16, mpX_17, mpX_18, mpX_19, mpX_20, mpX_21, m_rpE, h43, ↓reduceIte]; rfl) | contradiction | rfl) (by first | (simp only [mpT_0, mpT_1, mpT_2, mpT_3, mpT_4, mpT_5, mpT_6, mpT_7, mpT_8, mpT_9, mpT_10, mpT_11, mpT_12, mpT_13, mpT_14, mpT_15, mpT_16, mpT_17, mpT_18, mpT_19, mpT_20, mpT_21, mpX_0, mpX_1, mpX_2, mpX_3, mpX_4, mpX_5, mpX_6, mpX_7, mpX_8, mpX_9, mpX_10, mpX_11, mpX_12, mpX_13, mpX_14, mpX_15, mpX_16, mpX_17, mpX_18, mpX_19, mpX_20, mpX_21, m_rpE, h43, ↓reduceIte]; done) | (simp only [mpT_0, mpT_1, mpT_2, mpT_3, mpT_4, mpT_5, mpT_6, mpT_7, mpT_8, mpT_9, mpT_10, mpT_11, mpT_12, mpT_13, mpT_14, mpT_15, mpT_16, mpT_17, mpT_18, mpT_19, mpT_20, mpT_21, mpX_0, mpX_1, mpX_2, mpX_3, mpX_4, mpX_5, mpX_6, mpX_7, mpX_8, mpX_9, mpX_10, mpX_11, mpX_12, mpX_13, mpX_14, mpX_15, mpX_16, mpX_17, mpX_18, mpX_19, mpX_20, mpX_21, m_rpE, h43, ↓reduceIte]; rfl) | contradiction | rfl)) d_Mo_perform_414
  · refine k_tabIn C d_Mo_perform_21 (by decide) (by decide) (off := 435) (by decide) (tgt := 456) (by decide) ?_
    refine k_iconst C d_Mo_perform_456 (v := 0) (by decide) ?_
    exact k_ireturn C (E.to (by first | (simp only [mpT_0, mpT_1, mpT_2, mpT_3, mpT_4, mpT_5, mpT_6, mpT_7, mpT_8, mpT_9, mpT_10, mpT_11, mpT_12, mpT_13, mpT_14, mpT_15, mpT_16, mpT_17, mpT_18, mpT_19, mpT_20, mpT_21, mpX_0, mpX_1, mpX_2, mpX_3, mpX_4, mpX_5, mpX_6, mpX_7, mpX_8, mpX_9, mpX_10, mpX_11, mpX_12, mpX_13, mpX_14, mpX_15, mpX_16, mpX_17, mpX_18, mpX_19, mpX_20, mpX_21, m_rpE, ↓reduceIte]; done) | (simp only [mpT_0, mpT_1, mpT_2, mpT_3, mpT_4, mpT_5, mpT_6, mpT_7, mpT_8, mpT_9, mpT_10, mpT_11, mpT_12, mpT_13, mpT_14, mpT_15, mpT_16, mpT_17, mpT_18, mpT_19, mpT_20, mpT_21, mpX_0, mpX_1, mpX_2, mpX_3, mpX_4, mpX_5, mpX_6, mpX_7, mpX_8, mpX_9, mpX_10, mpX_11, mpX_12, mpX_13, mpX_14, mpX_15, mpX_16, mpX_17, mpX_18, mpX_19, mpX_20, mpX_21, m_rpE, ↓reduceIte]; rfl) | contradiction | rfl) (by first | (simp only [mpT_0, mpT_1, mpT_2, mpT_3, mpT_4, mpT_5, mpT_6, mpT_7, mpT_8, mpT_9, mpT_10, mpT_11, mpT_12, mpT_13, mpT_14, mpT_15, mpT_16, mpT_17, mpT_18, mpT_19, mpT_20, mpT_21, mpX_0, mpX_1, mpX_2, mpX_3, mpX_4, mpX_5, mpX_6, mpX_7, mpX_8, mpX_9, mpX_10, mpX_11, mpX_12, mpX_13, mpX_14, mpX_15, mpX_16, mpX_17, mpX_18, mpX_19, mpX_20, mpX_21, m_rpE, ↓reduceIte]; done) | (simp only [mpT_0, mpT_1, mpT_2, mpT_3, mpT_4, mpT_5, mpT_6, mpT_7, mpT_8, mpT_9, mpT_10, mpT_11, mpT_12, mpT_13, mpT_14, mpT_15, mpT_16, mpT_17, mpT_18, mpT_19, mpT_20, mpT_21, mpX_0, mpX_1, mpX_2, mpX_3, mpX_4, mpX_5, mpX_6, mpX_7, mpX_8, mpX_9, mpX_10, mpX_11, mpX_12, mpX_13, mpX_14, mpX_15, mpX_16, mpX_17, mpX_18, mpX_19, mpX_20, mpX_21, m_rpE, ↓reduceIte]; rfl) | contradiction | rfl)) d_Mo_perform_457
  · refine k_tabIn C d_Mo_perform_21 (by decide) (by decide) (off := 394) (by decide) (tgt := 415) (by decide) ?_
    refine k_aload_n C d_Mo_perform_415 rfl ?_
    refine k_iload_n C d_Mo_perform_416 rfl ?_
    refine k_callVi C kg_all (c_Mo_reap l G _ _ g rfl I0 hg) cs_Mo_145 cv_Mo_reap om_0 (by decide) rfl rfl (Nat.le_of_ble_eq_true rfl) ⟨rfl, rfl⟩ ⟨by decide, by decide⟩ ⟨Nat.zero_le _, Nat.zero_le _⟩ d_Mo_perform_417 (j_rp I0 6 0).1 (fun I45 => ?_)
    refine k_istore C d_Mo_perform_420 (by decide) ?_
    refine k_aload_n C d_Mo_perform_422 rfl ?_
    refine k_getr C d_Mo_perform_423 fg_Mo_52 (by decide) rfl ?_
    refine k_iload C d_Mo_perform_426 rfl ?_
    refine k_iload C d_Mo_perform_428 rfl ?_
    refine k_iastore C d_Mo_perform_430 am_15 (by decide) (mx (g) 4 (a) 24 (by omega) (by decide)).1 (mx (g) 4 (a) 24 (by omega) (by decide)).2 I45 (trivial) (fun I46 => ?_)
    refine k_iload C d_Mo_perform_431 rfl ?_
    refine k_if_lt C d_Mo_perform_433 (tgt := 454) (by decide) (fun h47 => ?_) (fun h47 => ?_)
    · refine k_iconst C d_Mo_perform_454 (v := 0) (by decide) ?_
      exact k_ireturn C (E.to (by first | (simp only [mpT_0, mpT_1, mpT_2, mpT_3, mpT_4, mpT_5, mpT_6, mpT_7, mpT_8, mpT_9, mpT_10, mpT_11, mpT_12, mpT_13, mpT_14, mpT_15, mpT_16, mpT_17, mpT_18, mpT_19, mpT_20, mpT_21, mpX_0, mpX_1, mpX_2, mpX_3, mpX_4, mpX_5, mpX_6, mpX_7, mpX_8, mpX_9, mpX_10, mpX_11, mpX_12, mpX_13, mpX_14, mpX_15, mpX_16, mpX_17, mpX_18, mpX_19, mpX_20, mpX_21, m_rpE, h47, ↓reduceIte]; done) | (simp only [mpT_0, mpT_1, mpT_2, mpT_3, mpT_4, mpT_5, mpT_6, mpT_7, mpT_8, mpT_9, mpT_10, mpT_11, mpT_12, mpT_13, mpT_14, mpT_15, mpT_16, mpT_17, mpT_18, mpT_19, mpT_20, mpT_21, mpX_0, mpX_1, mpX_2, mpX_3, mpX_4, mpX_5, mpX_6, mpX_7, mpX_8, mpX_9, mpX_10, mpX_11, mpX_12, mpX_13, mpX_14, mpX_15, mpX_16, mpX_17, mpX_18, mpX_19, mpX_20, mpX_21, m_rpE, h47, ↓reduceIte]; rfl) | contradiction | rfl) (by first | (simp only [mpT_0, mpT_1, mpT_2, mpT_3, mpT_4, mpT_5, mpT_6, mpT_7, mpT_8, mpT_9, mpT_10, mpT_11, mpT_12, mpT_13, mpT_14, mpT_15, mpT_16, mpT_17, mpT_18, mpT_19, mpT_20, mpT_21, mpX_0, mpX_1, mpX_2, mpX_3, mpX_4, mpX_5, mpX_6, mpX_7, mpX_8, mpX_9, mpX_10, mpX_11, mpX_12, mpX_13, mpX_14, mpX_15, mpX_16, mpX_17, mpX_18, mpX_19, mpX_20, mpX_21, m_rpE, h47, ↓reduceIte]; done) | (simp only [mpT_0, mpT_1, mpT_2, mpT_3, mpT_4, mpT_5, mpT_6, mpT_7, mpT_8, mpT_9, mpT_10, mpT_11, mpT_12, mpT_13, mpT_14, mpT_15, mpT_16, mpT_17, mpT_18, mpT_19, mpT_20, mpT_21, mpX_0, mpX_1, mpX_2, mpX_3, mpX_4, mpX_5, mpX_6, mpX_7, mpX_8, mpX_9, mpX_10, mpX_11, mpX_12, mpX_13, mpX_14, mpX_15, mpX_16, mpX_17, mpX_18, mpX_19, mpX_20, mpX_21, m_rpE, h47, ↓reduceIte]; rfl) | contradiction | rfl)) d_Mo_perform_455
    · refine k_aload_n C d_Mo_perform_436 rfl ?_
      refine k_getr C d_Mo_perform_437 fg_Mo_52 (by decide) rfl ?_
      refine k_iload_n C d_Mo_perform_440 rfl ?_
      refine k_iconst C d_Mo_perform_441 (v := 4) (by decide) ?_
      refine k_imul C d_Mo_perform_442 ?_
      refine k_iload C d_Mo_perform_443 rfl ?_
      refine k_iadd C d_Mo_perform_445 ?_
      refine k_aload_n C d_Mo_perform_446 rfl ?_
      refine k_getr C d_Mo_perform_447 fg_Mo_43 (by decide) rfl ?_
      refine k_iload C d_Mo_perform_450 rfl ?_
      refine k_iaload C d_Mo_perform_452 am_12 (by decide) (m_rpv 6 0 rfl ‹_›) rfl ?_
      refine k_iastore C d_Mo_perform_453 am_15 (by decide) (mx (g) 4 (b) 24 (by omega) (by decide)).1 (mx (g) 4 (b) 24 (by omega) (by decide)).2 I46 (trivial) (fun I48 => ?_)
      refine k_iconst C d_Mo_perform_454 (v := 0) (by decide) ?_
      exact k_ireturn C (E.to (by first | (simp only [mpT_0, mpT_1, mpT_2, mpT_3, mpT_4, mpT_5, mpT_6, mpT_7, mpT_8, mpT_9, mpT_10, mpT_11, mpT_12, mpT_13, mpT_14, mpT_15, mpT_16, mpT_17, mpT_18, mpT_19, mpT_20, mpT_21, mpX_0, mpX_1, mpX_2, mpX_3, mpX_4, mpX_5, mpX_6, mpX_7, mpX_8, mpX_9, mpX_10, mpX_11, mpX_12, mpX_13, mpX_14, mpX_15, mpX_16, mpX_17, mpX_18, mpX_19, mpX_20, mpX_21, m_rpE, h47, ↓reduceIte]; done) | (simp only [mpT_0, mpT_1, mpT_2, mpT_3, mpT_4, mpT_5, mpT_6, mpT_7, mpT_8, mpT_9, mpT_10, mpT_11, mpT_12, mpT_13, mpT_14, mpT_15, mpT_16, mpT_17, mpT_18, mpT_19, mpT_20, mpT_21, mpX_0, mpX_1, mpX_2, mpX_3, mpX_4, mpX_5, mpX_6, mpX_7, mpX_8, mpX_9, mpX_10, mpX_11, mpX_12, mpX_13, mpX_14, mpX_15, mpX_16, mpX_17, mpX_18, mpX_19, mpX_20, mpX_21, m_rpE, h47, ↓reduceIte]; rfl) | contradiction | rfl) (by first | (simp only [mpT_0, mpT_1, mpT_2, mpT_3, mpT_4, mpT_5, mpT_6, mpT_7, mpT_8, mpT_9, mpT_10, mpT_11, mpT_12, mpT_13, mpT_14, mpT_15, mpT_16, mpT_17, mpT_18, mpT_19, mpT_20, mpT_21, mpX_0, mpX_1, mpX_2, mpX_3, mpX_4, mpX_5, mpX_6, mpX_7, mpX_8, mpX_9, mpX_10, mpX_11, mpX_12, mpX_13, mpX_14, mpX_15, mpX_16, mpX_17, mpX_18, mpX_19, mpX_20, mpX_21, m_rpE, h47, ↓reduceIte]; done) | (simp only [mpT_0, mpT_1, mpT_2, mpT_3, mpT_4, mpT_5, mpT_6, mpT_7, mpT_8, mpT_9, mpT_10, mpT_11, mpT_12, mpT_13, mpT_14, mpT_15, mpT_16, mpT_17, mpT_18, mpT_19, mpT_20, mpT_21, mpX_0, mpX_1, mpX_2, mpX_3, mpX_4, mpX_5, mpX_6, mpX_7, mpX_8, mpX_9, mpX_10, mpX_11, mpX_12, mpX_13, mpX_14, mpX_15, mpX_16, mpX_17, mpX_18, mpX_19, mpX_20, mpX_21, m_rpE, h47, ↓reduceIte]; rfl) | contradiction | rfl)) d_Mo_perform_455
end
section
set_option maxHeartbeats 4000000 in
set_option maxRecDepth 100000 in
theorem b_ms3 {X : kX} {G : kG} {l : Launch} {K : kM} (C : k_C X kT b_Mo_step y_Mo_step.cls mS G 7 l (k_rm 5)) (p g : Nat) (o : Int32) (hp : p < 2) (hg : g < 6) (I0 : m_Inv K) (hw : K 5 0 g = 1 → m_tot K ≤ 5) (E : k_E X none none (m_st3 K p g o) 0 0) : k_W X 0 0 241 [(0, .ref (G.2.2 0 0)), (1, .int (nI p)), (2, .int (nI g)), (4, .int o)] [] K := by
  refine k_aload_n C d_Mo_step_241 rfl ?_
  refine k_getr C d_Mo_step_242 fg_Mo_22 (by decide) rfl ?_
  refine k_iload_n C d_Mo_step_245 rfl ?_
  refine k_iaload C d_Mo_step_246 am_5 (by decide) (vp_in_nI (by omega) (by decide)) (nI_clamp (by omega)) ?_
  refine k_iconst C d_Mo_step_247 (v := 1) (by decide) ?_
  refine k_icmp_ne C d_Mo_step_248 (tgt := 268) (by decide) (fun h1 => ?_) (fun h1 => ?_)
  · refine k_aload_n C d_Mo_step_268 rfl ?_
    refine k_getr C d_Mo_step_269 fg_Mo_80 (by decide) rfl ?_
    refine k_iload_n C d_Mo_step_272 rfl ?_
    refine k_iconst C d_Mo_step_273 (v := (-1)) (by decide) ?_
    refine k_iastore C d_Mo_step_274 am_24 (by decide) (vp_in_nI (by omega) (by decide)) (nI_clamp (by omega)) I0 (Or.inl rfl) (fun I2 => ?_)
    refine k_aload_n C d_Mo_step_275 rfl ?_
    refine k_getr C d_Mo_step_276 fg_Mo_22 (by decide) rfl ?_
    refine k_iload_n C d_Mo_step_279 rfl ?_
    refine k_iaload C d_Mo_step_280 am_5 (by decide) (vp_in_nI (by omega) (by decide)) (nI_clamp (by omega)) ?_
    refine k_iconst C d_Mo_step_281 (v := 1) (by decide) ?_
    refine k_icmp_ne C d_Mo_step_282 (tgt := 290) (by decide) (fun h3 => ?_) (fun h3 => ?_)
    · exact k_return C (E.to rfl (by first | (simp only [m_st3, m_st4, h1, h3, ↓reduceIte]; done) | (simp only [m_st3, m_st4, h1, h3, ↓reduceIte]; rfl) | contradiction | rfl)) d_Mo_step_290
    · refine k_aload_n C d_Mo_step_285 rfl ?_
      refine k_iload_n C d_Mo_step_286 rfl ?_
      refine k_callVv C kg_all (c_Mo_wake l G _ _ g rfl I2 hg (by rw [mt_ne (by decide)]; exact hw ‹_›)) cs_Mo_98 cv_Mo_wake om_0 (by decide) rfl rfl (Nat.le_of_ble_eq_true rfl) ⟨rfl, rfl⟩ ⟨by decide, by decide⟩ ⟨Nat.zero_le _, Nat.zero_le _⟩ d_Mo_step_287 (iv_mwake I2 (by rw [mt_ne (by decide)]; exact hw ‹_›) hg) (fun I4 => ?_)
      exact k_return C (E.to rfl (by first | (simp only [m_st3, m_st4, h1, h3, ↓reduceIte]; done) | (simp only [m_st3, m_st4, h1, h3, ↓reduceIte]; rfl) | contradiction | rfl)) d_Mo_step_290
  · refine k_aload_n C d_Mo_step_251 rfl ?_
    refine k_getr C d_Mo_step_252 fg_Mo_83 (by decide) rfl ?_
    refine k_iload_n C d_Mo_step_255 rfl ?_
    refine k_iaload C d_Mo_step_256 am_25 (by decide) (vp_in_nI (by omega) (by decide)) (nI_clamp (by omega)) ?_
    refine k_if_le C d_Mo_step_257 (tgt := 268) (by decide) (fun h5 => ?_) (fun h5 => ?_)
    · refine k_aload_n C d_Mo_step_268 rfl ?_
      refine k_getr C d_Mo_step_269 fg_Mo_80 (by decide) rfl ?_
      refine k_iload_n C d_Mo_step_272 rfl ?_
      refine k_iconst C d_Mo_step_273 (v := (-1)) (by decide) ?_
      refine k_iastore C d_Mo_step_274 am_24 (by decide) (vp_in_nI (by omega) (by decide)) (nI_clamp (by omega)) I0 (Or.inl rfl) (fun I6 => ?_)
      refine k_aload_n C d_Mo_step_275 rfl ?_
      refine k_getr C d_Mo_step_276 fg_Mo_22 (by decide) rfl ?_
      refine k_iload_n C d_Mo_step_279 rfl ?_
      refine k_iaload C d_Mo_step_280 am_5 (by decide) (vp_in_nI (by omega) (by decide)) (nI_clamp (by omega)) ?_
      refine k_iconst C d_Mo_step_281 (v := 1) (by decide) ?_
      refine k_icmp_ne C d_Mo_step_282 (tgt := 290) (by decide) (fun h7 => ?_) (fun h7 => ?_)
      · exact k_return C (E.to rfl (by first | (simp only [m_st3, m_st4, h1, h5, h7, ↓reduceIte]; done) | (simp only [m_st3, m_st4, h1, h5, h7, ↓reduceIte]; rfl) | contradiction | rfl)) d_Mo_step_290
      · refine k_aload_n C d_Mo_step_285 rfl ?_
        refine k_iload_n C d_Mo_step_286 rfl ?_
        refine k_callVv C kg_all (c_Mo_wake l G _ _ g rfl I6 hg (by rw [mt_ne (by decide)]; exact hw ‹_›)) cs_Mo_98 cv_Mo_wake om_0 (by decide) rfl rfl (Nat.le_of_ble_eq_true rfl) ⟨rfl, rfl⟩ ⟨by decide, by decide⟩ ⟨Nat.zero_le _, Nat.zero_le _⟩ d_Mo_step_287 (iv_mwake I6 (by rw [mt_ne (by decide)]; exact hw ‹_›) hg) (fun I8 => ?_)
        exact k_return C (E.to rfl (by first | (simp only [m_st3, m_st4, h1, h5, h7, ↓reduceIte]; done) | (simp only [m_st3, m_st4, h1, h5, h7, ↓reduceIte]; rfl) | contradiction | rfl)) d_Mo_step_290
    · refine k_iload C d_Mo_step_260 rfl ?_
      refine k_bipush C d_Mo_step_262 (v := 12) (by decide) ?_
      refine k_icmp_eq C d_Mo_step_264 (tgt := 268) (by decide) (fun h9 => ?_) (fun h9 => ?_)
      · refine k_aload_n C d_Mo_step_268 rfl ?_
        refine k_getr C d_Mo_step_269 fg_Mo_80 (by decide) rfl ?_
        refine k_iload_n C d_Mo_step_272 rfl ?_
        refine k_iconst C d_Mo_step_273 (v := (-1)) (by decide) ?_
        refine k_iastore C d_Mo_step_274 am_24 (by decide) (vp_in_nI (by omega) (by decide)) (nI_clamp (by omega)) I0 (Or.inl rfl) (fun I10 => ?_)
        refine k_aload_n C d_Mo_step_275 rfl ?_
        refine k_getr C d_Mo_step_276 fg_Mo_22 (by decide) rfl ?_
        refine k_iload_n C d_Mo_step_279 rfl ?_
        refine k_iaload C d_Mo_step_280 am_5 (by decide) (vp_in_nI (by omega) (by decide)) (nI_clamp (by omega)) ?_
        refine k_iconst C d_Mo_step_281 (v := 1) (by decide) ?_
        refine k_icmp_ne C d_Mo_step_282 (tgt := 290) (by decide) (fun h11 => ?_) (fun h11 => ?_)
        · exact k_return C (E.to rfl (by first | (simp only [m_st3, m_st4, h1, h5, h9, h11, ↓reduceIte]; done) | (simp only [m_st3, m_st4, h1, h5, h9, h11, ↓reduceIte]; rfl) | contradiction | rfl)) d_Mo_step_290
        · refine k_aload_n C d_Mo_step_285 rfl ?_
          refine k_iload_n C d_Mo_step_286 rfl ?_
          refine k_callVv C kg_all (c_Mo_wake l G _ _ g rfl I10 hg (by rw [mt_ne (by decide)]; exact hw ‹_›)) cs_Mo_98 cv_Mo_wake om_0 (by decide) rfl rfl (Nat.le_of_ble_eq_true rfl) ⟨rfl, rfl⟩ ⟨by decide, by decide⟩ ⟨Nat.zero_le _, Nat.zero_le _⟩ d_Mo_step_287 (iv_mwake I10 (by rw [mt_ne (by decide)]; exact hw ‹_›) hg) (fun I12 => ?_)
          exact k_return C (E.to rfl (by first | (simp only [m_st3, m_st4, h1, h5, h9, h11, ↓reduceIte]; done) | (simp only [m_st3, m_st4, h1, h5, h9, h11, ↓reduceIte]; rfl) | contradiction | rfl)) d_Mo_step_290
      · exact k_return C (E.to rfl (by first | (simp only [m_st3, m_st4, h1, h5, h9, ↓reduceIte]; done) | (simp only [m_st3, m_st4, h1, h5, h9, ↓reduceIte]; rfl) | contradiction | rfl)) d_Mo_step_267
set_option maxHeartbeats 4000000 in
set_option maxRecDepth 100000 in
theorem b_ms2 {X : kX} {G : kG} {l : Launch} {K : kM} (C : k_C X kT b_Mo_step y_Mo_step.cls mS G 7 l (k_rm 5)) (p g i : Nat) (o j : Int32) (hp : p < 2) (hg : g < 6) (hi : i < 32) (ho : vp_in o 22) (I0 : m_Inv K) (ht : m_tot K ≤ 5) (hcar : m_car K) (k : k_W X 0 0 241 [(0, .ref (G.2.2 0 0)), (1, .int (nI p)), (2, .int (nI g)), (4, .int o)] [] (m_st2 K g o (K 2 0 i).toNatClampNeg (K 3 0 i).toNatClampNeg (K 4 0 i) i j)) : k_W X 0 0 170 [(5, .int (j)), (0, .ref (G.2.2 0 0)), (1, .int (nI p)), (2, .int (nI g)), (3, .int (nI i)), (4, .int o)] [] K := by
  refine k_aload_n C d_Mo_step_170 rfl ?_
  refine k_iload_n C d_Mo_step_171 rfl ?_
  refine k_iload C d_Mo_step_172 rfl ?_
  refine k_aload_n C d_Mo_step_174 rfl ?_
  refine k_getr C d_Mo_step_175 fg_Mo_13 (by decide) rfl ?_
  refine k_iload_n C d_Mo_step_178 rfl ?_
  refine k_iaload C d_Mo_step_179 am_2 (by decide) (vp_in_nI (by omega) (by decide)) (nI_clamp (by omega)) ?_
  refine k_top (r_id (I0 2 0 i) (by decide)) ?_
  refine k_aload_n C d_Mo_step_180 rfl ?_
  refine k_getr C d_Mo_step_181 fg_Mo_16 (by decide) rfl ?_
  refine k_iload_n C d_Mo_step_184 rfl ?_
  refine k_iaload C d_Mo_step_185 am_3 (by decide) (vp_in_nI (by omega) (by decide)) (nI_clamp (by omega)) ?_
  refine k_top (r_id (I0 3 0 i) (by decide)) ?_
  refine k_aload_n C d_Mo_step_186 rfl ?_
  refine k_getr C d_Mo_step_187 fg_Mo_19 (by decide) rfl ?_
  refine k_iload_n C d_Mo_step_190 rfl ?_
  refine k_iaload C d_Mo_step_191 am_4 (by decide) (vp_in_nI (by omega) (by decide)) (nI_clamp (by omega)) ?_
  refine k_callVi C kg_all (c_Mo_perform l G _ _ _ _ _ _ g (K 2 0 i).toNatClampNeg (K 3 0 i).toNatClampNeg rfl rfl rfl I0 hg ho (k_lt (I0 2 0 i)) (k_lt (I0 3 0 i)) ht hcar) cs_Mo_158 cv_Mo_perform om_0 (by decide) rfl rfl (Nat.le_of_ble_eq_true rfl) ⟨rfl, rfl⟩ ⟨by decide, by decide⟩ ⟨Nat.zero_le _, Nat.zero_le _⟩ d_Mo_step_192 (j_pf I0 ht hg ho).1 (fun I1 => ?_)
  refine k_istore C d_Mo_step_195 (by decide) ?_
  refine k_iload C d_Mo_step_197 rfl ?_
  refine k_if_eq C d_Mo_step_199 (tgt := 212) (by decide) (fun h2 => ?_) (fun h2 => ?_)
  · refine k_aload_n C d_Mo_step_212 rfl ?_
    refine k_getr C d_Mo_step_213 fg_Mo_25 (by decide) rfl ?_
    refine k_iload_n C d_Mo_step_216 rfl ?_
    refine k_iload C d_Mo_step_217 rfl ?_
    refine k_if_eq C d_Mo_step_219 (tgt := 234) (by decide) (fun h3 => ?_) (fun h3 => ?_)
    · refine k_iload_n C d_Mo_step_234 rfl ?_
      refine k_iconst C d_Mo_step_235 (v := 1) (by decide) ?_
      refine k_iadd C d_Mo_step_236 ?_
      refine k_bipush C d_Mo_step_237 (v := 31) (by decide) ?_
      refine k_iand C d_Mo_step_239 ?_
      refine k_iastore C d_Mo_step_240 am_6 (by decide) (vp_in_nI (by omega) (by decide)) (nI_clamp (by omega)) I1 (m_31 _) (fun I4 => ?_)
      exact k_loc [(0, .ref (G.2.2 0 0)), (1, .int (nI p)), (2, .int (nI g)), (4, .int o)] ⟨rfl, rfl, rfl, rfl, trivial⟩ (k_mem (by first | rfl | (simp only [m_st2, h2, h3, ↓reduceIte]; done) | (simp only [m_st2, h2, h3, ↓reduceIte]; rfl) | (simp [m_st2, h2, h3]; done)) k)
    · refine k_aload_n C d_Mo_step_222 rfl ?_
      refine k_getr C d_Mo_step_223 fg_Mo_19 (by decide) rfl ?_
      refine k_iload_n C d_Mo_step_226 rfl ?_
      refine k_iaload C d_Mo_step_227 am_4 (by decide) (vp_in_nI (by omega) (by decide)) (nI_clamp (by omega)) ?_
      refine k_bipush C d_Mo_step_228 (v := 31) (by decide) ?_
      refine k_iand C d_Mo_step_230 ?_
      refine k_goto C d_Mo_step_231 (tgt := 240) (by decide) ?_
      refine k_iastore C d_Mo_step_240 am_6 (by decide) (vp_in_nI (by omega) (by decide)) (nI_clamp (by omega)) I1 (m_31 _) (fun I5 => ?_)
      exact k_loc [(0, .ref (G.2.2 0 0)), (1, .int (nI p)), (2, .int (nI g)), (4, .int o)] ⟨rfl, rfl, rfl, rfl, trivial⟩ (k_mem (by first | rfl | (simp only [m_st2, h2, h3, ↓reduceIte]; done) | (simp only [m_st2, h2, h3, ↓reduceIte]; rfl) | (simp [m_st2, h2, h3]; done)) k)
  · refine k_aload_n C d_Mo_step_202 rfl ?_
    refine k_iload_n C d_Mo_step_203 rfl ?_
    refine k_iload C d_Mo_step_204 rfl ?_
    refine k_callVv C kg_all (c_Mo_trap l G _ _ _ g rfl I1 hg (by have := (j_pf (a := (K 2 0 i).toNatClampNeg) (b := (K 3 0 i).toNatClampNeg) (n := K 4 0 i) I0 ht hg ho).2; omega)) cs_Mo_162 cv_Mo_trap om_0 (by decide) rfl rfl (Nat.le_of_ble_eq_true rfl) ⟨rfl, rfl⟩ ⟨by decide, by decide⟩ ⟨Nat.zero_le _, Nat.zero_le _⟩ d_Mo_step_206 (j_trap I1 (by have := (j_pf (a := (K 2 0 i).toNatClampNeg) (b := (K 3 0 i).toNatClampNeg) (n := K 4 0 i) I0 ht hg ho).2; omega)).1 (fun I6 => ?_)
    refine k_goto C d_Mo_step_209 (tgt := 241) (by decide) ?_
    exact k_loc [(0, .ref (G.2.2 0 0)), (1, .int (nI p)), (2, .int (nI g)), (4, .int o)] ⟨rfl, rfl, rfl, rfl, trivial⟩ (k_mem (by first | rfl | (simp only [m_st2, h2, ↓reduceIte]; done) | (simp only [m_st2, h2, ↓reduceIte]; rfl) | (simp [m_st2, h2]; done)) k)
set_option maxHeartbeats 4000000 in
set_option maxRecDepth 100000 in
theorem b_ms1 {X : kX} {G : kG} {l : Launch} {K : kM} (C : k_C X kT b_Mo_step y_Mo_step.cls mS G 7 l (k_rm 5)) (p g i : Nat) (o : Int32) (hp : p < 2) (hg : g < 6) (hi : i < 32) (ho : vp_in o 22) (I0 : m_Inv K) (ht : m_tot K ≤ 5) (hcar : m_car K) (k : k_W X 0 0 241 [(0, .ref (G.2.2 0 0)), (1, .int (nI p)), (2, .int (nI g)), (4, .int o)] [] (m_stM K g i o)) : k_W X 0 0 42 [(0, .ref (G.2.2 0 0)), (1, .int (nI p)), (2, .int (nI g)), (3, .int (nI i)), (4, .int o)] [] K := by
  have ha2 := k_lt (I0 2 0 i)
  have hb2 := k_lt (I0 3 0 i)
  refine k_iload C d_Mo_step_42 rfl ?_
  refine k_if_eq C d_Mo_step_44 (tgt := 54) (by decide) (fun h1 => ?_) (fun h1 => ?_)
  · refine k_aload_n C d_Mo_step_54 rfl ?_
    refine k_getr C d_Mo_step_55 fg_Mo_25 (by decide) rfl ?_
    refine k_iload_n C d_Mo_step_58 rfl ?_
    refine k_iload_n C d_Mo_step_59 rfl ?_
    refine k_iconst C d_Mo_step_60 (v := 1) (by decide) ?_
    refine k_iadd C d_Mo_step_61 ?_
    refine k_bipush C d_Mo_step_62 (v := 31) (by decide) ?_
    refine k_iand C d_Mo_step_64 ?_
    refine k_iastore C d_Mo_step_65 am_6 (by decide) (vp_in_nI (by omega) (by decide)) (nI_clamp (by omega)) I0 (m_31 _) (fun I2 => ?_)
    refine k_aload_n C d_Mo_step_66 rfl ?_
    refine k_iload_n C d_Mo_step_67 rfl ?_
    refine k_iload C d_Mo_step_68 rfl ?_
    refine k_if_ne C d_Mo_step_70 (tgt := 77) (by decide) (fun h3 => absurd h1 h3) (fun h3 => ?_)
    refine k_iconst C d_Mo_step_73 (v := 0) (by decide) ?_
    refine k_goto C d_Mo_step_74 (tgt := 92) (by decide) ?_
    refine k_callVv C kg_all (c_Mo_die l G _ _ _ g rfl I2 hg (by show m_tot (k_up _ _ _ _ _) ≤ 6; rw [mt_ne (by decide)]; omega)) cs_Mo_119 cv_Mo_die om_0 (by decide) rfl rfl (Nat.le_of_ble_eq_true rfl) ⟨rfl, rfl⟩ ⟨by decide, by decide⟩ ⟨Nat.zero_le _, Nat.zero_le _⟩ d_Mo_step_92 (j_die I2 (by show m_tot (k_up _ _ _ _ _) ≤ 6; rw [mt_ne (by decide)]; omega)).1 (fun I4 => ?_)
    refine k_goto C d_Mo_step_95 (tgt := 241) (by decide) ?_
    exact k_loc [(0, .ref (G.2.2 0 0)), (1, .int (nI p)), (2, .int (nI g)), (4, .int o)] ⟨rfl, rfl, rfl, rfl, trivial⟩ (k_mem (by first | (simp only [m_stM, m_stD, h1, ↓reduceIte]; done) | (simp only [m_stM, m_stD, h1, ↓reduceIte]; rfl)) k)
  · refine k_iload C d_Mo_step_47 rfl ?_
    refine k_bipush C d_Mo_step_49 (v := 20) (by decide) ?_
    refine k_icmp_ne C d_Mo_step_51 (tgt := 98) (by decide) (fun h5 => ?_) (fun h5 => ?_)
    · refine k_iload C d_Mo_step_98 rfl ?_
      refine k_bipush C d_Mo_step_100 (v := 9) (by decide) ?_
      refine k_icmp_ne C d_Mo_step_102 (tgt := 138) (by decide) (fun h6 => ?_) (fun h6 => ?_)
      · refine k_iload C d_Mo_step_138 rfl ?_
        refine k_bipush C d_Mo_step_140 (v := 10) (by decide) ?_
        refine k_icmp_ne C d_Mo_step_142 (tgt := 167) (by decide) (fun h7 => ?_) (fun h7 => ?_)
        · refine k_iconst C d_Mo_step_167 (v := 0) (by decide) ?_
          refine k_istore C d_Mo_step_168 (by decide) ?_
          exact b_ms2 C p g i o _ hp hg hi ho I0 ht hcar (k_mem (by first | (simp only [m_stM, m_jp, h1, h5, h6, h7, ↓reduceIte]; done) | (simp only [m_stM, m_jp, h1, h5, h6, h7, ↓reduceIte]; rfl) | (simp [m_stM, m_jp, h1, h5, h6, h7]; done)) k)
        · refine k_aload_n C d_Mo_step_145 rfl ?_
          refine k_getr C d_Mo_step_146 fg_Mo_52 (by decide) rfl ?_
          refine k_iload_n C d_Mo_step_149 rfl ?_
          refine k_iconst C d_Mo_step_150 (v := 4) (by decide) ?_
          refine k_imul C d_Mo_step_151 ?_
          refine k_aload_n C d_Mo_step_152 rfl ?_
          refine k_getr C d_Mo_step_153 fg_Mo_13 (by decide) rfl ?_
          refine k_iload_n C d_Mo_step_156 rfl ?_
          refine k_iaload C d_Mo_step_157 am_2 (by decide) (vp_in_nI (by omega) (by decide)) (nI_clamp (by omega)) ?_
          refine k_top (r_id (I0 2 0 i) (by decide)) ?_
          refine k_iadd C d_Mo_step_158 ?_
          refine k_iaload C d_Mo_step_159 am_15 (by decide) (mx (g) 4 ((K 2 0 i).toNatClampNeg) 24 (by omega) (by decide)).1 (mx (g) 4 ((K 2 0 i).toNatClampNeg) 24 (by omega) (by decide)).2 ?_
          refine k_if_ne C d_Mo_step_160 (tgt := 167) (by decide) (fun h8 => ?_) (fun h8 => ?_)
          · refine k_iconst C d_Mo_step_167 (v := 0) (by decide) ?_
            refine k_istore C d_Mo_step_168 (by decide) ?_
            exact b_ms2 C p g i o _ hp hg hi ho I0 ht hcar (k_mem (by first | (simp only [m_stM, m_jp, h1, h5, h6, h7, h8, ↓reduceIte]; done) | (simp only [m_stM, m_jp, h1, h5, h6, h7, h8, ↓reduceIte]; rfl) | (simp [m_stM, m_jp, h1, h5, h6, h7, h8]; done)) k)
          · refine k_iconst C d_Mo_step_163 (v := 1) (by decide) ?_
            refine k_goto C d_Mo_step_164 (tgt := 168) (by decide) ?_
            refine k_istore C d_Mo_step_168 (by decide) ?_
            exact b_ms2 C p g i o _ hp hg hi ho I0 ht hcar (k_mem (by first | (simp only [m_stM, m_jp, h1, h5, h6, h7, h8, ↓reduceIte]; done) | (simp only [m_stM, m_jp, h1, h5, h6, h7, h8, ↓reduceIte]; rfl) | (simp [m_stM, m_jp, h1, h5, h6, h7, h8]; done)) k)
      · refine k_aload_n C d_Mo_step_105 rfl ?_
        refine k_getr C d_Mo_step_106 fg_Mo_52 (by decide) rfl ?_
        refine k_iload_n C d_Mo_step_109 rfl ?_
        refine k_iconst C d_Mo_step_110 (v := 4) (by decide) ?_
        refine k_imul C d_Mo_step_111 ?_
        refine k_aload_n C d_Mo_step_112 rfl ?_
        refine k_getr C d_Mo_step_113 fg_Mo_13 (by decide) rfl ?_
        refine k_iload_n C d_Mo_step_116 rfl ?_
        refine k_iaload C d_Mo_step_117 am_2 (by decide) (vp_in_nI (by omega) (by decide)) (nI_clamp (by omega)) ?_
        refine k_top (r_id (I0 2 0 i) (by decide)) ?_
        refine k_iadd C d_Mo_step_118 ?_
        refine k_iaload C d_Mo_step_119 am_15 (by decide) (mx (g) 4 ((K 2 0 i).toNatClampNeg) 24 (by omega) (by decide)).1 (mx (g) 4 ((K 2 0 i).toNatClampNeg) 24 (by omega) (by decide)).2 ?_
        refine k_aload_n C d_Mo_step_120 rfl ?_
        refine k_getr C d_Mo_step_121 fg_Mo_52 (by decide) rfl ?_
        refine k_iload_n C d_Mo_step_124 rfl ?_
        refine k_iconst C d_Mo_step_125 (v := 4) (by decide) ?_
        refine k_imul C d_Mo_step_126 ?_
        refine k_aload_n C d_Mo_step_127 rfl ?_
        refine k_getr C d_Mo_step_128 fg_Mo_16 (by decide) rfl ?_
        refine k_iload_n C d_Mo_step_131 rfl ?_
        refine k_iaload C d_Mo_step_132 am_3 (by decide) (vp_in_nI (by omega) (by decide)) (nI_clamp (by omega)) ?_
        refine k_top (r_id (I0 3 0 i) (by decide)) ?_
        refine k_iadd C d_Mo_step_133 ?_
        refine k_iaload C d_Mo_step_134 am_15 (by decide) (mx (g) 4 ((K 3 0 i).toNatClampNeg) 24 (by omega) (by decide)).1 (mx (g) 4 ((K 3 0 i).toNatClampNeg) 24 (by omega) (by decide)).2 ?_
        refine k_icmp_lt C d_Mo_step_135 (tgt := 163) (by decide) (fun h9 => ?_) (fun h9 => ?_)
        · refine k_iconst C d_Mo_step_163 (v := 1) (by decide) ?_
          refine k_goto C d_Mo_step_164 (tgt := 168) (by decide) ?_
          refine k_istore C d_Mo_step_168 (by decide) ?_
          exact b_ms2 C p g i o _ hp hg hi ho I0 ht hcar (k_mem (by first | (simp only [m_stM, m_jp, h1, h5, h6, h9, ↓reduceIte]; done) | (simp only [m_stM, m_jp, h1, h5, h6, h9, ↓reduceIte]; rfl) | (simp [m_stM, m_jp, h1, h5, h6, h9]; done)) k)
        · refine k_iload C d_Mo_step_138 rfl ?_
          refine k_bipush C d_Mo_step_140 (v := 10) (by decide) ?_
          refine k_icmp_ne C d_Mo_step_142 (tgt := 167) (by decide) (fun h10 => ?_) (fun h10 => absurd (h6.symm.trans h10 : (9 : Int32) = 10) (by decide))
          refine k_iconst C d_Mo_step_167 (v := 0) (by decide) ?_
          refine k_istore C d_Mo_step_168 (by decide) ?_
          exact b_ms2 C p g i o _ hp hg hi ho I0 ht hcar (k_mem (by first | (simp only [m_stM, m_jp, h1, h5, h6, h9, ↓reduceIte]; done) | (simp only [m_stM, m_jp, h1, h5, h6, h9, ↓reduceIte]; rfl) | (simp [m_stM, m_jp, h1, h5, h6, h9]; done)) k)
    · refine k_aload_n C d_Mo_step_54 rfl ?_
      refine k_getr C d_Mo_step_55 fg_Mo_25 (by decide) rfl ?_
      refine k_iload_n C d_Mo_step_58 rfl ?_
      refine k_iload_n C d_Mo_step_59 rfl ?_
      refine k_iconst C d_Mo_step_60 (v := 1) (by decide) ?_
      refine k_iadd C d_Mo_step_61 ?_
      refine k_bipush C d_Mo_step_62 (v := 31) (by decide) ?_
      refine k_iand C d_Mo_step_64 ?_
      refine k_iastore C d_Mo_step_65 am_6 (by decide) (vp_in_nI (by omega) (by decide)) (nI_clamp (by omega)) I0 (m_31 _) (fun I11 => ?_)
      refine k_aload_n C d_Mo_step_66 rfl ?_
      refine k_iload_n C d_Mo_step_67 rfl ?_
      refine k_iload C d_Mo_step_68 rfl ?_
      refine k_if_ne C d_Mo_step_70 (tgt := 77) (by decide) (fun h12 => ?_) (fun h12 => absurd h12 h1)
      refine k_aload_n C d_Mo_step_77 rfl ?_
      refine k_getr C d_Mo_step_78 fg_Mo_52 (by decide) rfl ?_
      refine k_iload_n C d_Mo_step_81 rfl ?_
      refine k_iconst C d_Mo_step_82 (v := 4) (by decide) ?_
      refine k_imul C d_Mo_step_83 ?_
      refine k_aload_n C d_Mo_step_84 rfl ?_
      refine k_getr C d_Mo_step_85 fg_Mo_13 (by decide) rfl ?_
      refine k_iload_n C d_Mo_step_88 rfl ?_
      refine k_iaload C d_Mo_step_89 am_2 (by decide) (vp_in_nI (by omega) (by decide)) (nI_clamp (by omega)) ?_
      refine k_top (r_id (I0 2 0 i) (by decide)) ?_
      refine k_iadd C d_Mo_step_90 ?_
      refine k_iaload C d_Mo_step_91 am_15 (by decide) (mx (g) 4 ((K 2 0 i).toNatClampNeg) 24 (by omega) (by decide)).1 (mx (g) 4 ((K 2 0 i).toNatClampNeg) 24 (by omega) (by decide)).2 ?_
      refine k_callVv C kg_all (c_Mo_die l G _ _ _ g rfl I11 hg (by show m_tot (k_up _ _ _ _ _) ≤ 6; rw [mt_ne (by decide)]; omega)) cs_Mo_119 cv_Mo_die om_0 (by decide) rfl rfl (Nat.le_of_ble_eq_true rfl) ⟨rfl, rfl⟩ ⟨by decide, by decide⟩ ⟨Nat.zero_le _, Nat.zero_le _⟩ d_Mo_step_92 (j_die I11 (by show m_tot (k_up _ _ _ _ _) ≤ 6; rw [mt_ne (by decide)]; omega)).1 (fun I13 => ?_)
      refine k_goto C d_Mo_step_95 (tgt := 241) (by decide) ?_
      exact k_loc [(0, .ref (G.2.2 0 0)), (1, .int (nI p)), (2, .int (nI g)), (4, .int o)] ⟨rfl, rfl, rfl, rfl, trivial⟩ (k_mem (by first | (simp only [m_stM, m_stD, h1, h5, ↓reduceIte]; done) | (simp only [m_stM, m_stD, h1, h5, ↓reduceIte]; rfl)) k)
set_option maxHeartbeats 4000000 in
set_option maxRecDepth 100000 in
theorem c_Mo_step (l : Launch) (G : kG) (K : kM) (x0 : Int32) (p : Nat) (e0 : x0 = nI p) (I0 : m_Inv K) (hp : p < 2) (hx : vp_in (K 24 0 p) 6) (hok : m_ok K p) : k_Met l mS kT y_Mo_step b_Mo_step 7 none (k_rm 5) G [.ref (G.2.2 0 0), .int x0] K none (m_step K p) := by
  subst e0
  refine k_intro (by decide +kernel) rfl (Nat.le_of_ble_eq_true rfl) ?_
  intro X C E
  refine k_aload_n C d_Mo_step_0 rfl ?_
  refine k_getr C d_Mo_step_1 fg_Mo_80 (by decide) rfl ?_
  refine k_iload_n C d_Mo_step_4 rfl ?_
  have hgl : m_hg K p < 6 := k_lt hx
  refine k_iaload C d_Mo_step_5 am_24 (by decide) (vp_in_nI (by omega) (by decide)) (nI_clamp (by omega)) ?_
  refine k_top (show K 24 0 p = nI (m_hg K p) from r_id hx (by decide)) ?_
  refine k_istore_n C d_Mo_step_6 (by decide) ?_
  refine k_aload_n C d_Mo_step_7 rfl ?_
  refine k_getr C d_Mo_step_8 fg_Mo_25 (by decide) rfl ?_
  refine k_iload_n C d_Mo_step_11 rfl ?_
  have hil : m_hi K p < 32 := k_lt (I0 6 0 _)
  refine k_iaload C d_Mo_step_12 am_6 (by decide) (vp_in_nI (by omega) (by decide)) (nI_clamp (by omega)) ?_
  refine k_top (show K 6 0 (m_hg K p) = nI (m_hi K p) from r_id (I0 6 0 _) (by decide)) ?_
  refine k_istore_n C d_Mo_step_13 (by decide) ?_
  refine k_aload_n C d_Mo_step_14 rfl ?_
  refine k_getr C d_Mo_step_15 fg_Mo_7 (by decide) rfl ?_
  refine k_iload_n C d_Mo_step_18 rfl ?_
  refine k_iaload C d_Mo_step_19 am_1 (by decide) (vp_in_nI (by omega) (by decide)) (nI_clamp (by omega)) ?_
  refine k_istore C d_Mo_step_20 (by decide) ?_
  refine k_aload_n C d_Mo_step_22 rfl ?_
  refine k_dup C d_Mo_step_23 rfl ?_
  refine k_get C d_Mo_step_24 fg_Mo_155 (by decide) rfl ?_
  refine k_iconst C d_Mo_step_27 (v := 1) (by decide) ?_
  refine k_iadd C d_Mo_step_28 ?_
  refine k_put C d_Mo_step_29 fp_Mo_155 (by decide) rfl I0 (trivial) (fun I1 => ?_)
  refine k_aload_n C d_Mo_step_32 rfl ?_
  refine k_getr C d_Mo_step_33 fg_Mo_83 (by decide) rfl ?_
  refine k_iload_n C d_Mo_step_36 rfl ?_
  refine k_dup2 C d_Mo_step_37 rfl rfl ?_
  refine k_iaload C d_Mo_step_38 am_25 (by decide) (vp_in_nI (by omega) (by decide)) (nI_clamp (by omega)) ?_
  refine k_iconst C d_Mo_step_39 (v := 1) (by decide) ?_
  refine k_isub C d_Mo_step_40 ?_
  refine k_iastore C d_Mo_step_41 am_25 (by decide) (vp_in_nI (by omega) (by decide)) (nI_clamp (by omega)) I1 (trivial) (fun I2 => ?_)
  exact k_loc [(0, .ref (G.2.2 0 0)), (1, .int (nI p)), (2, .int (nI (m_hg K p))), (3, .int (nI (m_hi K p))), (4, .int (K 1 0 (m_hi K p)))] ⟨rfl, rfl, rfl, rfl, rfl, trivial⟩ (b_ms1 C p (m_hg K p) (m_hi K p) _ hp hgl hil (I0 1 0 _) I2 (by show m_tot (m_st1 K p) ≤ 5; rw [mt_st1]; exact hok.1) hok.2.1 (b_ms3 C p (m_hg K p) _ hp hgl (iv_mmid I0 hx hok.1) hok.2.2 E))
set_option maxHeartbeats 4000000 in
set_option maxRecDepth 100000 in
theorem b_mtu {X : kX} {G : kG} {l : Launch} {K : kM} (C : k_C X kT b_Mo_tick y_Mo_tick.cls mS G 2 l (k_rm 6)) (p : Nat) (hp : p < 2) (I0 : m_Inv K) (hok : 0 ≤ K 24 0 p → m_ok K p) (k : k_W X 0 0 12 [(1, .int (nI (p + 1))), (0, .ref (G.2.2 0 0))] [] (m_tu K p)) : k_W X 0 0 75 [(1, .int (nI p)), (0, .ref (G.2.2 0 0))] [] K := by
  refine k_aload_n C d_Mo_tick_75 rfl ?_
  refine k_getr C d_Mo_tick_76 fg_Mo_80 (by decide) rfl ?_
  refine k_iload_n C d_Mo_tick_79 rfl ?_
  refine k_iaload C d_Mo_tick_80 am_24 (by decide) (vp_in_nI (by omega) (by decide)) (nI_clamp (by omega)) ?_
  refine k_if_ge C d_Mo_tick_81 (tgt := 97) (by decide) (fun h1 => ?_) (fun h1 => ?_)
  · refine k_aload_n C d_Mo_tick_97 rfl ?_
    refine k_iload_n C d_Mo_tick_98 rfl ?_
    refine k_callVv C kg_all (c_Mo_step l G _ _ p rfl I0 hp (m_h0 (I0 24 0 p) ‹_›) (hok ‹_›)) cs_Mo_174 cv_Mo_step om_0 (by decide) rfl rfl (Nat.le_of_ble_eq_true rfl) ⟨rfl, rfl⟩ ⟨by decide, by decide⟩ ⟨Nat.zero_le _, Nat.zero_le _⟩ d_Mo_tick_99 (iv_mstep I0 (m_h0 (I0 24 0 p) ‹_›) (hok ‹_›)) (fun I2 => ?_)
    refine k_iinc C d_Mo_tick_102 rfl (v := nI (p + 1)) (nI_1 p) (by decide) ?_
    refine k_goto C d_Mo_tick_105 (tgt := 12) (by decide) ?_
    exact k_loc [(1, .int (nI (p + 1))), (0, .ref (G.2.2 0 0))] ⟨rfl, rfl, trivial⟩ (k_mem (by first | rfl | (simp only [m_tu, h1, ↓reduceIte]; done) | (simp only [m_tu, h1, ↓reduceIte]; rfl) | (simp [m_tu, h1]; done)) k)
  · refine k_aload_n C d_Mo_tick_84 rfl ?_
    refine k_dup C d_Mo_tick_85 rfl ?_
    refine k_get C d_Mo_tick_86 fg_Mo_171 (by decide) rfl ?_
    refine k_iconst C d_Mo_tick_89 (v := 1) (by decide) ?_
    refine k_iadd C d_Mo_tick_90 ?_
    refine k_put C d_Mo_tick_91 fp_Mo_171 (by decide) rfl I0 (trivial) (fun I3 => ?_)
    refine k_goto C d_Mo_tick_94 (tgt := 102) (by decide) ?_
    refine k_iinc C d_Mo_tick_102 rfl (v := nI (p + 1)) (nI_1 p) (by decide) ?_
    refine k_goto C d_Mo_tick_105 (tgt := 12) (by decide) ?_
    exact k_loc [(1, .int (nI (p + 1))), (0, .ref (G.2.2 0 0))] ⟨rfl, rfl, trivial⟩ (k_mem (by first | rfl | (simp only [m_tu, h1, ↓reduceIte]; done) | (simp only [m_tu, h1, ↓reduceIte]; rfl) | (simp [m_tu, h1]; done)) k)
set_option maxHeartbeats 4000000 in
set_option maxRecDepth 100000 in
theorem b_mtk {X : kX} {G : kG} {l : Launch} {K : kM} (C : k_C X kT b_Mo_tick y_Mo_tick.cls mS G 2 l (k_rm 6)) (p : Nat) (hp : p < 2) (I0 : m_Inv K) (k : k_W X 0 0 75 [(1, .int (nI p)), (0, .ref (G.2.2 0 0))] [] (m_tk K p)) : k_W X 0 0 12 [(1, .int (nI p)), (0, .ref (G.2.2 0 0))] [] K := by
  refine k_iload_n C d_Mo_tick_12 rfl ?_
  refine k_iconst C d_Mo_tick_13 (v := 2) (by decide) ?_
  refine k_icmp_ge C d_Mo_tick_14 (tgt := 108) (by decide) (fun h1 => absurd h1 (nI_ge hp (by decide))) (fun h1 => ?_)
  refine k_aload_n C d_Mo_tick_17 rfl ?_
  refine k_getr C d_Mo_tick_18 fg_Mo_80 (by decide) rfl ?_
  refine k_iload_n C d_Mo_tick_21 rfl ?_
  refine k_iaload C d_Mo_tick_22 am_24 (by decide) (vp_in_nI (by omega) (by decide)) (nI_clamp (by omega)) ?_
  refine k_if_ge C d_Mo_tick_23 (tgt := 75) (by decide) (fun h2 => ?_) (fun h2 => ?_)
  · exact k_mem (by first | rfl | (simp only [m_tk, m_ch, h2, ↓reduceIte]; done) | (simp only [m_tk, m_ch, h2, ↓reduceIte]; rfl) | (simp [m_tk, m_ch, h2]; done)) k
  · refine k_aload_n C d_Mo_tick_26 rfl ?_
    refine k_getr C d_Mo_tick_27 fg_Mo_68 (by decide) rfl ?_
    refine k_iload_n C d_Mo_tick_30 rfl ?_
    refine k_iaload C d_Mo_tick_31 am_20 (by decide) (vp_in_nI (by omega) (by decide)) (nI_clamp (by omega)) ?_
    refine k_if_le C d_Mo_tick_32 (tgt := 75) (by decide) (fun h3 => ?_) (fun h3 => ?_)
    · exact k_mem (by first | rfl | (simp only [m_tk, m_ch, h2, h3, ↓reduceIte]; done) | (simp only [m_tk, m_ch, h2, h3, ↓reduceIte]; rfl) | (simp [m_tk, m_ch, h2, h3]; done)) k
    · refine k_aload_n C d_Mo_tick_35 rfl ?_
      refine k_getr C d_Mo_tick_36 fg_Mo_80 (by decide) rfl ?_
      refine k_iload_n C d_Mo_tick_39 rfl ?_
      refine k_aload_n C d_Mo_tick_40 rfl ?_
      refine k_iload_n C d_Mo_tick_41 rfl ?_
      refine k_callVi C kg_all (c_Mo_take l G _ _ p rfl I0 (by omega) ‹_›) cs_Mo_106 cv_Mo_take om_0 (by decide) rfl rfl (Nat.le_of_ble_eq_true rfl) ⟨rfl, rfl⟩ ⟨by decide, by decide⟩ ⟨Nat.zero_le _, Nat.zero_le _⟩ d_Mo_tick_42 (iv_mtk I0 ‹_›) (fun I4 => ?_)
      refine k_iastore C d_Mo_tick_45 am_24 (by decide) (vp_in_nI (by omega) (by decide)) (nI_clamp (by omega)) I4 (Or.inr (r_tkX p I0)) (fun I5 => ?_)
      refine k_aload_n C d_Mo_tick_46 rfl ?_
      refine k_getr C d_Mo_tick_47 fg_Mo_22 (by decide) rfl ?_
      refine k_aload_n C d_Mo_tick_50 rfl ?_
      refine k_getr C d_Mo_tick_51 fg_Mo_80 (by decide) rfl ?_
      refine k_iload_n C d_Mo_tick_54 rfl ?_
      refine k_iaload C d_Mo_tick_55 am_24 (by decide) (vp_in_nI (by omega) (by decide)) (nI_clamp (by omega)) ?_
      refine k_iconst C d_Mo_tick_56 (v := 1) (by decide) ?_
      refine k_iastore C d_Mo_tick_57 am_5 (by decide) (by rw [k_up_eq]; exact r_tkX p I0) rfl I5 (trivial) (fun I6 => ?_)
      refine k_aload_n C d_Mo_tick_58 rfl ?_
      refine k_getr C d_Mo_tick_59 fg_Mo_83 (by decide) rfl ?_
      refine k_iload_n C d_Mo_tick_62 rfl ?_
      refine k_iconst C d_Mo_tick_63 (v := 3) (by decide) ?_
      refine k_iastore C d_Mo_tick_64 am_25 (by decide) (vp_in_nI (by omega) (by decide)) (nI_clamp (by omega)) I6 (trivial) (fun I7 => ?_)
      refine k_aload_n C d_Mo_tick_65 rfl ?_
      refine k_dup C d_Mo_tick_66 rfl ?_
      refine k_get C d_Mo_tick_67 fg_Mo_168 (by decide) rfl ?_
      refine k_iconst C d_Mo_tick_70 (v := 1) (by decide) ?_
      refine k_iadd C d_Mo_tick_71 ?_
      refine k_put C d_Mo_tick_72 fp_Mo_168 (by decide) rfl I7 (trivial) (fun I8 => ?_)
      exact k_mem (by first | rfl | (simp only [m_tk, m_ch, h2, h3, ↓reduceIte]; done) | (simp only [m_tk, m_ch, h2, h3, ↓reduceIte]; rfl) | (simp [m_tk, m_ch, h2, h3]; done)) k
set_option maxHeartbeats 4000000 in
set_option maxRecDepth 100000 in
theorem c_Mo_tick (l : Launch) (G : kG) (K : kM)    (I0 : m_Inv K) (hok : m_okT K) : k_Met l mS kT y_Mo_tick b_Mo_tick 2 none (k_rm 6) G [.ref (G.2.2 0 0)] K none (m_tick K) := by
  refine k_intro (by decide +kernel) rfl (Nat.le_of_ble_eq_true rfl) ?_
  intro X C E
  refine k_aload_n C d_Mo_tick_0 rfl ?_
  refine k_dup C d_Mo_tick_1 rfl ?_
  refine k_get C d_Mo_tick_2 fg_Mo_165 (by decide) rfl ?_
  refine k_iconst C d_Mo_tick_5 (v := 1) (by decide) ?_
  refine k_iadd C d_Mo_tick_6 ?_
  refine k_put C d_Mo_tick_7 fp_Mo_165 (by decide) rfl I0 (trivial) (fun I1 => ?_)
  refine k_iconst C d_Mo_tick_10 (v := 0) (by decide) ?_
  refine k_istore_n C d_Mo_tick_11 (by decide) ?_
  refine k_loc [(1, .int (nI 0)), (0, .ref (G.2.2 0 0))] ⟨rfl, rfl, trivial⟩ ?_
  refine b_mtk C 0 (by decide) I1 (b_mtu C 0 (by decide) (iv_mtk' I1) hok.1 ?_)
  have J1 : m_Inv (m_turn (k_up K 0 0 25 (K 0 0 25 + 1)) 0) := iv_mturn I1 hok.1
  refine b_mtk C 1 (by decide) J1 (b_mtu C 1 (by decide) (iv_mtk' J1) hok.2 ?_)
  refine k_iload_n C d_Mo_tick_12 rfl ?_
  refine k_iconst C d_Mo_tick_13 (v := 2) (by decide) ?_
  refine k_icmp_ge C d_Mo_tick_14 (tgt := 108) (by decide) (fun h21 => ?_) (fun h21 => absurd (by decide : (2 : Int32) ≤ nI 2) h21)
  exact k_return C (E.to rfl (by first | rfl | (simp only [m_tick, m_turn, ↓reduceIte, Nat.reduceAdd]; done) | (simp only [m_tick, m_turn, ↓reduceIte, Nat.reduceAdd]; rfl) | contradiction | (simp [m_tick, m_turn, ↓reduceIte, Nat.reduceAdd]; done) | (simp [m_tick, m_turn, ↓reduceIte, Nat.reduceAdd]; rfl))) d_Mo_tick_108
set_option maxHeartbeats 4000000 in
set_option maxRecDepth 100000 in
theorem b_mmy {X : kX} {G : kG} {l : Launch} {K : kM} (C : k_C X kT b_Mo_many y_Mo_many.cls mS G 4 l (k_rm 0)) (w : Int32) (I0 : m_Inv K) : ∀ (c i : Nat), c + i = 6 → k_E X (some .int) (some (.int (m_mny K w 6))) K 0 0 → k_W X 0 0 4 [(3, .int (nI i)), (2, .int (m_mny K w i)), (0, .ref (G.2.2 0 0)), (1, .int w)] [] K
  | 0, i, hc, E => by
    have e : i = 6 := by omega
    subst e
    refine k_iload_n C d_Mo_many_4 rfl ?_
    refine k_bipush C d_Mo_many_5 (v := 6) (by decide) ?_
    refine k_icmp_ge C d_Mo_many_7 (tgt := 29) (by decide) (fun h1 => ?_) (fun h1 => absurd (by decide : (6 : Int32) ≤ nI 6) h1)
    refine k_iload_n C d_Mo_many_29 rfl ?_
    exact k_ireturn C (E.to (by first | (simp only [m_mny, ↓reduceIte]; done) | (simp only [m_mny, ↓reduceIte]; rfl) | contradiction | rfl) (by first | (simp only [m_mny, ↓reduceIte]; done) | (simp only [m_mny, ↓reduceIte]; rfl) | contradiction | rfl)) d_Mo_many_30
  | c + 1, i, hc, E => by
    have hi : i < 6 := by omega
    refine k_iload_n C d_Mo_many_4 rfl ?_
    refine k_bipush C d_Mo_many_5 (v := 6) (by decide) ?_
    refine k_icmp_ge C d_Mo_many_7 (tgt := 29) (by decide) (fun h1 => absurd h1 (nI_ge hi (by decide))) (fun h1 => ?_)
    refine k_aload_n C d_Mo_many_10 rfl ?_
    refine k_getr C d_Mo_many_11 fg_Mo_22 (by decide) rfl ?_
    refine k_iload_n C d_Mo_many_14 rfl ?_
    refine k_iaload C d_Mo_many_15 am_5 (by decide) (vp_in_nI (by omega) (by decide)) (nI_clamp (by omega)) ?_
    refine k_iload_n C d_Mo_many_16 rfl ?_
    refine k_icmp_ne C d_Mo_many_17 (tgt := 23) (by decide) (fun h2 => ?_) (fun h2 => ?_)
    · refine k_iinc C d_Mo_many_23 rfl (v := nI (i + 1)) (nI_1 i) (by decide) ?_
      refine k_goto C d_Mo_many_26 (tgt := 4) (by decide) ?_
      exact k_loc [(3, .int (nI (i + 1))), (2, .int (m_mny K w (i + 1))), (0, .ref (G.2.2 0 0)), (1, .int w)] ⟨rfl, (by simp only [m_mny, h2, ↓reduceIte]; rfl), rfl, rfl, trivial⟩ (b_mmy C w I0 c (i + 1) (by omega) E)
    · refine k_iinc C d_Mo_many_20 rfl rfl (by decide) ?_
      refine k_iinc C d_Mo_many_23 rfl (v := nI (i + 1)) (nI_1 i) (by decide) ?_
      refine k_goto C d_Mo_many_26 (tgt := 4) (by decide) ?_
      exact k_loc [(3, .int (nI (i + 1))), (2, .int (m_mny K w (i + 1))), (0, .ref (G.2.2 0 0)), (1, .int w)] ⟨rfl, (by simp only [m_mny, h2, ↓reduceIte]; rfl), rfl, rfl, trivial⟩ (b_mmy C w I0 c (i + 1) (by omega) E)
set_option maxHeartbeats 4000000 in
set_option maxRecDepth 100000 in
theorem c_Mo_many (l : Launch) (G : kG) (K : kM) (w : Int32)   (I0 : m_Inv K) : k_Met l mS kT y_Mo_many b_Mo_many 4 (some .int) (k_rm 0) G [.ref (G.2.2 0 0), .int w] K (some (.int (m_mny K w 6))) (K) := by
  refine k_intro (by decide +kernel) rfl (Nat.le_of_ble_eq_true rfl) ?_
  intro X C E
  refine k_iconst C d_Mo_many_0 (v := 0) (by decide) ?_
  refine k_istore_n C d_Mo_many_1 (by decide) ?_
  refine k_iconst C d_Mo_many_2 (v := 0) (by decide) ?_
  refine k_istore_n C d_Mo_many_3 (by decide) ?_
  exact k_loc [(3, .int (nI 0)), (2, .int (m_mny K w 0)), (0, .ref (G.2.2 0 0)), (1, .int w)] ⟨rfl, rfl, rfl, rfl, trivial⟩ (b_mmy C w I0 6 0 rfl E)
end
section
/-! ===== for the reference's public methods ===== -/
theorem m_300 {n : Int32} (h1 : ¬ n < 1) (h2 : n ≤ 300) : ∃ N : Nat, N ≤ 300 ∧ n = nI N := by
  rw [Int32.lt_iff_toInt_lt] at h1
  rw [Int32.le_iff_toInt_le] at h2
  have e1 : (1 : Int32).toInt = 1 := rfl
  have e3 : (300 : Int32).toInt = 300 := rfl
  rw [e1] at h1
  rw [e3] at h2
  refine ⟨n.toInt.toNat, by omega, ?_⟩
  apply Int32.toInt_inj.mp
  rw [nI_toInt (by omega)]
  omega
theorem m_gxr {K : kM} {g bad : Int32} (h : ¬ m_gX K g bad = 0) : m_no g 5 = 0 ∧ bad = 0 ∧ 0 ≤ K 5 0 g.toNatClampNeg := by
  unfold m_gX m_gs at h
  by_cases h1 : m_no g 5 = 0
  · rw [if_pos h1] at h
    by_cases h2 : bad = 0
    · rw [if_pos h2] at h
      by_cases h3 : 0 ≤ K 5 0 g.toNatClampNeg
      · exact ⟨h1, h2, h3⟩
      · rw [if_neg h3] at h
        exact absurd (if_neg (by decide)) h
    · rw [if_neg h2] at h
      exact absurd (if_neg (by decide)) h
  · rw [if_neg h1] at h
    exact absurd (if_neg (by decide)) h
theorem iv_gT {K : kM} {g bad : Int32} (I : m_Inv K) : m_Inv (m_gT K g bad) := k_Inv.up I trivial
theorem r_c9 {x : Int32} (h : vp_in x 9) : x = 0 ∨ x = 1 ∨ x = 2 ∨ x = 3 ∨ x = 4 ∨ x = 5 ∨ x = 6 ∨ x = 7 ∨ x = 8 := by
  obtain ⟨j, hj, rfl⟩ := r_nat h (by decide)
  have : j = 0 ∨ j = 1 ∨ j = 2 ∨ j = 3 ∨ j = 4 ∨ j = 5 ∨ j = 6 ∨ j = 7 ∨ j = 8 := by omega
  rcases this with rfl | rfl | rfl | rfl | rfl | rfl | rfl | rfl | rfl <;> decide
theorem r_c5 {x : Int32} (h : vp_in x 5) : x = 0 ∨ x = 1 ∨ x = 2 ∨ x = 3 ∨ x = 4 := by
  obtain ⟨j, hj, rfl⟩ := r_nat h (by decide)
  have : j = 0 ∨ j = 1 ∨ j = 2 ∨ j = 3 ∨ j = 4 := by omega
  rcases this with rfl | rfl | rfl | rfl | rfl <;> decide
theorem mk_0 (K : kM) : m_cntX K 0 = K 0 0 25 := rfl
theorem mk_1 (K : kM) : m_cntX K 1 = K 0 0 26 := rfl
theorem mk_2 (K : kM) : m_cntX K 2 = K 0 0 27 := rfl
theorem mk_3 (K : kM) : m_cntX K 3 = K 0 0 28 := rfl
theorem mk_4 (K : kM) : m_cntX K 4 = K 0 0 29 := rfl
theorem mk_5 (K : kM) : m_cntX K 5 = m_fr K 12 := rfl
theorem mk_6 (K : kM) : m_cntX K 6 = K 0 0 30 := rfl
theorem mk_7 (K : kM) : m_cntX K 7 = K 0 0 31 := rfl
theorem mk_8 (K : kM) : m_cntX K 8 = -2 := rfl
theorem mk_9 (K : kM) : m_cntX K 9 = -2 := rfl
theorem mk_10 (K : kM) : m_cntX K 10 = K 24 0 0 := rfl
theorem mk_11 (K : kM) : m_cntX K 11 = K 24 0 1 := rfl
theorem mk_12 (K : kM) : m_cntX K 12 = -2 := rfl
theorem mk_13 (K : kM) : m_cntX K 13 = -2 := rfl
theorem mk_14 (K : kM) : m_cntX K 14 = -2 := rfl
theorem mk_15 (K : kM) : m_cntX K 15 = -2 := rfl
theorem mk_16 (K : kM) : m_cntX K 16 = -2 := rfl
theorem mk_17 (K : kM) : m_cntX K 17 = -2 := rfl
theorem mk_18 (K : kM) : m_cntX K 18 = -2 := rfl
theorem mk_19 (K : kM) : m_cntX K 19 = -2 := rfl
theorem mk_20 (K : kM) : m_cntX K 20 = K 20 0 0 := rfl
theorem mk_21 (K : kM) : m_cntX K 21 = K 20 0 1 := rfl
theorem mk_o (K : kM) {w : Int32} (h : w.toInt < 0 ∨ 21 < w.toInt) : m_cntX K w = -2 := by
  unfold m_cntX
  rw [if_neg (r_ni h (k := 0) (a := 0) (by decide) (by decide) (by decide)), if_neg (r_ni h (k := 1) (a := 1) (by decide) (by decide) (by decide)), if_neg (r_ni h (k := 2) (a := 2) (by decide) (by decide) (by decide)), if_neg (r_ni h (k := 3) (a := 3) (by decide) (by decide) (by decide)), if_neg (r_ni h (k := 4) (a := 4) (by decide) (by decide) (by decide)), if_neg (r_ni h (k := 5) (a := 5) (by decide) (by decide) (by decide)), if_neg (r_ni h (k := 6) (a := 6) (by decide) (by decide) (by decide)), if_neg (r_ni h (k := 7) (a := 7) (by decide) (by decide) (by decide)), if_neg (r_ni h (k := 10) (a := 10) (by decide) (by decide) (by decide)), if_neg (r_ni h (k := 11) (a := 11) (by decide) (by decide) (by decide)), if_neg (r_ni h (k := 20) (a := 20) (by decide) (by decide) (by decide)), if_neg (r_ni h (k := 21) (a := 21) (by decide) (by decide) (by decide))]
theorem mtl_0 (K : kM) (g : Int32) : m_telX K g 0 = (if m_gX K g (m_no 0 8) = 0 then 0 else K 5 0 g.toNatClampNeg) := rfl
theorem mtl_1 (K : kM) (g : Int32) : m_telX K g 1 = (if m_gX K g (m_no 1 8) = 0 then 0 else K 6 0 g.toNatClampNeg) := rfl
theorem mtl_2 (K : kM) (g : Int32) : m_telX K g 2 = (if m_gX K g (m_no 2 8) = 0 then 0 else K 7 0 g.toNatClampNeg) := rfl
theorem mtl_3 (K : kM) (g : Int32) : m_telX K g 3 = (if m_gX K g (m_no 3 8) = 0 then 0 else K 8 0 g.toNatClampNeg) := rfl
theorem mtl_4 (K : kM) (g : Int32) : m_telX K g 4 = (if m_gX K g (m_no 4 8) = 0 then 0 else K 9 0 g.toNatClampNeg) := rfl
theorem mtl_5 (K : kM) (g : Int32) : m_telX K g 5 = (if m_gX K g (m_no 5 8) = 0 then 0 else K 10 0 g.toNatClampNeg) := rfl
theorem mtl_6 (K : kM) (g : Int32) : m_telX K g 6 = (if m_gX K g (m_no 6 8) = 0 then 0 else K 11 0 g.toNatClampNeg) := rfl
theorem mtl_7 (K : kM) (g : Int32) : m_telX K g 7 = (if m_gX K g (m_no 7 8) = 0 then 0 else K 12 0 g.toNatClampNeg) := rfl
theorem mtl_8 (K : kM) (g : Int32) : m_telX K g 8 = (if m_gX K g (m_no 8 8) = 0 then 0 else K 13 0 g.toNatClampNeg) := rfl
theorem mob_0 (K : kM) (k : Int32) : m_objX K k 0 = (if m_no2 k 3 0 4 = 0 then K 23 0 k.toNatClampNeg else 0) := rfl
theorem mob_1 (K : kM) (k : Int32) : m_objX K k 1 = (if m_no2 k 3 1 4 = 0 then K 20 0 (10 + k.toNatClampNeg) else 0) := rfl
theorem mob_2 (K : kM) (k : Int32) : m_objX K k 2 = (if m_no2 k 3 2 4 = 0 then K 22 0 k.toNatClampNeg else 0) := rfl
theorem mob_3 (K : kM) (k : Int32) : m_objX K k 3 = (if m_no2 k 3 3 4 = 0 then K 20 0 (2 + k.toNatClampNeg) else 0) := rfl
theorem mob_4 (K : kM) (k : Int32) : m_objX K k 4 = (if m_no2 k 3 4 4 = 0 then K 20 0 (6 + k.toNatClampNeg) else 0) := rfl
end
section
set_option maxHeartbeats 4000000 in
set_option maxRecDepth 100000 in
theorem b_mrx {X : kX} {G : kG} {l : Launch} {K : kM} (C : k_C X kT b_Mo_run y_Mo_run.cls mS G 3 l (k_rm 7)) (k n : Int32) (I0 : m_Inv K) (hz : ¬ K 0 0 32 = 0) (E : k_E X (some .int) (some (.int 0)) K 0 0) : k_W X 0 0 23 [(2, .int (k)), (0, .ref (G.2.2 0 0)), (1, .int (n))] [] K := by
  refine k_aload_n C d_Mo_run_23 rfl ?_
  refine k_get C d_Mo_run_24 fg_Mo_90 (by decide) rfl ?_
  refine k_if_ne C d_Mo_run_27 (tgt := 87) (by decide) (fun h1 => ?_) (fun h1 => absurd h1 hz)
  refine k_aload_n C d_Mo_run_87 rfl ?_
  refine k_get C d_Mo_run_88 fg_Mo_90 (by decide) rfl ?_
  refine k_if_ne C d_Mo_run_91 (tgt := 98) (by decide) (fun h2 => ?_) (fun h2 => absurd h2 hz)
  refine k_iconst C d_Mo_run_98 (v := 0) (by decide) ?_
  exact k_ireturn C (E.to (by first | rfl | (simp only [m_no, ↓reduceIte, Nat.reduceAdd]; done) | (simp only [m_no, ↓reduceIte, Nat.reduceAdd]; rfl) | contradiction | (simp [m_no, ↓reduceIte, Nat.reduceAdd]; done) | (simp [m_no, ↓reduceIte, Nat.reduceAdd]; rfl)) (by first | rfl | (simp only [m_no, ↓reduceIte, Nat.reduceAdd]; done) | (simp only [m_no, ↓reduceIte, Nat.reduceAdd]; rfl) | contradiction | (simp [m_no, ↓reduceIte, Nat.reduceAdd]; done) | (simp [m_no, ↓reduceIte, Nat.reduceAdd]; rfl))) d_Mo_run_99
set_option maxHeartbeats 4000000 in
set_option maxRecDepth 100000 in
theorem b_mrn {X : kX} {G : kG} {l : Launch} (C : k_C X kT b_Mo_run y_Mo_run.cls mS G 3 l (k_rm 7)) (J : kM → Prop) (hJ : ∀ K, J K → m_Inv K ∧ K 0 0 32 = 0 ∧ m_okT K ∧ J (m_tick K)) (N : Nat) (hN : N ≤ 300) : ∀ (c k : Nat) {K : kM}, c + k = N → J K → m_Inv K → k_E X (some .int) (some (.int (m_rnX K c k))) (m_rnT K c) 0 0 → k_W X 0 0 23 [(2, .int (nI k)), (0, .ref (G.2.2 0 0)), (1, .int (nI N))] [] K
  | 0, k, K, hc, hj, I0, E => by
    have e : k = N := by omega
    subst e
    refine k_aload_n C d_Mo_run_23 rfl ?_
    refine k_get C d_Mo_run_24 fg_Mo_90 (by decide) rfl ?_
    refine k_if_ne C d_Mo_run_27 (tgt := 87) (by decide) (fun h1 => absurd (hJ _ hj).2.1 h1) (fun h1 => ?_)
    refine k_iload_n C d_Mo_run_30 rfl ?_
    refine k_iload_n C d_Mo_run_31 rfl ?_
    refine k_icmp_ge C d_Mo_run_32 (tgt := 87) (by decide) (fun h2 => ?_) (fun h2 => absurd (Int32.le_refl _) h2)
    refine k_aload_n C d_Mo_run_87 rfl ?_
    refine k_get C d_Mo_run_88 fg_Mo_90 (by decide) rfl ?_
    refine k_if_ne C d_Mo_run_91 (tgt := 98) (by decide) (fun h3 => absurd (hJ _ hj).2.1 h3) (fun h3 => ?_)
    refine k_iload_n C d_Mo_run_94 rfl ?_
    refine k_goto C d_Mo_run_95 (tgt := 99) (by decide) ?_
    exact k_ireturn C (E.to (by first | (simp only [m_rnX, m_rnT, ↓reduceIte]; done) | (simp only [m_rnX, m_rnT, ↓reduceIte]; rfl) | contradiction | rfl) (by first | (simp only [m_rnX, m_rnT, ↓reduceIte]; done) | (simp only [m_rnX, m_rnT, ↓reduceIte]; rfl) | contradiction | rfl)) d_Mo_run_99
  | c + 1, k, K, hc, hj, I0, E => by
    refine k_aload_n C d_Mo_run_23 rfl ?_
    refine k_get C d_Mo_run_24 fg_Mo_90 (by decide) rfl ?_
    refine k_if_ne C d_Mo_run_27 (tgt := 87) (by decide) (fun h1 => absurd (hJ _ hj).2.1 h1) (fun h1 => ?_)
    refine k_iload_n C d_Mo_run_30 rfl ?_
    refine k_iload_n C d_Mo_run_31 rfl ?_
    refine k_icmp_ge C d_Mo_run_32 (tgt := 87) (by decide) (fun h2 => absurd h2 (nI_ge (by omega) (by omega))) (fun h2 => ?_)
    refine k_aload_n C d_Mo_run_35 rfl ?_
    refine k_iconst C d_Mo_run_36 (v := 0) (by decide) ?_
    refine k_callVi C kg_all (c_Mo_many l G _ _ I0) cs_Mo_177 cv_Mo_many om_0 (by decide) rfl rfl (Nat.le_of_ble_eq_true rfl) ⟨rfl, rfl⟩ ⟨by decide, by decide⟩ ⟨Nat.zero_le _, Nat.zero_le _⟩ d_Mo_run_37 I0 (fun I3 => ?_)
    refine k_aload_n C d_Mo_run_40 rfl ?_
    refine k_iconst C d_Mo_run_41 (v := 1) (by decide) ?_
    refine k_callVi C kg_all (c_Mo_many l G _ _ I3) cs_Mo_177 cv_Mo_many om_0 (by decide) rfl rfl (Nat.le_of_ble_eq_true rfl) ⟨rfl, rfl⟩ ⟨by decide, by decide⟩ ⟨Nat.zero_le _, Nat.zero_le _⟩ d_Mo_run_42 I3 (fun I4 => ?_)
    refine k_iadd C d_Mo_run_45 ?_
    refine k_aload_n C d_Mo_run_46 rfl ?_
    refine k_iconst C d_Mo_run_47 (v := 2) (by decide) ?_
    refine k_callVi C kg_all (c_Mo_many l G _ _ I4) cs_Mo_177 cv_Mo_many om_0 (by decide) rfl rfl (Nat.le_of_ble_eq_true rfl) ⟨rfl, rfl⟩ ⟨by decide, by decide⟩ ⟨Nat.zero_le _, Nat.zero_le _⟩ d_Mo_run_48 I4 (fun I5 => ?_)
    refine k_iadd C d_Mo_run_51 ?_
    refine k_if_le C d_Mo_run_52 (tgt := 87) (by decide) (fun h6 => ?_) (fun h6 => ?_)
    · refine k_aload_n C d_Mo_run_87 rfl ?_
      refine k_get C d_Mo_run_88 fg_Mo_90 (by decide) rfl ?_
      refine k_if_ne C d_Mo_run_91 (tgt := 98) (by decide) (fun h7 => absurd (hJ _ hj).2.1 h7) (fun h7 => ?_)
      refine k_iload_n C d_Mo_run_94 rfl ?_
      refine k_goto C d_Mo_run_95 (tgt := 99) (by decide) ?_
      exact k_ireturn C (E.to (by first | (simp only [m_rnX, m_rnT, m_all, m_act, h6, ↓reduceIte]; done) | (simp only [m_rnX, m_rnT, m_all, m_act, h6, ↓reduceIte]; rfl) | contradiction | rfl) (by first | (simp only [m_rnX, m_rnT, m_all, m_act, h6, ↓reduceIte]; done) | (simp only [m_rnX, m_rnT, m_all, m_act, h6, ↓reduceIte]; rfl) | contradiction | rfl)) d_Mo_run_99
    · refine k_aload_n C d_Mo_run_55 rfl ?_
      refine k_iconst C d_Mo_run_56 (v := 0) (by decide) ?_
      refine k_callVi C kg_all (c_Mo_many l G _ _ I5) cs_Mo_177 cv_Mo_many om_0 (by decide) rfl rfl (Nat.le_of_ble_eq_true rfl) ⟨rfl, rfl⟩ ⟨by decide, by decide⟩ ⟨Nat.zero_le _, Nat.zero_le _⟩ d_Mo_run_57 I5 (fun I8 => ?_)
      refine k_aload_n C d_Mo_run_60 rfl ?_
      refine k_iconst C d_Mo_run_61 (v := 1) (by decide) ?_
      refine k_callVi C kg_all (c_Mo_many l G _ _ I8) cs_Mo_177 cv_Mo_many om_0 (by decide) rfl rfl (Nat.le_of_ble_eq_true rfl) ⟨rfl, rfl⟩ ⟨by decide, by decide⟩ ⟨Nat.zero_le _, Nat.zero_le _⟩ d_Mo_run_62 I8 (fun I9 => ?_)
      refine k_iadd C d_Mo_run_65 ?_
      refine k_if_ne C d_Mo_run_66 (tgt := 77) (by decide) (fun h10 => ?_) (fun h10 => ?_)
      · refine k_aload_n C d_Mo_run_77 rfl ?_
        refine k_callVv C kg_all (c_Mo_tick l G _ I9 (hJ _ hj).2.2.1) cs_Mo_180 cv_Mo_tick om_0 (by decide) rfl rfl (Nat.le_of_ble_eq_true rfl) ⟨rfl, rfl⟩ ⟨by decide, by decide⟩ ⟨Nat.zero_le _, Nat.zero_le _⟩ d_Mo_run_78 (iv_mtick I9 (hJ _ hj).2.2.1) (fun I11 => ?_)
        refine k_iinc C d_Mo_run_81 rfl (v := nI (k + 1)) (nI_1 k) (by decide) ?_
        refine k_goto C d_Mo_run_84 (tgt := 23) (by decide) ?_
        first | (exact k_loc [(2, .int (nI (k + 1))), (0, .ref (G.2.2 0 0)), (1, .int (nI N))] ⟨rfl, rfl, rfl, trivial⟩ (b_mrn C J hJ N hN c (k + 1) (by omega) (hJ _ hj).2.2.2 I11 (E.to (by simp only [m_rnX, m_all, m_act, h6, h10, ↓reduceIte]) (by simp only [m_rnT, m_all, m_act, h6, h10, ↓reduceIte])))) | (exact k_loc [(2, .int (nI k)), (0, .ref (G.2.2 0 0)), (1, .int (nI N))] ⟨rfl, rfl, rfl, trivial⟩ (b_mrx C _ _ I11 (by rw [k_up_eq]; decide) (E.to (by unfold m_rnX; rw [if_neg (show ¬ m_all K ≤ 0 from h6), if_pos (show m_act K = 0 from h10)]) (by unfold m_rnT; rw [if_neg (show ¬ m_all K ≤ 0 from h6), if_pos (show m_act K = 0 from h10)]))))
      · refine k_aload_n C d_Mo_run_69 rfl ?_
        refine k_iconst C d_Mo_run_70 (v := 2) (by decide) ?_
        refine k_put C d_Mo_run_71 fp_Mo_90 (by decide) rfl I9 (trivial) (fun I12 => ?_)
        refine k_goto C d_Mo_run_74 (tgt := 23) (by decide) ?_
        first | (exact k_loc [(2, .int (nI (k + 1))), (0, .ref (G.2.2 0 0)), (1, .int (nI N))] ⟨rfl, rfl, rfl, trivial⟩ (b_mrn C J hJ N hN c (k + 1) (by omega) (hJ _ hj).2.2.2 I12 (E.to (by simp only [m_rnX, m_all, m_act, h6, h10, ↓reduceIte]) (by simp only [m_rnT, m_all, m_act, h6, h10, ↓reduceIte])))) | (exact k_loc [(2, .int (nI k)), (0, .ref (G.2.2 0 0)), (1, .int (nI N))] ⟨rfl, rfl, rfl, trivial⟩ (b_mrx C _ _ I12 (by rw [k_up_eq]; decide) (E.to (by unfold m_rnX; rw [if_neg (show ¬ m_all K ≤ 0 from h6), if_pos (show m_act K = 0 from h10)]) (by unfold m_rnT; rw [if_neg (show ¬ m_all K ≤ 0 from h6), if_pos (show m_act K = 0 from h10)]))))
set_option maxHeartbeats 4000000 in
set_option maxRecDepth 100000 in
theorem c_Mo_run (l : Launch) (G : kG) (K : kM) (n : Int32)   (I0 : m_Inv K) (J : kM → Prop) (hJ : ∀ K, J K → m_Inv K ∧ K 0 0 32 = 0 ∧ m_okT K ∧ J (m_tick K)) (hj : J (k_up K 0 0 32 0)) : k_Met l mS kT y_Mo_run b_Mo_run 3 (some .int) (k_rm 7) G [.ref (G.2.2 0 0), .int n] K (some (.int (m_runX K n))) (m_runT K n) := by
  refine k_intro (by decide +kernel) rfl (Nat.le_of_ble_eq_true rfl) ?_
  intro X C E
  refine k_aload_n C d_Mo_run_0 rfl ?_
  refine k_iload_n C d_Mo_run_1 rfl ?_
  refine k_iconst C d_Mo_run_2 (v := 1) (by decide) ?_
  refine k_icmp_lt C d_Mo_run_3 (tgt := 13) (by decide) (fun h1 => ?_) (fun h1 => ?_)
  · refine k_iconst C d_Mo_run_13 (v := 1) (by decide) ?_
    refine k_goto C d_Mo_run_14 (tgt := 18) (by decide) ?_
    refine k_put C d_Mo_run_18 fp_Mo_90 (by decide) rfl I0 (trivial) (fun I2 => ?_)
    refine k_iconst C d_Mo_run_21 (v := 0) (by decide) ?_
    refine k_istore_n C d_Mo_run_22 (by decide) ?_
    first | (exact k_loc [(2, .int (0)), (0, .ref (G.2.2 0 0)), (1, .int (n))] ⟨rfl, rfl, rfl, trivial⟩ (b_mrx C _ _ I2 (by rw [k_up_eq]; decide) (E.to (by simp only [m_runX, h1, ↓reduceIte]) (by simp only [m_runT, h1, ↓reduceIte])))) | (obtain ⟨N, hN, rfl⟩ := m_300 h1 ‹_›; have e := nI_clamp (n := N) (by omega); exact k_loc [(2, .int (nI 0)), (0, .ref (G.2.2 0 0)), (1, .int (nI N))] ⟨rfl, rfl, rfl, trivial⟩ (b_mrn C J hJ N hN N 0 rfl hj I2 (E.to (by simp only [m_runX, h1, ↓reduceIte, e]) (by simp only [m_runT, h1, ↓reduceIte, e]))))
  · refine k_iload_n C d_Mo_run_6 rfl ?_
    refine k_sipush C d_Mo_run_7 (v := 300) (by decide) ?_
    refine k_icmp_le C d_Mo_run_10 (tgt := 17) (by decide) (fun h3 => ?_) (fun h3 => ?_)
    · refine k_iconst C d_Mo_run_17 (v := 0) (by decide) ?_
      refine k_put C d_Mo_run_18 fp_Mo_90 (by decide) rfl I0 (trivial) (fun I4 => ?_)
      refine k_iconst C d_Mo_run_21 (v := 0) (by decide) ?_
      refine k_istore_n C d_Mo_run_22 (by decide) ?_
      first | (exact k_loc [(2, .int (0)), (0, .ref (G.2.2 0 0)), (1, .int (n))] ⟨rfl, rfl, rfl, trivial⟩ (b_mrx C _ _ I4 (by rw [k_up_eq]; decide) (E.to (by simp only [m_runX, h1, h3, ↓reduceIte]) (by simp only [m_runT, h1, h3, ↓reduceIte])))) | (obtain ⟨N, hN, rfl⟩ := m_300 h1 ‹_›; have e := nI_clamp (n := N) (by omega); exact k_loc [(2, .int (nI 0)), (0, .ref (G.2.2 0 0)), (1, .int (nI N))] ⟨rfl, rfl, rfl, trivial⟩ (b_mrn C J hJ N hN N 0 rfl hj I4 (E.to (by simp only [m_runX, h1, h3, ↓reduceIte, e]) (by simp only [m_runT, h1, h3, ↓reduceIte, e]))))
    · refine k_iconst C d_Mo_run_13 (v := 1) (by decide) ?_
      refine k_goto C d_Mo_run_14 (tgt := 18) (by decide) ?_
      refine k_put C d_Mo_run_18 fp_Mo_90 (by decide) rfl I0 (trivial) (fun I5 => ?_)
      refine k_iconst C d_Mo_run_21 (v := 0) (by decide) ?_
      refine k_istore_n C d_Mo_run_22 (by decide) ?_
      first | (exact k_loc [(2, .int (0)), (0, .ref (G.2.2 0 0)), (1, .int (n))] ⟨rfl, rfl, rfl, trivial⟩ (b_mrx C _ _ I5 (by rw [k_up_eq]; decide) (E.to (by simp only [m_runX, h1, h3, ↓reduceIte]) (by simp only [m_runT, h1, h3, ↓reduceIte])))) | (obtain ⟨N, hN, rfl⟩ := m_300 h1 ‹_›; have e := nI_clamp (n := N) (by omega); exact k_loc [(2, .int (nI 0)), (0, .ref (G.2.2 0 0)), (1, .int (nI N))] ⟨rfl, rfl, rfl, trivial⟩ (b_mrn C J hJ N hN N 0 rfl hj I5 (E.to (by simp only [m_runX, h1, h3, ↓reduceIte, e]) (by simp only [m_runT, h1, h3, ↓reduceIte, e]))))
set_option maxHeartbeats 4000000 in
set_option maxRecDepth 100000 in
theorem c_Mo_guest (l : Launch) (G : kG) (K : kM) (g : Int32) (bad : Int32)   (I0 : m_Inv K) : k_Met l mS kT y_Mo_guest b_Mo_guest 3 (some .boolean) (k_rm 1) G [.ref (G.2.2 0 0), .int g, .int bad] K (some (.int (m_gX K g bad))) (m_gT K g bad) := by
  refine k_intro (by decide +kernel) rfl (Nat.le_of_ble_eq_true rfl) ?_
  intro X C E
  refine k_aload_n C d_Mo_guest_0 rfl ?_
  refine k_aload_n C d_Mo_guest_1 rfl ?_
  refine k_iload_n C d_Mo_guest_2 rfl ?_
  refine k_iconst C d_Mo_guest_3 (v := 5) (by decide) ?_
  refine k_callVi C kg_all (c_Mo_no l G _ _ _ I0) cs_Mo_102 cv_Mo_no om_0 (by decide) rfl rfl (Nat.le_of_ble_eq_true rfl) ⟨rfl, rfl⟩ ⟨by decide, by decide⟩ ⟨Nat.zero_le _, Nat.zero_le _⟩ d_Mo_guest_4 I0 (fun I1 => ?_)
  refine k_if_ne C d_Mo_guest_7 (tgt := 14) (by decide) (fun h2 => ?_) (fun h2 => ?_)
  · refine k_iconst C d_Mo_guest_14 (v := 1) (by decide) ?_
    refine k_goto C d_Mo_guest_15 (tgt := 32) (by decide) ?_
    refine k_put C d_Mo_guest_32 fp_Mo_90 (by decide) rfl I1 (trivial) (fun I3 => ?_)
    refine k_aload_n C d_Mo_guest_35 rfl ?_
    refine k_get C d_Mo_guest_36 fg_Mo_90 (by decide) rfl ?_
    refine k_top (k_up_eq _ _ _ _ _) ?_
    refine k_if_ne C d_Mo_guest_39 (tgt := 46) (by decide) (fun _ => ?_) (fun h => absurd h (by decide))
    refine k_iconst C d_Mo_guest_46 (v := 0) (by decide) ?_
    exact k_zreturn C (E.to (by first | rfl | (simp only [m_gX, m_gT, m_gs, h2, ↓reduceIte, Nat.reduceAdd]; done) | (simp only [m_gX, m_gT, m_gs, h2, ↓reduceIte, Nat.reduceAdd]; rfl) | contradiction | (simp [m_gX, m_gT, m_gs, h2, ↓reduceIte, Nat.reduceAdd]; done) | (simp [m_gX, m_gT, m_gs, h2, ↓reduceIte, Nat.reduceAdd]; rfl)) (by first | rfl | (simp only [m_gX, m_gT, m_gs, h2, ↓reduceIte, Nat.reduceAdd]; done) | (simp only [m_gX, m_gT, m_gs, h2, ↓reduceIte, Nat.reduceAdd]; rfl) | contradiction | (simp [m_gX, m_gT, m_gs, h2, ↓reduceIte, Nat.reduceAdd]; done) | (simp [m_gX, m_gT, m_gs, h2, ↓reduceIte, Nat.reduceAdd]; rfl))) d_Mo_guest_47 (by first | rfl | decide)
  · refine k_iload_n C d_Mo_guest_10 rfl ?_
    refine k_if_eq C d_Mo_guest_11 (tgt := 18) (by decide) (fun h4 => ?_) (fun h4 => ?_)
    · refine k_aload_n C d_Mo_guest_18 rfl ?_
      refine k_getr C d_Mo_guest_19 fg_Mo_22 (by decide) rfl ?_
      refine k_iload_n C d_Mo_guest_22 rfl ?_
      refine k_iaload C d_Mo_guest_23 am_5 (by decide) (r_no (n := 5) (by decide) ‹_›) rfl ?_
      refine k_if_ge C d_Mo_guest_24 (tgt := 31) (by decide) (fun h5 => ?_) (fun h5 => ?_)
      · refine k_iconst C d_Mo_guest_31 (v := 0) (by decide) ?_
        refine k_put C d_Mo_guest_32 fp_Mo_90 (by decide) rfl I1 (trivial) (fun I6 => ?_)
        refine k_aload_n C d_Mo_guest_35 rfl ?_
        refine k_get C d_Mo_guest_36 fg_Mo_90 (by decide) rfl ?_
        refine k_top (k_up_eq _ _ _ _ _) ?_
        refine k_if_ne C d_Mo_guest_39 (tgt := 46) (by decide) (fun h => absurd h (by decide)) (fun _ => ?_)
        refine k_iconst C d_Mo_guest_42 (v := 1) (by decide) ?_
        refine k_goto C d_Mo_guest_43 (tgt := 47) (by decide) ?_
        exact k_zreturn C (E.to (by first | rfl | (simp only [m_gX, m_gT, m_gs, h2, h4, h5, ↓reduceIte, Nat.reduceAdd]; done) | (simp only [m_gX, m_gT, m_gs, h2, h4, h5, ↓reduceIte, Nat.reduceAdd]; rfl) | contradiction | (simp [m_gX, m_gT, m_gs, h2, h4, h5, ↓reduceIte, Nat.reduceAdd]; done) | (simp [m_gX, m_gT, m_gs, h2, h4, h5, ↓reduceIte, Nat.reduceAdd]; rfl)) (by first | rfl | (simp only [m_gX, m_gT, m_gs, h2, h4, h5, ↓reduceIte, Nat.reduceAdd]; done) | (simp only [m_gX, m_gT, m_gs, h2, h4, h5, ↓reduceIte, Nat.reduceAdd]; rfl) | contradiction | (simp [m_gX, m_gT, m_gs, h2, h4, h5, ↓reduceIte, Nat.reduceAdd]; done) | (simp [m_gX, m_gT, m_gs, h2, h4, h5, ↓reduceIte, Nat.reduceAdd]; rfl))) d_Mo_guest_47 (by first | rfl | decide)
      · refine k_iconst C d_Mo_guest_27 (v := 2) (by decide) ?_
        refine k_goto C d_Mo_guest_28 (tgt := 32) (by decide) ?_
        refine k_put C d_Mo_guest_32 fp_Mo_90 (by decide) rfl I1 (trivial) (fun I7 => ?_)
        refine k_aload_n C d_Mo_guest_35 rfl ?_
        refine k_get C d_Mo_guest_36 fg_Mo_90 (by decide) rfl ?_
        refine k_top (k_up_eq _ _ _ _ _) ?_
        refine k_if_ne C d_Mo_guest_39 (tgt := 46) (by decide) (fun _ => ?_) (fun h => absurd h (by decide))
        refine k_iconst C d_Mo_guest_46 (v := 0) (by decide) ?_
        exact k_zreturn C (E.to (by first | rfl | (simp only [m_gX, m_gT, m_gs, h2, h4, h5, ↓reduceIte, Nat.reduceAdd]; done) | (simp only [m_gX, m_gT, m_gs, h2, h4, h5, ↓reduceIte, Nat.reduceAdd]; rfl) | contradiction | (simp [m_gX, m_gT, m_gs, h2, h4, h5, ↓reduceIte, Nat.reduceAdd]; done) | (simp [m_gX, m_gT, m_gs, h2, h4, h5, ↓reduceIte, Nat.reduceAdd]; rfl)) (by first | rfl | (simp only [m_gX, m_gT, m_gs, h2, h4, h5, ↓reduceIte, Nat.reduceAdd]; done) | (simp only [m_gX, m_gT, m_gs, h2, h4, h5, ↓reduceIte, Nat.reduceAdd]; rfl) | contradiction | (simp [m_gX, m_gT, m_gs, h2, h4, h5, ↓reduceIte, Nat.reduceAdd]; done) | (simp [m_gX, m_gT, m_gs, h2, h4, h5, ↓reduceIte, Nat.reduceAdd]; rfl))) d_Mo_guest_47 (by first | rfl | decide)
    · refine k_iconst C d_Mo_guest_14 (v := 1) (by decide) ?_
      refine k_goto C d_Mo_guest_15 (tgt := 32) (by decide) ?_
      refine k_put C d_Mo_guest_32 fp_Mo_90 (by decide) rfl I1 (trivial) (fun I8 => ?_)
      refine k_aload_n C d_Mo_guest_35 rfl ?_
      refine k_get C d_Mo_guest_36 fg_Mo_90 (by decide) rfl ?_
      refine k_top (k_up_eq _ _ _ _ _) ?_
      refine k_if_ne C d_Mo_guest_39 (tgt := 46) (by decide) (fun _ => ?_) (fun h => absurd h (by decide))
      refine k_iconst C d_Mo_guest_46 (v := 0) (by decide) ?_
      exact k_zreturn C (E.to (by first | rfl | (simp only [m_gX, m_gT, m_gs, h2, h4, ↓reduceIte, Nat.reduceAdd]; done) | (simp only [m_gX, m_gT, m_gs, h2, h4, ↓reduceIte, Nat.reduceAdd]; rfl) | contradiction | (simp [m_gX, m_gT, m_gs, h2, h4, ↓reduceIte, Nat.reduceAdd]; done) | (simp [m_gX, m_gT, m_gs, h2, h4, ↓reduceIte, Nat.reduceAdd]; rfl)) (by first | rfl | (simp only [m_gX, m_gT, m_gs, h2, h4, ↓reduceIte, Nat.reduceAdd]; done) | (simp only [m_gX, m_gT, m_gs, h2, h4, ↓reduceIte, Nat.reduceAdd]; rfl) | contradiction | (simp [m_gX, m_gT, m_gs, h2, h4, ↓reduceIte, Nat.reduceAdd]; done) | (simp [m_gX, m_gT, m_gs, h2, h4, ↓reduceIte, Nat.reduceAdd]; rfl))) d_Mo_guest_47 (by first | rfl | decide)
set_option maxHeartbeats 4000000 in
set_option maxRecDepth 100000 in
theorem c_Mo_register (l : Launch) (G : kG) (K : kM) (g : Int32) (r : Int32)   (I0 : m_Inv K) : k_Met l mS kT y_Mo_register b_Mo_register 3 (some .int) (k_rm 2) G [.ref (G.2.2 0 0), .int g, .int r] K (some (.int (m_regX K g r))) (m_gT K g (m_no r 3)) := by
  refine k_intro (by decide +kernel) rfl (Nat.le_of_ble_eq_true rfl) ?_
  intro X C E
  refine k_aload_n C d_Mo_register_0 rfl ?_
  refine k_iload_n C d_Mo_register_1 rfl ?_
  refine k_aload_n C d_Mo_register_2 rfl ?_
  refine k_iload_n C d_Mo_register_3 rfl ?_
  refine k_iconst C d_Mo_register_4 (v := 3) (by decide) ?_
  refine k_callVi C kg_all (c_Mo_no l G _ _ _ I0) cs_Mo_102 cv_Mo_no om_0 (by decide) rfl rfl (Nat.le_of_ble_eq_true rfl) ⟨rfl, rfl⟩ ⟨by decide, by decide⟩ ⟨Nat.zero_le _, Nat.zero_le _⟩ d_Mo_register_5 I0 (fun I1 => ?_)
  refine k_callVi C kg_all (c_Mo_guest l G _ _ _ I1) cs_Mo_183 cv_Mo_guest om_0 (by decide) rfl rfl (Nat.le_of_ble_eq_true rfl) ⟨rfl, rfl⟩ ⟨by decide, by decide⟩ ⟨Nat.zero_le _, Nat.zero_le _⟩ d_Mo_register_8 (iv_gT I1) (fun I2 => ?_)
  refine k_if_eq C d_Mo_register_11 (tgt := 27) (by decide) (fun h3 => ?_) (fun h3 => ?_)
  · refine k_iconst C d_Mo_register_27 (v := 0) (by decide) ?_
    exact k_ireturn C (E.to (by first | (simp only [m_regX, h3, ↓reduceIte]; done) | (simp only [m_regX, h3, ↓reduceIte]; rfl) | contradiction | rfl) (by first | (simp only [m_regX, h3, ↓reduceIte]; done) | (simp only [m_regX, h3, ↓reduceIte]; rfl) | contradiction | rfl)) d_Mo_register_28
  · have hq := m_gxr ‹_›
    have hq1 := r_no (n := 5) (by decide) hq.1
    have hq2 := r_no (n := 3) (by decide) hq.2.1
    have hl1 := k_lt hq1
    have hl2 := k_lt hq2
    refine k_aload_n C d_Mo_register_14 rfl ?_
    refine k_getr C d_Mo_register_15 fg_Mo_52 (by decide) rfl ?_
    refine k_iload_n C d_Mo_register_18 rfl ?_
    refine k_top (r_id hq1 (by decide)) ?_
    refine k_iconst C d_Mo_register_19 (v := 4) (by decide) ?_
    refine k_imul C d_Mo_register_20 ?_
    refine k_iload_n C d_Mo_register_21 rfl ?_
    refine k_top (r_id hq2 (by decide)) ?_
    refine k_iadd C d_Mo_register_22 ?_
    refine k_iaload C d_Mo_register_23 am_15 (by decide) (mx (g.toNatClampNeg) 4 (r.toNatClampNeg) 24 (by omega) (by decide)).1 (mx (g.toNatClampNeg) 4 (r.toNatClampNeg) 24 (by omega) (by decide)).2 ?_
    refine k_goto C d_Mo_register_24 (tgt := 28) (by decide) ?_
    exact k_ireturn C (E.to (by first | (simp only [m_regX, h3, ↓reduceIte]; done) | (simp only [m_regX, h3, ↓reduceIte]; rfl) | contradiction | rfl) (by first | (simp only [m_regX, h3, ↓reduceIte]; done) | (simp only [m_regX, h3, ↓reduceIte]; rfl) | contradiction | rfl)) d_Mo_register_28
set_option maxHeartbeats 4000000 in
set_option maxRecDepth 100000 in
theorem c_Mo_page (l : Launch) (G : kG) (K : kM) (g : Int32) (r : Int32)   (I0 : m_Inv K) : k_Met l mS kT y_Mo_page b_Mo_page 3 (some .int) (k_rm 2) G [.ref (G.2.2 0 0), .int g, .int r] K (some (.int (m_pagX K g r))) (m_gT K g (m_no r 3)) := by
  refine k_intro (by decide +kernel) rfl (Nat.le_of_ble_eq_true rfl) ?_
  intro X C E
  refine k_aload_n C d_Mo_page_0 rfl ?_
  refine k_iload_n C d_Mo_page_1 rfl ?_
  refine k_aload_n C d_Mo_page_2 rfl ?_
  refine k_iload_n C d_Mo_page_3 rfl ?_
  refine k_iconst C d_Mo_page_4 (v := 3) (by decide) ?_
  refine k_callVi C kg_all (c_Mo_no l G _ _ _ I0) cs_Mo_102 cv_Mo_no om_0 (by decide) rfl rfl (Nat.le_of_ble_eq_true rfl) ⟨rfl, rfl⟩ ⟨by decide, by decide⟩ ⟨Nat.zero_le _, Nat.zero_le _⟩ d_Mo_page_5 I0 (fun I1 => ?_)
  refine k_callVi C kg_all (c_Mo_guest l G _ _ _ I1) cs_Mo_183 cv_Mo_guest om_0 (by decide) rfl rfl (Nat.le_of_ble_eq_true rfl) ⟨rfl, rfl⟩ ⟨by decide, by decide⟩ ⟨Nat.zero_le _, Nat.zero_le _⟩ d_Mo_page_8 (iv_gT I1) (fun I2 => ?_)
  refine k_if_eq C d_Mo_page_11 (tgt := 27) (by decide) (fun h3 => ?_) (fun h3 => ?_)
  · refine k_iconst C d_Mo_page_27 (v := 0) (by decide) ?_
    exact k_ireturn C (E.to (by first | (simp only [m_pagX, h3, ↓reduceIte]; done) | (simp only [m_pagX, h3, ↓reduceIte]; rfl) | contradiction | rfl) (by first | (simp only [m_pagX, h3, ↓reduceIte]; done) | (simp only [m_pagX, h3, ↓reduceIte]; rfl) | contradiction | rfl)) d_Mo_page_28
  · have hq := m_gxr ‹_›
    have hq1 := r_no (n := 5) (by decide) hq.1
    have hq2 := r_no (n := 3) (by decide) hq.2.1
    have hl1 := k_lt hq1
    have hl2 := k_lt hq2
    refine k_aload_n C d_Mo_page_14 rfl ?_
    refine k_getr C d_Mo_page_15 fg_Mo_55 (by decide) rfl ?_
    refine k_iload_n C d_Mo_page_18 rfl ?_
    refine k_top (r_id hq1 (by decide)) ?_
    refine k_iconst C d_Mo_page_19 (v := 4) (by decide) ?_
    refine k_imul C d_Mo_page_20 ?_
    refine k_iload_n C d_Mo_page_21 rfl ?_
    refine k_top (r_id hq2 (by decide)) ?_
    refine k_iadd C d_Mo_page_22 ?_
    refine k_iaload C d_Mo_page_23 am_16 (by decide) (mx (g.toNatClampNeg) 4 (r.toNatClampNeg) 24 (by omega) (by decide)).1 (mx (g.toNatClampNeg) 4 (r.toNatClampNeg) 24 (by omega) (by decide)).2 ?_
    refine k_goto C d_Mo_page_24 (tgt := 28) (by decide) ?_
    exact k_ireturn C (E.to (by first | (simp only [m_pagX, h3, ↓reduceIte]; done) | (simp only [m_pagX, h3, ↓reduceIte]; rfl) | contradiction | rfl) (by first | (simp only [m_pagX, h3, ↓reduceIte]; done) | (simp only [m_pagX, h3, ↓reduceIte]; rfl) | contradiction | rfl)) d_Mo_page_28
set_option maxHeartbeats 4000000 in
set_option maxRecDepth 100000 in
theorem c_Mo_told (l : Launch) (G : kG) (K : kM) (g : Int32) (w : Int32)   (I0 : m_Inv K) : k_Met l mS kT y_Mo_told b_Mo_told 3 (some .int) (k_rm 2) G [.ref (G.2.2 0 0), .int g, .int w] K (some (.int (m_telX K g w))) (m_gT K g (m_no w 8)) := by
  refine k_intro (by decide +kernel) rfl (Nat.le_of_ble_eq_true rfl) ?_
  intro X C E
  refine k_aload_n C d_Mo_told_0 rfl ?_
  refine k_iload_n C d_Mo_told_1 rfl ?_
  refine k_aload_n C d_Mo_told_2 rfl ?_
  refine k_iload_n C d_Mo_told_3 rfl ?_
  refine k_bipush C d_Mo_told_4 (v := 8) (by decide) ?_
  refine k_callVi C kg_all (c_Mo_no l G _ _ _ I0) cs_Mo_102 cv_Mo_no om_0 (by decide) rfl rfl (Nat.le_of_ble_eq_true rfl) ⟨rfl, rfl⟩ ⟨by decide, by decide⟩ ⟨Nat.zero_le _, Nat.zero_le _⟩ d_Mo_told_6 I0 (fun I1 => ?_)
  refine k_callVi C kg_all (c_Mo_guest l G _ _ _ I1) cs_Mo_183 cv_Mo_guest om_0 (by decide) rfl rfl (Nat.le_of_ble_eq_true rfl) ⟨rfl, rfl⟩ ⟨by decide, by decide⟩ ⟨Nat.zero_le _, Nat.zero_le _⟩ d_Mo_told_9 (iv_gT I1) (fun I2 => ?_)
  refine k_if_ne C d_Mo_told_12 (tgt := 17) (by decide) (fun h3 => ?_) (fun h3 => ?_)
  · have hq := m_gxr ‹_›
    have hq1 := r_no (n := 5) (by decide) hq.1
    have hq2 := r_no (n := 8) (by decide) hq.2.1
    have hl1 := k_lt hq1
    refine k_iload_n C d_Mo_told_17 rfl ?_
    rcases r_c9 hq2 with rfl | rfl | rfl | rfl | rfl | rfl | rfl | rfl | rfl
    · refine k_tabIn C d_Mo_told_18 (by decide) (by decide) (off := 46) (by decide) (tgt := 64) (by decide) ?_
      refine k_aload_n C d_Mo_told_64 rfl ?_
      refine k_getr C d_Mo_told_65 fg_Mo_22 (by decide) rfl ?_
      refine k_iload_n C d_Mo_told_68 rfl ?_
      refine k_top (r_id hq1 (by decide)) ?_
      refine k_iaload C d_Mo_told_69 am_5 (by decide) (vp_in_nI (by omega) (by decide)) (nI_clamp (by omega)) ?_
      exact k_ireturn C (E.to (by first | (simp only [mtl_0, mtl_1, mtl_2, mtl_3, mtl_4, mtl_5, mtl_6, mtl_7, mtl_8, m_telX, h3, ↓reduceIte]; done) | (simp only [mtl_0, mtl_1, mtl_2, mtl_3, mtl_4, mtl_5, mtl_6, mtl_7, mtl_8, m_telX, h3, ↓reduceIte]; rfl) | contradiction | rfl) (by first | (simp only [mtl_0, mtl_1, mtl_2, mtl_3, mtl_4, mtl_5, mtl_6, mtl_7, mtl_8, m_telX, h3, ↓reduceIte]; done) | (simp only [mtl_0, mtl_1, mtl_2, mtl_3, mtl_4, mtl_5, mtl_6, mtl_7, mtl_8, m_telX, h3, ↓reduceIte]; rfl) | contradiction | rfl)) d_Mo_told_70
    · refine k_tabIn C d_Mo_told_18 (by decide) (by decide) (off := 53) (by decide) (tgt := 71) (by decide) ?_
      refine k_aload_n C d_Mo_told_71 rfl ?_
      refine k_getr C d_Mo_told_72 fg_Mo_25 (by decide) rfl ?_
      refine k_iload_n C d_Mo_told_75 rfl ?_
      refine k_top (r_id hq1 (by decide)) ?_
      refine k_iaload C d_Mo_told_76 am_6 (by decide) (vp_in_nI (by omega) (by decide)) (nI_clamp (by omega)) ?_
      exact k_ireturn C (E.to (by first | (simp only [mtl_0, mtl_1, mtl_2, mtl_3, mtl_4, mtl_5, mtl_6, mtl_7, mtl_8, m_telX, h3, ↓reduceIte]; done) | (simp only [mtl_0, mtl_1, mtl_2, mtl_3, mtl_4, mtl_5, mtl_6, mtl_7, mtl_8, m_telX, h3, ↓reduceIte]; rfl) | contradiction | rfl) (by first | (simp only [mtl_0, mtl_1, mtl_2, mtl_3, mtl_4, mtl_5, mtl_6, mtl_7, mtl_8, m_telX, h3, ↓reduceIte]; done) | (simp only [mtl_0, mtl_1, mtl_2, mtl_3, mtl_4, mtl_5, mtl_6, mtl_7, mtl_8, m_telX, h3, ↓reduceIte]; rfl) | contradiction | rfl)) d_Mo_told_77
    · refine k_tabIn C d_Mo_told_18 (by decide) (by decide) (off := 60) (by decide) (tgt := 78) (by decide) ?_
      refine k_aload_n C d_Mo_told_78 rfl ?_
      refine k_getr C d_Mo_told_79 fg_Mo_28 (by decide) rfl ?_
      refine k_iload_n C d_Mo_told_82 rfl ?_
      refine k_top (r_id hq1 (by decide)) ?_
      refine k_iaload C d_Mo_told_83 am_7 (by decide) (vp_in_nI (by omega) (by decide)) (nI_clamp (by omega)) ?_
      exact k_ireturn C (E.to (by first | (simp only [mtl_0, mtl_1, mtl_2, mtl_3, mtl_4, mtl_5, mtl_6, mtl_7, mtl_8, m_telX, h3, ↓reduceIte]; done) | (simp only [mtl_0, mtl_1, mtl_2, mtl_3, mtl_4, mtl_5, mtl_6, mtl_7, mtl_8, m_telX, h3, ↓reduceIte]; rfl) | contradiction | rfl) (by first | (simp only [mtl_0, mtl_1, mtl_2, mtl_3, mtl_4, mtl_5, mtl_6, mtl_7, mtl_8, m_telX, h3, ↓reduceIte]; done) | (simp only [mtl_0, mtl_1, mtl_2, mtl_3, mtl_4, mtl_5, mtl_6, mtl_7, mtl_8, m_telX, h3, ↓reduceIte]; rfl) | contradiction | rfl)) d_Mo_told_84
    · refine k_tabIn C d_Mo_told_18 (by decide) (by decide) (off := 67) (by decide) (tgt := 85) (by decide) ?_
      refine k_aload_n C d_Mo_told_85 rfl ?_
      refine k_getr C d_Mo_told_86 fg_Mo_31 (by decide) rfl ?_
      refine k_iload_n C d_Mo_told_89 rfl ?_
      refine k_top (r_id hq1 (by decide)) ?_
      refine k_iaload C d_Mo_told_90 am_8 (by decide) (vp_in_nI (by omega) (by decide)) (nI_clamp (by omega)) ?_
      exact k_ireturn C (E.to (by first | (simp only [mtl_0, mtl_1, mtl_2, mtl_3, mtl_4, mtl_5, mtl_6, mtl_7, mtl_8, m_telX, h3, ↓reduceIte]; done) | (simp only [mtl_0, mtl_1, mtl_2, mtl_3, mtl_4, mtl_5, mtl_6, mtl_7, mtl_8, m_telX, h3, ↓reduceIte]; rfl) | contradiction | rfl) (by first | (simp only [mtl_0, mtl_1, mtl_2, mtl_3, mtl_4, mtl_5, mtl_6, mtl_7, mtl_8, m_telX, h3, ↓reduceIte]; done) | (simp only [mtl_0, mtl_1, mtl_2, mtl_3, mtl_4, mtl_5, mtl_6, mtl_7, mtl_8, m_telX, h3, ↓reduceIte]; rfl) | contradiction | rfl)) d_Mo_told_91
    · refine k_tabIn C d_Mo_told_18 (by decide) (by decide) (off := 74) (by decide) (tgt := 92) (by decide) ?_
      refine k_aload_n C d_Mo_told_92 rfl ?_
      refine k_getr C d_Mo_told_93 fg_Mo_34 (by decide) rfl ?_
      refine k_iload_n C d_Mo_told_96 rfl ?_
      refine k_top (r_id hq1 (by decide)) ?_
      refine k_iaload C d_Mo_told_97 am_9 (by decide) (vp_in_nI (by omega) (by decide)) (nI_clamp (by omega)) ?_
      exact k_ireturn C (E.to (by first | (simp only [mtl_0, mtl_1, mtl_2, mtl_3, mtl_4, mtl_5, mtl_6, mtl_7, mtl_8, m_telX, h3, ↓reduceIte]; done) | (simp only [mtl_0, mtl_1, mtl_2, mtl_3, mtl_4, mtl_5, mtl_6, mtl_7, mtl_8, m_telX, h3, ↓reduceIte]; rfl) | contradiction | rfl) (by first | (simp only [mtl_0, mtl_1, mtl_2, mtl_3, mtl_4, mtl_5, mtl_6, mtl_7, mtl_8, m_telX, h3, ↓reduceIte]; done) | (simp only [mtl_0, mtl_1, mtl_2, mtl_3, mtl_4, mtl_5, mtl_6, mtl_7, mtl_8, m_telX, h3, ↓reduceIte]; rfl) | contradiction | rfl)) d_Mo_told_98
    · refine k_tabIn C d_Mo_told_18 (by decide) (by decide) (off := 81) (by decide) (tgt := 99) (by decide) ?_
      refine k_aload_n C d_Mo_told_99 rfl ?_
      refine k_getr C d_Mo_told_100 fg_Mo_37 (by decide) rfl ?_
      refine k_iload_n C d_Mo_told_103 rfl ?_
      refine k_top (r_id hq1 (by decide)) ?_
      refine k_iaload C d_Mo_told_104 am_10 (by decide) (vp_in_nI (by omega) (by decide)) (nI_clamp (by omega)) ?_
      exact k_ireturn C (E.to (by first | (simp only [mtl_0, mtl_1, mtl_2, mtl_3, mtl_4, mtl_5, mtl_6, mtl_7, mtl_8, m_telX, h3, ↓reduceIte]; done) | (simp only [mtl_0, mtl_1, mtl_2, mtl_3, mtl_4, mtl_5, mtl_6, mtl_7, mtl_8, m_telX, h3, ↓reduceIte]; rfl) | contradiction | rfl) (by first | (simp only [mtl_0, mtl_1, mtl_2, mtl_3, mtl_4, mtl_5, mtl_6, mtl_7, mtl_8, m_telX, h3, ↓reduceIte]; done) | (simp only [mtl_0, mtl_1, mtl_2, mtl_3, mtl_4, mtl_5, mtl_6, mtl_7, mtl_8, m_telX, h3, ↓reduceIte]; rfl) | contradiction | rfl)) d_Mo_told_105
    · refine k_tabIn C d_Mo_told_18 (by decide) (by decide) (off := 88) (by decide) (tgt := 106) (by decide) ?_
      refine k_aload_n C d_Mo_told_106 rfl ?_
      refine k_getr C d_Mo_told_107 fg_Mo_40 (by decide) rfl ?_
      refine k_iload_n C d_Mo_told_110 rfl ?_
      refine k_top (r_id hq1 (by decide)) ?_
      refine k_iaload C d_Mo_told_111 am_11 (by decide) (vp_in_nI (by omega) (by decide)) (nI_clamp (by omega)) ?_
      exact k_ireturn C (E.to (by first | (simp only [mtl_0, mtl_1, mtl_2, mtl_3, mtl_4, mtl_5, mtl_6, mtl_7, mtl_8, m_telX, h3, ↓reduceIte]; done) | (simp only [mtl_0, mtl_1, mtl_2, mtl_3, mtl_4, mtl_5, mtl_6, mtl_7, mtl_8, m_telX, h3, ↓reduceIte]; rfl) | contradiction | rfl) (by first | (simp only [mtl_0, mtl_1, mtl_2, mtl_3, mtl_4, mtl_5, mtl_6, mtl_7, mtl_8, m_telX, h3, ↓reduceIte]; done) | (simp only [mtl_0, mtl_1, mtl_2, mtl_3, mtl_4, mtl_5, mtl_6, mtl_7, mtl_8, m_telX, h3, ↓reduceIte]; rfl) | contradiction | rfl)) d_Mo_told_112
    · refine k_tabIn C d_Mo_told_18 (by decide) (by decide) (off := 95) (by decide) (tgt := 113) (by decide) ?_
      refine k_aload_n C d_Mo_told_113 rfl ?_
      refine k_getr C d_Mo_told_114 fg_Mo_43 (by decide) rfl ?_
      refine k_iload_n C d_Mo_told_117 rfl ?_
      refine k_top (r_id hq1 (by decide)) ?_
      refine k_iaload C d_Mo_told_118 am_12 (by decide) (vp_in_nI (by omega) (by decide)) (nI_clamp (by omega)) ?_
      exact k_ireturn C (E.to (by first | (simp only [mtl_0, mtl_1, mtl_2, mtl_3, mtl_4, mtl_5, mtl_6, mtl_7, mtl_8, m_telX, h3, ↓reduceIte]; done) | (simp only [mtl_0, mtl_1, mtl_2, mtl_3, mtl_4, mtl_5, mtl_6, mtl_7, mtl_8, m_telX, h3, ↓reduceIte]; rfl) | contradiction | rfl) (by first | (simp only [mtl_0, mtl_1, mtl_2, mtl_3, mtl_4, mtl_5, mtl_6, mtl_7, mtl_8, m_telX, h3, ↓reduceIte]; done) | (simp only [mtl_0, mtl_1, mtl_2, mtl_3, mtl_4, mtl_5, mtl_6, mtl_7, mtl_8, m_telX, h3, ↓reduceIte]; rfl) | contradiction | rfl)) d_Mo_told_119
    · refine k_tabOut C d_Mo_told_18 (by decide) (tgt := 120) (by decide) ?_
      refine k_aload_n C d_Mo_told_120 rfl ?_
      refine k_getr C d_Mo_told_121 fg_Mo_46 (by decide) rfl ?_
      refine k_iload_n C d_Mo_told_124 rfl ?_
      refine k_top (r_id hq1 (by decide)) ?_
      refine k_iaload C d_Mo_told_125 am_13 (by decide) (vp_in_nI (by omega) (by decide)) (nI_clamp (by omega)) ?_
      exact k_ireturn C (E.to (by first | (simp only [mtl_0, mtl_1, mtl_2, mtl_3, mtl_4, mtl_5, mtl_6, mtl_7, mtl_8, m_telX, h3, ↓reduceIte]; done) | (simp only [mtl_0, mtl_1, mtl_2, mtl_3, mtl_4, mtl_5, mtl_6, mtl_7, mtl_8, m_telX, h3, ↓reduceIte]; rfl) | contradiction | rfl) (by first | (simp only [mtl_0, mtl_1, mtl_2, mtl_3, mtl_4, mtl_5, mtl_6, mtl_7, mtl_8, m_telX, h3, ↓reduceIte]; done) | (simp only [mtl_0, mtl_1, mtl_2, mtl_3, mtl_4, mtl_5, mtl_6, mtl_7, mtl_8, m_telX, h3, ↓reduceIte]; rfl) | contradiction | rfl)) d_Mo_told_126
  · refine k_iconst C d_Mo_told_15 (v := 0) (by decide) ?_
    exact k_ireturn C (E.to (by first | (simp only [mtl_0, mtl_1, mtl_2, mtl_3, mtl_4, mtl_5, mtl_6, mtl_7, mtl_8, m_telX, h3, ↓reduceIte]; done) | (simp only [mtl_0, mtl_1, mtl_2, mtl_3, mtl_4, mtl_5, mtl_6, mtl_7, mtl_8, m_telX, h3, ↓reduceIte]; rfl) | contradiction | rfl) (by first | (simp only [mtl_0, mtl_1, mtl_2, mtl_3, mtl_4, mtl_5, mtl_6, mtl_7, mtl_8, m_telX, h3, ↓reduceIte]; done) | (simp only [mtl_0, mtl_1, mtl_2, mtl_3, mtl_4, mtl_5, mtl_6, mtl_7, mtl_8, m_telX, h3, ↓reduceIte]; rfl) | contradiction | rfl)) d_Mo_told_16
set_option maxHeartbeats 4000000 in
set_option maxRecDepth 100000 in
theorem c_Mo_memory (l : Launch) (G : kG) (K : kM) (f : Int32) (i : Int32)   (I0 : m_Inv K) : k_Met l mS kT y_Mo_memory b_Mo_memory 3 (some .int) (k_rm 1) G [.ref (G.2.2 0 0), .int f, .int i] K (some (.int (m_memX K f i))) (m_th K (m_no2 f 11 i 7)) := by
  refine k_intro (by decide +kernel) rfl (Nat.le_of_ble_eq_true rfl) ?_
  intro X C E
  refine k_aload_n C d_Mo_memory_0 rfl ?_
  refine k_aload_n C d_Mo_memory_1 rfl ?_
  refine k_iload_n C d_Mo_memory_2 rfl ?_
  refine k_bipush C d_Mo_memory_3 (v := 11) (by decide) ?_
  refine k_callVi C kg_all (c_Mo_no l G _ _ _ I0) cs_Mo_102 cv_Mo_no om_0 (by decide) rfl rfl (Nat.le_of_ble_eq_true rfl) ⟨rfl, rfl⟩ ⟨by decide, by decide⟩ ⟨Nat.zero_le _, Nat.zero_le _⟩ d_Mo_memory_5 I0 (fun I1 => ?_)
  refine k_if_ne C d_Mo_memory_8 (tgt := 21) (by decide) (fun h2 => ?_) (fun h2 => ?_)
  · refine k_iconst C d_Mo_memory_21 (v := 1) (by decide) ?_
    refine k_goto C d_Mo_memory_22 (tgt := 26) (by decide) ?_
    refine k_put C d_Mo_memory_26 fp_Mo_90 (by decide) rfl I1 (trivial) (fun I3 => ?_)
    refine k_aload_n C d_Mo_memory_29 rfl ?_
    refine k_get C d_Mo_memory_30 fg_Mo_90 (by decide) rfl ?_
    refine k_top (k_up_eq _ _ _ _ _) ?_
    refine k_if_ne C d_Mo_memory_33 (tgt := 50) (by decide) (fun _ => ?_) (fun h => absurd h (by decide))
    refine k_iconst C d_Mo_memory_50 (v := 0) (by decide) ?_
    exact k_ireturn C (E.to (by first | rfl | (simp only [m_memX, m_no2, m_th, h2, ↓reduceIte, Nat.reduceAdd]; done) | (simp only [m_memX, m_no2, m_th, h2, ↓reduceIte, Nat.reduceAdd]; rfl) | contradiction | (simp [m_memX, m_no2, m_th, h2, ↓reduceIte, Nat.reduceAdd]; done) | (simp [m_memX, m_no2, m_th, h2, ↓reduceIte, Nat.reduceAdd]; rfl)) (by first | rfl | (simp only [m_memX, m_no2, m_th, h2, ↓reduceIte, Nat.reduceAdd]; done) | (simp only [m_memX, m_no2, m_th, h2, ↓reduceIte, Nat.reduceAdd]; rfl) | contradiction | (simp [m_memX, m_no2, m_th, h2, ↓reduceIte, Nat.reduceAdd]; done) | (simp [m_memX, m_no2, m_th, h2, ↓reduceIte, Nat.reduceAdd]; rfl))) d_Mo_memory_51
  · refine k_aload_n C d_Mo_memory_11 rfl ?_
    refine k_iload_n C d_Mo_memory_12 rfl ?_
    refine k_bipush C d_Mo_memory_13 (v := 7) (by decide) ?_
    refine k_callVi C kg_all (c_Mo_no l G _ _ _ I1) cs_Mo_102 cv_Mo_no om_0 (by decide) rfl rfl (Nat.le_of_ble_eq_true rfl) ⟨rfl, rfl⟩ ⟨by decide, by decide⟩ ⟨Nat.zero_le _, Nat.zero_le _⟩ d_Mo_memory_15 I1 (fun I4 => ?_)
    refine k_if_eq C d_Mo_memory_18 (tgt := 25) (by decide) (fun h5 => ?_) (fun h5 => ?_)
    · refine k_iconst C d_Mo_memory_25 (v := 0) (by decide) ?_
      refine k_put C d_Mo_memory_26 fp_Mo_90 (by decide) rfl I4 (trivial) (fun I6 => ?_)
      refine k_aload_n C d_Mo_memory_29 rfl ?_
      refine k_get C d_Mo_memory_30 fg_Mo_90 (by decide) rfl ?_
      refine k_top (k_up_eq _ _ _ _ _) ?_
      refine k_if_ne C d_Mo_memory_33 (tgt := 50) (by decide) (fun h => absurd h (by decide)) (fun _ => ?_)
      have hq1 := r_no (n := 11) (v := f) (by decide) ‹_›
      have hq2 := r_no (n := 7) (v := i) (by decide) ‹_›
      have hl1 := k_lt hq1
      have hl2 := k_lt hq2
      refine k_aload_n C d_Mo_memory_36 rfl ?_
      refine k_getr C d_Mo_memory_37 fg_Mo_58 (by decide) rfl ?_
      refine k_iload_n C d_Mo_memory_40 rfl ?_
      refine k_top (r_id hq1 (by decide)) ?_
      refine k_bipush C d_Mo_memory_41 (v := 8) (by decide) ?_
      refine k_imul C d_Mo_memory_43 ?_
      refine k_iload_n C d_Mo_memory_44 rfl ?_
      refine k_top (r_id hq2 (by decide)) ?_
      refine k_iadd C d_Mo_memory_45 ?_
      refine k_iaload C d_Mo_memory_46 am_17 (by decide) (mx (f.toNatClampNeg) 8 (i.toNatClampNeg) 96 (by omega) (by decide)).1 (mx (f.toNatClampNeg) 8 (i.toNatClampNeg) 96 (by omega) (by decide)).2 ?_
      refine k_goto C d_Mo_memory_47 (tgt := 51) (by decide) ?_
      exact k_ireturn C (E.to (by first | rfl | (simp only [m_memX, m_no2, m_th, h2, h5, ↓reduceIte, Nat.reduceAdd]; done) | (simp only [m_memX, m_no2, m_th, h2, h5, ↓reduceIte, Nat.reduceAdd]; rfl) | contradiction | (simp [m_memX, m_no2, m_th, h2, h5, ↓reduceIte, Nat.reduceAdd]; done) | (simp [m_memX, m_no2, m_th, h2, h5, ↓reduceIte, Nat.reduceAdd]; rfl)) (by first | rfl | (simp only [m_memX, m_no2, m_th, h2, h5, ↓reduceIte, Nat.reduceAdd]; done) | (simp only [m_memX, m_no2, m_th, h2, h5, ↓reduceIte, Nat.reduceAdd]; rfl) | contradiction | (simp [m_memX, m_no2, m_th, h2, h5, ↓reduceIte, Nat.reduceAdd]; done) | (simp [m_memX, m_no2, m_th, h2, h5, ↓reduceIte, Nat.reduceAdd]; rfl))) d_Mo_memory_51
    · refine k_iconst C d_Mo_memory_21 (v := 1) (by decide) ?_
      refine k_goto C d_Mo_memory_22 (tgt := 26) (by decide) ?_
      refine k_put C d_Mo_memory_26 fp_Mo_90 (by decide) rfl I4 (trivial) (fun I7 => ?_)
      refine k_aload_n C d_Mo_memory_29 rfl ?_
      refine k_get C d_Mo_memory_30 fg_Mo_90 (by decide) rfl ?_
      refine k_top (k_up_eq _ _ _ _ _) ?_
      refine k_if_ne C d_Mo_memory_33 (tgt := 50) (by decide) (fun _ => ?_) (fun h => absurd h (by decide))
      refine k_iconst C d_Mo_memory_50 (v := 0) (by decide) ?_
      exact k_ireturn C (E.to (by first | rfl | (simp only [m_memX, m_no2, m_th, h2, h5, ↓reduceIte, Nat.reduceAdd]; done) | (simp only [m_memX, m_no2, m_th, h2, h5, ↓reduceIte, Nat.reduceAdd]; rfl) | contradiction | (simp [m_memX, m_no2, m_th, h2, h5, ↓reduceIte, Nat.reduceAdd]; done) | (simp [m_memX, m_no2, m_th, h2, h5, ↓reduceIte, Nat.reduceAdd]; rfl)) (by first | rfl | (simp only [m_memX, m_no2, m_th, h2, h5, ↓reduceIte, Nat.reduceAdd]; done) | (simp only [m_memX, m_no2, m_th, h2, h5, ↓reduceIte, Nat.reduceAdd]; rfl) | contradiction | (simp [m_memX, m_no2, m_th, h2, h5, ↓reduceIte, Nat.reduceAdd]; done) | (simp [m_memX, m_no2, m_th, h2, h5, ↓reduceIte, Nat.reduceAdd]; rfl))) d_Mo_memory_51
set_option maxHeartbeats 4000000 in
set_option maxRecDepth 100000 in
theorem c_Mo_object (l : Launch) (G : kG) (K : kM) (k : Int32) (w : Int32)   (I0 : m_Inv K) : k_Met l mS kT y_Mo_object b_Mo_object 3 (some .int) (k_rm 1) G [.ref (G.2.2 0 0), .int k, .int w] K (some (.int (m_objX K k w))) (m_th K (m_no2 k 3 w 4)) := by
  refine k_intro (by decide +kernel) rfl (Nat.le_of_ble_eq_true rfl) ?_
  intro X C E
  refine k_aload_n C d_Mo_object_0 rfl ?_
  refine k_aload_n C d_Mo_object_1 rfl ?_
  refine k_iload_n C d_Mo_object_2 rfl ?_
  refine k_iconst C d_Mo_object_3 (v := 3) (by decide) ?_
  refine k_callVi C kg_all (c_Mo_no l G _ _ _ I0) cs_Mo_102 cv_Mo_no om_0 (by decide) rfl rfl (Nat.le_of_ble_eq_true rfl) ⟨rfl, rfl⟩ ⟨by decide, by decide⟩ ⟨Nat.zero_le _, Nat.zero_le _⟩ d_Mo_object_4 I0 (fun I1 => ?_)
  refine k_if_ne C d_Mo_object_7 (tgt := 19) (by decide) (fun h2 => ?_) (fun h2 => ?_)
  · refine k_iconst C d_Mo_object_19 (v := 1) (by decide) ?_
    refine k_goto C d_Mo_object_20 (tgt := 24) (by decide) ?_
    refine k_put C d_Mo_object_24 fp_Mo_90 (by decide) rfl I1 (trivial) (fun I3 => ?_)
    refine k_aload_n C d_Mo_object_27 rfl ?_
    refine k_get C d_Mo_object_28 fg_Mo_90 (by decide) rfl ?_
    refine k_top (k_up_eq _ _ _ _ _) ?_
    refine k_if_eq C d_Mo_object_31 (tgt := 36) (by decide) (fun h => absurd h (by decide)) (fun _ => ?_)
    refine k_iconst C d_Mo_object_34 (v := 0) (by decide) ?_
    exact k_ireturn C (E.to (by first | rfl | (simp only [mob_0, mob_1, mob_2, mob_3, mob_4, m_no2, m_th, m_objX, h2, ↓reduceIte, Nat.reduceAdd]; done) | (simp only [mob_0, mob_1, mob_2, mob_3, mob_4, m_no2, m_th, m_objX, h2, ↓reduceIte, Nat.reduceAdd]; rfl) | contradiction | (simp [mob_0, mob_1, mob_2, mob_3, mob_4, m_no2, m_th, m_objX, h2, ↓reduceIte, Nat.reduceAdd]; done) | (simp [mob_0, mob_1, mob_2, mob_3, mob_4, m_no2, m_th, m_objX, h2, ↓reduceIte, Nat.reduceAdd]; rfl)) (by first | rfl | (simp only [mob_0, mob_1, mob_2, mob_3, mob_4, m_no2, m_th, m_objX, h2, ↓reduceIte, Nat.reduceAdd]; done) | (simp only [mob_0, mob_1, mob_2, mob_3, mob_4, m_no2, m_th, m_objX, h2, ↓reduceIte, Nat.reduceAdd]; rfl) | contradiction | (simp [mob_0, mob_1, mob_2, mob_3, mob_4, m_no2, m_th, m_objX, h2, ↓reduceIte, Nat.reduceAdd]; done) | (simp [mob_0, mob_1, mob_2, mob_3, mob_4, m_no2, m_th, m_objX, h2, ↓reduceIte, Nat.reduceAdd]; rfl))) d_Mo_object_35
  · refine k_aload_n C d_Mo_object_10 rfl ?_
    refine k_iload_n C d_Mo_object_11 rfl ?_
    refine k_iconst C d_Mo_object_12 (v := 4) (by decide) ?_
    refine k_callVi C kg_all (c_Mo_no l G _ _ _ I1) cs_Mo_102 cv_Mo_no om_0 (by decide) rfl rfl (Nat.le_of_ble_eq_true rfl) ⟨rfl, rfl⟩ ⟨by decide, by decide⟩ ⟨Nat.zero_le _, Nat.zero_le _⟩ d_Mo_object_13 I1 (fun I4 => ?_)
    refine k_if_eq C d_Mo_object_16 (tgt := 23) (by decide) (fun h5 => ?_) (fun h5 => ?_)
    · refine k_iconst C d_Mo_object_23 (v := 0) (by decide) ?_
      refine k_put C d_Mo_object_24 fp_Mo_90 (by decide) rfl I4 (trivial) (fun I6 => ?_)
      refine k_aload_n C d_Mo_object_27 rfl ?_
      refine k_get C d_Mo_object_28 fg_Mo_90 (by decide) rfl ?_
      refine k_top (k_up_eq _ _ _ _ _) ?_
      refine k_if_eq C d_Mo_object_31 (tgt := 36) (by decide) (fun _ => ?_) (fun h => absurd h (by decide))
      have hq1 := r_no (n := 3) (v := k) (by decide) ‹_›
      have hq2 := r_no (n := 4) (v := w) (by decide) ‹_›
      have hl1 := k_lt hq1
      refine k_iload_n C d_Mo_object_36 rfl ?_
      rcases r_c5 hq2 with rfl | rfl | rfl | rfl | rfl
      · refine k_tabIn C d_Mo_object_37 (by decide) (by decide) (off := 31) (by decide) (tgt := 68) (by decide) ?_
        refine k_aload_n C d_Mo_object_68 rfl ?_
        refine k_getr C d_Mo_object_69 fg_Mo_77 (by decide) rfl ?_
        refine k_iload_n C d_Mo_object_72 rfl ?_
        refine k_top (r_id hq1 (by decide)) ?_
        refine k_iaload C d_Mo_object_73 am_23 (by decide) (vp_in_nI (by omega) (by decide)) (nI_clamp (by omega)) ?_
        exact k_ireturn C (E.to (by first | rfl | (simp only [mob_0, mob_1, mob_2, mob_3, mob_4, m_no2, m_th, m_objX, h2, h5, ↓reduceIte, Nat.reduceAdd]; done) | (simp only [mob_0, mob_1, mob_2, mob_3, mob_4, m_no2, m_th, m_objX, h2, h5, ↓reduceIte, Nat.reduceAdd]; rfl) | contradiction | (simp [mob_0, mob_1, mob_2, mob_3, mob_4, m_no2, m_th, m_objX, h2, h5, ↓reduceIte, Nat.reduceAdd]; done) | (simp [mob_0, mob_1, mob_2, mob_3, mob_4, m_no2, m_th, m_objX, h2, h5, ↓reduceIte, Nat.reduceAdd]; rfl)) (by first | rfl | (simp only [mob_0, mob_1, mob_2, mob_3, mob_4, m_no2, m_th, m_objX, h2, h5, ↓reduceIte, Nat.reduceAdd]; done) | (simp only [mob_0, mob_1, mob_2, mob_3, mob_4, m_no2, m_th, m_objX, h2, h5, ↓reduceIte, Nat.reduceAdd]; rfl) | contradiction | (simp [mob_0, mob_1, mob_2, mob_3, mob_4, m_no2, m_th, m_objX, h2, h5, ↓reduceIte, Nat.reduceAdd]; done) | (simp [mob_0, mob_1, mob_2, mob_3, mob_4, m_no2, m_th, m_objX, h2, h5, ↓reduceIte, Nat.reduceAdd]; rfl))) d_Mo_object_74
      · refine k_tabIn C d_Mo_object_37 (by decide) (by decide) (off := 38) (by decide) (tgt := 75) (by decide) ?_
        refine k_aload_n C d_Mo_object_75 rfl ?_
        refine k_getr C d_Mo_object_76 fg_Mo_68 (by decide) rfl ?_
        refine k_bipush C d_Mo_object_79 (v := 10) (by decide) ?_
        refine k_iload_n C d_Mo_object_81 rfl ?_
        refine k_top (r_id hq1 (by decide)) ?_
        refine k_iadd C d_Mo_object_82 ?_
        refine k_iaload C d_Mo_object_83 am_20 (by decide) (mt (10) (k.toNatClampNeg) 14 (by omega) (by decide)).1 (mt (10) (k.toNatClampNeg) 14 (by omega) (by decide)).2 ?_
        exact k_ireturn C (E.to (by first | rfl | (simp only [mob_0, mob_1, mob_2, mob_3, mob_4, m_no2, m_th, m_objX, h2, h5, ↓reduceIte, Nat.reduceAdd]; done) | (simp only [mob_0, mob_1, mob_2, mob_3, mob_4, m_no2, m_th, m_objX, h2, h5, ↓reduceIte, Nat.reduceAdd]; rfl) | contradiction | (simp [mob_0, mob_1, mob_2, mob_3, mob_4, m_no2, m_th, m_objX, h2, h5, ↓reduceIte, Nat.reduceAdd]; done) | (simp [mob_0, mob_1, mob_2, mob_3, mob_4, m_no2, m_th, m_objX, h2, h5, ↓reduceIte, Nat.reduceAdd]; rfl)) (by first | rfl | (simp only [mob_0, mob_1, mob_2, mob_3, mob_4, m_no2, m_th, m_objX, h2, h5, ↓reduceIte, Nat.reduceAdd]; done) | (simp only [mob_0, mob_1, mob_2, mob_3, mob_4, m_no2, m_th, m_objX, h2, h5, ↓reduceIte, Nat.reduceAdd]; rfl) | contradiction | (simp [mob_0, mob_1, mob_2, mob_3, mob_4, m_no2, m_th, m_objX, h2, h5, ↓reduceIte, Nat.reduceAdd]; done) | (simp [mob_0, mob_1, mob_2, mob_3, mob_4, m_no2, m_th, m_objX, h2, h5, ↓reduceIte, Nat.reduceAdd]; rfl))) d_Mo_object_84
      · refine k_tabIn C d_Mo_object_37 (by decide) (by decide) (off := 48) (by decide) (tgt := 85) (by decide) ?_
        refine k_aload_n C d_Mo_object_85 rfl ?_
        refine k_getr C d_Mo_object_86 fg_Mo_74 (by decide) rfl ?_
        refine k_iload_n C d_Mo_object_89 rfl ?_
        refine k_top (r_id hq1 (by decide)) ?_
        refine k_iaload C d_Mo_object_90 am_22 (by decide) (vp_in_nI (by omega) (by decide)) (nI_clamp (by omega)) ?_
        exact k_ireturn C (E.to (by first | rfl | (simp only [mob_0, mob_1, mob_2, mob_3, mob_4, m_no2, m_th, m_objX, h2, h5, ↓reduceIte, Nat.reduceAdd]; done) | (simp only [mob_0, mob_1, mob_2, mob_3, mob_4, m_no2, m_th, m_objX, h2, h5, ↓reduceIte, Nat.reduceAdd]; rfl) | contradiction | (simp [mob_0, mob_1, mob_2, mob_3, mob_4, m_no2, m_th, m_objX, h2, h5, ↓reduceIte, Nat.reduceAdd]; done) | (simp [mob_0, mob_1, mob_2, mob_3, mob_4, m_no2, m_th, m_objX, h2, h5, ↓reduceIte, Nat.reduceAdd]; rfl)) (by first | rfl | (simp only [mob_0, mob_1, mob_2, mob_3, mob_4, m_no2, m_th, m_objX, h2, h5, ↓reduceIte, Nat.reduceAdd]; done) | (simp only [mob_0, mob_1, mob_2, mob_3, mob_4, m_no2, m_th, m_objX, h2, h5, ↓reduceIte, Nat.reduceAdd]; rfl) | contradiction | (simp [mob_0, mob_1, mob_2, mob_3, mob_4, m_no2, m_th, m_objX, h2, h5, ↓reduceIte, Nat.reduceAdd]; done) | (simp [mob_0, mob_1, mob_2, mob_3, mob_4, m_no2, m_th, m_objX, h2, h5, ↓reduceIte, Nat.reduceAdd]; rfl))) d_Mo_object_91
      · refine k_tabIn C d_Mo_object_37 (by decide) (by decide) (off := 55) (by decide) (tgt := 92) (by decide) ?_
        refine k_aload_n C d_Mo_object_92 rfl ?_
        refine k_getr C d_Mo_object_93 fg_Mo_68 (by decide) rfl ?_
        refine k_iconst C d_Mo_object_96 (v := 2) (by decide) ?_
        refine k_iload_n C d_Mo_object_97 rfl ?_
        refine k_top (r_id hq1 (by decide)) ?_
        refine k_iadd C d_Mo_object_98 ?_
        refine k_iaload C d_Mo_object_99 am_20 (by decide) (mt (2) (k.toNatClampNeg) 14 (by omega) (by decide)).1 (mt (2) (k.toNatClampNeg) 14 (by omega) (by decide)).2 ?_
        exact k_ireturn C (E.to (by first | rfl | (simp only [mob_0, mob_1, mob_2, mob_3, mob_4, m_no2, m_th, m_objX, h2, h5, ↓reduceIte, Nat.reduceAdd]; done) | (simp only [mob_0, mob_1, mob_2, mob_3, mob_4, m_no2, m_th, m_objX, h2, h5, ↓reduceIte, Nat.reduceAdd]; rfl) | contradiction | (simp [mob_0, mob_1, mob_2, mob_3, mob_4, m_no2, m_th, m_objX, h2, h5, ↓reduceIte, Nat.reduceAdd]; done) | (simp [mob_0, mob_1, mob_2, mob_3, mob_4, m_no2, m_th, m_objX, h2, h5, ↓reduceIte, Nat.reduceAdd]; rfl)) (by first | rfl | (simp only [mob_0, mob_1, mob_2, mob_3, mob_4, m_no2, m_th, m_objX, h2, h5, ↓reduceIte, Nat.reduceAdd]; done) | (simp only [mob_0, mob_1, mob_2, mob_3, mob_4, m_no2, m_th, m_objX, h2, h5, ↓reduceIte, Nat.reduceAdd]; rfl) | contradiction | (simp [mob_0, mob_1, mob_2, mob_3, mob_4, m_no2, m_th, m_objX, h2, h5, ↓reduceIte, Nat.reduceAdd]; done) | (simp [mob_0, mob_1, mob_2, mob_3, mob_4, m_no2, m_th, m_objX, h2, h5, ↓reduceIte, Nat.reduceAdd]; rfl))) d_Mo_object_100
      · refine k_tabOut C d_Mo_object_37 (by decide) (tgt := 101) (by decide) ?_
        refine k_aload_n C d_Mo_object_101 rfl ?_
        refine k_getr C d_Mo_object_102 fg_Mo_68 (by decide) rfl ?_
        refine k_bipush C d_Mo_object_105 (v := 6) (by decide) ?_
        refine k_iload_n C d_Mo_object_107 rfl ?_
        refine k_top (r_id hq1 (by decide)) ?_
        refine k_iadd C d_Mo_object_108 ?_
        refine k_iaload C d_Mo_object_109 am_20 (by decide) (mt (6) (k.toNatClampNeg) 14 (by omega) (by decide)).1 (mt (6) (k.toNatClampNeg) 14 (by omega) (by decide)).2 ?_
        exact k_ireturn C (E.to (by first | rfl | (simp only [mob_0, mob_1, mob_2, mob_3, mob_4, m_no2, m_th, m_objX, h2, h5, ↓reduceIte, Nat.reduceAdd]; done) | (simp only [mob_0, mob_1, mob_2, mob_3, mob_4, m_no2, m_th, m_objX, h2, h5, ↓reduceIte, Nat.reduceAdd]; rfl) | contradiction | (simp [mob_0, mob_1, mob_2, mob_3, mob_4, m_no2, m_th, m_objX, h2, h5, ↓reduceIte, Nat.reduceAdd]; done) | (simp [mob_0, mob_1, mob_2, mob_3, mob_4, m_no2, m_th, m_objX, h2, h5, ↓reduceIte, Nat.reduceAdd]; rfl)) (by first | rfl | (simp only [mob_0, mob_1, mob_2, mob_3, mob_4, m_no2, m_th, m_objX, h2, h5, ↓reduceIte, Nat.reduceAdd]; done) | (simp only [mob_0, mob_1, mob_2, mob_3, mob_4, m_no2, m_th, m_objX, h2, h5, ↓reduceIte, Nat.reduceAdd]; rfl) | contradiction | (simp [mob_0, mob_1, mob_2, mob_3, mob_4, m_no2, m_th, m_objX, h2, h5, ↓reduceIte, Nat.reduceAdd]; done) | (simp [mob_0, mob_1, mob_2, mob_3, mob_4, m_no2, m_th, m_objX, h2, h5, ↓reduceIte, Nat.reduceAdd]; rfl))) d_Mo_object_110
    · refine k_iconst C d_Mo_object_19 (v := 1) (by decide) ?_
      refine k_goto C d_Mo_object_20 (tgt := 24) (by decide) ?_
      refine k_put C d_Mo_object_24 fp_Mo_90 (by decide) rfl I4 (trivial) (fun I7 => ?_)
      refine k_aload_n C d_Mo_object_27 rfl ?_
      refine k_get C d_Mo_object_28 fg_Mo_90 (by decide) rfl ?_
      refine k_top (k_up_eq _ _ _ _ _) ?_
      refine k_if_eq C d_Mo_object_31 (tgt := 36) (by decide) (fun h => absurd h (by decide)) (fun _ => ?_)
      refine k_iconst C d_Mo_object_34 (v := 0) (by decide) ?_
      exact k_ireturn C (E.to (by first | rfl | (simp only [mob_0, mob_1, mob_2, mob_3, mob_4, m_no2, m_th, m_objX, h2, h5, ↓reduceIte, Nat.reduceAdd]; done) | (simp only [mob_0, mob_1, mob_2, mob_3, mob_4, m_no2, m_th, m_objX, h2, h5, ↓reduceIte, Nat.reduceAdd]; rfl) | contradiction | (simp [mob_0, mob_1, mob_2, mob_3, mob_4, m_no2, m_th, m_objX, h2, h5, ↓reduceIte, Nat.reduceAdd]; done) | (simp [mob_0, mob_1, mob_2, mob_3, mob_4, m_no2, m_th, m_objX, h2, h5, ↓reduceIte, Nat.reduceAdd]; rfl)) (by first | rfl | (simp only [mob_0, mob_1, mob_2, mob_3, mob_4, m_no2, m_th, m_objX, h2, h5, ↓reduceIte, Nat.reduceAdd]; done) | (simp only [mob_0, mob_1, mob_2, mob_3, mob_4, m_no2, m_th, m_objX, h2, h5, ↓reduceIte, Nat.reduceAdd]; rfl) | contradiction | (simp [mob_0, mob_1, mob_2, mob_3, mob_4, m_no2, m_th, m_objX, h2, h5, ↓reduceIte, Nat.reduceAdd]; done) | (simp [mob_0, mob_1, mob_2, mob_3, mob_4, m_no2, m_th, m_objX, h2, h5, ↓reduceIte, Nat.reduceAdd]; rfl))) d_Mo_object_35
set_option maxHeartbeats 4000000 in
set_option maxRecDepth 100000 in
theorem c_Mo_written (l : Launch) (G : kG) (K : kM) (i : Int32) (w : Int32)   (I0 : m_Inv K) : k_Met l mS kT y_Mo_written b_Mo_written 3 (some .int) (k_rm 1) G [.ref (G.2.2 0 0), .int i, .int w] K (some (.int (m_wriX K i w))) (m_th K (m_no2 i 31 w 3)) := by
  refine k_intro (by decide +kernel) rfl (Nat.le_of_ble_eq_true rfl) ?_
  intro X C E
  refine k_aload_n C d_Mo_written_0 rfl ?_
  refine k_aload_n C d_Mo_written_1 rfl ?_
  refine k_iload_n C d_Mo_written_2 rfl ?_
  refine k_bipush C d_Mo_written_3 (v := 31) (by decide) ?_
  refine k_callVi C kg_all (c_Mo_no l G _ _ _ I0) cs_Mo_102 cv_Mo_no om_0 (by decide) rfl rfl (Nat.le_of_ble_eq_true rfl) ⟨rfl, rfl⟩ ⟨by decide, by decide⟩ ⟨Nat.zero_le _, Nat.zero_le _⟩ d_Mo_written_5 I0 (fun I1 => ?_)
  refine k_if_ne C d_Mo_written_8 (tgt := 20) (by decide) (fun h2 => ?_) (fun h2 => ?_)
  · refine k_iconst C d_Mo_written_20 (v := 1) (by decide) ?_
    refine k_goto C d_Mo_written_21 (tgt := 25) (by decide) ?_
    refine k_put C d_Mo_written_25 fp_Mo_90 (by decide) rfl I1 (trivial) (fun I3 => ?_)
    refine k_aload_n C d_Mo_written_28 rfl ?_
    refine k_get C d_Mo_written_29 fg_Mo_90 (by decide) rfl ?_
    refine k_top (k_up_eq _ _ _ _ _) ?_
    refine k_if_eq C d_Mo_written_32 (tgt := 37) (by decide) (fun h => absurd h (by decide)) (fun _ => ?_)
    refine k_iconst C d_Mo_written_35 (v := 0) (by decide) ?_
    exact k_ireturn C (E.to (by first | rfl | (simp only [m_wriX, m_no2, m_th, h2, ↓reduceIte, Nat.reduceAdd]; done) | (simp only [m_wriX, m_no2, m_th, h2, ↓reduceIte, Nat.reduceAdd]; rfl) | contradiction | (simp [m_wriX, m_no2, m_th, h2, ↓reduceIte, Nat.reduceAdd]; done) | (simp [m_wriX, m_no2, m_th, h2, ↓reduceIte, Nat.reduceAdd]; rfl)) (by first | rfl | (simp only [m_wriX, m_no2, m_th, h2, ↓reduceIte, Nat.reduceAdd]; done) | (simp only [m_wriX, m_no2, m_th, h2, ↓reduceIte, Nat.reduceAdd]; rfl) | contradiction | (simp [m_wriX, m_no2, m_th, h2, ↓reduceIte, Nat.reduceAdd]; done) | (simp [m_wriX, m_no2, m_th, h2, ↓reduceIte, Nat.reduceAdd]; rfl))) d_Mo_written_36
  · refine k_aload_n C d_Mo_written_11 rfl ?_
    refine k_iload_n C d_Mo_written_12 rfl ?_
    refine k_iconst C d_Mo_written_13 (v := 3) (by decide) ?_
    refine k_callVi C kg_all (c_Mo_no l G _ _ _ I1) cs_Mo_102 cv_Mo_no om_0 (by decide) rfl rfl (Nat.le_of_ble_eq_true rfl) ⟨rfl, rfl⟩ ⟨by decide, by decide⟩ ⟨Nat.zero_le _, Nat.zero_le _⟩ d_Mo_written_14 I1 (fun I4 => ?_)
    refine k_if_eq C d_Mo_written_17 (tgt := 24) (by decide) (fun h5 => ?_) (fun h5 => ?_)
    · refine k_iconst C d_Mo_written_24 (v := 0) (by decide) ?_
      refine k_put C d_Mo_written_25 fp_Mo_90 (by decide) rfl I4 (trivial) (fun I6 => ?_)
      refine k_aload_n C d_Mo_written_28 rfl ?_
      refine k_get C d_Mo_written_29 fg_Mo_90 (by decide) rfl ?_
      refine k_top (k_up_eq _ _ _ _ _) ?_
      refine k_if_eq C d_Mo_written_32 (tgt := 37) (by decide) (fun _ => ?_) (fun h => absurd h (by decide))
      have hq1 := r_no (n := 31) (v := i) (by decide) ‹_›
      have hl1 := k_lt hq1
      refine k_iload_n C d_Mo_written_37 rfl ?_
      refine k_if_ne C d_Mo_written_38 (tgt := 50) (by decide) (fun h7 => ?_) (fun h7 => ?_)
      · refine k_iload_n C d_Mo_written_50 rfl ?_
        refine k_iconst C d_Mo_written_51 (v := 1) (by decide) ?_
        refine k_icmp_ne C d_Mo_written_52 (tgt := 64) (by decide) (fun h8 => ?_) (fun h8 => ?_)
        · refine k_iload_n C d_Mo_written_64 rfl ?_
          refine k_iconst C d_Mo_written_65 (v := 2) (by decide) ?_
          refine k_icmp_ne C d_Mo_written_66 (tgt := 78) (by decide) (fun h9 => ?_) (fun h9 => ?_)
          · refine k_aload_n C d_Mo_written_78 rfl ?_
            refine k_getr C d_Mo_written_79 fg_Mo_19 (by decide) rfl ?_
            refine k_iload_n C d_Mo_written_82 rfl ?_
            refine k_top (r_id hq1 (by decide)) ?_
            refine k_iaload C d_Mo_written_83 am_4 (by decide) (vp_in_nI (by omega) (by decide)) (nI_clamp (by omega)) ?_
            exact k_ireturn C (E.to (by first | rfl | (simp only [m_wriX, m_no2, m_th, h2, h5, h7, h8, h9, ↓reduceIte, Nat.reduceAdd]; done) | (simp only [m_wriX, m_no2, m_th, h2, h5, h7, h8, h9, ↓reduceIte, Nat.reduceAdd]; rfl) | contradiction | (simp [m_wriX, m_no2, m_th, h2, h5, h7, h8, h9, ↓reduceIte, Nat.reduceAdd]; done) | (simp [m_wriX, m_no2, m_th, h2, h5, h7, h8, h9, ↓reduceIte, Nat.reduceAdd]; rfl)) (by first | rfl | (simp only [m_wriX, m_no2, m_th, h2, h5, h7, h8, h9, ↓reduceIte, Nat.reduceAdd]; done) | (simp only [m_wriX, m_no2, m_th, h2, h5, h7, h8, h9, ↓reduceIte, Nat.reduceAdd]; rfl) | contradiction | (simp [m_wriX, m_no2, m_th, h2, h5, h7, h8, h9, ↓reduceIte, Nat.reduceAdd]; done) | (simp [m_wriX, m_no2, m_th, h2, h5, h7, h8, h9, ↓reduceIte, Nat.reduceAdd]; rfl))) d_Mo_written_84
          · refine k_aload_n C d_Mo_written_69 rfl ?_
            refine k_getr C d_Mo_written_70 fg_Mo_16 (by decide) rfl ?_
            refine k_iload_n C d_Mo_written_73 rfl ?_
            refine k_top (r_id hq1 (by decide)) ?_
            refine k_iaload C d_Mo_written_74 am_3 (by decide) (vp_in_nI (by omega) (by decide)) (nI_clamp (by omega)) ?_
            refine k_goto C d_Mo_written_75 (tgt := 84) (by decide) ?_
            exact k_ireturn C (E.to (by first | rfl | (simp only [m_wriX, m_no2, m_th, h2, h5, h7, h8, h9, ↓reduceIte, Nat.reduceAdd]; done) | (simp only [m_wriX, m_no2, m_th, h2, h5, h7, h8, h9, ↓reduceIte, Nat.reduceAdd]; rfl) | contradiction | (simp [m_wriX, m_no2, m_th, h2, h5, h7, h8, h9, ↓reduceIte, Nat.reduceAdd]; done) | (simp [m_wriX, m_no2, m_th, h2, h5, h7, h8, h9, ↓reduceIte, Nat.reduceAdd]; rfl)) (by first | rfl | (simp only [m_wriX, m_no2, m_th, h2, h5, h7, h8, h9, ↓reduceIte, Nat.reduceAdd]; done) | (simp only [m_wriX, m_no2, m_th, h2, h5, h7, h8, h9, ↓reduceIte, Nat.reduceAdd]; rfl) | contradiction | (simp [m_wriX, m_no2, m_th, h2, h5, h7, h8, h9, ↓reduceIte, Nat.reduceAdd]; done) | (simp [m_wriX, m_no2, m_th, h2, h5, h7, h8, h9, ↓reduceIte, Nat.reduceAdd]; rfl))) d_Mo_written_84
        · refine k_aload_n C d_Mo_written_55 rfl ?_
          refine k_getr C d_Mo_written_56 fg_Mo_13 (by decide) rfl ?_
          refine k_iload_n C d_Mo_written_59 rfl ?_
          refine k_top (r_id hq1 (by decide)) ?_
          refine k_iaload C d_Mo_written_60 am_2 (by decide) (vp_in_nI (by omega) (by decide)) (nI_clamp (by omega)) ?_
          refine k_goto C d_Mo_written_61 (tgt := 84) (by decide) ?_
          exact k_ireturn C (E.to (by first | rfl | (simp only [m_wriX, m_no2, m_th, h2, h5, h7, h8, ↓reduceIte, Nat.reduceAdd]; done) | (simp only [m_wriX, m_no2, m_th, h2, h5, h7, h8, ↓reduceIte, Nat.reduceAdd]; rfl) | contradiction | (simp [m_wriX, m_no2, m_th, h2, h5, h7, h8, ↓reduceIte, Nat.reduceAdd]; done) | (simp [m_wriX, m_no2, m_th, h2, h5, h7, h8, ↓reduceIte, Nat.reduceAdd]; rfl)) (by first | rfl | (simp only [m_wriX, m_no2, m_th, h2, h5, h7, h8, ↓reduceIte, Nat.reduceAdd]; done) | (simp only [m_wriX, m_no2, m_th, h2, h5, h7, h8, ↓reduceIte, Nat.reduceAdd]; rfl) | contradiction | (simp [m_wriX, m_no2, m_th, h2, h5, h7, h8, ↓reduceIte, Nat.reduceAdd]; done) | (simp [m_wriX, m_no2, m_th, h2, h5, h7, h8, ↓reduceIte, Nat.reduceAdd]; rfl))) d_Mo_written_84
      · refine k_aload_n C d_Mo_written_41 rfl ?_
        refine k_getr C d_Mo_written_42 fg_Mo_7 (by decide) rfl ?_
        refine k_iload_n C d_Mo_written_45 rfl ?_
        refine k_top (r_id hq1 (by decide)) ?_
        refine k_iaload C d_Mo_written_46 am_1 (by decide) (vp_in_nI (by omega) (by decide)) (nI_clamp (by omega)) ?_
        refine k_goto C d_Mo_written_47 (tgt := 84) (by decide) ?_
        exact k_ireturn C (E.to (by first | rfl | (simp only [m_wriX, m_no2, m_th, h2, h5, h7, ↓reduceIte, Nat.reduceAdd]; done) | (simp only [m_wriX, m_no2, m_th, h2, h5, h7, ↓reduceIte, Nat.reduceAdd]; rfl) | contradiction | (simp [m_wriX, m_no2, m_th, h2, h5, h7, ↓reduceIte, Nat.reduceAdd]; done) | (simp [m_wriX, m_no2, m_th, h2, h5, h7, ↓reduceIte, Nat.reduceAdd]; rfl)) (by first | rfl | (simp only [m_wriX, m_no2, m_th, h2, h5, h7, ↓reduceIte, Nat.reduceAdd]; done) | (simp only [m_wriX, m_no2, m_th, h2, h5, h7, ↓reduceIte, Nat.reduceAdd]; rfl) | contradiction | (simp [m_wriX, m_no2, m_th, h2, h5, h7, ↓reduceIte, Nat.reduceAdd]; done) | (simp [m_wriX, m_no2, m_th, h2, h5, h7, ↓reduceIte, Nat.reduceAdd]; rfl))) d_Mo_written_84
    · refine k_iconst C d_Mo_written_20 (v := 1) (by decide) ?_
      refine k_goto C d_Mo_written_21 (tgt := 25) (by decide) ?_
      refine k_put C d_Mo_written_25 fp_Mo_90 (by decide) rfl I4 (trivial) (fun I10 => ?_)
      refine k_aload_n C d_Mo_written_28 rfl ?_
      refine k_get C d_Mo_written_29 fg_Mo_90 (by decide) rfl ?_
      refine k_top (k_up_eq _ _ _ _ _) ?_
      refine k_if_eq C d_Mo_written_32 (tgt := 37) (by decide) (fun h => absurd h (by decide)) (fun _ => ?_)
      refine k_iconst C d_Mo_written_35 (v := 0) (by decide) ?_
      exact k_ireturn C (E.to (by first | rfl | (simp only [m_wriX, m_no2, m_th, h2, h5, ↓reduceIte, Nat.reduceAdd]; done) | (simp only [m_wriX, m_no2, m_th, h2, h5, ↓reduceIte, Nat.reduceAdd]; rfl) | contradiction | (simp [m_wriX, m_no2, m_th, h2, h5, ↓reduceIte, Nat.reduceAdd]; done) | (simp [m_wriX, m_no2, m_th, h2, h5, ↓reduceIte, Nat.reduceAdd]; rfl)) (by first | rfl | (simp only [m_wriX, m_no2, m_th, h2, h5, ↓reduceIte, Nat.reduceAdd]; done) | (simp only [m_wriX, m_no2, m_th, h2, h5, ↓reduceIte, Nat.reduceAdd]; rfl) | contradiction | (simp [m_wriX, m_no2, m_th, h2, h5, ↓reduceIte, Nat.reduceAdd]; done) | (simp [m_wriX, m_no2, m_th, h2, h5, ↓reduceIte, Nat.reduceAdd]; rfl))) d_Mo_written_36
set_option maxHeartbeats 4000000 in
set_option maxRecDepth 100000 in
theorem c_Mo_code (l : Launch) (G : kG) (K : kM) (i : Int32) (o : Int32) (a : Int32) (b : Int32) (n : Int32)   (I0 : m_Inv K) : k_Met l mS kT y_Mo_code b_Mo_code 6 none (k_rm 1) G [.ref (G.2.2 0 0), .int i, .int o, .int a, .int b, .int n] K none (m_codT K i o a b n) := by
  refine k_intro (by decide +kernel) rfl (Nat.le_of_ble_eq_true rfl) ?_
  intro X C E
  refine k_aload_n C d_Mo_code_0 rfl ?_
  refine k_aload_n C d_Mo_code_1 rfl ?_
  refine k_iload_n C d_Mo_code_2 rfl ?_
  refine k_bipush C d_Mo_code_3 (v := 31) (by decide) ?_
  refine k_callVi C kg_all (c_Mo_no l G _ _ _ I0) cs_Mo_102 cv_Mo_no om_0 (by decide) rfl rfl (Nat.le_of_ble_eq_true rfl) ⟨rfl, rfl⟩ ⟨by decide, by decide⟩ ⟨Nat.zero_le _, Nat.zero_le _⟩ d_Mo_code_5 I0 (fun I1 => ?_)
  refine k_if_ne C d_Mo_code_8 (tgt := 40) (by decide) (fun h2 => ?_) (fun h2 => ?_)
  · refine k_iconst C d_Mo_code_40 (v := 1) (by decide) ?_
    refine k_goto C d_Mo_code_41 (tgt := 45) (by decide) ?_
    refine k_put C d_Mo_code_45 fp_Mo_90 (by decide) rfl I1 (trivial) (fun I3 => ?_)
    refine k_aload_n C d_Mo_code_48 rfl ?_
    refine k_get C d_Mo_code_49 fg_Mo_90 (by decide) rfl ?_
    refine k_top (k_up_eq _ _ _ _ _) ?_
    refine k_if_eq C d_Mo_code_52 (tgt := 56) (by decide) (fun h => absurd h (by decide)) (fun _ => ?_)
    exact k_return C (E.to rfl (by first | rfl | (simp only [m_codT, m_cdS, h2, ↓reduceIte, Nat.reduceAdd]; done) | (simp only [m_codT, m_cdS, h2, ↓reduceIte, Nat.reduceAdd]; rfl) | contradiction | (simp [m_codT, m_cdS, h2, ↓reduceIte, Nat.reduceAdd]; done) | (simp [m_codT, m_cdS, h2, ↓reduceIte, Nat.reduceAdd]; rfl))) d_Mo_code_55
  · refine k_aload_n C d_Mo_code_11 rfl ?_
    refine k_iload_n C d_Mo_code_12 rfl ?_
    refine k_bipush C d_Mo_code_13 (v := 21) (by decide) ?_
    refine k_callVi C kg_all (c_Mo_no l G _ _ _ I1) cs_Mo_102 cv_Mo_no om_0 (by decide) rfl rfl (Nat.le_of_ble_eq_true rfl) ⟨rfl, rfl⟩ ⟨by decide, by decide⟩ ⟨Nat.zero_le _, Nat.zero_le _⟩ d_Mo_code_15 I1 (fun I4 => ?_)
    refine k_if_ne C d_Mo_code_18 (tgt := 40) (by decide) (fun h5 => ?_) (fun h5 => ?_)
    · refine k_iconst C d_Mo_code_40 (v := 1) (by decide) ?_
      refine k_goto C d_Mo_code_41 (tgt := 45) (by decide) ?_
      refine k_put C d_Mo_code_45 fp_Mo_90 (by decide) rfl I4 (trivial) (fun I6 => ?_)
      refine k_aload_n C d_Mo_code_48 rfl ?_
      refine k_get C d_Mo_code_49 fg_Mo_90 (by decide) rfl ?_
      refine k_top (k_up_eq _ _ _ _ _) ?_
      refine k_if_eq C d_Mo_code_52 (tgt := 56) (by decide) (fun h => absurd h (by decide)) (fun _ => ?_)
      exact k_return C (E.to rfl (by first | rfl | (simp only [m_codT, m_cdS, h2, h5, ↓reduceIte, Nat.reduceAdd]; done) | (simp only [m_codT, m_cdS, h2, h5, ↓reduceIte, Nat.reduceAdd]; rfl) | contradiction | (simp [m_codT, m_cdS, h2, h5, ↓reduceIte, Nat.reduceAdd]; done) | (simp [m_codT, m_cdS, h2, h5, ↓reduceIte, Nat.reduceAdd]; rfl))) d_Mo_code_55
    · refine k_aload_n C d_Mo_code_21 rfl ?_
      refine k_iload_n C d_Mo_code_22 rfl ?_
      refine k_iconst C d_Mo_code_23 (v := 3) (by decide) ?_
      refine k_callVi C kg_all (c_Mo_no l G _ _ _ I4) cs_Mo_102 cv_Mo_no om_0 (by decide) rfl rfl (Nat.le_of_ble_eq_true rfl) ⟨rfl, rfl⟩ ⟨by decide, by decide⟩ ⟨Nat.zero_le _, Nat.zero_le _⟩ d_Mo_code_24 I4 (fun I7 => ?_)
      refine k_if_ne C d_Mo_code_27 (tgt := 40) (by decide) (fun h8 => ?_) (fun h8 => ?_)
      · refine k_iconst C d_Mo_code_40 (v := 1) (by decide) ?_
        refine k_goto C d_Mo_code_41 (tgt := 45) (by decide) ?_
        refine k_put C d_Mo_code_45 fp_Mo_90 (by decide) rfl I7 (trivial) (fun I9 => ?_)
        refine k_aload_n C d_Mo_code_48 rfl ?_
        refine k_get C d_Mo_code_49 fg_Mo_90 (by decide) rfl ?_
        refine k_top (k_up_eq _ _ _ _ _) ?_
        refine k_if_eq C d_Mo_code_52 (tgt := 56) (by decide) (fun h => absurd h (by decide)) (fun _ => ?_)
        exact k_return C (E.to rfl (by first | rfl | (simp only [m_codT, m_cdS, h2, h5, h8, ↓reduceIte, Nat.reduceAdd]; done) | (simp only [m_codT, m_cdS, h2, h5, h8, ↓reduceIte, Nat.reduceAdd]; rfl) | contradiction | (simp [m_codT, m_cdS, h2, h5, h8, ↓reduceIte, Nat.reduceAdd]; done) | (simp [m_codT, m_cdS, h2, h5, h8, ↓reduceIte, Nat.reduceAdd]; rfl))) d_Mo_code_55
      · refine k_aload_n C d_Mo_code_30 rfl ?_
        refine k_iload C d_Mo_code_31 rfl ?_
        refine k_iconst C d_Mo_code_33 (v := 3) (by decide) ?_
        refine k_callVi C kg_all (c_Mo_no l G _ _ _ I7) cs_Mo_102 cv_Mo_no om_0 (by decide) rfl rfl (Nat.le_of_ble_eq_true rfl) ⟨rfl, rfl⟩ ⟨by decide, by decide⟩ ⟨Nat.zero_le _, Nat.zero_le _⟩ d_Mo_code_34 I7 (fun I10 => ?_)
        refine k_if_eq C d_Mo_code_37 (tgt := 44) (by decide) (fun h11 => ?_) (fun h11 => ?_)
        · refine k_iconst C d_Mo_code_44 (v := 0) (by decide) ?_
          refine k_put C d_Mo_code_45 fp_Mo_90 (by decide) rfl I10 (trivial) (fun I12 => ?_)
          refine k_aload_n C d_Mo_code_48 rfl ?_
          refine k_get C d_Mo_code_49 fg_Mo_90 (by decide) rfl ?_
          refine k_top (k_up_eq _ _ _ _ _) ?_
          refine k_if_eq C d_Mo_code_52 (tgt := 56) (by decide) (fun _ => ?_) (fun h => absurd h (by decide))
          refine k_aload_n C d_Mo_code_56 rfl ?_
          refine k_getr C d_Mo_code_57 fg_Mo_7 (by decide) rfl ?_
          refine k_iload_n C d_Mo_code_60 rfl ?_
          refine k_iload_n C d_Mo_code_61 rfl ?_
          refine k_iastore C d_Mo_code_62 am_1 (by decide) (r_no (n := 31) (v := i) (by decide) ‹_›) rfl I12 (r_no (n := 21) (v := o) (by decide) ‹_›) (fun I13 => ?_)
          refine k_aload_n C d_Mo_code_63 rfl ?_
          refine k_getr C d_Mo_code_64 fg_Mo_13 (by decide) rfl ?_
          refine k_iload_n C d_Mo_code_67 rfl ?_
          refine k_iload_n C d_Mo_code_68 rfl ?_
          refine k_iastore C d_Mo_code_69 am_2 (by decide) (r_no (n := 31) (v := i) (by decide) ‹_›) rfl I13 (r_no (n := 3) (v := a) (by decide) ‹_›) (fun I14 => ?_)
          refine k_aload_n C d_Mo_code_70 rfl ?_
          refine k_getr C d_Mo_code_71 fg_Mo_16 (by decide) rfl ?_
          refine k_iload_n C d_Mo_code_74 rfl ?_
          refine k_iload C d_Mo_code_75 rfl ?_
          refine k_iastore C d_Mo_code_77 am_3 (by decide) (r_no (n := 31) (v := i) (by decide) ‹_›) rfl I14 (r_no (n := 3) (v := b) (by decide) ‹_›) (fun I15 => ?_)
          refine k_aload_n C d_Mo_code_78 rfl ?_
          refine k_getr C d_Mo_code_79 fg_Mo_19 (by decide) rfl ?_
          refine k_iload_n C d_Mo_code_82 rfl ?_
          refine k_iload C d_Mo_code_83 rfl ?_
          refine k_iastore C d_Mo_code_85 am_4 (by decide) (r_no (n := 31) (v := i) (by decide) ‹_›) rfl I15 (trivial) (fun I16 => ?_)
          exact k_return C (E.to rfl (by first | rfl | (simp only [m_codT, m_cdS, h2, h5, h8, h11, ↓reduceIte, Nat.reduceAdd]; done) | (simp only [m_codT, m_cdS, h2, h5, h8, h11, ↓reduceIte, Nat.reduceAdd]; rfl) | contradiction | (simp [m_codT, m_cdS, h2, h5, h8, h11, ↓reduceIte, Nat.reduceAdd]; done) | (simp [m_codT, m_cdS, h2, h5, h8, h11, ↓reduceIte, Nat.reduceAdd]; rfl))) d_Mo_code_86
        · refine k_iconst C d_Mo_code_40 (v := 1) (by decide) ?_
          refine k_goto C d_Mo_code_41 (tgt := 45) (by decide) ?_
          refine k_put C d_Mo_code_45 fp_Mo_90 (by decide) rfl I10 (trivial) (fun I17 => ?_)
          refine k_aload_n C d_Mo_code_48 rfl ?_
          refine k_get C d_Mo_code_49 fg_Mo_90 (by decide) rfl ?_
          refine k_top (k_up_eq _ _ _ _ _) ?_
          refine k_if_eq C d_Mo_code_52 (tgt := 56) (by decide) (fun h => absurd h (by decide)) (fun _ => ?_)
          exact k_return C (E.to rfl (by first | rfl | (simp only [m_codT, m_cdS, h2, h5, h8, h11, ↓reduceIte, Nat.reduceAdd]; done) | (simp only [m_codT, m_cdS, h2, h5, h8, h11, ↓reduceIte, Nat.reduceAdd]; rfl) | contradiction | (simp [m_codT, m_cdS, h2, h5, h8, h11, ↓reduceIte, Nat.reduceAdd]; done) | (simp [m_codT, m_cdS, h2, h5, h8, h11, ↓reduceIte, Nat.reduceAdd]; rfl))) d_Mo_code_55
set_option maxHeartbeats 4000000 in
set_option maxRecDepth 100000 in
theorem b_mct {X : kX} {G : kG} {l : Launch} {K : kM} (C : k_C X kT b_Mo_count y_Mo_count.cls mS G 4 l (k_rm 0)) (w : Int32) (I0 : m_Inv K) (E : k_E X (some .int) (some (.int (m_cntX K w))) K 0 0) : k_W X 0 0 33 [(2, .int (m_fr K 12)), (0, .ref (G.2.2 0 0)), (1, .int w)] [] K := by
  refine k_iload_n C d_Mo_count_33 rfl ?_
  rcases r_w22 w with h | rfl | rfl | rfl | rfl | rfl | rfl | rfl | rfl | rfl | rfl | rfl | rfl | rfl | rfl | rfl | rfl | rfl | rfl | rfl | rfl | rfl | rfl
  · refine k_tabOut C d_Mo_count_34 h (tgt := 193) (by decide) ?_
    refine k_bipush C d_Mo_count_193 (v := (-2)) (by decide) ?_
    exact k_ireturn C (E.to (by first | (simp only [mk_0, mk_1, mk_2, mk_3, mk_4, mk_5, mk_6, mk_7, mk_8, mk_9, mk_10, mk_11, mk_12, mk_13, mk_14, mk_15, mk_16, mk_17, mk_18, mk_19, mk_20, mk_21, mk_o K h, ↓reduceIte]; done) | (simp only [mk_0, mk_1, mk_2, mk_3, mk_4, mk_5, mk_6, mk_7, mk_8, mk_9, mk_10, mk_11, mk_12, mk_13, mk_14, mk_15, mk_16, mk_17, mk_18, mk_19, mk_20, mk_21, mk_o K h, ↓reduceIte]; rfl) | contradiction | rfl) (by first | (simp only [mk_0, mk_1, mk_2, mk_3, mk_4, mk_5, mk_6, mk_7, mk_8, mk_9, mk_10, mk_11, mk_12, mk_13, mk_14, mk_15, mk_16, mk_17, mk_18, mk_19, mk_20, mk_21, mk_o K h, ↓reduceIte]; done) | (simp only [mk_0, mk_1, mk_2, mk_3, mk_4, mk_5, mk_6, mk_7, mk_8, mk_9, mk_10, mk_11, mk_12, mk_13, mk_14, mk_15, mk_16, mk_17, mk_18, mk_19, mk_20, mk_21, mk_o K h, ↓reduceIte]; rfl) | contradiction | rfl)) d_Mo_count_195
  · refine k_tabIn C d_Mo_count_34 (by decide) (by decide) (off := 102) (by decide) (tgt := 136) (by decide) ?_
    refine k_aload_n C d_Mo_count_136 rfl ?_
    refine k_get C d_Mo_count_137 fg_Mo_165 (by decide) rfl ?_
    exact k_ireturn C (E.to (by first | (simp only [mk_0, mk_1, mk_2, mk_3, mk_4, mk_5, mk_6, mk_7, mk_8, mk_9, mk_10, mk_11, mk_12, mk_13, mk_14, mk_15, mk_16, mk_17, mk_18, mk_19, mk_20, mk_21, ↓reduceIte]; done) | (simp only [mk_0, mk_1, mk_2, mk_3, mk_4, mk_5, mk_6, mk_7, mk_8, mk_9, mk_10, mk_11, mk_12, mk_13, mk_14, mk_15, mk_16, mk_17, mk_18, mk_19, mk_20, mk_21, ↓reduceIte]; rfl) | contradiction | rfl) (by first | (simp only [mk_0, mk_1, mk_2, mk_3, mk_4, mk_5, mk_6, mk_7, mk_8, mk_9, mk_10, mk_11, mk_12, mk_13, mk_14, mk_15, mk_16, mk_17, mk_18, mk_19, mk_20, mk_21, ↓reduceIte]; done) | (simp only [mk_0, mk_1, mk_2, mk_3, mk_4, mk_5, mk_6, mk_7, mk_8, mk_9, mk_10, mk_11, mk_12, mk_13, mk_14, mk_15, mk_16, mk_17, mk_18, mk_19, mk_20, mk_21, ↓reduceIte]; rfl) | contradiction | rfl)) d_Mo_count_140
  · refine k_tabIn C d_Mo_count_34 (by decide) (by decide) (off := 107) (by decide) (tgt := 141) (by decide) ?_
    refine k_aload_n C d_Mo_count_141 rfl ?_
    refine k_get C d_Mo_count_142 fg_Mo_155 (by decide) rfl ?_
    exact k_ireturn C (E.to (by first | (simp only [mk_0, mk_1, mk_2, mk_3, mk_4, mk_5, mk_6, mk_7, mk_8, mk_9, mk_10, mk_11, mk_12, mk_13, mk_14, mk_15, mk_16, mk_17, mk_18, mk_19, mk_20, mk_21, ↓reduceIte]; done) | (simp only [mk_0, mk_1, mk_2, mk_3, mk_4, mk_5, mk_6, mk_7, mk_8, mk_9, mk_10, mk_11, mk_12, mk_13, mk_14, mk_15, mk_16, mk_17, mk_18, mk_19, mk_20, mk_21, ↓reduceIte]; rfl) | contradiction | rfl) (by first | (simp only [mk_0, mk_1, mk_2, mk_3, mk_4, mk_5, mk_6, mk_7, mk_8, mk_9, mk_10, mk_11, mk_12, mk_13, mk_14, mk_15, mk_16, mk_17, mk_18, mk_19, mk_20, mk_21, ↓reduceIte]; done) | (simp only [mk_0, mk_1, mk_2, mk_3, mk_4, mk_5, mk_6, mk_7, mk_8, mk_9, mk_10, mk_11, mk_12, mk_13, mk_14, mk_15, mk_16, mk_17, mk_18, mk_19, mk_20, mk_21, ↓reduceIte]; rfl) | contradiction | rfl)) d_Mo_count_145
  · refine k_tabIn C d_Mo_count_34 (by decide) (by decide) (off := 112) (by decide) (tgt := 146) (by decide) ?_
    refine k_aload_n C d_Mo_count_146 rfl ?_
    refine k_get C d_Mo_count_147 fg_Mo_116 (by decide) rfl ?_
    exact k_ireturn C (E.to (by first | (simp only [mk_0, mk_1, mk_2, mk_3, mk_4, mk_5, mk_6, mk_7, mk_8, mk_9, mk_10, mk_11, mk_12, mk_13, mk_14, mk_15, mk_16, mk_17, mk_18, mk_19, mk_20, mk_21, ↓reduceIte]; done) | (simp only [mk_0, mk_1, mk_2, mk_3, mk_4, mk_5, mk_6, mk_7, mk_8, mk_9, mk_10, mk_11, mk_12, mk_13, mk_14, mk_15, mk_16, mk_17, mk_18, mk_19, mk_20, mk_21, ↓reduceIte]; rfl) | contradiction | rfl) (by first | (simp only [mk_0, mk_1, mk_2, mk_3, mk_4, mk_5, mk_6, mk_7, mk_8, mk_9, mk_10, mk_11, mk_12, mk_13, mk_14, mk_15, mk_16, mk_17, mk_18, mk_19, mk_20, mk_21, ↓reduceIte]; done) | (simp only [mk_0, mk_1, mk_2, mk_3, mk_4, mk_5, mk_6, mk_7, mk_8, mk_9, mk_10, mk_11, mk_12, mk_13, mk_14, mk_15, mk_16, mk_17, mk_18, mk_19, mk_20, mk_21, ↓reduceIte]; rfl) | contradiction | rfl)) d_Mo_count_150
  · refine k_tabIn C d_Mo_count_34 (by decide) (by decide) (off := 117) (by decide) (tgt := 151) (by decide) ?_
    refine k_aload_n C d_Mo_count_151 rfl ?_
    refine k_get C d_Mo_count_152 fg_Mo_122 (by decide) rfl ?_
    exact k_ireturn C (E.to (by first | (simp only [mk_0, mk_1, mk_2, mk_3, mk_4, mk_5, mk_6, mk_7, mk_8, mk_9, mk_10, mk_11, mk_12, mk_13, mk_14, mk_15, mk_16, mk_17, mk_18, mk_19, mk_20, mk_21, ↓reduceIte]; done) | (simp only [mk_0, mk_1, mk_2, mk_3, mk_4, mk_5, mk_6, mk_7, mk_8, mk_9, mk_10, mk_11, mk_12, mk_13, mk_14, mk_15, mk_16, mk_17, mk_18, mk_19, mk_20, mk_21, ↓reduceIte]; rfl) | contradiction | rfl) (by first | (simp only [mk_0, mk_1, mk_2, mk_3, mk_4, mk_5, mk_6, mk_7, mk_8, mk_9, mk_10, mk_11, mk_12, mk_13, mk_14, mk_15, mk_16, mk_17, mk_18, mk_19, mk_20, mk_21, ↓reduceIte]; done) | (simp only [mk_0, mk_1, mk_2, mk_3, mk_4, mk_5, mk_6, mk_7, mk_8, mk_9, mk_10, mk_11, mk_12, mk_13, mk_14, mk_15, mk_16, mk_17, mk_18, mk_19, mk_20, mk_21, ↓reduceIte]; rfl) | contradiction | rfl)) d_Mo_count_155
  · refine k_tabIn C d_Mo_count_34 (by decide) (by decide) (off := 122) (by decide) (tgt := 156) (by decide) ?_
    refine k_aload_n C d_Mo_count_156 rfl ?_
    refine k_get C d_Mo_count_157 fg_Mo_125 (by decide) rfl ?_
    exact k_ireturn C (E.to (by first | (simp only [mk_0, mk_1, mk_2, mk_3, mk_4, mk_5, mk_6, mk_7, mk_8, mk_9, mk_10, mk_11, mk_12, mk_13, mk_14, mk_15, mk_16, mk_17, mk_18, mk_19, mk_20, mk_21, ↓reduceIte]; done) | (simp only [mk_0, mk_1, mk_2, mk_3, mk_4, mk_5, mk_6, mk_7, mk_8, mk_9, mk_10, mk_11, mk_12, mk_13, mk_14, mk_15, mk_16, mk_17, mk_18, mk_19, mk_20, mk_21, ↓reduceIte]; rfl) | contradiction | rfl) (by first | (simp only [mk_0, mk_1, mk_2, mk_3, mk_4, mk_5, mk_6, mk_7, mk_8, mk_9, mk_10, mk_11, mk_12, mk_13, mk_14, mk_15, mk_16, mk_17, mk_18, mk_19, mk_20, mk_21, ↓reduceIte]; done) | (simp only [mk_0, mk_1, mk_2, mk_3, mk_4, mk_5, mk_6, mk_7, mk_8, mk_9, mk_10, mk_11, mk_12, mk_13, mk_14, mk_15, mk_16, mk_17, mk_18, mk_19, mk_20, mk_21, ↓reduceIte]; rfl) | contradiction | rfl)) d_Mo_count_160
  · refine k_tabIn C d_Mo_count_34 (by decide) (by decide) (off := 127) (by decide) (tgt := 161) (by decide) ?_
    refine k_iload_n C d_Mo_count_161 rfl ?_
    exact k_ireturn C (E.to (by first | (simp only [mk_0, mk_1, mk_2, mk_3, mk_4, mk_5, mk_6, mk_7, mk_8, mk_9, mk_10, mk_11, mk_12, mk_13, mk_14, mk_15, mk_16, mk_17, mk_18, mk_19, mk_20, mk_21, ↓reduceIte]; done) | (simp only [mk_0, mk_1, mk_2, mk_3, mk_4, mk_5, mk_6, mk_7, mk_8, mk_9, mk_10, mk_11, mk_12, mk_13, mk_14, mk_15, mk_16, mk_17, mk_18, mk_19, mk_20, mk_21, ↓reduceIte]; rfl) | contradiction | rfl) (by first | (simp only [mk_0, mk_1, mk_2, mk_3, mk_4, mk_5, mk_6, mk_7, mk_8, mk_9, mk_10, mk_11, mk_12, mk_13, mk_14, mk_15, mk_16, mk_17, mk_18, mk_19, mk_20, mk_21, ↓reduceIte]; done) | (simp only [mk_0, mk_1, mk_2, mk_3, mk_4, mk_5, mk_6, mk_7, mk_8, mk_9, mk_10, mk_11, mk_12, mk_13, mk_14, mk_15, mk_16, mk_17, mk_18, mk_19, mk_20, mk_21, ↓reduceIte]; rfl) | contradiction | rfl)) d_Mo_count_162
  · refine k_tabIn C d_Mo_count_34 (by decide) (by decide) (off := 129) (by decide) (tgt := 163) (by decide) ?_
    refine k_aload_n C d_Mo_count_163 rfl ?_
    refine k_get C d_Mo_count_164 fg_Mo_171 (by decide) rfl ?_
    exact k_ireturn C (E.to (by first | (simp only [mk_0, mk_1, mk_2, mk_3, mk_4, mk_5, mk_6, mk_7, mk_8, mk_9, mk_10, mk_11, mk_12, mk_13, mk_14, mk_15, mk_16, mk_17, mk_18, mk_19, mk_20, mk_21, ↓reduceIte]; done) | (simp only [mk_0, mk_1, mk_2, mk_3, mk_4, mk_5, mk_6, mk_7, mk_8, mk_9, mk_10, mk_11, mk_12, mk_13, mk_14, mk_15, mk_16, mk_17, mk_18, mk_19, mk_20, mk_21, ↓reduceIte]; rfl) | contradiction | rfl) (by first | (simp only [mk_0, mk_1, mk_2, mk_3, mk_4, mk_5, mk_6, mk_7, mk_8, mk_9, mk_10, mk_11, mk_12, mk_13, mk_14, mk_15, mk_16, mk_17, mk_18, mk_19, mk_20, mk_21, ↓reduceIte]; done) | (simp only [mk_0, mk_1, mk_2, mk_3, mk_4, mk_5, mk_6, mk_7, mk_8, mk_9, mk_10, mk_11, mk_12, mk_13, mk_14, mk_15, mk_16, mk_17, mk_18, mk_19, mk_20, mk_21, ↓reduceIte]; rfl) | contradiction | rfl)) d_Mo_count_167
  · refine k_tabIn C d_Mo_count_34 (by decide) (by decide) (off := 134) (by decide) (tgt := 168) (by decide) ?_
    refine k_aload_n C d_Mo_count_168 rfl ?_
    refine k_get C d_Mo_count_169 fg_Mo_168 (by decide) rfl ?_
    exact k_ireturn C (E.to (by first | (simp only [mk_0, mk_1, mk_2, mk_3, mk_4, mk_5, mk_6, mk_7, mk_8, mk_9, mk_10, mk_11, mk_12, mk_13, mk_14, mk_15, mk_16, mk_17, mk_18, mk_19, mk_20, mk_21, ↓reduceIte]; done) | (simp only [mk_0, mk_1, mk_2, mk_3, mk_4, mk_5, mk_6, mk_7, mk_8, mk_9, mk_10, mk_11, mk_12, mk_13, mk_14, mk_15, mk_16, mk_17, mk_18, mk_19, mk_20, mk_21, ↓reduceIte]; rfl) | contradiction | rfl) (by first | (simp only [mk_0, mk_1, mk_2, mk_3, mk_4, mk_5, mk_6, mk_7, mk_8, mk_9, mk_10, mk_11, mk_12, mk_13, mk_14, mk_15, mk_16, mk_17, mk_18, mk_19, mk_20, mk_21, ↓reduceIte]; done) | (simp only [mk_0, mk_1, mk_2, mk_3, mk_4, mk_5, mk_6, mk_7, mk_8, mk_9, mk_10, mk_11, mk_12, mk_13, mk_14, mk_15, mk_16, mk_17, mk_18, mk_19, mk_20, mk_21, ↓reduceIte]; rfl) | contradiction | rfl)) d_Mo_count_172
  · refine k_tabIn C d_Mo_count_34 (by decide) (by decide) (off := 159) (by decide) (tgt := 193) (by decide) ?_
    refine k_bipush C d_Mo_count_193 (v := (-2)) (by decide) ?_
    exact k_ireturn C (E.to (by first | (simp only [mk_0, mk_1, mk_2, mk_3, mk_4, mk_5, mk_6, mk_7, mk_8, mk_9, mk_10, mk_11, mk_12, mk_13, mk_14, mk_15, mk_16, mk_17, mk_18, mk_19, mk_20, mk_21, ↓reduceIte]; done) | (simp only [mk_0, mk_1, mk_2, mk_3, mk_4, mk_5, mk_6, mk_7, mk_8, mk_9, mk_10, mk_11, mk_12, mk_13, mk_14, mk_15, mk_16, mk_17, mk_18, mk_19, mk_20, mk_21, ↓reduceIte]; rfl) | contradiction | rfl) (by first | (simp only [mk_0, mk_1, mk_2, mk_3, mk_4, mk_5, mk_6, mk_7, mk_8, mk_9, mk_10, mk_11, mk_12, mk_13, mk_14, mk_15, mk_16, mk_17, mk_18, mk_19, mk_20, mk_21, ↓reduceIte]; done) | (simp only [mk_0, mk_1, mk_2, mk_3, mk_4, mk_5, mk_6, mk_7, mk_8, mk_9, mk_10, mk_11, mk_12, mk_13, mk_14, mk_15, mk_16, mk_17, mk_18, mk_19, mk_20, mk_21, ↓reduceIte]; rfl) | contradiction | rfl)) d_Mo_count_195
  · refine k_tabIn C d_Mo_count_34 (by decide) (by decide) (off := 159) (by decide) (tgt := 193) (by decide) ?_
    refine k_bipush C d_Mo_count_193 (v := (-2)) (by decide) ?_
    exact k_ireturn C (E.to (by first | (simp only [mk_0, mk_1, mk_2, mk_3, mk_4, mk_5, mk_6, mk_7, mk_8, mk_9, mk_10, mk_11, mk_12, mk_13, mk_14, mk_15, mk_16, mk_17, mk_18, mk_19, mk_20, mk_21, ↓reduceIte]; done) | (simp only [mk_0, mk_1, mk_2, mk_3, mk_4, mk_5, mk_6, mk_7, mk_8, mk_9, mk_10, mk_11, mk_12, mk_13, mk_14, mk_15, mk_16, mk_17, mk_18, mk_19, mk_20, mk_21, ↓reduceIte]; rfl) | contradiction | rfl) (by first | (simp only [mk_0, mk_1, mk_2, mk_3, mk_4, mk_5, mk_6, mk_7, mk_8, mk_9, mk_10, mk_11, mk_12, mk_13, mk_14, mk_15, mk_16, mk_17, mk_18, mk_19, mk_20, mk_21, ↓reduceIte]; done) | (simp only [mk_0, mk_1, mk_2, mk_3, mk_4, mk_5, mk_6, mk_7, mk_8, mk_9, mk_10, mk_11, mk_12, mk_13, mk_14, mk_15, mk_16, mk_17, mk_18, mk_19, mk_20, mk_21, ↓reduceIte]; rfl) | contradiction | rfl)) d_Mo_count_195
  · refine k_tabIn C d_Mo_count_34 (by decide) (by decide) (off := 139) (by decide) (tgt := 173) (by decide) ?_
    refine k_aload_n C d_Mo_count_173 rfl ?_
    refine k_getr C d_Mo_count_174 fg_Mo_80 (by decide) rfl ?_
    refine k_iload_n C d_Mo_count_177 rfl ?_
    refine k_bipush C d_Mo_count_178 (v := 10) (by decide) ?_
    refine k_isub C d_Mo_count_180 ?_
    refine k_iaload C d_Mo_count_181 am_24 (by decide) (k_in (by decide)) (j := 0) (by decide) ?_
    exact k_ireturn C (E.to (by first | (simp only [mk_0, mk_1, mk_2, mk_3, mk_4, mk_5, mk_6, mk_7, mk_8, mk_9, mk_10, mk_11, mk_12, mk_13, mk_14, mk_15, mk_16, mk_17, mk_18, mk_19, mk_20, mk_21, ↓reduceIte]; done) | (simp only [mk_0, mk_1, mk_2, mk_3, mk_4, mk_5, mk_6, mk_7, mk_8, mk_9, mk_10, mk_11, mk_12, mk_13, mk_14, mk_15, mk_16, mk_17, mk_18, mk_19, mk_20, mk_21, ↓reduceIte]; rfl) | contradiction | rfl) (by first | (simp only [mk_0, mk_1, mk_2, mk_3, mk_4, mk_5, mk_6, mk_7, mk_8, mk_9, mk_10, mk_11, mk_12, mk_13, mk_14, mk_15, mk_16, mk_17, mk_18, mk_19, mk_20, mk_21, ↓reduceIte]; done) | (simp only [mk_0, mk_1, mk_2, mk_3, mk_4, mk_5, mk_6, mk_7, mk_8, mk_9, mk_10, mk_11, mk_12, mk_13, mk_14, mk_15, mk_16, mk_17, mk_18, mk_19, mk_20, mk_21, ↓reduceIte]; rfl) | contradiction | rfl)) d_Mo_count_182
  · refine k_tabIn C d_Mo_count_34 (by decide) (by decide) (off := 139) (by decide) (tgt := 173) (by decide) ?_
    refine k_aload_n C d_Mo_count_173 rfl ?_
    refine k_getr C d_Mo_count_174 fg_Mo_80 (by decide) rfl ?_
    refine k_iload_n C d_Mo_count_177 rfl ?_
    refine k_bipush C d_Mo_count_178 (v := 10) (by decide) ?_
    refine k_isub C d_Mo_count_180 ?_
    refine k_iaload C d_Mo_count_181 am_24 (by decide) (k_in (by decide)) (j := 1) (by decide) ?_
    exact k_ireturn C (E.to (by first | (simp only [mk_0, mk_1, mk_2, mk_3, mk_4, mk_5, mk_6, mk_7, mk_8, mk_9, mk_10, mk_11, mk_12, mk_13, mk_14, mk_15, mk_16, mk_17, mk_18, mk_19, mk_20, mk_21, ↓reduceIte]; done) | (simp only [mk_0, mk_1, mk_2, mk_3, mk_4, mk_5, mk_6, mk_7, mk_8, mk_9, mk_10, mk_11, mk_12, mk_13, mk_14, mk_15, mk_16, mk_17, mk_18, mk_19, mk_20, mk_21, ↓reduceIte]; rfl) | contradiction | rfl) (by first | (simp only [mk_0, mk_1, mk_2, mk_3, mk_4, mk_5, mk_6, mk_7, mk_8, mk_9, mk_10, mk_11, mk_12, mk_13, mk_14, mk_15, mk_16, mk_17, mk_18, mk_19, mk_20, mk_21, ↓reduceIte]; done) | (simp only [mk_0, mk_1, mk_2, mk_3, mk_4, mk_5, mk_6, mk_7, mk_8, mk_9, mk_10, mk_11, mk_12, mk_13, mk_14, mk_15, mk_16, mk_17, mk_18, mk_19, mk_20, mk_21, ↓reduceIte]; rfl) | contradiction | rfl)) d_Mo_count_182
  · refine k_tabIn C d_Mo_count_34 (by decide) (by decide) (off := 159) (by decide) (tgt := 193) (by decide) ?_
    refine k_bipush C d_Mo_count_193 (v := (-2)) (by decide) ?_
    exact k_ireturn C (E.to (by first | (simp only [mk_0, mk_1, mk_2, mk_3, mk_4, mk_5, mk_6, mk_7, mk_8, mk_9, mk_10, mk_11, mk_12, mk_13, mk_14, mk_15, mk_16, mk_17, mk_18, mk_19, mk_20, mk_21, ↓reduceIte]; done) | (simp only [mk_0, mk_1, mk_2, mk_3, mk_4, mk_5, mk_6, mk_7, mk_8, mk_9, mk_10, mk_11, mk_12, mk_13, mk_14, mk_15, mk_16, mk_17, mk_18, mk_19, mk_20, mk_21, ↓reduceIte]; rfl) | contradiction | rfl) (by first | (simp only [mk_0, mk_1, mk_2, mk_3, mk_4, mk_5, mk_6, mk_7, mk_8, mk_9, mk_10, mk_11, mk_12, mk_13, mk_14, mk_15, mk_16, mk_17, mk_18, mk_19, mk_20, mk_21, ↓reduceIte]; done) | (simp only [mk_0, mk_1, mk_2, mk_3, mk_4, mk_5, mk_6, mk_7, mk_8, mk_9, mk_10, mk_11, mk_12, mk_13, mk_14, mk_15, mk_16, mk_17, mk_18, mk_19, mk_20, mk_21, ↓reduceIte]; rfl) | contradiction | rfl)) d_Mo_count_195
  · refine k_tabIn C d_Mo_count_34 (by decide) (by decide) (off := 159) (by decide) (tgt := 193) (by decide) ?_
    refine k_bipush C d_Mo_count_193 (v := (-2)) (by decide) ?_
    exact k_ireturn C (E.to (by first | (simp only [mk_0, mk_1, mk_2, mk_3, mk_4, mk_5, mk_6, mk_7, mk_8, mk_9, mk_10, mk_11, mk_12, mk_13, mk_14, mk_15, mk_16, mk_17, mk_18, mk_19, mk_20, mk_21, ↓reduceIte]; done) | (simp only [mk_0, mk_1, mk_2, mk_3, mk_4, mk_5, mk_6, mk_7, mk_8, mk_9, mk_10, mk_11, mk_12, mk_13, mk_14, mk_15, mk_16, mk_17, mk_18, mk_19, mk_20, mk_21, ↓reduceIte]; rfl) | contradiction | rfl) (by first | (simp only [mk_0, mk_1, mk_2, mk_3, mk_4, mk_5, mk_6, mk_7, mk_8, mk_9, mk_10, mk_11, mk_12, mk_13, mk_14, mk_15, mk_16, mk_17, mk_18, mk_19, mk_20, mk_21, ↓reduceIte]; done) | (simp only [mk_0, mk_1, mk_2, mk_3, mk_4, mk_5, mk_6, mk_7, mk_8, mk_9, mk_10, mk_11, mk_12, mk_13, mk_14, mk_15, mk_16, mk_17, mk_18, mk_19, mk_20, mk_21, ↓reduceIte]; rfl) | contradiction | rfl)) d_Mo_count_195
  · refine k_tabIn C d_Mo_count_34 (by decide) (by decide) (off := 159) (by decide) (tgt := 193) (by decide) ?_
    refine k_bipush C d_Mo_count_193 (v := (-2)) (by decide) ?_
    exact k_ireturn C (E.to (by first | (simp only [mk_0, mk_1, mk_2, mk_3, mk_4, mk_5, mk_6, mk_7, mk_8, mk_9, mk_10, mk_11, mk_12, mk_13, mk_14, mk_15, mk_16, mk_17, mk_18, mk_19, mk_20, mk_21, ↓reduceIte]; done) | (simp only [mk_0, mk_1, mk_2, mk_3, mk_4, mk_5, mk_6, mk_7, mk_8, mk_9, mk_10, mk_11, mk_12, mk_13, mk_14, mk_15, mk_16, mk_17, mk_18, mk_19, mk_20, mk_21, ↓reduceIte]; rfl) | contradiction | rfl) (by first | (simp only [mk_0, mk_1, mk_2, mk_3, mk_4, mk_5, mk_6, mk_7, mk_8, mk_9, mk_10, mk_11, mk_12, mk_13, mk_14, mk_15, mk_16, mk_17, mk_18, mk_19, mk_20, mk_21, ↓reduceIte]; done) | (simp only [mk_0, mk_1, mk_2, mk_3, mk_4, mk_5, mk_6, mk_7, mk_8, mk_9, mk_10, mk_11, mk_12, mk_13, mk_14, mk_15, mk_16, mk_17, mk_18, mk_19, mk_20, mk_21, ↓reduceIte]; rfl) | contradiction | rfl)) d_Mo_count_195
  · refine k_tabIn C d_Mo_count_34 (by decide) (by decide) (off := 159) (by decide) (tgt := 193) (by decide) ?_
    refine k_bipush C d_Mo_count_193 (v := (-2)) (by decide) ?_
    exact k_ireturn C (E.to (by first | (simp only [mk_0, mk_1, mk_2, mk_3, mk_4, mk_5, mk_6, mk_7, mk_8, mk_9, mk_10, mk_11, mk_12, mk_13, mk_14, mk_15, mk_16, mk_17, mk_18, mk_19, mk_20, mk_21, ↓reduceIte]; done) | (simp only [mk_0, mk_1, mk_2, mk_3, mk_4, mk_5, mk_6, mk_7, mk_8, mk_9, mk_10, mk_11, mk_12, mk_13, mk_14, mk_15, mk_16, mk_17, mk_18, mk_19, mk_20, mk_21, ↓reduceIte]; rfl) | contradiction | rfl) (by first | (simp only [mk_0, mk_1, mk_2, mk_3, mk_4, mk_5, mk_6, mk_7, mk_8, mk_9, mk_10, mk_11, mk_12, mk_13, mk_14, mk_15, mk_16, mk_17, mk_18, mk_19, mk_20, mk_21, ↓reduceIte]; done) | (simp only [mk_0, mk_1, mk_2, mk_3, mk_4, mk_5, mk_6, mk_7, mk_8, mk_9, mk_10, mk_11, mk_12, mk_13, mk_14, mk_15, mk_16, mk_17, mk_18, mk_19, mk_20, mk_21, ↓reduceIte]; rfl) | contradiction | rfl)) d_Mo_count_195
  · refine k_tabIn C d_Mo_count_34 (by decide) (by decide) (off := 159) (by decide) (tgt := 193) (by decide) ?_
    refine k_bipush C d_Mo_count_193 (v := (-2)) (by decide) ?_
    exact k_ireturn C (E.to (by first | (simp only [mk_0, mk_1, mk_2, mk_3, mk_4, mk_5, mk_6, mk_7, mk_8, mk_9, mk_10, mk_11, mk_12, mk_13, mk_14, mk_15, mk_16, mk_17, mk_18, mk_19, mk_20, mk_21, ↓reduceIte]; done) | (simp only [mk_0, mk_1, mk_2, mk_3, mk_4, mk_5, mk_6, mk_7, mk_8, mk_9, mk_10, mk_11, mk_12, mk_13, mk_14, mk_15, mk_16, mk_17, mk_18, mk_19, mk_20, mk_21, ↓reduceIte]; rfl) | contradiction | rfl) (by first | (simp only [mk_0, mk_1, mk_2, mk_3, mk_4, mk_5, mk_6, mk_7, mk_8, mk_9, mk_10, mk_11, mk_12, mk_13, mk_14, mk_15, mk_16, mk_17, mk_18, mk_19, mk_20, mk_21, ↓reduceIte]; done) | (simp only [mk_0, mk_1, mk_2, mk_3, mk_4, mk_5, mk_6, mk_7, mk_8, mk_9, mk_10, mk_11, mk_12, mk_13, mk_14, mk_15, mk_16, mk_17, mk_18, mk_19, mk_20, mk_21, ↓reduceIte]; rfl) | contradiction | rfl)) d_Mo_count_195
  · refine k_tabIn C d_Mo_count_34 (by decide) (by decide) (off := 159) (by decide) (tgt := 193) (by decide) ?_
    refine k_bipush C d_Mo_count_193 (v := (-2)) (by decide) ?_
    exact k_ireturn C (E.to (by first | (simp only [mk_0, mk_1, mk_2, mk_3, mk_4, mk_5, mk_6, mk_7, mk_8, mk_9, mk_10, mk_11, mk_12, mk_13, mk_14, mk_15, mk_16, mk_17, mk_18, mk_19, mk_20, mk_21, ↓reduceIte]; done) | (simp only [mk_0, mk_1, mk_2, mk_3, mk_4, mk_5, mk_6, mk_7, mk_8, mk_9, mk_10, mk_11, mk_12, mk_13, mk_14, mk_15, mk_16, mk_17, mk_18, mk_19, mk_20, mk_21, ↓reduceIte]; rfl) | contradiction | rfl) (by first | (simp only [mk_0, mk_1, mk_2, mk_3, mk_4, mk_5, mk_6, mk_7, mk_8, mk_9, mk_10, mk_11, mk_12, mk_13, mk_14, mk_15, mk_16, mk_17, mk_18, mk_19, mk_20, mk_21, ↓reduceIte]; done) | (simp only [mk_0, mk_1, mk_2, mk_3, mk_4, mk_5, mk_6, mk_7, mk_8, mk_9, mk_10, mk_11, mk_12, mk_13, mk_14, mk_15, mk_16, mk_17, mk_18, mk_19, mk_20, mk_21, ↓reduceIte]; rfl) | contradiction | rfl)) d_Mo_count_195
  · refine k_tabIn C d_Mo_count_34 (by decide) (by decide) (off := 159) (by decide) (tgt := 193) (by decide) ?_
    refine k_bipush C d_Mo_count_193 (v := (-2)) (by decide) ?_
    exact k_ireturn C (E.to (by first | (simp only [mk_0, mk_1, mk_2, mk_3, mk_4, mk_5, mk_6, mk_7, mk_8, mk_9, mk_10, mk_11, mk_12, mk_13, mk_14, mk_15, mk_16, mk_17, mk_18, mk_19, mk_20, mk_21, ↓reduceIte]; done) | (simp only [mk_0, mk_1, mk_2, mk_3, mk_4, mk_5, mk_6, mk_7, mk_8, mk_9, mk_10, mk_11, mk_12, mk_13, mk_14, mk_15, mk_16, mk_17, mk_18, mk_19, mk_20, mk_21, ↓reduceIte]; rfl) | contradiction | rfl) (by first | (simp only [mk_0, mk_1, mk_2, mk_3, mk_4, mk_5, mk_6, mk_7, mk_8, mk_9, mk_10, mk_11, mk_12, mk_13, mk_14, mk_15, mk_16, mk_17, mk_18, mk_19, mk_20, mk_21, ↓reduceIte]; done) | (simp only [mk_0, mk_1, mk_2, mk_3, mk_4, mk_5, mk_6, mk_7, mk_8, mk_9, mk_10, mk_11, mk_12, mk_13, mk_14, mk_15, mk_16, mk_17, mk_18, mk_19, mk_20, mk_21, ↓reduceIte]; rfl) | contradiction | rfl)) d_Mo_count_195
  · refine k_tabIn C d_Mo_count_34 (by decide) (by decide) (off := 159) (by decide) (tgt := 193) (by decide) ?_
    refine k_bipush C d_Mo_count_193 (v := (-2)) (by decide) ?_
    exact k_ireturn C (E.to (by first | (simp only [mk_0, mk_1, mk_2, mk_3, mk_4, mk_5, mk_6, mk_7, mk_8, mk_9, mk_10, mk_11, mk_12, mk_13, mk_14, mk_15, mk_16, mk_17, mk_18, mk_19, mk_20, mk_21, ↓reduceIte]; done) | (simp only [mk_0, mk_1, mk_2, mk_3, mk_4, mk_5, mk_6, mk_7, mk_8, mk_9, mk_10, mk_11, mk_12, mk_13, mk_14, mk_15, mk_16, mk_17, mk_18, mk_19, mk_20, mk_21, ↓reduceIte]; rfl) | contradiction | rfl) (by first | (simp only [mk_0, mk_1, mk_2, mk_3, mk_4, mk_5, mk_6, mk_7, mk_8, mk_9, mk_10, mk_11, mk_12, mk_13, mk_14, mk_15, mk_16, mk_17, mk_18, mk_19, mk_20, mk_21, ↓reduceIte]; done) | (simp only [mk_0, mk_1, mk_2, mk_3, mk_4, mk_5, mk_6, mk_7, mk_8, mk_9, mk_10, mk_11, mk_12, mk_13, mk_14, mk_15, mk_16, mk_17, mk_18, mk_19, mk_20, mk_21, ↓reduceIte]; rfl) | contradiction | rfl)) d_Mo_count_195
  · refine k_tabIn C d_Mo_count_34 (by decide) (by decide) (off := 149) (by decide) (tgt := 183) (by decide) ?_
    refine k_aload_n C d_Mo_count_183 rfl ?_
    refine k_getr C d_Mo_count_184 fg_Mo_68 (by decide) rfl ?_
    refine k_iload_n C d_Mo_count_187 rfl ?_
    refine k_bipush C d_Mo_count_188 (v := 20) (by decide) ?_
    refine k_isub C d_Mo_count_190 ?_
    refine k_iaload C d_Mo_count_191 am_20 (by decide) (k_in (by decide)) (j := 0) (by decide) ?_
    exact k_ireturn C (E.to (by first | (simp only [mk_0, mk_1, mk_2, mk_3, mk_4, mk_5, mk_6, mk_7, mk_8, mk_9, mk_10, mk_11, mk_12, mk_13, mk_14, mk_15, mk_16, mk_17, mk_18, mk_19, mk_20, mk_21, ↓reduceIte]; done) | (simp only [mk_0, mk_1, mk_2, mk_3, mk_4, mk_5, mk_6, mk_7, mk_8, mk_9, mk_10, mk_11, mk_12, mk_13, mk_14, mk_15, mk_16, mk_17, mk_18, mk_19, mk_20, mk_21, ↓reduceIte]; rfl) | contradiction | rfl) (by first | (simp only [mk_0, mk_1, mk_2, mk_3, mk_4, mk_5, mk_6, mk_7, mk_8, mk_9, mk_10, mk_11, mk_12, mk_13, mk_14, mk_15, mk_16, mk_17, mk_18, mk_19, mk_20, mk_21, ↓reduceIte]; done) | (simp only [mk_0, mk_1, mk_2, mk_3, mk_4, mk_5, mk_6, mk_7, mk_8, mk_9, mk_10, mk_11, mk_12, mk_13, mk_14, mk_15, mk_16, mk_17, mk_18, mk_19, mk_20, mk_21, ↓reduceIte]; rfl) | contradiction | rfl)) d_Mo_count_192
  · refine k_tabIn C d_Mo_count_34 (by decide) (by decide) (off := 149) (by decide) (tgt := 183) (by decide) ?_
    refine k_aload_n C d_Mo_count_183 rfl ?_
    refine k_getr C d_Mo_count_184 fg_Mo_68 (by decide) rfl ?_
    refine k_iload_n C d_Mo_count_187 rfl ?_
    refine k_bipush C d_Mo_count_188 (v := 20) (by decide) ?_
    refine k_isub C d_Mo_count_190 ?_
    refine k_iaload C d_Mo_count_191 am_20 (by decide) (k_in (by decide)) (j := 1) (by decide) ?_
    exact k_ireturn C (E.to (by first | (simp only [mk_0, mk_1, mk_2, mk_3, mk_4, mk_5, mk_6, mk_7, mk_8, mk_9, mk_10, mk_11, mk_12, mk_13, mk_14, mk_15, mk_16, mk_17, mk_18, mk_19, mk_20, mk_21, ↓reduceIte]; done) | (simp only [mk_0, mk_1, mk_2, mk_3, mk_4, mk_5, mk_6, mk_7, mk_8, mk_9, mk_10, mk_11, mk_12, mk_13, mk_14, mk_15, mk_16, mk_17, mk_18, mk_19, mk_20, mk_21, ↓reduceIte]; rfl) | contradiction | rfl) (by first | (simp only [mk_0, mk_1, mk_2, mk_3, mk_4, mk_5, mk_6, mk_7, mk_8, mk_9, mk_10, mk_11, mk_12, mk_13, mk_14, mk_15, mk_16, mk_17, mk_18, mk_19, mk_20, mk_21, ↓reduceIte]; done) | (simp only [mk_0, mk_1, mk_2, mk_3, mk_4, mk_5, mk_6, mk_7, mk_8, mk_9, mk_10, mk_11, mk_12, mk_13, mk_14, mk_15, mk_16, mk_17, mk_18, mk_19, mk_20, mk_21, ↓reduceIte]; rfl) | contradiction | rfl)) d_Mo_count_192
set_option maxHeartbeats 4000000 in
set_option maxRecDepth 100000 in
theorem b_mcf {X : kX} {G : kG} {l : Launch} {K : kM} (C : k_C X kT b_Mo_count y_Mo_count.cls mS G 4 l (k_rm 0)) (w : Int32) (I0 : m_Inv K) : ∀ (c i : Nat), c + i = 12 → k_E X (some .int) (some (.int (m_cntX K w))) K 0 0 → k_W X 0 0 9 [(3, .int (nI i)), (2, .int (m_fr K i)), (0, .ref (G.2.2 0 0)), (1, .int w)] [] K
  | 0, i, hc, E => by
    have e : i = 12 := by omega
    subst e
    refine k_iload_n C d_Mo_count_9 rfl ?_
    refine k_bipush C d_Mo_count_10 (v := 12) (by decide) ?_
    refine k_icmp_ge C d_Mo_count_12 (tgt := 33) (by decide) (fun h1 => ?_) (fun h1 => absurd (by decide : (12 : Int32) ≤ nI 12) h1)
    exact k_loc [(2, .int (m_fr K 12)), (0, .ref (G.2.2 0 0)), (1, .int w)] ⟨rfl, rfl, rfl, trivial⟩ (b_mct C w I0 E)
  | c + 1, i, hc, E => by
    have hi : i < 12 := by omega
    refine k_iload_n C d_Mo_count_9 rfl ?_
    refine k_bipush C d_Mo_count_10 (v := 12) (by decide) ?_
    refine k_icmp_ge C d_Mo_count_12 (tgt := 33) (by decide) (fun h1 => absurd h1 (nI_ge hi (by decide))) (fun h1 => ?_)
    refine k_aload_n C d_Mo_count_15 rfl ?_
    refine k_getr C d_Mo_count_16 fg_Mo_61 (by decide) rfl ?_
    refine k_iload_n C d_Mo_count_19 rfl ?_
    refine k_zaload C d_Mo_count_20 am_18 (by decide) (vp_in_nI (by omega) (by decide)) (nI_clamp (by omega)) ?_
    refine k_if_ne C d_Mo_count_21 (tgt := 27) (by decide) (fun h2 => ?_) (fun h2 => ?_)
    · refine k_iinc C d_Mo_count_27 rfl (v := nI (i + 1)) (nI_1 i) (by decide) ?_
      refine k_goto C d_Mo_count_30 (tgt := 9) (by decide) ?_
      exact k_loc [(3, .int (nI (i + 1))), (2, .int (m_fr K (i + 1))), (0, .ref (G.2.2 0 0)), (1, .int w)] ⟨rfl, (by simp only [m_fr, h2, ↓reduceIte]; rfl), rfl, rfl, trivial⟩ (b_mcf C w I0 c (i + 1) (by omega) E)
    · refine k_iinc C d_Mo_count_24 rfl rfl (by decide) ?_
      refine k_iinc C d_Mo_count_27 rfl (v := nI (i + 1)) (nI_1 i) (by decide) ?_
      refine k_goto C d_Mo_count_30 (tgt := 9) (by decide) ?_
      exact k_loc [(3, .int (nI (i + 1))), (2, .int (m_fr K (i + 1))), (0, .ref (G.2.2 0 0)), (1, .int w)] ⟨rfl, (by simp only [m_fr, h2, ↓reduceIte]; rfl), rfl, rfl, trivial⟩ (b_mcf C w I0 c (i + 1) (by omega) E)
set_option maxHeartbeats 4000000 in
set_option maxRecDepth 100000 in
theorem c_Mo_count (l : Launch) (G : kG) (K : kM) (w : Int32)   (I0 : m_Inv K) : k_Met l mS kT y_Mo_count b_Mo_count 4 (some .int) (k_rm 0) G [.ref (G.2.2 0 0), .int w] K (some (.int (m_cntX (m_th K 0) w))) (m_th K 0) := by
  refine k_intro (by decide +kernel) rfl (Nat.le_of_ble_eq_true rfl) ?_
  intro X C E
  refine k_aload_n C d_Mo_count_0 rfl ?_
  refine k_iconst C d_Mo_count_1 (v := 0) (by decide) ?_
  refine k_put C d_Mo_count_2 fp_Mo_90 (by decide) rfl I0 (trivial) (fun I1 => ?_)
  refine k_iconst C d_Mo_count_5 (v := 0) (by decide) ?_
  refine k_istore_n C d_Mo_count_6 (by decide) ?_
  refine k_iconst C d_Mo_count_7 (v := 0) (by decide) ?_
  refine k_istore_n C d_Mo_count_8 (by decide) ?_
  exact k_loc [(3, .int (nI 0)), (2, .int (m_fr (m_th K 0) 0)), (0, .ref (G.2.2 0 0)), (1, .int w)] ⟨rfl, rfl, rfl, rfl, trivial⟩ (b_mcf C w I1 12 0 rfl E)
end

section
-- ===== PART A: goes FIRST, ahead of the names: the tables' words, and 'selects' of the private methods out of them =====
/-- a private method of a class that the tables say can be made, by its rows of tables_1 -/
def lw_okq (q : MethodName × Nat) : Prop := (q.1.cls ≠ "java/lang/invoke/MethodHandle" ∧ q.1.cls ≠ "java/lang/invoke/VarHandle") ∧ Cond.instantiable q.1.cls q.2 ∈ tables_1 ∧ Cond.privateMethod q.1 ∈ tables_1 ∧ Cond.instanceMethod q.1 ∈ tables_1
theorem lw_p0 : lw_okq (⟨"SlotFiller$Block", "mustFollow", "(II)Z"⟩, 15) := ⟨⟨by decide +kernel, by decide +kernel⟩, List.mem_of_getElem? (i := 27) (by decide +kernel), List.mem_of_getElem? (i := 183) (by decide +kernel), List.mem_of_getElem? (i := 184) (by decide +kernel)⟩
theorem lw_p1 : lw_okq (⟨"SlotFiller$Block", "bothInMemory", "(II)Z"⟩, 15) := ⟨⟨by decide +kernel, by decide +kernel⟩, List.mem_of_getElem? (i := 27) (by decide +kernel), List.mem_of_getElem? (i := 190) (by decide +kernel), List.mem_of_getElem? (i := 191) (by decide +kernel)⟩
theorem lw_p2 : lw_okq (⟨"SlotFiller$Block", "areApart", "(II)Z"⟩, 15) := ⟨⟨by decide +kernel, by decide +kernel⟩, List.mem_of_getElem? (i := 27) (by decide +kernel), List.mem_of_getElem? (i := 194) (by decide +kernel), List.mem_of_getElem? (i := 195) (by decide +kernel)⟩
theorem lw_p3 : lw_okq (⟨"SlotFiller$Block", "latencyOf", "(I)I"⟩, 15) := ⟨⟨by decide +kernel, by decide +kernel⟩, List.mem_of_getElem? (i := 27) (by decide +kernel), List.mem_of_getElem? (i := 198) (by decide +kernel), List.mem_of_getElem? (i := 199) (by decide +kernel)⟩
theorem lw_p4 : lw_okq (⟨"SlotFiller$Order", "prepare", "(LSlotFiller$Block;I)V"⟩, 5) := ⟨⟨by decide +kernel, by decide +kernel⟩, List.mem_of_getElem? (i := 100) (by decide +kernel), List.mem_of_getElem? (i := 217) (by decide +kernel), List.mem_of_getElem? (i := 218) (by decide +kernel)⟩
theorem lw_p5 : lw_okq (⟨"SlotFiller$Order", "choose", "(LSlotFiller$Block;II)I"⟩, 5) := ⟨⟨by decide +kernel, by decide +kernel⟩, List.mem_of_getElem? (i := 100) (by decide +kernel), List.mem_of_getElem? (i := 222) (by decide +kernel), List.mem_of_getElem? (i := 223) (by decide +kernel)⟩
theorem lw_p6 : lw_okq (⟨"SlotFiller$Order", "place", "(LSlotFiller$Block;III)V"⟩, 5) := ⟨⟨by decide +kernel, by decide +kernel⟩, List.mem_of_getElem? (i := 100) (by decide +kernel), List.mem_of_getElem? (i := 226) (by decide +kernel), List.mem_of_getElem? (i := 227) (by decide +kernel)⟩
theorem lw_p7 : lw_okq (⟨"SlotFiller$Outcome", "put", "(LSlotFiller$Block;I)V"⟩, 7) := ⟨⟨by decide +kernel, by decide +kernel⟩, List.mem_of_getElem? (i := 124) (by decide +kernel), List.mem_of_getElem? (i := 243) (by decide +kernel), List.mem_of_getElem? (i := 244) (by decide +kernel)⟩
theorem lw_p8 : lw_okq (⟨"SlotFiller$Outcome", "fillSlot", "(LSlotFiller$Block;I)V"⟩, 7) := ⟨⟨by decide +kernel, by decide +kernel⟩, List.mem_of_getElem? (i := 124) (by decide +kernel), List.mem_of_getElem? (i := 247) (by decide +kernel), List.mem_of_getElem? (i := 248) (by decide +kernel)⟩
theorem lw_p9 : lw_okq (⟨"SlotFiller$Outcome", "run", "(LSlotFiller$Block;)I"⟩, 7) := ⟨⟨by decide +kernel, by decide +kernel⟩, List.mem_of_getElem? (i := 124) (by decide +kernel), List.mem_of_getElem? (i := 251) (by decide +kernel), List.mem_of_getElem? (i := 252) (by decide +kernel)⟩
theorem lw_p10 : lw_okq (⟨"SlotFiller$Outcome", "distanceOf", "(LSlotFiller$Block;II)I"⟩, 7) := ⟨⟨by decide +kernel, by decide +kernel⟩, List.mem_of_getElem? (i := 124) (by decide +kernel), List.mem_of_getElem? (i := 255) (by decide +kernel), List.mem_of_getElem? (i := 256) (by decide +kernel)⟩
theorem lw_p11 : lw_okq (⟨"java/lang/Throwable", "fillInStackTrace", "(I)Ljava/lang/Throwable;"⟩, 6) := ⟨⟨by decide +kernel, by decide +kernel⟩, List.mem_of_getElem? (i := 315) (by decide +kernel), List.mem_of_getElem? (i := 313) (by decide +kernel), List.mem_of_getElem? (i := 314) (by decide +kernel)⟩
theorem lw_p12 : lw_okq (⟨"SlotFiller$Block", "lastWriter", "(J)I"⟩, 15) := ⟨⟨by decide +kernel, by decide +kernel⟩, List.mem_of_getElem? (i := 27) (by decide +kernel), List.mem_of_getElem? (i := 539) (by decide +kernel), List.mem_of_getElem? (i := 540) (by decide +kernel)⟩
theorem lw_p13 : lw_okq (⟨"SlotFillerModel", "fail", "(I)I"⟩, 26) := ⟨⟨by decide +kernel, by decide +kernel⟩, List.mem_of_getElem? (i := 595) (by decide +kernel), List.mem_of_getElem? (i := 688) (by decide +kernel), List.mem_of_getElem? (i := 689) (by decide +kernel)⟩
theorem lw_p14 : lw_okq (⟨"SlotFillerModel", "look", "(I)V"⟩, 26) := ⟨⟨by decide +kernel, by decide +kernel⟩, List.mem_of_getElem? (i := 595) (by decide +kernel), List.mem_of_getElem? (i := 696) (by decide +kernel), List.mem_of_getElem? (i := 697) (by decide +kernel)⟩
theorem lw_p15 : lw_okq (⟨"SlotFillerModel", "also", "(II)V"⟩, 26) := ⟨⟨by decide +kernel, by decide +kernel⟩, List.mem_of_getElem? (i := 595) (by decide +kernel), List.mem_of_getElem? (i := 700) (by decide +kernel), List.mem_of_getElem? (i := 701) (by decide +kernel)⟩
def lw_privs_1 : List (MethodName × Nat) := [(⟨"SlotFiller$Block", "mustFollow", "(II)Z"⟩, 15), (⟨"SlotFiller$Block", "bothInMemory", "(II)Z"⟩, 15), (⟨"SlotFiller$Block", "areApart", "(II)Z"⟩, 15), (⟨"SlotFiller$Block", "latencyOf", "(I)I"⟩, 15), (⟨"SlotFiller$Order", "prepare", "(LSlotFiller$Block;I)V"⟩, 5), (⟨"SlotFiller$Order", "choose", "(LSlotFiller$Block;II)I"⟩, 5), (⟨"SlotFiller$Order", "place", "(LSlotFiller$Block;III)V"⟩, 5), (⟨"SlotFiller$Outcome", "put", "(LSlotFiller$Block;I)V"⟩, 7), (⟨"SlotFiller$Outcome", "fillSlot", "(LSlotFiller$Block;I)V"⟩, 7), (⟨"SlotFiller$Outcome", "run", "(LSlotFiller$Block;)I"⟩, 7), (⟨"SlotFiller$Outcome", "distanceOf", "(LSlotFiller$Block;II)I"⟩, 7), (⟨"java/lang/Throwable", "fillInStackTrace", "(I)Ljava/lang/Throwable;"⟩, 6), (⟨"SlotFiller$Block", "lastWriter", "(J)I"⟩, 15), (⟨"SlotFillerModel", "fail", "(I)I"⟩, 26), (⟨"SlotFillerModel", "look", "(I)V"⟩, 26), (⟨"SlotFillerModel", "also", "(II)V"⟩, 26)]
theorem lw_r1 : ∀ q ∈ lw_privs_1, lw_okq q := List.forall_mem_cons.mpr ⟨lw_p0, List.forall_mem_cons.mpr ⟨lw_p1, List.forall_mem_cons.mpr ⟨lw_p2, List.forall_mem_cons.mpr ⟨lw_p3, List.forall_mem_cons.mpr ⟨lw_p4, List.forall_mem_cons.mpr ⟨lw_p5, List.forall_mem_cons.mpr ⟨lw_p6, List.forall_mem_cons.mpr ⟨lw_p7, List.forall_mem_cons.mpr ⟨lw_p8, List.forall_mem_cons.mpr ⟨lw_p9, List.forall_mem_cons.mpr ⟨lw_p10, List.forall_mem_cons.mpr ⟨lw_p11, List.forall_mem_cons.mpr ⟨lw_p12, List.forall_mem_cons.mpr ⟨lw_p13, List.forall_mem_cons.mpr ⟨lw_p14, List.forall_mem_cons.mpr ⟨lw_p15, fun _ h => absurd h List.not_mem_nil⟩⟩⟩⟩⟩⟩⟩⟩⟩⟩⟩⟩⟩⟩⟩⟩
theorem lw_p16 : lw_okq (⟨"SlotFillerModel", "special", "(I)V"⟩, 26) := ⟨⟨by decide +kernel, by decide +kernel⟩, List.mem_of_getElem? (i := 595) (by decide +kernel), List.mem_of_getElem? (i := 704) (by decide +kernel), List.mem_of_getElem? (i := 705) (by decide +kernel)⟩
theorem lw_p17 : lw_okq (⟨"SlotFillerModel", "t", "()J"⟩, 26) := ⟨⟨by decide +kernel, by decide +kernel⟩, List.mem_of_getElem? (i := 595) (by decide +kernel), List.mem_of_getElem? (i := 708) (by decide +kernel), List.mem_of_getElem? (i := 709) (by decide +kernel)⟩
theorem lw_p18 : lw_okq (⟨"SlotFillerModel", "field", "(I)I"⟩, 26) := ⟨⟨by decide +kernel, by decide +kernel⟩, List.mem_of_getElem? (i := 595) (by decide +kernel), List.mem_of_getElem? (i := 712) (by decide +kernel), List.mem_of_getElem? (i := 713) (by decide +kernel)⟩
theorem lw_p19 : lw_okq (⟨"SlotFillerModel", "d", "()J"⟩, 26) := ⟨⟨by decide +kernel, by decide +kernel⟩, List.mem_of_getElem? (i := 595) (by decide +kernel), List.mem_of_getElem? (i := 719) (by decide +kernel), List.mem_of_getElem? (i := 720) (by decide +kernel)⟩
theorem lw_p20 : lw_okq (⟨"SlotFillerModel", "is", "(IJJ)V"⟩, 26) := ⟨⟨by decide +kernel, by decide +kernel⟩, List.mem_of_getElem? (i := 595) (by decide +kernel), List.mem_of_getElem? (i := 723) (by decide +kernel), List.mem_of_getElem? (i := 724) (by decide +kernel)⟩
theorem lw_p21 : lw_okq (⟨"SlotFillerModel", "s", "()J"⟩, 26) := ⟨⟨by decide +kernel, by decide +kernel⟩, List.mem_of_getElem? (i := 595) (by decide +kernel), List.mem_of_getElem? (i := 727) (by decide +kernel), List.mem_of_getElem? (i := 728) (by decide +kernel)⟩
theorem lw_p22 : lw_okq (⟨"SlotFillerModel", "immediate", "(I)V"⟩, 26) := ⟨⟨by decide +kernel, by decide +kernel⟩, List.mem_of_getElem? (i := 595) (by decide +kernel), List.mem_of_getElem? (i := 731) (by decide +kernel), List.mem_of_getElem? (i := 732) (by decide +kernel)⟩
theorem lw_p23 : lw_okq (⟨"SlotFillerModel", "branch", "(I)V"⟩, 26) := ⟨⟨by decide +kernel, by decide +kernel⟩, List.mem_of_getElem? (i := 595) (by decide +kernel), List.mem_of_getElem? (i := 735) (by decide +kernel), List.mem_of_getElem? (i := 736) (by decide +kernel)⟩
theorem lw_p24 : lw_okq (⟨"SlotFillerModel", "number", "(I)V"⟩, 26) := ⟨⟨by decide +kernel, by decide +kernel⟩, List.mem_of_getElem? (i := 595) (by decide +kernel), List.mem_of_getElem? (i := 739) (by decide +kernel), List.mem_of_getElem? (i := 740) (by decide +kernel)⟩
theorem lw_p25 : lw_okq (⟨"SlotFillerModel", "fractions", "()V"⟩, 26) := ⟨⟨by decide +kernel, by decide +kernel⟩, List.mem_of_getElem? (i := 595) (by decide +kernel), List.mem_of_getElem? (i := 743) (by decide +kernel), List.mem_of_getElem? (i := 744) (by decide +kernel)⟩
theorem lw_p26 : lw_okq (⟨"SlotFillerModel", "reckons", "(IZIII)V"⟩, 26) := ⟨⟨by decide +kernel, by decide +kernel⟩, List.mem_of_getElem? (i := 595) (by decide +kernel), List.mem_of_getElem? (i := 747) (by decide +kernel), List.mem_of_getElem? (i := 748) (by decide +kernel)⟩
theorem lw_p27 : lw_okq (⟨"SlotFillerModel", "fraction", "(IZ)J"⟩, 26) := ⟨⟨by decide +kernel, by decide +kernel⟩, List.mem_of_getElem? (i := 595) (by decide +kernel), List.mem_of_getElem? (i := 751) (by decide +kernel), List.mem_of_getElem? (i := 752) (by decide +kernel)⟩
theorem lw_p28 : lw_okq (⟨"SlotFillerModel", "second", "(I)V"⟩, 26) := ⟨⟨by decide +kernel, by decide +kernel⟩, List.mem_of_getElem? (i := 595) (by decide +kernel), List.mem_of_getElem? (i := 756) (by decide +kernel), List.mem_of_getElem? (i := 757) (by decide +kernel)⟩
theorem lw_p29 : lw_okq (⟨"SlotFillerModel", "memory", "(I)V"⟩, 26) := ⟨⟨by decide +kernel, by decide +kernel⟩, List.mem_of_getElem? (i := 595) (by decide +kernel), List.mem_of_getElem? (i := 760) (by decide +kernel), List.mem_of_getElem? (i := 761) (by decide +kernel)⟩
theorem lw_p30 : lw_okq (⟨"SlotFillerModel", "place", "(I)V"⟩, 26) := ⟨⟨by decide +kernel, by decide +kernel⟩, List.mem_of_getElem? (i := 595) (by decide +kernel), List.mem_of_getElem? (i := 768) (by decide +kernel), List.mem_of_getElem? (i := 769) (by decide +kernel)⟩
theorem lw_p31 : lw_okq (⟨"SlotFillerModel", "findHeights", "()V"⟩, 26) := ⟨⟨by decide +kernel, by decide +kernel⟩, List.mem_of_getElem? (i := 595) (by decide +kernel), List.mem_of_getElem? (i := 772) (by decide +kernel), List.mem_of_getElem? (i := 773) (by decide +kernel)⟩
def lw_privs_2 : List (MethodName × Nat) := [(⟨"SlotFillerModel", "special", "(I)V"⟩, 26), (⟨"SlotFillerModel", "t", "()J"⟩, 26), (⟨"SlotFillerModel", "field", "(I)I"⟩, 26), (⟨"SlotFillerModel", "d", "()J"⟩, 26), (⟨"SlotFillerModel", "is", "(IJJ)V"⟩, 26), (⟨"SlotFillerModel", "s", "()J"⟩, 26), (⟨"SlotFillerModel", "immediate", "(I)V"⟩, 26), (⟨"SlotFillerModel", "branch", "(I)V"⟩, 26), (⟨"SlotFillerModel", "number", "(I)V"⟩, 26), (⟨"SlotFillerModel", "fractions", "()V"⟩, 26), (⟨"SlotFillerModel", "reckons", "(IZIII)V"⟩, 26), (⟨"SlotFillerModel", "fraction", "(IZ)J"⟩, 26), (⟨"SlotFillerModel", "second", "(I)V"⟩, 26), (⟨"SlotFillerModel", "memory", "(I)V"⟩, 26), (⟨"SlotFillerModel", "place", "(I)V"⟩, 26), (⟨"SlotFillerModel", "findHeights", "()V"⟩, 26)]
theorem lw_r2 : ∀ q ∈ lw_privs_2, lw_okq q := List.forall_mem_cons.mpr ⟨lw_p16, List.forall_mem_cons.mpr ⟨lw_p17, List.forall_mem_cons.mpr ⟨lw_p18, List.forall_mem_cons.mpr ⟨lw_p19, List.forall_mem_cons.mpr ⟨lw_p20, List.forall_mem_cons.mpr ⟨lw_p21, List.forall_mem_cons.mpr ⟨lw_p22, List.forall_mem_cons.mpr ⟨lw_p23, List.forall_mem_cons.mpr ⟨lw_p24, List.forall_mem_cons.mpr ⟨lw_p25, List.forall_mem_cons.mpr ⟨lw_p26, List.forall_mem_cons.mpr ⟨lw_p27, List.forall_mem_cons.mpr ⟨lw_p28, List.forall_mem_cons.mpr ⟨lw_p29, List.forall_mem_cons.mpr ⟨lw_p30, List.forall_mem_cons.mpr ⟨lw_p31, fun _ h => absurd h List.not_mem_nil⟩⟩⟩⟩⟩⟩⟩⟩⟩⟩⟩⟩⟩⟩⟩⟩
theorem lw_p32 : lw_okq (⟨"SlotFillerModel", "after", "(II)I"⟩, 26) := ⟨⟨by decide +kernel, by decide +kernel⟩, List.mem_of_getElem? (i := 595) (by decide +kernel), List.mem_of_getElem? (i := 776) (by decide +kernel), List.mem_of_getElem? (i := 777) (by decide +kernel)⟩
theorem lw_p33 : lw_okq (⟨"SlotFillerModel", "apart", "(II)Z"⟩, 26) := ⟨⟨by decide +kernel, by decide +kernel⟩, List.mem_of_getElem? (i := 595) (by decide +kernel), List.mem_of_getElem? (i := 780) (by decide +kernel), List.mem_of_getElem? (i := 781) (by decide +kernel)⟩
theorem lw_p34 : lw_okq (⟨"SlotFillerModel", "firstByte", "(I)I"⟩, 26) := ⟨⟨by decide +kernel, by decide +kernel⟩, List.mem_of_getElem? (i := 595) (by decide +kernel), List.mem_of_getElem? (i := 784) (by decide +kernel), List.mem_of_getElem? (i := 785) (by decide +kernel)⟩
theorem lw_p35 : lw_okq (⟨"SlotFillerModel", "isPart", "(I)Z"⟩, 26) := ⟨⟨by decide +kernel, by decide +kernel⟩, List.mem_of_getElem? (i := 595) (by decide +kernel), List.mem_of_getElem? (i := 788) (by decide +kernel), List.mem_of_getElem? (i := 789) (by decide +kernel)⟩
theorem lw_p36 : lw_okq (⟨"SlotFillerModel", "bytes", "(I)I"⟩, 26) := ⟨⟨by decide +kernel, by decide +kernel⟩, List.mem_of_getElem? (i := 595) (by decide +kernel), List.mem_of_getElem? (i := 792) (by decide +kernel), List.mem_of_getElem? (i := 793) (by decide +kernel)⟩
theorem lw_p37 : lw_okq (⟨"SlotFillerModel", "canCome", "(II)Z"⟩, 26) := ⟨⟨by decide +kernel, by decide +kernel⟩, List.mem_of_getElem? (i := 595) (by decide +kernel), List.mem_of_getElem? (i := 796) (by decide +kernel), List.mem_of_getElem? (i := 797) (by decide +kernel)⟩
theorem lw_p38 : lw_okq (⟨"SlotFillerModel", "filler", "(I)I"⟩, 26) := ⟨⟨by decide +kernel, by decide +kernel⟩, List.mem_of_getElem? (i := 595) (by decide +kernel), List.mem_of_getElem? (i := 800) (by decide +kernel), List.mem_of_getElem? (i := 801) (by decide +kernel)⟩
theorem lw_p39 : lw_okq (⟨"SlotFillerModel", "comes", "(I)V"⟩, 26) := ⟨⟨by decide +kernel, by decide +kernel⟩, List.mem_of_getElem? (i := 595) (by decide +kernel), List.mem_of_getElem? (i := 804) (by decide +kernel), List.mem_of_getElem? (i := 805) (by decide +kernel)⟩
theorem lw_p40 : lw_okq (⟨"SlotFillerModel", "findCycles", "()V"⟩, 26) := ⟨⟨by decide +kernel, by decide +kernel⟩, List.mem_of_getElem? (i := 595) (by decide +kernel), List.mem_of_getElem? (i := 808) (by decide +kernel), List.mem_of_getElem? (i := 809) (by decide +kernel)⟩
theorem lw_p41 : lw_okq (⟨"SlotFillerModel", "isBranch", "(I)Z"⟩, 26) := ⟨⟨by decide +kernel, by decide +kernel⟩, List.mem_of_getElem? (i := 595) (by decide +kernel), List.mem_of_getElem? (i := 836) (by decide +kernel), List.mem_of_getElem? (i := 837) (by decide +kernel)⟩
def lw_privs_3 : List (MethodName × Nat) := [(⟨"SlotFillerModel", "after", "(II)I"⟩, 26), (⟨"SlotFillerModel", "apart", "(II)Z"⟩, 26), (⟨"SlotFillerModel", "firstByte", "(I)I"⟩, 26), (⟨"SlotFillerModel", "isPart", "(I)Z"⟩, 26), (⟨"SlotFillerModel", "bytes", "(I)I"⟩, 26), (⟨"SlotFillerModel", "canCome", "(II)Z"⟩, 26), (⟨"SlotFillerModel", "filler", "(I)I"⟩, 26), (⟨"SlotFillerModel", "comes", "(I)V"⟩, 26), (⟨"SlotFillerModel", "findCycles", "()V"⟩, 26), (⟨"SlotFillerModel", "isBranch", "(I)Z"⟩, 26)]
theorem lw_r3 : ∀ q ∈ lw_privs_3, lw_okq q := List.forall_mem_cons.mpr ⟨lw_p32, List.forall_mem_cons.mpr ⟨lw_p33, List.forall_mem_cons.mpr ⟨lw_p34, List.forall_mem_cons.mpr ⟨lw_p35, List.forall_mem_cons.mpr ⟨lw_p36, List.forall_mem_cons.mpr ⟨lw_p37, List.forall_mem_cons.mpr ⟨lw_p38, List.forall_mem_cons.mpr ⟨lw_p39, List.forall_mem_cons.mpr ⟨lw_p40, List.forall_mem_cons.mpr ⟨lw_p41, fun _ h => absurd h List.not_mem_nil⟩⟩⟩⟩⟩⟩⟩⟩⟩⟩
def lw_privs : List (MethodName × Nat) := lw_privs_1 ++ (lw_privs_2 ++ (lw_privs_3))
def lw_tbl : List Cond := k2_sels lw_privs ++ tables_1
theorem lw_privs_ok : ∀ q ∈ lw_privs, lw_okq q := by
  show ∀ q ∈ lw_privs_1 ++ (lw_privs_2 ++ (lw_privs_3)), lw_okq q
  exact List.forall_mem_append.mpr ⟨lw_r1, List.forall_mem_append.mpr ⟨lw_r2, lw_r3⟩⟩
-- ===== end of PART A; then your names; then what follows =====
end
section
/-! ===== BEGIN words of one list among another's, by their places ===== -/
theorem goodIn_r {big : List Cond} (ws : List Cond) (ps : List Nat) (hp : ws = ps.filterMap (fun i => big[i]?)) (h : ws.all goodWord = true) : GoodIn big ws := by
  intro w hw
  have h1 := List.all_eq_true.mp h w hw
  rw [hp] at hw
  obtain ⟨i, -, hi⟩ := List.mem_filterMap.mp hw
  have hm : w ∈ big := by first | exact List.mem_of_getElem? hi | exact List.getElem?_mem hi
  exact ⟨hm, good_of_word h1⟩
theorem goodIn_app {big a b : List Cond} (ha : GoodIn big a) (hb : GoodIn big b) : GoodIn big (a ++ b) := fun w h => (List.mem_append.mp h).elim (ha w) (hb w)
theorem goodIn_ca {big a b : List Cond} {c : Cond} (ha : GoodIn big (c :: a)) (hb : GoodIn big b) : GoodIn big (c :: (a ++ b)) := fun w h => (List.mem_cons.mp h).elim (fun e => ha w (List.mem_cons.mpr (Or.inl e))) (fun h => (List.mem_append.mp h).elim (fun h => ha w (List.mem_cons.mpr (Or.inr h))) (hb w))
theorem goodIn_sub {big ws : List Cond} (hm : ∀ w ∈ ws, w ∈ big) (h : ws.all goodWord = true) : GoodIn big ws := fun w hw => ⟨hm w hw, good_of_word (List.all_eq_true.mp h w hw)⟩
/-! ===== END ===== -/

def vx_no (w : Cond) : Bool := decide (w ≠ .isRef (.static Bundle.tN "UNASSIGNED_STACK" Bundle.steD)) && decide (w ≠ .isRef (.static Bundle.tN "SUPPRESSED_SENTINEL" Bundle.listD)) && decide (w ≠ .laysStatic Bundle.tN "UNASSIGNED_STACK" Bundle.steD) && decide (w ≠ .laysStatic Bundle.tN "SUPPRESSED_SENTINEL" Bundle.listD)
def vx_at0 (own : String) (ic : Nat) (X : String) (names : List String) : List Cond := (Bundle.ownAtoms0 own ic X names).filter vx_no
def vx_atS (own : String) (ic : Nat) (X : String) (names : List String) : List Cond := (Bundle.ownAtoms own ic X names).filter vx_no
end
section
/-! ===== BEGIN printed: names, fields, word lists, decode rows ===== -/
def RX0 : String := "SlotFiller$Block"
def TX0 : u_T := fun k => match k with
  | 0 => ("SlotFiller$Block", "latencies", "[I", true)
  | 1 => ("SlotFiller$Block", "size", "I", false)
  | 2 => ("SlotFiller$Block", "words", "[I", true)
  | 3 => ("SlotFiller$Block", "kinds", "[I", true)
  | 4 => ("SlotFiller$Block", "likely", "[Z", true)
  | 5 => ("SlotFiller$Block", "reads", "[J", true)
  | 6 => ("SlotFiller$Block", "writes", "[J", true)
  | 7 => ("SlotFiller$Block", "readsFractions", "[I", true)
  | 8 => ("SlotFiller$Block", "writesFractions", "[I", true)
  | 9 => ("SlotFiller$Block", "bases", "[I", true)
  | 10 => ("SlotFiller$Block", "firstBytes", "[I", true)
  | 11 => ("SlotFiller$Block", "endBytes", "[I", true)
  | 12 => ("SlotFiller$Block", "baseWriters", "[I", true)
  | 13 => ("SlotFiller$Block", "heights", "[I", true)
  | _ => ("SlotFiller$Block", "needed", "[Z", true)
def tyX0 : Nat → FieldType := fun k => match k with
  | 0 => .array .int
  | 1 => .int
  | 2 => .array .int
  | 3 => .array .int
  | 4 => .array .boolean
  | 5 => .array .long
  | 6 => .array .long
  | 7 => .array .int
  | 8 => .array .int
  | 9 => .array .int
  | 10 => .array .int
  | 11 => .array .int
  | 12 => .array .int
  | 13 => .array .int
  | _ => .array .boolean
abbrev wsX00 : List Cond := u_ws RX0 TX0 15
theorem nmX0 : ∀ a, a < 15 → ∀ b, b < 15 → a ≠ b → (TX0 a).2.1 ≠ (TX0 b).2.1 := by decide +kernel
theorem tyX0_ok : ∀ k, k < 15 → parseFieldDescriptor (TX0 k).2.2.1 = some (tyX0 k) := by decide +kernel
abbrev cX0_init : ByteArray := prog_2_method_1_code
def yX0_init : MethodName := ⟨RX0, "<init>", "()V"⟩
abbrev cX0_holds : ByteArray := prog_2_method_2_code
def yX0_holds : MethodName := ⟨RX0, "holds", "(I)Z"⟩
abbrev cX0_endsInBranch : ByteArray := prog_2_method_3_code
def yX0_endsInBranch : MethodName := ⟨RX0, "endsInBranch", "()Z"⟩
abbrev cX0_isClosed : ByteArray := prog_2_method_4_code
def yX0_isClosed : MethodName := ⟨RX0, "isClosed", "()Z"⟩
abbrev cX0_sizeWithoutBranch : ByteArray := prog_2_method_5_code
def yX0_sizeWithoutBranch : MethodName := ⟨RX0, "sizeWithoutBranch", "()I"⟩
abbrev cX0_empty : ByteArray := prog_2_method_6_code
def yX0_empty : MethodName := ⟨RX0, "empty", "()V"⟩
abbrev cX0_append : ByteArray := prog_2_method_7_code
def yX0_append : MethodName := ⟨RX0, "append", "(II)V"⟩
abbrev cX0_lastWriter : ByteArray := prog_2_method_8_code
def yX0_lastWriter : MethodName := ⟨RX0, "lastWriter", "(J)I"⟩
abbrev cX0_latencyOf : ByteArray := prog_2_method_9_code
def yX0_latencyOf : MethodName := ⟨RX0, "latencyOf", "(I)I"⟩
abbrev cX0_distance : ByteArray := prog_2_method_10_code
def yX0_distance : MethodName := ⟨RX0, "distance", "(II)I"⟩
abbrev cX0_mustFollow : ByteArray := prog_2_method_11_code
def yX0_mustFollow : MethodName := ⟨RX0, "mustFollow", "(II)Z"⟩
abbrev cX0_meet : ByteArray := prog_2_method_12_code
def yX0_meet : MethodName := ⟨RX0, "meet", "(JJII)Z"⟩
abbrev cX0_bothInMemory : ByteArray := prog_2_method_13_code
def yX0_bothInMemory : MethodName := ⟨RX0, "bothInMemory", "(II)Z"⟩
abbrev cX0_areApart : ByteArray := prog_2_method_14_code
def yX0_areApart : MethodName := ⟨RX0, "areApart", "(II)Z"⟩
abbrev cX0_survey : ByteArray := prog_2_method_15_code
def yX0_survey : MethodName := ⟨RX0, "survey", "()V"⟩
def RX1 : String := "SlotFiller$Bytes"
def TX1 : u_T := fun k => match k with
  | _ => ("", "", "", false)
def tyX1 : Nat → FieldType := fun k => match k with
  | _ => .int
abbrev wsX10 : List Cond := u_ws RX1 TX1 0
theorem nmX1 : ∀ a, a < 0 → ∀ b, b < 0 → a ≠ b → (TX1 a).2.1 ≠ (TX1 b).2.1 := by decide +kernel
theorem tyX1_ok : ∀ k, k < 0 → parseFieldDescriptor (TX1 k).2.2.1 = some (tyX1 k) := by decide +kernel
abbrev cX1_first : ByteArray := prog_3_method_2_code
def yX1_first : MethodName := ⟨RX1, "first", "(I)I"⟩
abbrev cX1_many : ByteArray := prog_3_method_3_code
def yX1_many : MethodName := ⟨RX1, "many", "(I)I"⟩
abbrev cX1_touchesWholeWord : ByteArray := prog_3_method_4_code
def yX1_touchesWholeWord : MethodName := ⟨RX1, "touchesWholeWord", "(I)Z"⟩
def RX2 : String := "SlotFiller$Decoder"
def TX2 : u_T := fun k => match k with
  | _ => ("", "", "", false)
def tyX2 : Nat → FieldType := fun k => match k with
  | _ => .int
abbrev wsX20 : List Cond := u_ws RX2 TX2 0
theorem nmX2 : ∀ a, a < 0 → ∀ b, b < 0 → a ≠ b → (TX2 a).2.1 ≠ (TX2 b).2.1 := by decide +kernel
theorem tyX2_ok : ∀ k, k < 0 → parseFieldDescriptor (TX2 k).2.2.1 = some (tyX2 k) := by decide +kernel
abbrev cX2_formOf : ByteArray := prog_4_method_2_code
def yX2_formOf : MethodName := ⟨RX2, "formOf", "(I)I"⟩
abbrev cX2_hasOddDouble : ByteArray := prog_4_method_3_code
def yX2_hasOddDouble : MethodName := ⟨RX2, "hasOddDouble", "(II)Z"⟩
abbrev cX2_formByOperation : ByteArray := prog_4_method_4_code
def yX2_formByOperation : MethodName := ⟨RX2, "formByOperation", "(I)I"⟩
abbrev cX2_special : ByteArray := prog_4_method_5_code
def yX2_special : MethodName := ⟨RX2, "special", "(I)I"⟩
abbrev cX2_threeOrBarrier : ByteArray := prog_4_method_6_code
def yX2_threeOrBarrier : MethodName := ⟨RX2, "threeOrBarrier", "(I)I"⟩
abbrev cX2_special2 : ByteArray := prog_4_method_7_code
def yX2_special2 : MethodName := ⟨RX2, "special2", "(I)I"⟩
abbrev cX2_byRegisterField : ByteArray := prog_4_method_8_code
def yX2_byRegisterField : MethodName := ⟨RX2, "byRegisterField", "(I)I"⟩
abbrev cX2_immediateOrBranch : ByteArray := prog_4_method_9_code
def yX2_immediateOrBranch : MethodName := ⟨RX2, "immediateOrBranch", "(I)I"⟩
abbrev cX2_memory : ByteArray := prog_4_method_10_code
def yX2_memory : MethodName := ⟨RX2, "memory", "(I)I"⟩
abbrev cX2_coprocessor : ByteArray := prog_4_method_11_code
def yX2_coprocessor : MethodName := ⟨RX2, "coprocessor", "(I)I"⟩
abbrev cX2_ofWhole : ByteArray := prog_4_method_12_code
def yX2_ofWhole : MethodName := ⟨RX2, "ofWhole", "(I)I"⟩
abbrev cX2_doubled : ByteArray := prog_4_method_13_code
def yX2_doubled : MethodName := ⟨RX2, "doubled", "(I)I"⟩
abbrev cX2_answersWhole : ByteArray := prog_4_method_14_code
def yX2_answersWhole : MethodName := ⟨RX2, "answersWhole", "(I)Z"⟩
abbrev cX2_fraction : ByteArray := prog_4_method_15_code
def yX2_fraction : MethodName := ⟨RX2, "fraction", "(I)I"⟩
def RX3 : String := "SlotFiller$Fields"
def TX3 : u_T := fun k => match k with
  | _ => ("", "", "", false)
def tyX3 : Nat → FieldType := fun k => match k with
  | _ => .int
abbrev wsX30 : List Cond := u_ws RX3 TX3 0
theorem nmX3 : ∀ a, a < 0 → ∀ b, b < 0 → a ≠ b → (TX3 a).2.1 ≠ (TX3 b).2.1 := by decide +kernel
theorem tyX3_ok : ∀ k, k < 0 → parseFieldDescriptor (TX3 k).2.2.1 = some (tyX3 k) := by decide +kernel
abbrev cX3_operation : ByteArray := prog_5_method_2_code
def yX3_operation : MethodName := ⟨RX3, "operation", "(I)I"⟩
abbrev cX3_s : ByteArray := prog_5_method_3_code
def yX3_s : MethodName := ⟨RX3, "s", "(I)I"⟩
abbrev cX3_t : ByteArray := prog_5_method_4_code
def yX3_t : MethodName := ⟨RX3, "t", "(I)I"⟩
abbrev cX3_d : ByteArray := prog_5_method_5_code
def yX3_d : MethodName := ⟨RX3, "d", "(I)I"⟩
abbrev cX3_fractionT : ByteArray := prog_5_method_6_code
def yX3_fractionT : MethodName := ⟨RX3, "fractionT", "(I)I"⟩
abbrev cX3_fractionS : ByteArray := prog_5_method_7_code
def yX3_fractionS : MethodName := ⟨RX3, "fractionS", "(I)I"⟩
abbrev cX3_fractionD : ByteArray := prog_5_method_8_code
def yX3_fractionD : MethodName := ⟨RX3, "fractionD", "(I)I"⟩
abbrev cX3_function : ByteArray := prog_5_method_9_code
def yX3_function : MethodName := ⟨RX3, "function", "(I)I"⟩
abbrev cX3_offset : ByteArray := prog_5_method_10_code
def yX3_offset : MethodName := ⟨RX3, "offset", "(I)I"⟩
def RX4 : String := "SlotFiller$Form"
def TX4 : u_T := fun k => match k with
  | _ => ("", "", "", false)
def tyX4 : Nat → FieldType := fun k => match k with
  | _ => .int
abbrev wsX40 : List Cond := u_ws RX4 TX4 0
theorem nmX4 : ∀ a, a < 0 → ∀ b, b < 0 → a ≠ b → (TX4 a).2.1 ≠ (TX4 b).2.1 := by decide +kernel
theorem tyX4_ok : ∀ k, k < 0 → parseFieldDescriptor (TX4 k).2.2.1 = some (tyX4 k) := by decide +kernel
abbrev cX4_kindOf : ByteArray := prog_6_method_2_code
def yX4_kindOf : MethodName := ⟨RX4, "kindOf", "(I)I"⟩
abbrev cX4_has : ByteArray := prog_6_method_3_code
def yX4_has : MethodName := ⟨RX4, "has", "(II)Z"⟩
def RX5 : String := "SlotFiller$Order"
def TX5 : u_T := fun k => match k with
  | 0 => ("SlotFiller$Order", "size", "I", false)
  | 1 => ("SlotFiller$Order", "places", "[I", true)
  | 2 => ("SlotFiller$Order", "placed", "[Z", true)
  | 3 => ("SlotFiller$Order", "waits", "[I", true)
  | _ => ("SlotFiller$Order", "earliest", "[I", true)
def tyX5 : Nat → FieldType := fun k => match k with
  | 0 => .int
  | 1 => .array .int
  | 2 => .array .boolean
  | 3 => .array .int
  | _ => .array .int
abbrev wsX50 : List Cond := u_ws RX5 TX5 5
theorem nmX5 : ∀ a, a < 5 → ∀ b, b < 5 → a ≠ b → (TX5 a).2.1 ≠ (TX5 b).2.1 := by decide +kernel
theorem tyX5_ok : ∀ k, k < 5 → parseFieldDescriptor (TX5 k).2.2.1 = some (tyX5 k) := by decide +kernel
abbrev cX5_init : ByteArray := prog_7_method_1_code
def yX5_init : MethodName := ⟨RX5, "<init>", "()V"⟩
abbrev cX5_asInBlock : ByteArray := prog_7_method_2_code
def yX5_asInBlock : MethodName := ⟨RX5, "asInBlock", "(LSlotFiller$Block;)V"⟩
abbrev cX5_byHeights : ByteArray := prog_7_method_3_code
def yX5_byHeights : MethodName := ⟨RX5, "byHeights", "(LSlotFiller$Block;)V"⟩
abbrev cX5_prepare : ByteArray := prog_7_method_4_code
def yX5_prepare : MethodName := ⟨RX5, "prepare", "(LSlotFiller$Block;I)V"⟩
abbrev cX5_choose : ByteArray := prog_7_method_5_code
def yX5_choose : MethodName := ⟨RX5, "choose", "(LSlotFiller$Block;II)I"⟩
abbrev cX5_place : ByteArray := prog_7_method_6_code
def yX5_place : MethodName := ⟨RX5, "place", "(LSlotFiller$Block;III)V"⟩
def RX6 : String := "SlotFiller$Outcome"
def TX6 : u_T := fun k => match k with
  | 0 => ("SlotFiller$Outcome", "size", "I", false)
  | 1 => ("SlotFiller$Outcome", "words", "[I", true)
  | 2 => ("SlotFiller$Outcome", "origins", "[I", true)
  | 3 => ("SlotFiller$Outcome", "duration", "I", false)
  | 4 => ("SlotFiller$Outcome", "ownNops", "I", false)
  | 5 => ("SlotFiller$Outcome", "filled", "I", false)
  | _ => ("SlotFiller$Outcome", "starts", "[I", true)
def tyX6 : Nat → FieldType := fun k => match k with
  | 0 => .int
  | 1 => .array .int
  | 2 => .array .int
  | 3 => .int
  | 4 => .int
  | 5 => .int
  | _ => .array .int
abbrev wsX60 : List Cond := u_ws RX6 TX6 7
theorem nmX6 : ∀ a, a < 7 → ∀ b, b < 7 → a ≠ b → (TX6 a).2.1 ≠ (TX6 b).2.1 := by decide +kernel
theorem tyX6_ok : ∀ k, k < 7 → parseFieldDescriptor (TX6 k).2.2.1 = some (tyX6 k) := by decide +kernel
abbrev cX6_init : ByteArray := prog_8_method_1_code
def yX6_init : MethodName := ⟨RX6, "<init>", "()V"⟩
abbrev cX6_take : ByteArray := prog_8_method_2_code
def yX6_take : MethodName := ⟨RX6, "take", "(LSlotFiller$Block;LSlotFiller$Order;Z)V"⟩
abbrev cX6_spare : ByteArray := prog_8_method_3_code
def yX6_spare : MethodName := ⟨RX6, "spare", "(LSlotFiller$Block;LSlotFiller$Order;)I"⟩
abbrev cX6_fillSlot : ByteArray := prog_8_method_4_code
def yX6_fillSlot : MethodName := ⟨RX6, "fillSlot", "(LSlotFiller$Block;I)V"⟩
abbrev cX6_put : ByteArray := prog_8_method_5_code
def yX6_put : MethodName := ⟨RX6, "put", "(LSlotFiller$Block;I)V"⟩
abbrev cX6_run : ByteArray := prog_8_method_6_code
def yX6_run : MethodName := ⟨RX6, "run", "(LSlotFiller$Block;)I"⟩
abbrev cX6_distanceOf : ByteArray := prog_8_method_7_code
def yX6_distanceOf : MethodName := ⟨RX6, "distanceOf", "(LSlotFiller$Block;II)I"⟩
def RX7 : String := "SlotFiller$Things"
def TX7 : u_T := fun k => match k with
  | _ => ("", "", "", false)
def tyX7 : Nat → FieldType := fun k => match k with
  | _ => .int
abbrev wsX70 : List Cond := u_ws RX7 TX7 0
theorem nmX7 : ∀ a, a < 0 → ∀ b, b < 0 → a ≠ b → (TX7 a).2.1 ≠ (TX7 b).2.1 := by decide +kernel
theorem tyX7_ok : ∀ k, k < 0 → parseFieldDescriptor (TX7 k).2.2.1 = some (tyX7 k) := by decide +kernel
abbrev cX7_reads : ByteArray := prog_9_method_2_code
def yX7_reads : MethodName := ⟨RX7, "reads", "(II)J"⟩
abbrev cX7_writes : ByteArray := prog_9_method_3_code
def yX7_writes : MethodName := ⟨RX7, "writes", "(II)J"⟩
abbrev cX7_readsFractions : ByteArray := prog_9_method_4_code
def yX7_readsFractions : MethodName := ⟨RX7, "readsFractions", "(II)I"⟩
abbrev cX7_writesFractions : ByteArray := prog_9_method_5_code
def yX7_writesFractions : MethodName := ⟨RX7, "writesFractions", "(II)I"⟩
abbrev cX7_register : ByteArray := prog_9_method_6_code
def yX7_register : MethodName := ⟨RX7, "register", "(I)J"⟩
abbrev cX7_fractionS : ByteArray := prog_9_method_7_code
def yX7_fractionS : MethodName := ⟨RX7, "fractionS", "(II)I"⟩
abbrev cX7_fractionT : ByteArray := prog_9_method_8_code
def yX7_fractionT : MethodName := ⟨RX7, "fractionT", "(II)I"⟩
abbrev cX7_fractionD : ByteArray := prog_9_method_9_code
def yX7_fractionD : MethodName := ⟨RX7, "fractionD", "(II)I"⟩
abbrev cX7_fraction : ByteArray := prog_9_method_10_code
def yX7_fraction : MethodName := ⟨RX7, "fraction", "(IZ)I"⟩
def RX8 : String := "SlotFiller"
def TX8 : u_T := fun k => match k with
  | 0 => ("SlotFiller", "block", "LSlotFiller$Block;", true)
  | 1 => ("SlotFiller", "order", "LSlotFiller$Order;", true)
  | 2 => ("SlotFiller", "outcome", "LSlotFiller$Outcome;", true)
  | _ => ("SlotFiller", "through", "Z", false)
def tyX8 : Nat → FieldType := fun k => match k with
  | 0 => .object "SlotFiller$Block"
  | 1 => .object "SlotFiller$Order"
  | 2 => .object "SlotFiller$Outcome"
  | _ => .boolean
abbrev wsX80 : List Cond := u_ws RX8 TX8 4
theorem nmX8 : ∀ a, a < 4 → ∀ b, b < 4 → a ≠ b → (TX8 a).2.1 ≠ (TX8 b).2.1 := by decide +kernel
theorem tyX8_ok : ∀ k, k < 4 → parseFieldDescriptor (TX8 k).2.2.1 = some (tyX8 k) := by decide +kernel
abbrev cX8_init : ByteArray := prog_1_method_1_code
def yX8_init : MethodName := ⟨RX8, "<init>", "()V"⟩
abbrev cX8_latency : ByteArray := prog_1_method_2_code
def yX8_latency : MethodName := ⟨RX8, "latency", "(II)I"⟩
abbrev cX8_add : ByteArray := prog_1_method_3_code
def yX8_add : MethodName := ⟨RX8, "add", "(I)I"⟩
abbrev cX8_schedule : ByteArray := prog_1_method_4_code
def yX8_schedule : MethodName := ⟨RX8, "schedule", "(ZZ)I"⟩
abbrev cX8_word : ByteArray := prog_1_method_5_code
def yX8_word : MethodName := ⟨RX8, "word", "(I)I"⟩
abbrev cX8_from : ByteArray := prog_1_method_6_code
def yX8_from : MethodName := ⟨RX8, "from", "(I)I"⟩
abbrev cX8_depends : ByteArray := prog_1_method_7_code
def yX8_depends : MethodName := ⟨RX8, "depends", "(II)I"⟩
abbrev cX8_height : ByteArray := prog_1_method_8_code
def yX8_height : MethodName := ⟨RX8, "height", "(I)I"⟩
abbrev cX8_cycles : ByteArray := prog_1_method_9_code
def yX8_cycles : MethodName := ⟨RX8, "cycles", "()I"⟩
abbrev cX8_count : ByteArray := prog_1_method_10_code
def yX8_count : MethodName := ⟨RX8, "count", "(I)I"⟩
def RX9 : String := "SlotFillerModel"
def TX9 : u_T := fun k => match k with
  | 0 => ("SlotFillerModel", "thrown", "I", false)
  | 1 => ("SlotFillerModel", "latencies", "[I", true)
  | 2 => ("SlotFillerModel", "many", "I", false)
  | 3 => ("SlotFillerModel", "through", "Z", false)
  | 4 => ("SlotFillerModel", "words", "[I", true)
  | 5 => ("SlotFillerModel", "classes", "[I", true)
  | 6 => ("SlotFillerModel", "readMore", "[I", true)
  | 7 => ("SlotFillerModel", "writtenMore", "[I", true)
  | 8 => ("SlotFillerModel", "read", "[J", true)
  | 9 => ("SlotFillerModel", "written", "[J", true)
  | 10 => ("SlotFillerModel", "likely", "[Z", true)
  | 11 => ("SlotFillerModel", "came", "I", false)
  | 12 => ("SlotFillerModel", "cycles", "I", false)
  | 13 => ("SlotFillerModel", "out", "[I", true)
  | 14 => ("SlotFillerModel", "outFrom", "[I", true)
  | 15 => ("SlotFillerModel", "w", "I", false)
  | 16 => ("SlotFillerModel", "sort", "I", false)
  | 17 => ("SlotFillerModel", "readsMore", "I", false)
  | 18 => ("SlotFillerModel", "writesMore", "I", false)
  | 19 => ("SlotFillerModel", "reads", "J", false)
  | 20 => ("SlotFillerModel", "writes", "J", false)
  | 21 => ("SlotFillerModel", "isLikely", "Z", false)
  | 22 => ("SlotFillerModel", "heights", "[I", true)
  | 23 => ("SlotFillerModel", "order", "[I", true)
  | 24 => ("SlotFillerModel", "placed", "[I", true)
  | _ => ("SlotFillerModel", "begun", "[I", true)
def tyX9 : Nat → FieldType := fun k => match k with
  | 0 => .int
  | 1 => .array .int
  | 2 => .int
  | 3 => .boolean
  | 4 => .array .int
  | 5 => .array .int
  | 6 => .array .int
  | 7 => .array .int
  | 8 => .array .long
  | 9 => .array .long
  | 10 => .array .boolean
  | 11 => .int
  | 12 => .int
  | 13 => .array .int
  | 14 => .array .int
  | 15 => .int
  | 16 => .int
  | 17 => .int
  | 18 => .int
  | 19 => .long
  | 20 => .long
  | 21 => .boolean
  | 22 => .array .int
  | 23 => .array .int
  | 24 => .array .int
  | _ => .array .int
abbrev wsX90 : List Cond := u_ws RX9 TX9 26
theorem nmX9 : ∀ a, a < 26 → ∀ b, b < 26 → a ≠ b → (TX9 a).2.1 ≠ (TX9 b).2.1 := by decide +kernel
theorem tyX9_ok : ∀ k, k < 26 → parseFieldDescriptor (TX9 k).2.2.1 = some (tyX9 k) := by decide +kernel
abbrev cX9_init : ByteArray := prog_11_method_1_code
def yX9_init : MethodName := ⟨RX9, "<init>", "()V"⟩
abbrev cX9_thrown : ByteArray := prog_11_method_2_code
def yX9_thrown : MethodName := ⟨RX9, "thrown", "()I"⟩
abbrev cX9_fail : ByteArray := prog_11_method_3_code
def yX9_fail : MethodName := ⟨RX9, "fail", "(I)I"⟩
abbrev cX9_field : ByteArray := prog_11_method_4_code
def yX9_field : MethodName := ⟨RX9, "field", "(I)I"⟩
abbrev cX9_register : ByteArray := prog_11_method_5_code
def yX9_register : MethodName := ⟨RX9, "register", "(I)J"⟩
abbrev cX9_s : ByteArray := prog_11_method_6_code
def yX9_s : MethodName := ⟨RX9, "s", "()J"⟩
abbrev cX9_t : ByteArray := prog_11_method_7_code
def yX9_t : MethodName := ⟨RX9, "t", "()J"⟩
abbrev cX9_d : ByteArray := prog_11_method_8_code
def yX9_d : MethodName := ⟨RX9, "d", "()J"⟩
abbrev cX9_is : ByteArray := prog_11_method_9_code
def yX9_is : MethodName := ⟨RX9, "is", "(IJJ)V"⟩
abbrev cX9_also : ByteArray := prog_11_method_10_code
def yX9_also : MethodName := ⟨RX9, "also", "(II)V"⟩
abbrev cX9_fraction : ByteArray := prog_11_method_11_code
def yX9_fraction : MethodName := ⟨RX9, "fraction", "(IZ)J"⟩
abbrev cX9_look : ByteArray := prog_11_method_12_code
def yX9_look : MethodName := ⟨RX9, "look", "(I)V"⟩
abbrev cX9_special : ByteArray := prog_11_method_13_code
def yX9_special : MethodName := ⟨RX9, "special", "(I)V"⟩
abbrev cX9_immediate : ByteArray := prog_11_method_14_code
def yX9_immediate : MethodName := ⟨RX9, "immediate", "(I)V"⟩
abbrev cX9_branch : ByteArray := prog_11_method_15_code
def yX9_branch : MethodName := ⟨RX9, "branch", "(I)V"⟩
abbrev cX9_number : ByteArray := prog_11_method_16_code
def yX9_number : MethodName := ⟨RX9, "number", "(I)V"⟩
abbrev cX9_second : ByteArray := prog_11_method_17_code
def yX9_second : MethodName := ⟨RX9, "second", "(I)V"⟩
abbrev cX9_memory : ByteArray := prog_11_method_18_code
def yX9_memory : MethodName := ⟨RX9, "memory", "(I)V"⟩
abbrev cX9_fractions : ByteArray := prog_11_method_19_code
def yX9_fractions : MethodName := ⟨RX9, "fractions", "()V"⟩
abbrev cX9_reckons : ByteArray := prog_11_method_20_code
def yX9_reckons : MethodName := ⟨RX9, "reckons", "(IZIII)V"⟩
abbrev cX9_latency : ByteArray := prog_11_method_21_code
def yX9_latency : MethodName := ⟨RX9, "latency", "(II)I"⟩
abbrev cX9_add : ByteArray := prog_11_method_22_code
def yX9_add : MethodName := ⟨RX9, "add", "(I)I"⟩
abbrev cX9_firstByte : ByteArray := prog_11_method_23_code
def yX9_firstByte : MethodName := ⟨RX9, "firstByte", "(I)I"⟩
abbrev cX9_isPart : ByteArray := prog_11_method_24_code
def yX9_isPart : MethodName := ⟨RX9, "isPart", "(I)Z"⟩
abbrev cX9_bytes : ByteArray := prog_11_method_25_code
def yX9_bytes : MethodName := ⟨RX9, "bytes", "(I)I"⟩
abbrev cX9_apart : ByteArray := prog_11_method_26_code
def yX9_apart : MethodName := ⟨RX9, "apart", "(II)Z"⟩
abbrev cX9_after : ByteArray := prog_11_method_27_code
def yX9_after : MethodName := ⟨RX9, "after", "(II)I"⟩
abbrev cX9_findHeights : ByteArray := prog_11_method_28_code
def yX9_findHeights : MethodName := ⟨RX9, "findHeights", "()V"⟩
abbrev cX9_canCome : ByteArray := prog_11_method_29_code
def yX9_canCome : MethodName := ⟨RX9, "canCome", "(II)Z"⟩
abbrev cX9_place : ByteArray := prog_11_method_30_code
def yX9_place : MethodName := ⟨RX9, "place", "(I)V"⟩
abbrev cX9_filler : ByteArray := prog_11_method_31_code
def yX9_filler : MethodName := ⟨RX9, "filler", "(I)I"⟩
abbrev cX9_schedule : ByteArray := prog_11_method_32_code
def yX9_schedule : MethodName := ⟨RX9, "schedule", "(ZZ)I"⟩
abbrev cX9_comes : ByteArray := prog_11_method_33_code
def yX9_comes : MethodName := ⟨RX9, "comes", "(I)V"⟩
abbrev cX9_findCycles : ByteArray := prog_11_method_34_code
def yX9_findCycles : MethodName := ⟨RX9, "findCycles", "()V"⟩
abbrev cX9_word : ByteArray := prog_11_method_35_code
def yX9_word : MethodName := ⟨RX9, "word", "(I)I"⟩
abbrev cX9_from : ByteArray := prog_11_method_36_code
def yX9_from : MethodName := ⟨RX9, "from", "(I)I"⟩
abbrev cX9_depends : ByteArray := prog_11_method_37_code
def yX9_depends : MethodName := ⟨RX9, "depends", "(II)I"⟩
abbrev cX9_height : ByteArray := prog_11_method_38_code
def yX9_height : MethodName := ⟨RX9, "height", "(I)I"⟩
abbrev cX9_cycles : ByteArray := prog_11_method_39_code
def yX9_cycles : MethodName := ⟨RX9, "cycles", "()I"⟩
abbrev cX9_count : ByteArray := prog_11_method_40_code
def yX9_count : MethodName := ⟨RX9, "count", "(I)I"⟩
abbrev cX9_isBranch : ByteArray := prog_11_method_41_code
def yX9_isBranch : MethodName := ⟨RX9, "isBranch", "(I)Z"⟩
def RJx8e188 : String := "java/lang/Cloneable"
def TJx8e188 : u_T := fun k => match k with
  | _ => ("", "", "", false)
def tyJx8e188 : Nat → FieldType := fun k => match k with
  | _ => .int
abbrev wsJx8e1880 : List Cond := u_ws RJx8e188 TJx8e188 0
theorem nmJx8e188 : ∀ a, a < 0 → ∀ b, b < 0 → a ≠ b → (TJx8e188 a).2.1 ≠ (TJx8e188 b).2.1 := by decide +kernel
theorem tyJx8e188_ok : ∀ k, k < 0 → parseFieldDescriptor (TJx8e188 k).2.2.1 = some (tyJx8e188 k) := by decide +kernel
def RJ9 : String := "java/lang/Math"
def TJ9 : u_T := fun k => match k with
  | _ => ("", "", "", false)
def tyJ9 : Nat → FieldType := fun k => match k with
  | _ => .int
abbrev wsJ90 : List Cond := u_ws RJ9 TJ9 0
theorem nmJ9 : ∀ a, a < 0 → ∀ b, b < 0 → a ≠ b → (TJ9 a).2.1 ≠ (TJ9 b).2.1 := by decide +kernel
theorem tyJ9_ok : ∀ k, k < 0 → parseFieldDescriptor (TJ9 k).2.2.1 = some (tyJ9 k) := by decide +kernel
abbrev cJ9_max_7cf53 : ByteArray := prog_17_method_65_code
def yJ9_max_7cf53 : MethodName := ⟨RJ9, "max", "(II)I"⟩
def RJ0 : String := "java/lang/String"
def TJ0 : u_T := fun k => match k with
  | _ => ("", "", "", false)
def tyJ0 : Nat → FieldType := fun k => match k with
  | _ => .int
abbrev wsJ00 : List Cond := u_ws RJ0 TJ0 0
theorem nmJ0 : ∀ a, a < 0 → ∀ b, b < 0 → a ≠ b → (TJ0 a).2.1 ≠ (TJ0 b).2.1 := by decide +kernel
theorem tyJ0_ok : ∀ k, k < 0 → parseFieldDescriptor (TJ0 k).2.2.1 = some (tyJ0 k) := by decide +kernel
def RL : String := "SlotFillerLaw"
abbrev cL_latency : ByteArray := method_3_code
def yL_latency : MethodName := ⟨RL, "latency", "(LSlotFiller;II[J)I"⟩
abbrev cL_add : ByteArray := method_4_code
def yL_add : MethodName := ⟨RL, "add", "(LSlotFiller;I[J)I"⟩
abbrev cL_word : ByteArray := method_5_code
def yL_word : MethodName := ⟨RL, "word", "(LSlotFiller;I[J)I"⟩
abbrev cL_from : ByteArray := method_6_code
def yL_from : MethodName := ⟨RL, "from", "(LSlotFiller;I[J)I"⟩
abbrev cL_depends : ByteArray := method_7_code
def yL_depends : MethodName := ⟨RL, "depends", "(LSlotFiller;II[J)I"⟩
abbrev cL_height : ByteArray := method_8_code
def yL_height : MethodName := ⟨RL, "height", "(LSlotFiller;I[J)I"⟩
abbrev cL_law : ByteArray := code
def yL_law : MethodName := ⟨RL, "law", "([I)Z"⟩
def wsX0_init_r1 : List Cond := [Cond.methodLink RX0 3 objectInit, Cond.instanceMethod objectInit, Cond.code objectInit ⟨#[0xb1]⟩ 1 none, Cond.fieldLink RX0 9 "SlotFiller$Block" "FIRST_LATENCIES" "[I", Cond.methodLink RX0 15 ⟨"[I", "clone", "()Ljava/lang/Object;"⟩, Cond.sameMethod "[I" "java/lang/Object" "clone" "()Ljava/lang/Object;", Cond.native ⟨"java/lang/Object", "clone", "()Ljava/lang/Object;"⟩, Cond.instanceMethod ⟨"java/lang/Object", "clone", "()Ljava/lang/Object;"⟩, Cond.selects "[I" ⟨"[I", "clone", "()Ljava/lang/Object;"⟩ ⟨"java/lang/Object", "clone", "()Ljava/lang/Object;"⟩, Cond.classLink RX0 16 "[I", Cond.fieldLink RX0 20 "SlotFiller$Block" "latencies" "[I", Cond.fieldLink RX0 23 "SlotFiller$Block" "size" "I", Cond.arrayClass .int, Cond.fieldLink RX0 27 "SlotFiller$Block" "words" "[I", Cond.fieldLink RX0 30 "SlotFiller$Block" "kinds" "[I", Cond.arrayClass .boolean, Cond.fieldLink RX0 33 "SlotFiller$Block" "likely" "[Z", Cond.arrayClass .long, Cond.fieldLink RX0 37 "SlotFiller$Block" "reads" "[J", Cond.fieldLink RX0 41 "SlotFiller$Block" "writes" "[J", Cond.fieldLink RX0 44 "SlotFiller$Block" "readsFractions" "[I", Cond.fieldLink RX0 47 "SlotFiller$Block" "writesFractions" "[I", Cond.fieldLink RX0 50 "SlotFiller$Block" "bases" "[I", Cond.fieldLink RX0 53 "SlotFiller$Block" "firstBytes" "[I"]
def wsX0_init_r2 : List Cond := [Cond.fieldLink RX0 56 "SlotFiller$Block" "endBytes" "[I", Cond.fieldLink RX0 59 "SlotFiller$Block" "baseWriters" "[I", Cond.fieldLink RX0 62 "SlotFiller$Block" "heights" "[I", Cond.fieldLink RX0 65 "SlotFiller$Block" "needed" "[Z"]
def wsX0_init : List Cond := .code yX0_init cX0_init 1 none :: ((wsX0_init_r1 ++ wsX0_init_r2) ++ wsX00)
def wsX0_holds : List Cond := .code yX0_holds cX0_holds 2 (some .boolean) :: ([.fieldLink RX0 23 "SlotFiller$Block" "size" "I"] ++ wsX00)
def wsX0_endsInBranch : List Cond := .code yX0_endsInBranch cX0_endsInBranch 1 (some .boolean) :: ([.fieldLink RX0 23 "SlotFiller$Block" "size" "I", .fieldLink RX0 30 "SlotFiller$Block" "kinds" "[I"] ++ wsX00)
def wsX0_isClosed : List Cond := .code yX0_isClosed cX0_isClosed 1 (some .boolean) :: ([.fieldLink RX0 23 "SlotFiller$Block" "size" "I", .methodLink RX0 70 yX0_endsInBranch, .instanceMethod yX0_endsInBranch, .selects RX0 yX0_endsInBranch yX0_endsInBranch, .initialized RX0, .code yX0_endsInBranch cX0_endsInBranch 1 (some .boolean), .fieldLink RX0 30 "SlotFiller$Block" "kinds" "[I"] ++ wsX00)
def wsX0_sizeWithoutBranch : List Cond := .code yX0_sizeWithoutBranch cX0_sizeWithoutBranch 1 (some .int) :: ([.fieldLink RX0 23 "SlotFiller$Block" "size" "I", .methodLink RX0 70 yX0_endsInBranch, .instanceMethod yX0_endsInBranch, .selects RX0 yX0_endsInBranch yX0_endsInBranch, .initialized RX0, .code yX0_endsInBranch cX0_endsInBranch 1 (some .boolean), .fieldLink RX0 30 "SlotFiller$Block" "kinds" "[I"] ++ wsX00)
def wsX0_empty : List Cond := .code yX0_empty cX0_empty 1 none :: ([.fieldLink RX0 23 "SlotFiller$Block" "size" "I"] ++ wsX00)
def wsX4_kindOf : List Cond := .code yX4_kindOf cX4_kindOf 1 (some .int) :: ([])
def wsX4_has : List Cond := .code yX4_has cX4_has 2 (some .boolean) :: ([])
def wsX3_s : List Cond := .code yX3_s cX3_s 1 (some .int) :: ([])
def wsX7_register : List Cond := .code yX7_register cX7_register 1 (some .long) :: ([])
def wsX3_t : List Cond := .code yX3_t cX3_t 1 (some .int) :: ([])
def wsX3_d : List Cond := .code yX3_d cX3_d 1 (some .int) :: ([])
def wsX7_reads : List Cond := .code yX7_reads cX7_reads 4 (some .long) :: ([.constantLong RX7 31 (4294967296), .constantLong RX7 33 (8589934592), .methodLink RX7 9 yX4_has, .static yX4_has, .initialized RX4, .code yX4_has cX4_has 2 (some .boolean), .methodLink RX7 13 yX3_s, .static yX3_s, .initialized RX3, .code yX3_s cX3_s 1 (some .int), .methodLink RX7 19 yX7_register, .static yX7_register, .initialized RX7, .code yX7_register cX7_register 1 (some .long), .methodLink RX7 25 yX3_t, .static yX3_t, .code yX3_t cX3_t 1 (some .int), .methodLink RX7 28 yX3_d, .static yX3_d, .code yX3_d cX3_d 1 (some .int)])
def wsX7_writes : List Cond := .code yX7_writes cX7_writes 4 (some .long) :: ([.constantLong RX7 31 (4294967296), .constantLong RX7 33 (8589934592), .methodLink RX7 9 yX4_has, .static yX4_has, .initialized RX4, .code yX4_has cX4_has 2 (some .boolean), .methodLink RX7 25 yX3_t, .static yX3_t, .initialized RX3, .code yX3_t cX3_t 1 (some .int), .methodLink RX7 19 yX7_register, .static yX7_register, .initialized RX7, .code yX7_register cX7_register 1 (some .long), .methodLink RX7 28 yX3_d, .static yX3_d, .code yX3_d cX3_d 1 (some .int)])
def wsX3_fractionS : List Cond := .code yX3_fractionS cX3_fractionS 1 (some .int) :: ([.methodLink RX3 13 yX3_d, .static yX3_d, .initialized RX3, .code yX3_d cX3_d 1 (some .int)])
def wsX7_fraction : List Cond := .code yX7_fraction cX7_fraction 2 (some .int) :: ([])
def wsX7_fractionS : List Cond := .code yX7_fractionS cX7_fractionS 2 (some .int) :: ([.constant RX7 52 (1048576), .methodLink RX7 50 yX3_fractionS, .static yX3_fractionS, .initialized RX3, .code yX3_fractionS cX3_fractionS 1 (some .int), .methodLink RX3 13 yX3_d, .static yX3_d, .code yX3_d cX3_d 1 (some .int), .methodLink RX7 9 yX4_has, .static yX4_has, .initialized RX4, .code yX4_has cX4_has 2 (some .boolean), .methodLink RX7 53 yX7_fraction, .static yX7_fraction, .initialized RX7, .code yX7_fraction cX7_fraction 2 (some .int)])
def wsX3_fractionT : List Cond := .code yX3_fractionT cX3_fractionT 1 (some .int) :: ([.methodLink RX3 7 yX3_t, .static yX3_t, .initialized RX3, .code yX3_t cX3_t 1 (some .int)])
def wsX7_fractionT : List Cond := .code yX7_fractionT cX7_fractionT 2 (some .int) :: ([.constant RX7 59 (2097152), .methodLink RX7 57 yX3_fractionT, .static yX3_fractionT, .initialized RX3, .code yX3_fractionT cX3_fractionT 1 (some .int), .methodLink RX3 7 yX3_t, .static yX3_t, .code yX3_t cX3_t 1 (some .int), .methodLink RX7 9 yX4_has, .static yX4_has, .initialized RX4, .code yX4_has cX4_has 2 (some .boolean), .methodLink RX7 53 yX7_fraction, .static yX7_fraction, .initialized RX7, .code yX7_fraction cX7_fraction 2 (some .int)])
def wsX3_fractionD : List Cond := .code yX3_fractionD cX3_fractionD 1 (some .int) :: ([])
def wsX7_fractionD : List Cond := .code yX7_fractionD cX7_fractionD 2 (some .int) :: ([.constant RX7 62 (4194304), .methodLink RX7 60 yX3_fractionD, .static yX3_fractionD, .initialized RX3, .code yX3_fractionD cX3_fractionD 1 (some .int), .methodLink RX7 9 yX4_has, .static yX4_has, .initialized RX4, .code yX4_has cX4_has 2 (some .boolean), .methodLink RX7 53 yX7_fraction, .static yX7_fraction, .initialized RX7, .code yX7_fraction cX7_fraction 2 (some .int)])
def wsX7_readsFractions_r1 : List Cond := [Cond.constant RX7 39 (32768), Cond.constant RX7 43 (65536), Cond.methodLink RX7 9 yX4_has, Cond.static yX4_has, Cond.initialized RX4, Cond.code yX4_has cX4_has 2 (some .boolean), Cond.methodLink RX7 35 yX7_fractionS, Cond.static yX7_fractionS, Cond.initialized RX7, Cond.code yX7_fractionS cX7_fractionS 2 (some .int), Cond.constant RX7 52 (1048576), Cond.methodLink RX7 50 yX3_fractionS, Cond.static yX3_fractionS, Cond.initialized RX3, Cond.code yX3_fractionS cX3_fractionS 1 (some .int), Cond.methodLink RX3 13 yX3_d, Cond.static yX3_d, Cond.code yX3_d cX3_d 1 (some .int), Cond.methodLink RX7 53 yX7_fraction, Cond.static yX7_fraction, Cond.code yX7_fraction cX7_fraction 2 (some .int), Cond.methodLink RX7 40 yX7_fractionT, Cond.static yX7_fractionT, Cond.code yX7_fractionT cX7_fractionT 2 (some .int)]
def wsX7_readsFractions_r2 : List Cond := [Cond.constant RX7 59 (2097152), Cond.methodLink RX7 57 yX3_fractionT, Cond.static yX3_fractionT, Cond.code yX3_fractionT cX3_fractionT 1 (some .int), Cond.methodLink RX3 7 yX3_t, Cond.static yX3_t, Cond.code yX3_t cX3_t 1 (some .int), Cond.methodLink RX7 44 yX7_fractionD, Cond.static yX7_fractionD, Cond.code yX7_fractionD cX7_fractionD 2 (some .int), Cond.constant RX7 62 (4194304), Cond.methodLink RX7 60 yX3_fractionD, Cond.static yX3_fractionD, Cond.code yX3_fractionD cX3_fractionD 1 (some .int)]
def wsX7_readsFractions : List Cond := .code yX7_readsFractions cX7_readsFractions 3 (some .int) :: ((wsX7_readsFractions_r1 ++ wsX7_readsFractions_r2))
def wsX7_writesFractions_r1 : List Cond := [Cond.constant RX7 47 (131072), Cond.constant RX7 48 (262144), Cond.constant RX7 49 (524288), Cond.methodLink RX7 9 yX4_has, Cond.static yX4_has, Cond.initialized RX4, Cond.code yX4_has cX4_has 2 (some .boolean), Cond.methodLink RX7 35 yX7_fractionS, Cond.static yX7_fractionS, Cond.initialized RX7, Cond.code yX7_fractionS cX7_fractionS 2 (some .int), Cond.constant RX7 52 (1048576), Cond.methodLink RX7 50 yX3_fractionS, Cond.static yX3_fractionS, Cond.initialized RX3, Cond.code yX3_fractionS cX3_fractionS 1 (some .int), Cond.methodLink RX3 13 yX3_d, Cond.static yX3_d, Cond.code yX3_d cX3_d 1 (some .int), Cond.methodLink RX7 53 yX7_fraction, Cond.static yX7_fraction, Cond.code yX7_fraction cX7_fraction 2 (some .int), Cond.methodLink RX7 40 yX7_fractionT, Cond.static yX7_fractionT]
def wsX7_writesFractions_r2 : List Cond := [Cond.code yX7_fractionT cX7_fractionT 2 (some .int), Cond.constant RX7 59 (2097152), Cond.methodLink RX7 57 yX3_fractionT, Cond.static yX3_fractionT, Cond.code yX3_fractionT cX3_fractionT 1 (some .int), Cond.methodLink RX3 7 yX3_t, Cond.static yX3_t, Cond.code yX3_t cX3_t 1 (some .int), Cond.methodLink RX7 44 yX7_fractionD, Cond.static yX7_fractionD, Cond.code yX7_fractionD cX7_fractionD 2 (some .int), Cond.constant RX7 62 (4194304), Cond.methodLink RX7 60 yX3_fractionD, Cond.static yX3_fractionD, Cond.code yX3_fractionD cX3_fractionD 1 (some .int)]
def wsX7_writesFractions : List Cond := .code yX7_writesFractions cX7_writesFractions 3 (some .int) :: ((wsX7_writesFractions_r1 ++ wsX7_writesFractions_r2))
def wsX3_offset : List Cond := .code yX3_offset cX3_offset 1 (some .int) :: ([])
def wsX3_operation : List Cond := .code yX3_operation cX3_operation 1 (some .int) :: ([])
def wsX1_touchesWholeWord : List Cond := .code yX1_touchesWholeWord cX1_touchesWholeWord 1 (some .boolean) :: ([])
def wsX1_first : List Cond := .code yX1_first cX1_first 2 (some .int) :: ([.methodLink RX1 7 yX3_offset, .static yX3_offset, .initialized RX3, .code yX3_offset cX3_offset 1 (some .int), .methodLink RX1 13 yX3_operation, .static yX3_operation, .code yX3_operation cX3_operation 1 (some .int), .methodLink RX1 16 yX1_touchesWholeWord, .static yX1_touchesWholeWord, .initialized RX1, .code yX1_touchesWholeWord cX1_touchesWholeWord 1 (some .boolean)])
def wsX1_many : List Cond := .code yX1_many cX1_many 1 (some .int) :: ([.methodLink RX1 13 yX3_operation, .static yX3_operation, .initialized RX3, .code yX3_operation cX3_operation 1 (some .int)])
def wsX0_lastWriter : List Cond := .code yX0_lastWriter cX0_lastWriter 4 (some .int) :: ([.fieldLink RX0 23 "SlotFiller$Block" "size" "I", .fieldLink RX0 41 "SlotFiller$Block" "writes" "[J"] ++ wsX00)
def wsX0_append_r1 : List Cond := [Cond.fieldLink RX0 23 "SlotFiller$Block" "size" "I", Cond.fieldLink RX0 27 "SlotFiller$Block" "words" "[I", Cond.fieldLink RX0 30 "SlotFiller$Block" "kinds" "[I", Cond.fieldLink RX0 33 "SlotFiller$Block" "likely" "[Z", Cond.constant RX0 78 (8388608), Cond.fieldLink RX0 37 "SlotFiller$Block" "reads" "[J", Cond.fieldLink RX0 41 "SlotFiller$Block" "writes" "[J", Cond.fieldLink RX0 44 "SlotFiller$Block" "readsFractions" "[I", Cond.fieldLink RX0 47 "SlotFiller$Block" "writesFractions" "[I", Cond.fieldLink RX0 50 "SlotFiller$Block" "bases" "[I", Cond.fieldLink RX0 53 "SlotFiller$Block" "firstBytes" "[I", Cond.fieldLink RX0 56 "SlotFiller$Block" "endBytes" "[I", Cond.fieldLink RX0 59 "SlotFiller$Block" "baseWriters" "[I", Cond.methodLink RX0 74 yX4_kindOf, Cond.static yX4_kindOf, Cond.initialized RX4, Cond.code yX4_kindOf cX4_kindOf 1 (some .int), Cond.methodLink RX0 79 yX4_has, Cond.static yX4_has, Cond.code yX4_has cX4_has 2 (some .boolean), Cond.methodLink RX0 83 yX7_reads, Cond.static yX7_reads, Cond.initialized RX7, Cond.code yX7_reads cX7_reads 4 (some .long)]
def wsX0_append_r2 : List Cond := [Cond.constantLong RX7 31 (4294967296), Cond.constantLong RX7 33 (8589934592), Cond.methodLink RX7 9 yX4_has, Cond.methodLink RX7 13 yX3_s, Cond.static yX3_s, Cond.initialized RX3, Cond.code yX3_s cX3_s 1 (some .int), Cond.methodLink RX7 19 yX7_register, Cond.static yX7_register, Cond.code yX7_register cX7_register 1 (some .long), Cond.methodLink RX7 25 yX3_t, Cond.static yX3_t, Cond.code yX3_t cX3_t 1 (some .int), Cond.methodLink RX7 28 yX3_d, Cond.static yX3_d, Cond.code yX3_d cX3_d 1 (some .int), Cond.methodLink RX0 88 yX7_writes, Cond.static yX7_writes, Cond.code yX7_writes cX7_writes 4 (some .long), Cond.methodLink RX0 90 yX7_readsFractions, Cond.static yX7_readsFractions, Cond.code yX7_readsFractions cX7_readsFractions 3 (some .int), Cond.constant RX7 39 (32768), Cond.constant RX7 43 (65536)]
def wsX0_append_r3 : List Cond := [Cond.methodLink RX7 35 yX7_fractionS, Cond.static yX7_fractionS, Cond.code yX7_fractionS cX7_fractionS 2 (some .int), Cond.constant RX7 52 (1048576), Cond.methodLink RX7 50 yX3_fractionS, Cond.static yX3_fractionS, Cond.code yX3_fractionS cX3_fractionS 1 (some .int), Cond.methodLink RX3 13 yX3_d, Cond.methodLink RX7 53 yX7_fraction, Cond.static yX7_fraction, Cond.code yX7_fraction cX7_fraction 2 (some .int), Cond.methodLink RX7 40 yX7_fractionT, Cond.static yX7_fractionT, Cond.code yX7_fractionT cX7_fractionT 2 (some .int), Cond.constant RX7 59 (2097152), Cond.methodLink RX7 57 yX3_fractionT, Cond.static yX3_fractionT, Cond.code yX3_fractionT cX3_fractionT 1 (some .int), Cond.methodLink RX3 7 yX3_t, Cond.methodLink RX7 44 yX7_fractionD, Cond.static yX7_fractionD, Cond.code yX7_fractionD cX7_fractionD 2 (some .int), Cond.constant RX7 62 (4194304), Cond.methodLink RX7 60 yX3_fractionD]
def wsX0_append_r4 : List Cond := [Cond.static yX3_fractionD, Cond.code yX3_fractionD cX3_fractionD 1 (some .int), Cond.methodLink RX0 93 yX7_writesFractions, Cond.static yX7_writesFractions, Cond.code yX7_writesFractions cX7_writesFractions 3 (some .int), Cond.constant RX7 47 (131072), Cond.constant RX7 48 (262144), Cond.constant RX7 49 (524288), Cond.methodLink RX0 95 yX3_s, Cond.methodLink RX0 100 yX1_first, Cond.static yX1_first, Cond.initialized RX1, Cond.code yX1_first cX1_first 2 (some .int), Cond.methodLink RX1 7 yX3_offset, Cond.static yX3_offset, Cond.code yX3_offset cX3_offset 1 (some .int), Cond.methodLink RX1 13 yX3_operation, Cond.static yX3_operation, Cond.code yX3_operation cX3_operation 1 (some .int), Cond.methodLink RX1 16 yX1_touchesWholeWord, Cond.static yX1_touchesWholeWord, Cond.code yX1_touchesWholeWord cX1_touchesWholeWord 1 (some .boolean), Cond.methodLink RX0 105 yX1_many, Cond.static yX1_many]
def wsX0_append_r5 : List Cond := [Cond.code yX1_many cX1_many 1 (some .int), Cond.methodLink RX0 108 yX7_register, Cond.methodLink RX0 112 yX0_lastWriter, Cond.instanceMethod yX0_lastWriter, Cond.selects RX0 yX0_lastWriter yX0_lastWriter, Cond.initialized RX0, Cond.code yX0_lastWriter cX0_lastWriter 4 (some .int)]
def wsX0_append : List Cond := .code yX0_append cX0_append 3 none :: ((wsX0_append_r1 ++ (wsX0_append_r2 ++ (wsX0_append_r3 ++ (wsX0_append_r4 ++ wsX0_append_r5)))) ++ wsX00)
def wsX0_latencyOf : List Cond := .code yX0_latencyOf cX0_latencyOf 2 (some .int) :: ([.fieldLink RX0 20 "SlotFiller$Block" "latencies" "[I", .fieldLink RX0 30 "SlotFiller$Block" "kinds" "[I"] ++ wsX00)
def wsX0_meet : List Cond := .code yX0_meet cX0_meet 6 (some .boolean) :: ([])
def wsX0_bothInMemory : List Cond := .code yX0_bothInMemory cX0_bothInMemory 5 (some .boolean) :: ([.fieldLink RX0 30 "SlotFiller$Block" "kinds" "[I"] ++ wsX00)
def wsX0_areApart : List Cond := .code yX0_areApart cX0_areApart 4 (some .boolean) :: ([.fieldLink RX0 50 "SlotFiller$Block" "bases" "[I", .fieldLink RX0 59 "SlotFiller$Block" "baseWriters" "[I", .fieldLink RX0 56 "SlotFiller$Block" "endBytes" "[I", .fieldLink RX0 53 "SlotFiller$Block" "firstBytes" "[I"] ++ wsX00)
def wsX0_mustFollow : List Cond := .code yX0_mustFollow cX0_mustFollow 3 (some .boolean) :: ([.fieldLink RX0 37 "SlotFiller$Block" "reads" "[J", .fieldLink RX0 41 "SlotFiller$Block" "writes" "[J", .fieldLink RX0 44 "SlotFiller$Block" "readsFractions" "[I", .fieldLink RX0 47 "SlotFiller$Block" "writesFractions" "[I", .fieldLink RX0 30 "SlotFiller$Block" "kinds" "[I", .methodLink RX0 119 yX0_meet, .static yX0_meet, .initialized RX0, .code yX0_meet cX0_meet 6 (some .boolean), .methodLink RX0 131 yX0_bothInMemory, .instanceMethod yX0_bothInMemory, .selects RX0 yX0_bothInMemory yX0_bothInMemory, .code yX0_bothInMemory cX0_bothInMemory 5 (some .boolean), .methodLink RX0 134 yX0_areApart, .instanceMethod yX0_areApart, .selects RX0 yX0_areApart yX0_areApart, .code yX0_areApart cX0_areApart 4 (some .boolean), .fieldLink RX0 50 "SlotFiller$Block" "bases" "[I", .fieldLink RX0 59 "SlotFiller$Block" "baseWriters" "[I", .fieldLink RX0 56 "SlotFiller$Block" "endBytes" "[I", .fieldLink RX0 53 "SlotFiller$Block" "firstBytes" "[I"] ++ wsX00)
def wsX0_distance_r1 : List Cond := [Cond.fieldLink RX0 41 "SlotFiller$Block" "writes" "[J", Cond.fieldLink RX0 37 "SlotFiller$Block" "reads" "[J", Cond.fieldLink RX0 47 "SlotFiller$Block" "writesFractions" "[I", Cond.fieldLink RX0 44 "SlotFiller$Block" "readsFractions" "[I", Cond.methodLink RX0 126 Lib.Math.max.name, Cond.static Lib.Math.max.name, Cond.initialized "java/lang/Math", Cond.code Lib.Math.max.name Lib.Math.max.code 2 (some .int), Cond.methodLink RX0 116 yX0_mustFollow, Cond.instanceMethod yX0_mustFollow, Cond.selects RX0 yX0_mustFollow yX0_mustFollow, Cond.initialized RX0, Cond.code yX0_mustFollow cX0_mustFollow 3 (some .boolean), Cond.fieldLink RX0 30 "SlotFiller$Block" "kinds" "[I", Cond.methodLink RX0 119 yX0_meet, Cond.static yX0_meet, Cond.code yX0_meet cX0_meet 6 (some .boolean), Cond.methodLink RX0 131 yX0_bothInMemory, Cond.instanceMethod yX0_bothInMemory, Cond.selects RX0 yX0_bothInMemory yX0_bothInMemory, Cond.code yX0_bothInMemory cX0_bothInMemory 5 (some .boolean), Cond.methodLink RX0 134 yX0_areApart, Cond.instanceMethod yX0_areApart, Cond.selects RX0 yX0_areApart yX0_areApart]
def wsX0_distance_r2 : List Cond := [Cond.code yX0_areApart cX0_areApart 4 (some .boolean), Cond.fieldLink RX0 50 "SlotFiller$Block" "bases" "[I", Cond.fieldLink RX0 59 "SlotFiller$Block" "baseWriters" "[I", Cond.fieldLink RX0 56 "SlotFiller$Block" "endBytes" "[I", Cond.fieldLink RX0 53 "SlotFiller$Block" "firstBytes" "[I", Cond.methodLink RX0 123 yX0_latencyOf, Cond.instanceMethod yX0_latencyOf, Cond.selects RX0 yX0_latencyOf yX0_latencyOf, Cond.code yX0_latencyOf cX0_latencyOf 2 (some .int), Cond.fieldLink RX0 20 "SlotFiller$Block" "latencies" "[I"]
def wsX0_distance : List Cond := .code yX0_distance cX0_distance 4 (some .int) :: ((wsX0_distance_r1 ++ wsX0_distance_r2) ++ wsX00)
def wsX0_survey_r1 : List Cond := [Cond.fieldLink RX0 23 "SlotFiller$Block" "size" "I", Cond.fieldLink RX0 62 "SlotFiller$Block" "heights" "[I", Cond.methodLink RX0 126 Lib.Math.max.name, Cond.static Lib.Math.max.name, Cond.initialized "java/lang/Math", Cond.code Lib.Math.max.name Lib.Math.max.code 2 (some .int), Cond.fieldLink RX0 65 "SlotFiller$Block" "needed" "[Z", Cond.methodLink RX0 137 yX0_distance, Cond.instanceMethod yX0_distance, Cond.selects RX0 yX0_distance yX0_distance, Cond.initialized RX0, Cond.code yX0_distance cX0_distance 4 (some .int), Cond.fieldLink RX0 41 "SlotFiller$Block" "writes" "[J", Cond.fieldLink RX0 37 "SlotFiller$Block" "reads" "[J", Cond.fieldLink RX0 47 "SlotFiller$Block" "writesFractions" "[I", Cond.fieldLink RX0 44 "SlotFiller$Block" "readsFractions" "[I", Cond.methodLink RX0 116 yX0_mustFollow, Cond.instanceMethod yX0_mustFollow, Cond.selects RX0 yX0_mustFollow yX0_mustFollow, Cond.code yX0_mustFollow cX0_mustFollow 3 (some .boolean), Cond.fieldLink RX0 30 "SlotFiller$Block" "kinds" "[I", Cond.methodLink RX0 119 yX0_meet, Cond.static yX0_meet, Cond.code yX0_meet cX0_meet 6 (some .boolean)]
def wsX0_survey_r2 : List Cond := [Cond.methodLink RX0 131 yX0_bothInMemory, Cond.instanceMethod yX0_bothInMemory, Cond.selects RX0 yX0_bothInMemory yX0_bothInMemory, Cond.code yX0_bothInMemory cX0_bothInMemory 5 (some .boolean), Cond.methodLink RX0 134 yX0_areApart, Cond.instanceMethod yX0_areApart, Cond.selects RX0 yX0_areApart yX0_areApart, Cond.code yX0_areApart cX0_areApart 4 (some .boolean), Cond.fieldLink RX0 50 "SlotFiller$Block" "bases" "[I", Cond.fieldLink RX0 59 "SlotFiller$Block" "baseWriters" "[I", Cond.fieldLink RX0 56 "SlotFiller$Block" "endBytes" "[I", Cond.fieldLink RX0 53 "SlotFiller$Block" "firstBytes" "[I", Cond.methodLink RX0 123 yX0_latencyOf, Cond.instanceMethod yX0_latencyOf, Cond.selects RX0 yX0_latencyOf yX0_latencyOf, Cond.code yX0_latencyOf cX0_latencyOf 2 (some .int), Cond.fieldLink RX0 20 "SlotFiller$Block" "latencies" "[I"]
def wsX0_survey : List Cond := .code yX0_survey cX0_survey 5 none :: ((wsX0_survey_r1 ++ wsX0_survey_r2) ++ wsX00)
def wsX3_function : List Cond := .code yX3_function cX3_function 1 (some .int) :: ([])
def wsX2_threeOrBarrier : List Cond := .code yX2_threeOrBarrier cX2_threeOrBarrier 1 (some .int) :: ([])
def wsX2_special : List Cond := .code yX2_special cX2_special 1 (some .int) :: ([.methodLink RX2 63 yX2_threeOrBarrier, .static yX2_threeOrBarrier, .initialized RX2, .code yX2_threeOrBarrier cX2_threeOrBarrier 1 (some .int)])
def wsX2_byRegisterField : List Cond := .code yX2_byRegisterField cX2_byRegisterField 1 (some .int) :: ([.constant RX2 66 (8388631)])
def wsX2_fraction : List Cond := .code yX2_fraction cX2_fraction 1 (some .int) :: ([.constant RX2 95 (573445), .constant RX2 96 (573446), .constant RX2 97 (540678), .constant RX2 88 (540677), .constant RX2 98 (610309), .constant RX2 99 (606245), .constant RX2 100 (61445)])
def wsX2_answersWhole : List Cond := .code yX2_answersWhole cX2_answersWhole 1 (some .boolean) :: ([])
def wsX2_doubled : List Cond := .code yX2_doubled cX2_doubled 3 (some .int) :: ([.constant RX2 19 (1048576), .constant RX2 89 (32768), .constant RX2 28 (2097152), .constant RX2 90 (524288), .constant RX2 32 (4194304), .methodLink RX2 78 yX2_fraction, .static yX2_fraction, .initialized RX2, .code yX2_fraction cX2_fraction 1 (some .int), .constant RX2 95 (573445), .constant RX2 96 (573446), .constant RX2 97 (540678), .constant RX2 88 (540677), .constant RX2 98 (610309), .constant RX2 99 (606245), .constant RX2 100 (61445), .methodLink RX2 20 yX4_has, .static yX4_has, .initialized RX4, .code yX4_has cX4_has 2 (some .boolean), .methodLink RX2 91 yX2_answersWhole, .static yX2_answersWhole, .code yX2_answersWhole cX2_answersWhole 1 (some .boolean)])
def wsX2_ofWhole : List Cond := .code yX2_ofWhole cX2_ofWhole 1 (some .int) :: ([.constant RX2 88 (540677), .constant RX2 77 (4734981)])
def wsX2_coprocessor_r1 : List Cond := [Cond.constant RX2 75 (131104), Cond.constant RX2 76 (8392711), Cond.constant RX2 77 (4734981), Cond.constant RX2 81 (1589253), Cond.methodLink RX2 39 yX3_function, Cond.static yX3_function, Cond.initialized RX3, Cond.code yX3_function cX3_function 1 (some .int), Cond.methodLink RX2 72 yX3_s, Cond.static yX3_s, Cond.code yX3_s cX3_s 1 (some .int), Cond.methodLink RX2 45 yX3_t, Cond.static yX3_t, Cond.code yX3_t cX3_t 1 (some .int), Cond.methodLink RX2 78 yX2_fraction, Cond.static yX2_fraction, Cond.initialized RX2, Cond.code yX2_fraction cX2_fraction 1 (some .int), Cond.constant RX2 95 (573445), Cond.constant RX2 96 (573446), Cond.constant RX2 97 (540678), Cond.constant RX2 88 (540677), Cond.constant RX2 98 (610309), Cond.constant RX2 99 (606245)]
def wsX2_coprocessor_r2 : List Cond := [Cond.constant RX2 100 (61445), Cond.methodLink RX2 82 yX2_doubled, Cond.static yX2_doubled, Cond.code yX2_doubled cX2_doubled 3 (some .int), Cond.constant RX2 19 (1048576), Cond.constant RX2 89 (32768), Cond.constant RX2 28 (2097152), Cond.constant RX2 90 (524288), Cond.constant RX2 32 (4194304), Cond.methodLink RX2 20 yX4_has, Cond.static yX4_has, Cond.initialized RX4, Cond.code yX4_has cX4_has 2 (some .boolean), Cond.methodLink RX2 91 yX2_answersWhole, Cond.static yX2_answersWhole, Cond.code yX2_answersWhole cX2_answersWhole 1 (some .boolean), Cond.methodLink RX2 85 yX2_ofWhole, Cond.static yX2_ofWhole, Cond.code yX2_ofWhole cX2_ofWhole 1 (some .int)]
def wsX2_coprocessor : List Cond := .code yX2_coprocessor cX2_coprocessor 2 (some .int) :: ((wsX2_coprocessor_r1 ++ wsX2_coprocessor_r2))
def wsX2_special2 : List Cond := .code yX2_special2 cX2_special2 1 (some .int) :: ([])
def wsX2_immediateOrBranch : List Cond := .code yX2_immediateOrBranch cX2_immediateOrBranch 1 (some .int) :: ([.constant RX2 67 (8388663), .constant RX2 66 (8388631)])
def wsX2_memory : List Cond := .code yX2_memory cX2_memory 1 (some .int) :: ([.constant RX2 68 (262161), .constant RX2 69 (2359313), .constant RX2 70 (32786), .constant RX2 71 (2129938)])
def wsX2_formByOperation_r1 : List Cond := [Cond.methodLink RX2 36 yX3_operation, Cond.static yX3_operation, Cond.initialized RX3, Cond.code yX3_operation cX3_operation 1 (some .int), Cond.methodLink RX2 39 yX3_function, Cond.static yX3_function, Cond.code yX3_function cX3_function 1 (some .int), Cond.methodLink RX2 42 yX2_special, Cond.static yX2_special, Cond.initialized RX2, Cond.code yX2_special cX2_special 1 (some .int), Cond.methodLink RX2 63 yX2_threeOrBarrier, Cond.static yX2_threeOrBarrier, Cond.code yX2_threeOrBarrier cX2_threeOrBarrier 1 (some .int), Cond.methodLink RX2 45 yX3_t, Cond.static yX3_t, Cond.code yX3_t cX3_t 1 (some .int), Cond.methodLink RX2 48 yX2_byRegisterField, Cond.static yX2_byRegisterField, Cond.code yX2_byRegisterField cX2_byRegisterField 1 (some .int), Cond.constant RX2 66 (8388631), Cond.methodLink RX2 51 yX2_coprocessor, Cond.static yX2_coprocessor, Cond.code yX2_coprocessor cX2_coprocessor 2 (some .int)]
def wsX2_formByOperation_r2 : List Cond := [Cond.constant RX2 75 (131104), Cond.constant RX2 76 (8392711), Cond.constant RX2 77 (4734981), Cond.constant RX2 81 (1589253), Cond.methodLink RX2 72 yX3_s, Cond.static yX3_s, Cond.code yX3_s cX3_s 1 (some .int), Cond.methodLink RX2 78 yX2_fraction, Cond.static yX2_fraction, Cond.code yX2_fraction cX2_fraction 1 (some .int), Cond.constant RX2 95 (573445), Cond.constant RX2 96 (573446), Cond.constant RX2 97 (540678), Cond.constant RX2 88 (540677), Cond.constant RX2 98 (610309), Cond.constant RX2 99 (606245), Cond.constant RX2 100 (61445), Cond.methodLink RX2 82 yX2_doubled, Cond.static yX2_doubled, Cond.code yX2_doubled cX2_doubled 3 (some .int), Cond.constant RX2 19 (1048576), Cond.constant RX2 89 (32768), Cond.constant RX2 28 (2097152), Cond.constant RX2 90 (524288)]
def wsX2_formByOperation_r3 : List Cond := [Cond.constant RX2 32 (4194304), Cond.methodLink RX2 20 yX4_has, Cond.static yX4_has, Cond.initialized RX4, Cond.code yX4_has cX4_has 2 (some .boolean), Cond.methodLink RX2 91 yX2_answersWhole, Cond.static yX2_answersWhole, Cond.code yX2_answersWhole cX2_answersWhole 1 (some .boolean), Cond.methodLink RX2 85 yX2_ofWhole, Cond.static yX2_ofWhole, Cond.code yX2_ofWhole cX2_ofWhole 1 (some .int), Cond.methodLink RX2 54 yX2_special2, Cond.static yX2_special2, Cond.code yX2_special2 cX2_special2 1 (some .int), Cond.methodLink RX2 57 yX2_immediateOrBranch, Cond.static yX2_immediateOrBranch, Cond.code yX2_immediateOrBranch cX2_immediateOrBranch 1 (some .int), Cond.constant RX2 67 (8388663), Cond.methodLink RX2 60 yX2_memory, Cond.static yX2_memory, Cond.code yX2_memory cX2_memory 1 (some .int), Cond.constant RX2 68 (262161), Cond.constant RX2 69 (2359313), Cond.constant RX2 70 (32786)]
def wsX2_formByOperation_r4 : List Cond := [Cond.constant RX2 71 (2129938)]
def wsX2_formByOperation : List Cond := .code yX2_formByOperation cX2_formByOperation 2 (some .int) :: ((wsX2_formByOperation_r1 ++ (wsX2_formByOperation_r2 ++ (wsX2_formByOperation_r3 ++ wsX2_formByOperation_r4))))
def wsX2_hasOddDouble : List Cond := .code yX2_hasOddDouble cX2_hasOddDouble 3 (some .boolean) :: ([.constant RX2 19 (1048576), .constant RX2 28 (2097152), .constant RX2 32 (4194304), .methodLink RX2 20 yX4_has, .static yX4_has, .initialized RX4, .code yX4_has cX4_has 2 (some .boolean), .methodLink RX2 23 yX3_fractionS, .static yX3_fractionS, .initialized RX3, .code yX3_fractionS cX3_fractionS 1 (some .int), .methodLink RX3 13 yX3_d, .static yX3_d, .code yX3_d cX3_d 1 (some .int), .methodLink RX2 29 yX3_fractionT, .static yX3_fractionT, .code yX3_fractionT cX3_fractionT 1 (some .int), .methodLink RX3 7 yX3_t, .static yX3_t, .code yX3_t cX3_t 1 (some .int), .methodLink RX2 33 yX3_fractionD, .static yX3_fractionD, .code yX3_fractionD cX3_fractionD 1 (some .int)])
def wsX2_formOf_r1 : List Cond := [Cond.methodLink RX2 11 yX2_formByOperation, Cond.static yX2_formByOperation, Cond.initialized RX2, Cond.code yX2_formByOperation cX2_formByOperation 2 (some .int), Cond.methodLink RX2 36 yX3_operation, Cond.static yX3_operation, Cond.initialized RX3, Cond.code yX3_operation cX3_operation 1 (some .int), Cond.methodLink RX2 39 yX3_function, Cond.static yX3_function, Cond.code yX3_function cX3_function 1 (some .int), Cond.methodLink RX2 42 yX2_special, Cond.static yX2_special, Cond.code yX2_special cX2_special 1 (some .int), Cond.methodLink RX2 63 yX2_threeOrBarrier, Cond.static yX2_threeOrBarrier, Cond.code yX2_threeOrBarrier cX2_threeOrBarrier 1 (some .int), Cond.methodLink RX2 45 yX3_t, Cond.static yX3_t, Cond.code yX3_t cX3_t 1 (some .int), Cond.methodLink RX2 48 yX2_byRegisterField, Cond.static yX2_byRegisterField, Cond.code yX2_byRegisterField cX2_byRegisterField 1 (some .int), Cond.constant RX2 66 (8388631)]
def wsX2_formOf_r2 : List Cond := [Cond.methodLink RX2 51 yX2_coprocessor, Cond.static yX2_coprocessor, Cond.code yX2_coprocessor cX2_coprocessor 2 (some .int), Cond.constant RX2 75 (131104), Cond.constant RX2 76 (8392711), Cond.constant RX2 77 (4734981), Cond.constant RX2 81 (1589253), Cond.methodLink RX2 72 yX3_s, Cond.static yX3_s, Cond.code yX3_s cX3_s 1 (some .int), Cond.methodLink RX2 78 yX2_fraction, Cond.static yX2_fraction, Cond.code yX2_fraction cX2_fraction 1 (some .int), Cond.constant RX2 95 (573445), Cond.constant RX2 96 (573446), Cond.constant RX2 97 (540678), Cond.constant RX2 88 (540677), Cond.constant RX2 98 (610309), Cond.constant RX2 99 (606245), Cond.constant RX2 100 (61445), Cond.methodLink RX2 82 yX2_doubled, Cond.static yX2_doubled, Cond.code yX2_doubled cX2_doubled 3 (some .int), Cond.constant RX2 19 (1048576)]
def wsX2_formOf_r3 : List Cond := [Cond.constant RX2 89 (32768), Cond.constant RX2 28 (2097152), Cond.constant RX2 90 (524288), Cond.constant RX2 32 (4194304), Cond.methodLink RX2 20 yX4_has, Cond.static yX4_has, Cond.initialized RX4, Cond.code yX4_has cX4_has 2 (some .boolean), Cond.methodLink RX2 91 yX2_answersWhole, Cond.static yX2_answersWhole, Cond.code yX2_answersWhole cX2_answersWhole 1 (some .boolean), Cond.methodLink RX2 85 yX2_ofWhole, Cond.static yX2_ofWhole, Cond.code yX2_ofWhole cX2_ofWhole 1 (some .int), Cond.methodLink RX2 54 yX2_special2, Cond.static yX2_special2, Cond.code yX2_special2 cX2_special2 1 (some .int), Cond.methodLink RX2 57 yX2_immediateOrBranch, Cond.static yX2_immediateOrBranch, Cond.code yX2_immediateOrBranch cX2_immediateOrBranch 1 (some .int), Cond.constant RX2 67 (8388663), Cond.methodLink RX2 60 yX2_memory, Cond.static yX2_memory, Cond.code yX2_memory cX2_memory 1 (some .int)]
def wsX2_formOf_r4 : List Cond := [Cond.constant RX2 68 (262161), Cond.constant RX2 69 (2359313), Cond.constant RX2 70 (32786), Cond.constant RX2 71 (2129938), Cond.methodLink RX2 15 yX2_hasOddDouble, Cond.static yX2_hasOddDouble, Cond.code yX2_hasOddDouble cX2_hasOddDouble 3 (some .boolean), Cond.methodLink RX2 23 yX3_fractionS, Cond.static yX3_fractionS, Cond.code yX3_fractionS cX3_fractionS 1 (some .int), Cond.methodLink RX3 13 yX3_d, Cond.static yX3_d, Cond.code yX3_d cX3_d 1 (some .int), Cond.methodLink RX2 29 yX3_fractionT, Cond.static yX3_fractionT, Cond.code yX3_fractionT cX3_fractionT 1 (some .int), Cond.methodLink RX3 7 yX3_t, Cond.methodLink RX2 33 yX3_fractionD, Cond.static yX3_fractionD, Cond.code yX3_fractionD cX3_fractionD 1 (some .int)]
def wsX2_formOf : List Cond := .code yX2_formOf cX2_formOf 2 (some .int) :: ((wsX2_formOf_r1 ++ (wsX2_formOf_r2 ++ (wsX2_formOf_r3 ++ wsX2_formOf_r4))))
def wsX5_init : List Cond := .code yX5_init cX5_init 1 none :: ([.methodLink RX5 3 objectInit, .instanceMethod objectInit, .code objectInit ⟨#[0xb1]⟩ 1 none, .fieldLink RX5 9 "SlotFiller$Order" "size" "I", .arrayClass .int, .fieldLink RX5 15 "SlotFiller$Order" "places" "[I", .arrayClass .boolean, .fieldLink RX5 19 "SlotFiller$Order" "placed" "[Z", .fieldLink RX5 23 "SlotFiller$Order" "waits" "[I", .fieldLink RX5 26 "SlotFiller$Order" "earliest" "[I"] ++ wsX50)
def wsX5_asInBlock : List Cond := .code yX5_asInBlock cX5_asInBlock 3 none :: ([.fieldLink RX5 9 "SlotFiller$Order" "size" "I", .fieldLink RX5 15 "SlotFiller$Order" "places" "[I", .methodLink RX5 29 yX0_sizeWithoutBranch, .instanceMethod yX0_sizeWithoutBranch, .selects RX0 yX0_sizeWithoutBranch yX0_sizeWithoutBranch, .initialized RX0, .code yX0_sizeWithoutBranch cX0_sizeWithoutBranch 1 (some .int), .fieldLink RX0 23 "SlotFiller$Block" "size" "I", .methodLink RX0 70 yX0_endsInBranch, .instanceMethod yX0_endsInBranch, .selects RX0 yX0_endsInBranch yX0_endsInBranch, .code yX0_endsInBranch cX0_endsInBranch 1 (some .boolean), .fieldLink RX0 30 "SlotFiller$Block" "kinds" "[I"] ++ wsX50 ++ wsX00)
def wsX5_prepare_r1 : List Cond := [Cond.fieldLink RX5 19 "SlotFiller$Order" "placed" "[Z", Cond.fieldLink RX5 26 "SlotFiller$Order" "earliest" "[I", Cond.fieldLink RX5 23 "SlotFiller$Order" "waits" "[I", Cond.methodLink RX5 47 yX0_distance, Cond.instanceMethod yX0_distance, Cond.selects RX0 yX0_distance yX0_distance, Cond.initialized RX0, Cond.code yX0_distance cX0_distance 4 (some .int), Cond.fieldLink RX0 41 "SlotFiller$Block" "writes" "[J", Cond.fieldLink RX0 37 "SlotFiller$Block" "reads" "[J", Cond.fieldLink RX0 47 "SlotFiller$Block" "writesFractions" "[I", Cond.fieldLink RX0 44 "SlotFiller$Block" "readsFractions" "[I", Cond.methodLink RX0 126 Lib.Math.max.name, Cond.static Lib.Math.max.name, Cond.initialized "java/lang/Math", Cond.code Lib.Math.max.name Lib.Math.max.code 2 (some .int), Cond.methodLink RX0 116 yX0_mustFollow, Cond.instanceMethod yX0_mustFollow, Cond.selects RX0 yX0_mustFollow yX0_mustFollow, Cond.code yX0_mustFollow cX0_mustFollow 3 (some .boolean), Cond.fieldLink RX0 30 "SlotFiller$Block" "kinds" "[I", Cond.methodLink RX0 119 yX0_meet, Cond.static yX0_meet, Cond.code yX0_meet cX0_meet 6 (some .boolean)]
def wsX5_prepare_r2 : List Cond := [Cond.methodLink RX0 131 yX0_bothInMemory, Cond.instanceMethod yX0_bothInMemory, Cond.selects RX0 yX0_bothInMemory yX0_bothInMemory, Cond.code yX0_bothInMemory cX0_bothInMemory 5 (some .boolean), Cond.methodLink RX0 134 yX0_areApart, Cond.instanceMethod yX0_areApart, Cond.selects RX0 yX0_areApart yX0_areApart, Cond.code yX0_areApart cX0_areApart 4 (some .boolean), Cond.fieldLink RX0 50 "SlotFiller$Block" "bases" "[I", Cond.fieldLink RX0 59 "SlotFiller$Block" "baseWriters" "[I", Cond.fieldLink RX0 56 "SlotFiller$Block" "endBytes" "[I", Cond.fieldLink RX0 53 "SlotFiller$Block" "firstBytes" "[I", Cond.methodLink RX0 123 yX0_latencyOf, Cond.instanceMethod yX0_latencyOf, Cond.selects RX0 yX0_latencyOf yX0_latencyOf, Cond.code yX0_latencyOf cX0_latencyOf 2 (some .int), Cond.fieldLink RX0 20 "SlotFiller$Block" "latencies" "[I"]
def wsX5_prepare : List Cond := .code yX5_prepare cX5_prepare 5 none :: ((wsX5_prepare_r1 ++ wsX5_prepare_r2) ++ wsX50 ++ wsX00)
def wsX5_choose : List Cond := .code yX5_choose cX5_choose 7 (some .int) :: ([.fieldLink RX5 19 "SlotFiller$Order" "placed" "[Z", .fieldLink RX5 23 "SlotFiller$Order" "waits" "[I", .fieldLink RX5 26 "SlotFiller$Order" "earliest" "[I", .fieldLink RX5 51 "SlotFiller$Block" "heights" "[I"] ++ wsX50 ++ wsX00)
def wsX5_place_r1 : List Cond := [Cond.fieldLink RX5 15 "SlotFiller$Order" "places" "[I", Cond.fieldLink RX5 9 "SlotFiller$Order" "size" "I", Cond.fieldLink RX5 19 "SlotFiller$Order" "placed" "[Z", Cond.fieldLink RX5 23 "SlotFiller$Order" "waits" "[I", Cond.fieldLink RX5 26 "SlotFiller$Order" "earliest" "[I", Cond.methodLink RX5 54 Lib.Math.max.name, Cond.static Lib.Math.max.name, Cond.initialized "java/lang/Math", Cond.code Lib.Math.max.name Lib.Math.max.code 2 (some .int), Cond.methodLink RX5 47 yX0_distance, Cond.instanceMethod yX0_distance, Cond.selects RX0 yX0_distance yX0_distance, Cond.initialized RX0, Cond.code yX0_distance cX0_distance 4 (some .int), Cond.fieldLink RX0 41 "SlotFiller$Block" "writes" "[J", Cond.fieldLink RX0 37 "SlotFiller$Block" "reads" "[J", Cond.fieldLink RX0 47 "SlotFiller$Block" "writesFractions" "[I", Cond.fieldLink RX0 44 "SlotFiller$Block" "readsFractions" "[I", Cond.methodLink RX0 126 Lib.Math.max.name, Cond.methodLink RX0 116 yX0_mustFollow, Cond.instanceMethod yX0_mustFollow, Cond.selects RX0 yX0_mustFollow yX0_mustFollow, Cond.code yX0_mustFollow cX0_mustFollow 3 (some .boolean), Cond.fieldLink RX0 30 "SlotFiller$Block" "kinds" "[I"]
def wsX5_place_r2 : List Cond := [Cond.methodLink RX0 119 yX0_meet, Cond.static yX0_meet, Cond.code yX0_meet cX0_meet 6 (some .boolean), Cond.methodLink RX0 131 yX0_bothInMemory, Cond.instanceMethod yX0_bothInMemory, Cond.selects RX0 yX0_bothInMemory yX0_bothInMemory, Cond.code yX0_bothInMemory cX0_bothInMemory 5 (some .boolean), Cond.methodLink RX0 134 yX0_areApart, Cond.instanceMethod yX0_areApart, Cond.selects RX0 yX0_areApart yX0_areApart, Cond.code yX0_areApart cX0_areApart 4 (some .boolean), Cond.fieldLink RX0 50 "SlotFiller$Block" "bases" "[I", Cond.fieldLink RX0 59 "SlotFiller$Block" "baseWriters" "[I", Cond.fieldLink RX0 56 "SlotFiller$Block" "endBytes" "[I", Cond.fieldLink RX0 53 "SlotFiller$Block" "firstBytes" "[I", Cond.methodLink RX0 123 yX0_latencyOf, Cond.instanceMethod yX0_latencyOf, Cond.selects RX0 yX0_latencyOf yX0_latencyOf, Cond.code yX0_latencyOf cX0_latencyOf 2 (some .int), Cond.fieldLink RX0 20 "SlotFiller$Block" "latencies" "[I"]
def wsX5_place : List Cond := .code yX5_place cX5_place 7 none :: ((wsX5_place_r1 ++ wsX5_place_r2) ++ wsX50 ++ wsX00)
def wsX5_byHeights_r1 : List Cond := [Cond.fieldLink RX5 9 "SlotFiller$Order" "size" "I", Cond.methodLink RX5 29 yX0_sizeWithoutBranch, Cond.instanceMethod yX0_sizeWithoutBranch, Cond.selects RX0 yX0_sizeWithoutBranch yX0_sizeWithoutBranch, Cond.initialized RX0, Cond.code yX0_sizeWithoutBranch cX0_sizeWithoutBranch 1 (some .int), Cond.fieldLink RX0 23 "SlotFiller$Block" "size" "I", Cond.methodLink RX0 70 yX0_endsInBranch, Cond.instanceMethod yX0_endsInBranch, Cond.selects RX0 yX0_endsInBranch yX0_endsInBranch, Cond.code yX0_endsInBranch cX0_endsInBranch 1 (some .boolean), Cond.fieldLink RX0 30 "SlotFiller$Block" "kinds" "[I", Cond.methodLink RX5 35 yX5_prepare, Cond.instanceMethod yX5_prepare, Cond.selects RX5 yX5_prepare yX5_prepare, Cond.initialized RX5, Cond.code yX5_prepare cX5_prepare 5 none, Cond.fieldLink RX5 19 "SlotFiller$Order" "placed" "[Z", Cond.fieldLink RX5 26 "SlotFiller$Order" "earliest" "[I", Cond.fieldLink RX5 23 "SlotFiller$Order" "waits" "[I", Cond.methodLink RX5 47 yX0_distance, Cond.instanceMethod yX0_distance, Cond.selects RX0 yX0_distance yX0_distance, Cond.code yX0_distance cX0_distance 4 (some .int)]
def wsX5_byHeights_r2 : List Cond := [Cond.fieldLink RX0 41 "SlotFiller$Block" "writes" "[J", Cond.fieldLink RX0 37 "SlotFiller$Block" "reads" "[J", Cond.fieldLink RX0 47 "SlotFiller$Block" "writesFractions" "[I", Cond.fieldLink RX0 44 "SlotFiller$Block" "readsFractions" "[I", Cond.methodLink RX0 126 Lib.Math.max.name, Cond.static Lib.Math.max.name, Cond.initialized "java/lang/Math", Cond.code Lib.Math.max.name Lib.Math.max.code 2 (some .int), Cond.methodLink RX0 116 yX0_mustFollow, Cond.instanceMethod yX0_mustFollow, Cond.selects RX0 yX0_mustFollow yX0_mustFollow, Cond.code yX0_mustFollow cX0_mustFollow 3 (some .boolean), Cond.methodLink RX0 119 yX0_meet, Cond.static yX0_meet, Cond.code yX0_meet cX0_meet 6 (some .boolean), Cond.methodLink RX0 131 yX0_bothInMemory, Cond.instanceMethod yX0_bothInMemory, Cond.selects RX0 yX0_bothInMemory yX0_bothInMemory, Cond.code yX0_bothInMemory cX0_bothInMemory 5 (some .boolean), Cond.methodLink RX0 134 yX0_areApart, Cond.instanceMethod yX0_areApart, Cond.selects RX0 yX0_areApart yX0_areApart, Cond.code yX0_areApart cX0_areApart 4 (some .boolean), Cond.fieldLink RX0 50 "SlotFiller$Block" "bases" "[I"]
def wsX5_byHeights_r3 : List Cond := [Cond.fieldLink RX0 59 "SlotFiller$Block" "baseWriters" "[I", Cond.fieldLink RX0 56 "SlotFiller$Block" "endBytes" "[I", Cond.fieldLink RX0 53 "SlotFiller$Block" "firstBytes" "[I", Cond.methodLink RX0 123 yX0_latencyOf, Cond.instanceMethod yX0_latencyOf, Cond.selects RX0 yX0_latencyOf yX0_latencyOf, Cond.code yX0_latencyOf cX0_latencyOf 2 (some .int), Cond.fieldLink RX0 20 "SlotFiller$Block" "latencies" "[I", Cond.methodLink RX5 39 yX5_choose, Cond.instanceMethod yX5_choose, Cond.selects RX5 yX5_choose yX5_choose, Cond.code yX5_choose cX5_choose 7 (some .int), Cond.fieldLink RX5 51 "SlotFiller$Block" "heights" "[I", Cond.methodLink RX5 43 yX5_place, Cond.instanceMethod yX5_place, Cond.selects RX5 yX5_place yX5_place, Cond.code yX5_place cX5_place 7 none, Cond.fieldLink RX5 15 "SlotFiller$Order" "places" "[I", Cond.methodLink RX5 54 Lib.Math.max.name]
def wsX5_byHeights : List Cond := .code yX5_byHeights cX5_byHeights 5 none :: ((wsX5_byHeights_r1 ++ (wsX5_byHeights_r2 ++ wsX5_byHeights_r3)) ++ wsX50 ++ wsX00)
def wsX6_init : List Cond := .code yX6_init cX6_init 1 none :: ([.methodLink RX6 3 objectInit, .instanceMethod objectInit, .code objectInit ⟨#[0xb1]⟩ 1 none, .fieldLink RX6 9 "SlotFiller$Outcome" "size" "I", .arrayClass .int, .fieldLink RX6 15 "SlotFiller$Outcome" "words" "[I", .fieldLink RX6 19 "SlotFiller$Outcome" "origins" "[I", .fieldLink RX6 22 "SlotFiller$Outcome" "duration" "I", .fieldLink RX6 25 "SlotFiller$Outcome" "ownNops" "I", .fieldLink RX6 28 "SlotFiller$Outcome" "filled" "I", .fieldLink RX6 31 "SlotFiller$Outcome" "starts" "[I"] ++ wsX60)
def wsX6_spare : List Cond := .code yX6_spare cX6_spare 4 (some .int) :: ([.fieldLink RX6 62 "SlotFiller$Block" "likely" "[Z", .fieldLink RX6 54 "SlotFiller$Block" "size" "I", .fieldLink RX6 38 "SlotFiller$Order" "size" "I", .fieldLink RX6 41 "SlotFiller$Order" "places" "[I", .fieldLink RX6 66 "SlotFiller$Block" "needed" "[Z", .fieldLink RX6 69 "SlotFiller$Block" "kinds" "[I", .methodLink RX6 48 yX0_endsInBranch, .instanceMethod yX0_endsInBranch, .selects RX0 yX0_endsInBranch yX0_endsInBranch, .initialized RX0, .code yX0_endsInBranch cX0_endsInBranch 1 (some .boolean), .fieldLink RX0 23 "SlotFiller$Block" "size" "I", .fieldLink RX0 30 "SlotFiller$Block" "kinds" "[I"] ++ wsX00 ++ wsX50)
def wsX6_put : List Cond := .code yX6_put cX6_put 3 none :: ([.fieldLink RX6 9 "SlotFiller$Outcome" "size" "I", .fieldLink RX6 15 "SlotFiller$Outcome" "words" "[I", .fieldLink RX6 74 "SlotFiller$Block" "words" "[I", .fieldLink RX6 19 "SlotFiller$Outcome" "origins" "[I"] ++ wsX60 ++ wsX00)
def wsX6_fillSlot : List Cond := .code yX6_fillSlot cX6_fillSlot 3 none :: ([.fieldLink RX6 25 "SlotFiller$Outcome" "ownNops" "I", .fieldLink RX6 28 "SlotFiller$Outcome" "filled" "I", .methodLink RX6 44 yX6_put, .instanceMethod yX6_put, .selects RX6 yX6_put yX6_put, .initialized RX6, .code yX6_put cX6_put 3 none, .fieldLink RX6 9 "SlotFiller$Outcome" "size" "I", .fieldLink RX6 15 "SlotFiller$Outcome" "words" "[I", .fieldLink RX6 74 "SlotFiller$Block" "words" "[I", .fieldLink RX6 19 "SlotFiller$Outcome" "origins" "[I"] ++ wsX60 ++ wsX00)
def wsX6_distanceOf_r1 : List Cond := [Cond.fieldLink RX6 19 "SlotFiller$Outcome" "origins" "[I", Cond.methodLink RX6 85 yX0_distance, Cond.instanceMethod yX0_distance, Cond.selects RX0 yX0_distance yX0_distance, Cond.initialized RX0, Cond.code yX0_distance cX0_distance 4 (some .int), Cond.fieldLink RX0 41 "SlotFiller$Block" "writes" "[J", Cond.fieldLink RX0 37 "SlotFiller$Block" "reads" "[J", Cond.fieldLink RX0 47 "SlotFiller$Block" "writesFractions" "[I", Cond.fieldLink RX0 44 "SlotFiller$Block" "readsFractions" "[I", Cond.methodLink RX0 126 Lib.Math.max.name, Cond.static Lib.Math.max.name, Cond.initialized "java/lang/Math", Cond.code Lib.Math.max.name Lib.Math.max.code 2 (some .int), Cond.methodLink RX0 116 yX0_mustFollow, Cond.instanceMethod yX0_mustFollow, Cond.selects RX0 yX0_mustFollow yX0_mustFollow, Cond.code yX0_mustFollow cX0_mustFollow 3 (some .boolean), Cond.fieldLink RX0 30 "SlotFiller$Block" "kinds" "[I", Cond.methodLink RX0 119 yX0_meet, Cond.static yX0_meet, Cond.code yX0_meet cX0_meet 6 (some .boolean), Cond.methodLink RX0 131 yX0_bothInMemory, Cond.instanceMethod yX0_bothInMemory]
def wsX6_distanceOf_r2 : List Cond := [Cond.selects RX0 yX0_bothInMemory yX0_bothInMemory, Cond.code yX0_bothInMemory cX0_bothInMemory 5 (some .boolean), Cond.methodLink RX0 134 yX0_areApart, Cond.instanceMethod yX0_areApart, Cond.selects RX0 yX0_areApart yX0_areApart, Cond.code yX0_areApart cX0_areApart 4 (some .boolean), Cond.fieldLink RX0 50 "SlotFiller$Block" "bases" "[I", Cond.fieldLink RX0 59 "SlotFiller$Block" "baseWriters" "[I", Cond.fieldLink RX0 56 "SlotFiller$Block" "endBytes" "[I", Cond.fieldLink RX0 53 "SlotFiller$Block" "firstBytes" "[I", Cond.methodLink RX0 123 yX0_latencyOf, Cond.instanceMethod yX0_latencyOf, Cond.selects RX0 yX0_latencyOf yX0_latencyOf, Cond.code yX0_latencyOf cX0_latencyOf 2 (some .int), Cond.fieldLink RX0 20 "SlotFiller$Block" "latencies" "[I"]
def wsX6_distanceOf : List Cond := .code yX6_distanceOf cX6_distanceOf 4 (some .int) :: ((wsX6_distanceOf_r1 ++ wsX6_distanceOf_r2) ++ wsX60 ++ wsX00)
def wsX6_run_r1 : List Cond := [Cond.fieldLink RX6 9 "SlotFiller$Outcome" "size" "I", Cond.fieldLink RX6 31 "SlotFiller$Outcome" "starts" "[I", Cond.methodLink RX6 79 Lib.Math.max.name, Cond.static Lib.Math.max.name, Cond.initialized "java/lang/Math", Cond.code Lib.Math.max.name Lib.Math.max.code 2 (some .int), Cond.methodLink RX6 75 yX6_distanceOf, Cond.instanceMethod yX6_distanceOf, Cond.selects RX6 yX6_distanceOf yX6_distanceOf, Cond.initialized RX6, Cond.code yX6_distanceOf cX6_distanceOf 4 (some .int), Cond.fieldLink RX6 19 "SlotFiller$Outcome" "origins" "[I", Cond.methodLink RX6 85 yX0_distance, Cond.instanceMethod yX0_distance, Cond.selects RX0 yX0_distance yX0_distance, Cond.initialized RX0, Cond.code yX0_distance cX0_distance 4 (some .int), Cond.fieldLink RX0 41 "SlotFiller$Block" "writes" "[J", Cond.fieldLink RX0 37 "SlotFiller$Block" "reads" "[J", Cond.fieldLink RX0 47 "SlotFiller$Block" "writesFractions" "[I", Cond.fieldLink RX0 44 "SlotFiller$Block" "readsFractions" "[I", Cond.methodLink RX0 126 Lib.Math.max.name, Cond.methodLink RX0 116 yX0_mustFollow, Cond.instanceMethod yX0_mustFollow]
def wsX6_run_r2 : List Cond := [Cond.selects RX0 yX0_mustFollow yX0_mustFollow, Cond.code yX0_mustFollow cX0_mustFollow 3 (some .boolean), Cond.fieldLink RX0 30 "SlotFiller$Block" "kinds" "[I", Cond.methodLink RX0 119 yX0_meet, Cond.static yX0_meet, Cond.code yX0_meet cX0_meet 6 (some .boolean), Cond.methodLink RX0 131 yX0_bothInMemory, Cond.instanceMethod yX0_bothInMemory, Cond.selects RX0 yX0_bothInMemory yX0_bothInMemory, Cond.code yX0_bothInMemory cX0_bothInMemory 5 (some .boolean), Cond.methodLink RX0 134 yX0_areApart, Cond.instanceMethod yX0_areApart, Cond.selects RX0 yX0_areApart yX0_areApart, Cond.code yX0_areApart cX0_areApart 4 (some .boolean), Cond.fieldLink RX0 50 "SlotFiller$Block" "bases" "[I", Cond.fieldLink RX0 59 "SlotFiller$Block" "baseWriters" "[I", Cond.fieldLink RX0 56 "SlotFiller$Block" "endBytes" "[I", Cond.fieldLink RX0 53 "SlotFiller$Block" "firstBytes" "[I", Cond.methodLink RX0 123 yX0_latencyOf, Cond.instanceMethod yX0_latencyOf, Cond.selects RX0 yX0_latencyOf yX0_latencyOf, Cond.code yX0_latencyOf cX0_latencyOf 2 (some .int), Cond.fieldLink RX0 20 "SlotFiller$Block" "latencies" "[I"]
def wsX6_run : List Cond := .code yX6_run cX6_run 5 (some .int) :: ((wsX6_run_r1 ++ wsX6_run_r2) ++ wsX60 ++ wsX00)
def wsX6_take_r1 : List Cond := [Cond.fieldLink RX6 9 "SlotFiller$Outcome" "size" "I", Cond.fieldLink RX6 25 "SlotFiller$Outcome" "ownNops" "I", Cond.fieldLink RX6 28 "SlotFiller$Outcome" "filled" "I", Cond.fieldLink RX6 38 "SlotFiller$Order" "size" "I", Cond.fieldLink RX6 41 "SlotFiller$Order" "places" "[I", Cond.fieldLink RX6 54 "SlotFiller$Block" "size" "I", Cond.fieldLink RX6 22 "SlotFiller$Outcome" "duration" "I", Cond.methodLink RX6 34 yX6_spare, Cond.static yX6_spare, Cond.initialized RX6, Cond.code yX6_spare cX6_spare 4 (some .int), Cond.fieldLink RX6 62 "SlotFiller$Block" "likely" "[Z", Cond.fieldLink RX6 66 "SlotFiller$Block" "needed" "[Z", Cond.fieldLink RX6 69 "SlotFiller$Block" "kinds" "[I", Cond.methodLink RX6 48 yX0_endsInBranch, Cond.instanceMethod yX0_endsInBranch, Cond.selects RX0 yX0_endsInBranch yX0_endsInBranch, Cond.initialized RX0, Cond.code yX0_endsInBranch cX0_endsInBranch 1 (some .boolean), Cond.fieldLink RX0 23 "SlotFiller$Block" "size" "I", Cond.fieldLink RX0 30 "SlotFiller$Block" "kinds" "[I", Cond.methodLink RX6 44 yX6_put, Cond.instanceMethod yX6_put, Cond.selects RX6 yX6_put yX6_put]
def wsX6_take_r2 : List Cond := [Cond.code yX6_put cX6_put 3 none, Cond.fieldLink RX6 15 "SlotFiller$Outcome" "words" "[I", Cond.fieldLink RX6 74 "SlotFiller$Block" "words" "[I", Cond.fieldLink RX6 19 "SlotFiller$Outcome" "origins" "[I", Cond.methodLink RX6 55 yX6_fillSlot, Cond.instanceMethod yX6_fillSlot, Cond.selects RX6 yX6_fillSlot yX6_fillSlot, Cond.code yX6_fillSlot cX6_fillSlot 3 none, Cond.methodLink RX6 58 yX6_run, Cond.instanceMethod yX6_run, Cond.selects RX6 yX6_run yX6_run, Cond.code yX6_run cX6_run 5 (some .int), Cond.fieldLink RX6 31 "SlotFiller$Outcome" "starts" "[I", Cond.methodLink RX6 79 Lib.Math.max.name, Cond.static Lib.Math.max.name, Cond.initialized "java/lang/Math", Cond.code Lib.Math.max.name Lib.Math.max.code 2 (some .int), Cond.methodLink RX6 75 yX6_distanceOf, Cond.instanceMethod yX6_distanceOf, Cond.selects RX6 yX6_distanceOf yX6_distanceOf, Cond.code yX6_distanceOf cX6_distanceOf 4 (some .int), Cond.methodLink RX6 85 yX0_distance, Cond.instanceMethod yX0_distance, Cond.selects RX0 yX0_distance yX0_distance]
def wsX6_take_r3 : List Cond := [Cond.code yX0_distance cX0_distance 4 (some .int), Cond.fieldLink RX0 41 "SlotFiller$Block" "writes" "[J", Cond.fieldLink RX0 37 "SlotFiller$Block" "reads" "[J", Cond.fieldLink RX0 47 "SlotFiller$Block" "writesFractions" "[I", Cond.fieldLink RX0 44 "SlotFiller$Block" "readsFractions" "[I", Cond.methodLink RX0 126 Lib.Math.max.name, Cond.methodLink RX0 116 yX0_mustFollow, Cond.instanceMethod yX0_mustFollow, Cond.selects RX0 yX0_mustFollow yX0_mustFollow, Cond.code yX0_mustFollow cX0_mustFollow 3 (some .boolean), Cond.methodLink RX0 119 yX0_meet, Cond.static yX0_meet, Cond.code yX0_meet cX0_meet 6 (some .boolean), Cond.methodLink RX0 131 yX0_bothInMemory, Cond.instanceMethod yX0_bothInMemory, Cond.selects RX0 yX0_bothInMemory yX0_bothInMemory, Cond.code yX0_bothInMemory cX0_bothInMemory 5 (some .boolean), Cond.methodLink RX0 134 yX0_areApart, Cond.instanceMethod yX0_areApart, Cond.selects RX0 yX0_areApart yX0_areApart, Cond.code yX0_areApart cX0_areApart 4 (some .boolean), Cond.fieldLink RX0 50 "SlotFiller$Block" "bases" "[I", Cond.fieldLink RX0 59 "SlotFiller$Block" "baseWriters" "[I", Cond.fieldLink RX0 56 "SlotFiller$Block" "endBytes" "[I"]
def wsX6_take_r4 : List Cond := [Cond.fieldLink RX0 53 "SlotFiller$Block" "firstBytes" "[I", Cond.methodLink RX0 123 yX0_latencyOf, Cond.instanceMethod yX0_latencyOf, Cond.selects RX0 yX0_latencyOf yX0_latencyOf, Cond.code yX0_latencyOf cX0_latencyOf 2 (some .int), Cond.fieldLink RX0 20 "SlotFiller$Block" "latencies" "[I"]
def wsX6_take : List Cond := .code yX6_take cX6_take 6 none :: ((wsX6_take_r1 ++ (wsX6_take_r2 ++ (wsX6_take_r3 ++ wsX6_take_r4))) ++ wsX60 ++ wsX50 ++ wsX00)
def wsX8_init_r1 : List Cond := [Cond.methodLink RX8 3 objectInit, Cond.instanceMethod objectInit, Cond.code objectInit ⟨#[0xb1]⟩ 1 none, Cond.classLink RX8 9 RX0, Cond.instantiable RX0 15, Cond.initialized RX0, Cond.fieldLink RX8 12 "SlotFiller" "block" "LSlotFiller$Block;", Cond.classLink RX8 16 RX5, Cond.instantiable RX5 5, Cond.initialized RX5, Cond.fieldLink RX8 19 "SlotFiller" "order" "LSlotFiller$Order;", Cond.classLink RX8 23 RX6, Cond.instantiable RX6 7, Cond.initialized RX6, Cond.fieldLink RX8 26 "SlotFiller" "outcome" "LSlotFiller$Outcome;", Cond.fieldLink RX8 30 "SlotFiller" "through" "Z", Cond.instanceMethod yX0_init, Cond.code yX0_init cX0_init 1 none, Cond.methodLink RX0 3 objectInit, Cond.fieldLink RX0 9 "SlotFiller$Block" "FIRST_LATENCIES" "[I", Cond.methodLink RX0 15 ⟨"[I", "clone", "()Ljava/lang/Object;"⟩, Cond.sameMethod "[I" "java/lang/Object" "clone" "()Ljava/lang/Object;", Cond.native ⟨"java/lang/Object", "clone", "()Ljava/lang/Object;"⟩, Cond.instanceMethod ⟨"java/lang/Object", "clone", "()Ljava/lang/Object;"⟩]
def wsX8_init_r2 : List Cond := [Cond.selects "[I" ⟨"[I", "clone", "()Ljava/lang/Object;"⟩ ⟨"java/lang/Object", "clone", "()Ljava/lang/Object;"⟩, Cond.classLink RX0 16 "[I", Cond.fieldLink RX0 20 "SlotFiller$Block" "latencies" "[I", Cond.fieldLink RX0 23 "SlotFiller$Block" "size" "I", Cond.arrayClass .int, Cond.fieldLink RX0 27 "SlotFiller$Block" "words" "[I", Cond.fieldLink RX0 30 "SlotFiller$Block" "kinds" "[I", Cond.arrayClass .boolean, Cond.fieldLink RX0 33 "SlotFiller$Block" "likely" "[Z", Cond.arrayClass .long, Cond.fieldLink RX0 37 "SlotFiller$Block" "reads" "[J", Cond.fieldLink RX0 41 "SlotFiller$Block" "writes" "[J", Cond.fieldLink RX0 44 "SlotFiller$Block" "readsFractions" "[I", Cond.fieldLink RX0 47 "SlotFiller$Block" "writesFractions" "[I", Cond.fieldLink RX0 50 "SlotFiller$Block" "bases" "[I", Cond.fieldLink RX0 53 "SlotFiller$Block" "firstBytes" "[I", Cond.fieldLink RX0 56 "SlotFiller$Block" "endBytes" "[I", Cond.fieldLink RX0 59 "SlotFiller$Block" "baseWriters" "[I", Cond.fieldLink RX0 62 "SlotFiller$Block" "heights" "[I", Cond.fieldLink RX0 65 "SlotFiller$Block" "needed" "[Z", Cond.instanceMethod yX5_init, Cond.code yX5_init cX5_init 1 none, Cond.methodLink RX5 3 objectInit, Cond.fieldLink RX5 9 "SlotFiller$Order" "size" "I"]
def wsX8_init_r3 : List Cond := [Cond.fieldLink RX5 15 "SlotFiller$Order" "places" "[I", Cond.fieldLink RX5 19 "SlotFiller$Order" "placed" "[Z", Cond.fieldLink RX5 23 "SlotFiller$Order" "waits" "[I", Cond.fieldLink RX5 26 "SlotFiller$Order" "earliest" "[I", Cond.instanceMethod yX6_init, Cond.code yX6_init cX6_init 1 none, Cond.methodLink RX6 3 objectInit, Cond.fieldLink RX6 9 "SlotFiller$Outcome" "size" "I", Cond.fieldLink RX6 15 "SlotFiller$Outcome" "words" "[I", Cond.fieldLink RX6 19 "SlotFiller$Outcome" "origins" "[I", Cond.fieldLink RX6 22 "SlotFiller$Outcome" "duration" "I", Cond.fieldLink RX6 25 "SlotFiller$Outcome" "ownNops" "I", Cond.fieldLink RX6 28 "SlotFiller$Outcome" "filled" "I", Cond.fieldLink RX6 31 "SlotFiller$Outcome" "starts" "[I"]
def wsX8_init : List Cond := .code yX8_init cX8_init 1 none :: ((wsX8_init_r1 ++ (wsX8_init_r2 ++ wsX8_init_r3)) ++ wsX00 ++ wsX80 ++ wsX50 ++ wsX60)
def wsX8_latency : List Cond := .code yX8_latency cX8_latency 4 (some .int) :: ([.classLink RX8 36 "java/lang/IllegalArgumentException", .initialized "java/lang/IllegalArgumentException", .fieldLink RX8 12 "SlotFiller" "block" "LSlotFiller$Block;", .fieldLink RX8 45 "SlotFiller$Block" "latencies" "[I"] ++ wsX80 ++ wsX00 ++ (vx_atS RX8 40 "java/lang/IllegalArgumentException" ["java/lang/RuntimeException", "java/lang/Exception"]).filter goodWord)
def wsX8_add_r1 : List Cond := [Cond.classLink RX8 36 "java/lang/IllegalArgumentException", Cond.initialized "java/lang/IllegalArgumentException", Cond.classLink RX8 61 "java/lang/IllegalStateException", Cond.initialized "java/lang/IllegalStateException", Cond.fieldLink RX8 30 "SlotFiller" "through" "Z", Cond.fieldLink RX8 12 "SlotFiller" "block" "LSlotFiller$Block;", Cond.methodLink RX8 49 yX2_formOf, Cond.static yX2_formOf, Cond.initialized RX2, Cond.code yX2_formOf cX2_formOf 2 (some .int), Cond.methodLink RX2 11 yX2_formByOperation, Cond.static yX2_formByOperation, Cond.code yX2_formByOperation cX2_formByOperation 2 (some .int), Cond.methodLink RX2 36 yX3_operation, Cond.static yX3_operation, Cond.initialized RX3, Cond.code yX3_operation cX3_operation 1 (some .int), Cond.methodLink RX2 39 yX3_function, Cond.static yX3_function, Cond.code yX3_function cX3_function 1 (some .int), Cond.methodLink RX2 42 yX2_special, Cond.static yX2_special, Cond.code yX2_special cX2_special 1 (some .int), Cond.methodLink RX2 63 yX2_threeOrBarrier]
def wsX8_add_r2 : List Cond := [Cond.static yX2_threeOrBarrier, Cond.code yX2_threeOrBarrier cX2_threeOrBarrier 1 (some .int), Cond.methodLink RX2 45 yX3_t, Cond.static yX3_t, Cond.code yX3_t cX3_t 1 (some .int), Cond.methodLink RX2 48 yX2_byRegisterField, Cond.static yX2_byRegisterField, Cond.code yX2_byRegisterField cX2_byRegisterField 1 (some .int), Cond.constant RX2 66 (8388631), Cond.methodLink RX2 51 yX2_coprocessor, Cond.static yX2_coprocessor, Cond.code yX2_coprocessor cX2_coprocessor 2 (some .int), Cond.constant RX2 75 (131104), Cond.constant RX2 76 (8392711), Cond.constant RX2 77 (4734981), Cond.constant RX2 81 (1589253), Cond.methodLink RX2 72 yX3_s, Cond.static yX3_s, Cond.code yX3_s cX3_s 1 (some .int), Cond.methodLink RX2 78 yX2_fraction, Cond.static yX2_fraction, Cond.code yX2_fraction cX2_fraction 1 (some .int), Cond.constant RX2 95 (573445), Cond.constant RX2 96 (573446)]
def wsX8_add_r3 : List Cond := [Cond.constant RX2 97 (540678), Cond.constant RX2 88 (540677), Cond.constant RX2 98 (610309), Cond.constant RX2 99 (606245), Cond.constant RX2 100 (61445), Cond.methodLink RX2 82 yX2_doubled, Cond.static yX2_doubled, Cond.code yX2_doubled cX2_doubled 3 (some .int), Cond.constant RX2 19 (1048576), Cond.constant RX2 89 (32768), Cond.constant RX2 28 (2097152), Cond.constant RX2 90 (524288), Cond.constant RX2 32 (4194304), Cond.methodLink RX2 20 yX4_has, Cond.static yX4_has, Cond.initialized RX4, Cond.code yX4_has cX4_has 2 (some .boolean), Cond.methodLink RX2 91 yX2_answersWhole, Cond.static yX2_answersWhole, Cond.code yX2_answersWhole cX2_answersWhole 1 (some .boolean), Cond.methodLink RX2 85 yX2_ofWhole, Cond.static yX2_ofWhole, Cond.code yX2_ofWhole cX2_ofWhole 1 (some .int), Cond.methodLink RX2 54 yX2_special2]
def wsX8_add_r4 : List Cond := [Cond.static yX2_special2, Cond.code yX2_special2 cX2_special2 1 (some .int), Cond.methodLink RX2 57 yX2_immediateOrBranch, Cond.static yX2_immediateOrBranch, Cond.code yX2_immediateOrBranch cX2_immediateOrBranch 1 (some .int), Cond.constant RX2 67 (8388663), Cond.methodLink RX2 60 yX2_memory, Cond.static yX2_memory, Cond.code yX2_memory cX2_memory 1 (some .int), Cond.constant RX2 68 (262161), Cond.constant RX2 69 (2359313), Cond.constant RX2 70 (32786), Cond.constant RX2 71 (2129938), Cond.methodLink RX2 15 yX2_hasOddDouble, Cond.static yX2_hasOddDouble, Cond.code yX2_hasOddDouble cX2_hasOddDouble 3 (some .boolean), Cond.methodLink RX2 23 yX3_fractionS, Cond.static yX3_fractionS, Cond.code yX3_fractionS cX3_fractionS 1 (some .int), Cond.methodLink RX3 13 yX3_d, Cond.static yX3_d, Cond.code yX3_d cX3_d 1 (some .int), Cond.methodLink RX2 29 yX3_fractionT, Cond.static yX3_fractionT]
def wsX8_add_r5 : List Cond := [Cond.code yX3_fractionT cX3_fractionT 1 (some .int), Cond.methodLink RX3 7 yX3_t, Cond.methodLink RX2 33 yX3_fractionD, Cond.static yX3_fractionD, Cond.code yX3_fractionD cX3_fractionD 1 (some .int), Cond.methodLink RX8 57 yX0_isClosed, Cond.instanceMethod yX0_isClosed, Cond.selects RX0 yX0_isClosed yX0_isClosed, Cond.initialized RX0, Cond.code yX0_isClosed cX0_isClosed 1 (some .boolean), Cond.fieldLink RX0 23 "SlotFiller$Block" "size" "I", Cond.methodLink RX0 70 yX0_endsInBranch, Cond.instanceMethod yX0_endsInBranch, Cond.selects RX0 yX0_endsInBranch yX0_endsInBranch, Cond.code yX0_endsInBranch cX0_endsInBranch 1 (some .boolean), Cond.fieldLink RX0 30 "SlotFiller$Block" "kinds" "[I", Cond.methodLink RX8 66 yX0_empty, Cond.instanceMethod yX0_empty, Cond.selects RX0 yX0_empty yX0_empty, Cond.code yX0_empty cX0_empty 1 none, Cond.methodLink RX8 69 yX0_append, Cond.instanceMethod yX0_append, Cond.selects RX0 yX0_append yX0_append, Cond.code yX0_append cX0_append 3 none]
def wsX8_add_r6 : List Cond := [Cond.fieldLink RX0 27 "SlotFiller$Block" "words" "[I", Cond.fieldLink RX0 33 "SlotFiller$Block" "likely" "[Z", Cond.constant RX0 78 (8388608), Cond.fieldLink RX0 37 "SlotFiller$Block" "reads" "[J", Cond.fieldLink RX0 41 "SlotFiller$Block" "writes" "[J", Cond.fieldLink RX0 44 "SlotFiller$Block" "readsFractions" "[I", Cond.fieldLink RX0 47 "SlotFiller$Block" "writesFractions" "[I", Cond.fieldLink RX0 50 "SlotFiller$Block" "bases" "[I", Cond.fieldLink RX0 53 "SlotFiller$Block" "firstBytes" "[I", Cond.fieldLink RX0 56 "SlotFiller$Block" "endBytes" "[I", Cond.fieldLink RX0 59 "SlotFiller$Block" "baseWriters" "[I", Cond.methodLink RX0 74 yX4_kindOf, Cond.static yX4_kindOf, Cond.code yX4_kindOf cX4_kindOf 1 (some .int), Cond.methodLink RX0 79 yX4_has, Cond.methodLink RX0 83 yX7_reads, Cond.static yX7_reads, Cond.initialized RX7, Cond.code yX7_reads cX7_reads 4 (some .long), Cond.constantLong RX7 31 (4294967296), Cond.constantLong RX7 33 (8589934592), Cond.methodLink RX7 9 yX4_has, Cond.methodLink RX7 13 yX3_s, Cond.methodLink RX7 19 yX7_register]
def wsX8_add_r7 : List Cond := [Cond.static yX7_register, Cond.code yX7_register cX7_register 1 (some .long), Cond.methodLink RX7 25 yX3_t, Cond.methodLink RX7 28 yX3_d, Cond.methodLink RX0 88 yX7_writes, Cond.static yX7_writes, Cond.code yX7_writes cX7_writes 4 (some .long), Cond.methodLink RX0 90 yX7_readsFractions, Cond.static yX7_readsFractions, Cond.code yX7_readsFractions cX7_readsFractions 3 (some .int), Cond.constant RX7 39 (32768), Cond.constant RX7 43 (65536), Cond.methodLink RX7 35 yX7_fractionS, Cond.static yX7_fractionS, Cond.code yX7_fractionS cX7_fractionS 2 (some .int), Cond.constant RX7 52 (1048576), Cond.methodLink RX7 50 yX3_fractionS, Cond.methodLink RX7 53 yX7_fraction, Cond.static yX7_fraction, Cond.code yX7_fraction cX7_fraction 2 (some .int), Cond.methodLink RX7 40 yX7_fractionT, Cond.static yX7_fractionT, Cond.code yX7_fractionT cX7_fractionT 2 (some .int), Cond.constant RX7 59 (2097152)]
def wsX8_add_r8 : List Cond := [Cond.methodLink RX7 57 yX3_fractionT, Cond.methodLink RX7 44 yX7_fractionD, Cond.static yX7_fractionD, Cond.code yX7_fractionD cX7_fractionD 2 (some .int), Cond.constant RX7 62 (4194304), Cond.methodLink RX7 60 yX3_fractionD, Cond.methodLink RX0 93 yX7_writesFractions, Cond.static yX7_writesFractions, Cond.code yX7_writesFractions cX7_writesFractions 3 (some .int), Cond.constant RX7 47 (131072), Cond.constant RX7 48 (262144), Cond.constant RX7 49 (524288), Cond.methodLink RX0 95 yX3_s, Cond.methodLink RX0 100 yX1_first, Cond.static yX1_first, Cond.initialized RX1, Cond.code yX1_first cX1_first 2 (some .int), Cond.methodLink RX1 7 yX3_offset, Cond.static yX3_offset, Cond.code yX3_offset cX3_offset 1 (some .int), Cond.methodLink RX1 13 yX3_operation, Cond.methodLink RX1 16 yX1_touchesWholeWord, Cond.static yX1_touchesWholeWord, Cond.code yX1_touchesWholeWord cX1_touchesWholeWord 1 (some .boolean)]
def wsX8_add_r9 : List Cond := [Cond.methodLink RX0 105 yX1_many, Cond.static yX1_many, Cond.code yX1_many cX1_many 1 (some .int), Cond.methodLink RX0 108 yX7_register, Cond.methodLink RX0 112 yX0_lastWriter, Cond.instanceMethod yX0_lastWriter, Cond.selects RX0 yX0_lastWriter yX0_lastWriter, Cond.code yX0_lastWriter cX0_lastWriter 4 (some .int), Cond.methodLink RX8 73 yX4_kindOf]
def wsX8_add : List Cond := .code yX8_add cX8_add 3 (some .int) :: ((wsX8_add_r1 ++ (wsX8_add_r2 ++ (wsX8_add_r3 ++ (wsX8_add_r4 ++ (wsX8_add_r5 ++ (wsX8_add_r6 ++ (wsX8_add_r7 ++ (wsX8_add_r8 ++ wsX8_add_r9)))))))) ++ wsX80 ++ wsX00 ++ (vx_atS RX8 40 "java/lang/IllegalArgumentException" ["java/lang/RuntimeException", "java/lang/Exception"]).filter goodWord ++ (vx_atS RX8 65 "java/lang/IllegalStateException" ["java/lang/RuntimeException", "java/lang/Exception"]).filter goodWord)
def wsX8_schedule_r1 : List Cond := [Cond.fieldLink RX8 30 "SlotFiller" "through" "Z", Cond.fieldLink RX8 12 "SlotFiller" "block" "LSlotFiller$Block;", Cond.fieldLink RX8 19 "SlotFiller" "order" "LSlotFiller$Order;", Cond.fieldLink RX8 26 "SlotFiller" "outcome" "LSlotFiller$Outcome;", Cond.fieldLink RX8 90 "SlotFiller$Outcome" "size" "I", Cond.methodLink RX8 76 yX0_survey, Cond.instanceMethod yX0_survey, Cond.selects RX0 yX0_survey yX0_survey, Cond.initialized RX0, Cond.code yX0_survey cX0_survey 5 none, Cond.fieldLink RX0 23 "SlotFiller$Block" "size" "I", Cond.fieldLink RX0 62 "SlotFiller$Block" "heights" "[I", Cond.methodLink RX0 126 Lib.Math.max.name, Cond.static Lib.Math.max.name, Cond.initialized "java/lang/Math", Cond.code Lib.Math.max.name Lib.Math.max.code 2 (some .int), Cond.fieldLink RX0 65 "SlotFiller$Block" "needed" "[Z", Cond.methodLink RX0 137 yX0_distance, Cond.instanceMethod yX0_distance, Cond.selects RX0 yX0_distance yX0_distance, Cond.code yX0_distance cX0_distance 4 (some .int), Cond.fieldLink RX0 41 "SlotFiller$Block" "writes" "[J", Cond.fieldLink RX0 37 "SlotFiller$Block" "reads" "[J", Cond.fieldLink RX0 47 "SlotFiller$Block" "writesFractions" "[I"]
def wsX8_schedule_r2 : List Cond := [Cond.fieldLink RX0 44 "SlotFiller$Block" "readsFractions" "[I", Cond.methodLink RX0 116 yX0_mustFollow, Cond.instanceMethod yX0_mustFollow, Cond.selects RX0 yX0_mustFollow yX0_mustFollow, Cond.code yX0_mustFollow cX0_mustFollow 3 (some .boolean), Cond.fieldLink RX0 30 "SlotFiller$Block" "kinds" "[I", Cond.methodLink RX0 119 yX0_meet, Cond.static yX0_meet, Cond.code yX0_meet cX0_meet 6 (some .boolean), Cond.methodLink RX0 131 yX0_bothInMemory, Cond.instanceMethod yX0_bothInMemory, Cond.selects RX0 yX0_bothInMemory yX0_bothInMemory, Cond.code yX0_bothInMemory cX0_bothInMemory 5 (some .boolean), Cond.methodLink RX0 134 yX0_areApart, Cond.instanceMethod yX0_areApart, Cond.selects RX0 yX0_areApart yX0_areApart, Cond.code yX0_areApart cX0_areApart 4 (some .boolean), Cond.fieldLink RX0 50 "SlotFiller$Block" "bases" "[I", Cond.fieldLink RX0 59 "SlotFiller$Block" "baseWriters" "[I", Cond.fieldLink RX0 56 "SlotFiller$Block" "endBytes" "[I", Cond.fieldLink RX0 53 "SlotFiller$Block" "firstBytes" "[I", Cond.methodLink RX0 123 yX0_latencyOf, Cond.instanceMethod yX0_latencyOf, Cond.selects RX0 yX0_latencyOf yX0_latencyOf]
def wsX8_schedule_r3 : List Cond := [Cond.code yX0_latencyOf cX0_latencyOf 2 (some .int), Cond.fieldLink RX0 20 "SlotFiller$Block" "latencies" "[I", Cond.methodLink RX8 79 yX5_byHeights, Cond.instanceMethod yX5_byHeights, Cond.selects RX5 yX5_byHeights yX5_byHeights, Cond.initialized RX5, Cond.code yX5_byHeights cX5_byHeights 5 none, Cond.fieldLink RX5 9 "SlotFiller$Order" "size" "I", Cond.methodLink RX5 29 yX0_sizeWithoutBranch, Cond.instanceMethod yX0_sizeWithoutBranch, Cond.selects RX0 yX0_sizeWithoutBranch yX0_sizeWithoutBranch, Cond.code yX0_sizeWithoutBranch cX0_sizeWithoutBranch 1 (some .int), Cond.methodLink RX0 70 yX0_endsInBranch, Cond.instanceMethod yX0_endsInBranch, Cond.selects RX0 yX0_endsInBranch yX0_endsInBranch, Cond.code yX0_endsInBranch cX0_endsInBranch 1 (some .boolean), Cond.methodLink RX5 35 yX5_prepare, Cond.instanceMethod yX5_prepare, Cond.selects RX5 yX5_prepare yX5_prepare, Cond.code yX5_prepare cX5_prepare 5 none, Cond.fieldLink RX5 19 "SlotFiller$Order" "placed" "[Z", Cond.fieldLink RX5 26 "SlotFiller$Order" "earliest" "[I", Cond.fieldLink RX5 23 "SlotFiller$Order" "waits" "[I", Cond.methodLink RX5 47 yX0_distance]
def wsX8_schedule_r4 : List Cond := [Cond.methodLink RX5 39 yX5_choose, Cond.instanceMethod yX5_choose, Cond.selects RX5 yX5_choose yX5_choose, Cond.code yX5_choose cX5_choose 7 (some .int), Cond.fieldLink RX5 51 "SlotFiller$Block" "heights" "[I", Cond.methodLink RX5 43 yX5_place, Cond.instanceMethod yX5_place, Cond.selects RX5 yX5_place yX5_place, Cond.code yX5_place cX5_place 7 none, Cond.fieldLink RX5 15 "SlotFiller$Order" "places" "[I", Cond.methodLink RX5 54 Lib.Math.max.name, Cond.methodLink RX8 83 yX5_asInBlock, Cond.instanceMethod yX5_asInBlock, Cond.selects RX5 yX5_asInBlock yX5_asInBlock, Cond.code yX5_asInBlock cX5_asInBlock 3 none, Cond.methodLink RX8 86 yX6_take, Cond.instanceMethod yX6_take, Cond.selects RX6 yX6_take yX6_take, Cond.initialized RX6, Cond.code yX6_take cX6_take 6 none, Cond.fieldLink RX6 9 "SlotFiller$Outcome" "size" "I", Cond.fieldLink RX6 25 "SlotFiller$Outcome" "ownNops" "I", Cond.fieldLink RX6 28 "SlotFiller$Outcome" "filled" "I", Cond.fieldLink RX6 38 "SlotFiller$Order" "size" "I"]
def wsX8_schedule_r5 : List Cond := [Cond.fieldLink RX6 41 "SlotFiller$Order" "places" "[I", Cond.fieldLink RX6 54 "SlotFiller$Block" "size" "I", Cond.fieldLink RX6 22 "SlotFiller$Outcome" "duration" "I", Cond.methodLink RX6 34 yX6_spare, Cond.static yX6_spare, Cond.code yX6_spare cX6_spare 4 (some .int), Cond.fieldLink RX6 62 "SlotFiller$Block" "likely" "[Z", Cond.fieldLink RX6 66 "SlotFiller$Block" "needed" "[Z", Cond.fieldLink RX6 69 "SlotFiller$Block" "kinds" "[I", Cond.methodLink RX6 48 yX0_endsInBranch, Cond.methodLink RX6 44 yX6_put, Cond.instanceMethod yX6_put, Cond.selects RX6 yX6_put yX6_put, Cond.code yX6_put cX6_put 3 none, Cond.fieldLink RX6 15 "SlotFiller$Outcome" "words" "[I", Cond.fieldLink RX6 74 "SlotFiller$Block" "words" "[I", Cond.fieldLink RX6 19 "SlotFiller$Outcome" "origins" "[I", Cond.methodLink RX6 55 yX6_fillSlot, Cond.instanceMethod yX6_fillSlot, Cond.selects RX6 yX6_fillSlot yX6_fillSlot, Cond.code yX6_fillSlot cX6_fillSlot 3 none, Cond.methodLink RX6 58 yX6_run, Cond.instanceMethod yX6_run, Cond.selects RX6 yX6_run yX6_run]
def wsX8_schedule_r6 : List Cond := [Cond.code yX6_run cX6_run 5 (some .int), Cond.fieldLink RX6 31 "SlotFiller$Outcome" "starts" "[I", Cond.methodLink RX6 79 Lib.Math.max.name, Cond.methodLink RX6 75 yX6_distanceOf, Cond.instanceMethod yX6_distanceOf, Cond.selects RX6 yX6_distanceOf yX6_distanceOf, Cond.code yX6_distanceOf cX6_distanceOf 4 (some .int), Cond.methodLink RX6 85 yX0_distance]
def wsX8_schedule : List Cond := .code yX8_schedule cX8_schedule 3 (some .int) :: ((wsX8_schedule_r1 ++ (wsX8_schedule_r2 ++ (wsX8_schedule_r3 ++ (wsX8_schedule_r4 ++ (wsX8_schedule_r5 ++ wsX8_schedule_r6))))) ++ wsX80 ++ wsX60 ++ wsX00 ++ wsX50)
def wsX8_word : List Cond := .code yX8_word cX8_word 2 (some .int) :: ([.classLink RX8 94 "java/lang/IndexOutOfBoundsException", .initialized "java/lang/IndexOutOfBoundsException", .fieldLink RX8 26 "SlotFiller" "outcome" "LSlotFiller$Outcome;", .fieldLink RX8 90 "SlotFiller$Outcome" "size" "I", .fieldLink RX8 99 "SlotFiller$Outcome" "words" "[I"] ++ wsX80 ++ wsX60 ++ (vx_atS RX8 98 "java/lang/IndexOutOfBoundsException" ["java/lang/RuntimeException", "java/lang/Exception"]).filter goodWord)
def wsX8_from : List Cond := .code yX8_from cX8_from 2 (some .int) :: ([.classLink RX8 94 "java/lang/IndexOutOfBoundsException", .initialized "java/lang/IndexOutOfBoundsException", .fieldLink RX8 26 "SlotFiller" "outcome" "LSlotFiller$Outcome;", .fieldLink RX8 90 "SlotFiller$Outcome" "size" "I", .fieldLink RX8 102 "SlotFiller$Outcome" "origins" "[I"] ++ wsX80 ++ wsX60 ++ (vx_atS RX8 98 "java/lang/IndexOutOfBoundsException" ["java/lang/RuntimeException", "java/lang/Exception"]).filter goodWord)
def wsX8_depends_r1 : List Cond := [Cond.classLink RX8 94 "java/lang/IndexOutOfBoundsException", Cond.initialized "java/lang/IndexOutOfBoundsException", Cond.fieldLink RX8 12 "SlotFiller" "block" "LSlotFiller$Block;", Cond.methodLink RX8 105 yX0_holds, Cond.instanceMethod yX0_holds, Cond.selects RX0 yX0_holds yX0_holds, Cond.initialized RX0, Cond.code yX0_holds cX0_holds 2 (some .boolean), Cond.fieldLink RX0 23 "SlotFiller$Block" "size" "I", Cond.methodLink RX8 111 yX0_distance, Cond.instanceMethod yX0_distance, Cond.selects RX0 yX0_distance yX0_distance, Cond.code yX0_distance cX0_distance 4 (some .int), Cond.fieldLink RX0 41 "SlotFiller$Block" "writes" "[J", Cond.fieldLink RX0 37 "SlotFiller$Block" "reads" "[J", Cond.fieldLink RX0 47 "SlotFiller$Block" "writesFractions" "[I", Cond.fieldLink RX0 44 "SlotFiller$Block" "readsFractions" "[I", Cond.methodLink RX0 126 Lib.Math.max.name, Cond.static Lib.Math.max.name, Cond.initialized "java/lang/Math", Cond.code Lib.Math.max.name Lib.Math.max.code 2 (some .int), Cond.methodLink RX0 116 yX0_mustFollow, Cond.instanceMethod yX0_mustFollow, Cond.selects RX0 yX0_mustFollow yX0_mustFollow]
def wsX8_depends_r2 : List Cond := [Cond.code yX0_mustFollow cX0_mustFollow 3 (some .boolean), Cond.fieldLink RX0 30 "SlotFiller$Block" "kinds" "[I", Cond.methodLink RX0 119 yX0_meet, Cond.static yX0_meet, Cond.code yX0_meet cX0_meet 6 (some .boolean), Cond.methodLink RX0 131 yX0_bothInMemory, Cond.instanceMethod yX0_bothInMemory, Cond.selects RX0 yX0_bothInMemory yX0_bothInMemory, Cond.code yX0_bothInMemory cX0_bothInMemory 5 (some .boolean), Cond.methodLink RX0 134 yX0_areApart, Cond.instanceMethod yX0_areApart, Cond.selects RX0 yX0_areApart yX0_areApart, Cond.code yX0_areApart cX0_areApart 4 (some .boolean), Cond.fieldLink RX0 50 "SlotFiller$Block" "bases" "[I", Cond.fieldLink RX0 59 "SlotFiller$Block" "baseWriters" "[I", Cond.fieldLink RX0 56 "SlotFiller$Block" "endBytes" "[I", Cond.fieldLink RX0 53 "SlotFiller$Block" "firstBytes" "[I", Cond.methodLink RX0 123 yX0_latencyOf, Cond.instanceMethod yX0_latencyOf, Cond.selects RX0 yX0_latencyOf yX0_latencyOf, Cond.code yX0_latencyOf cX0_latencyOf 2 (some .int), Cond.fieldLink RX0 20 "SlotFiller$Block" "latencies" "[I"]
def wsX8_depends : List Cond := .code yX8_depends cX8_depends 4 (some .int) :: ((wsX8_depends_r1 ++ wsX8_depends_r2) ++ wsX80 ++ wsX00 ++ (vx_atS RX8 98 "java/lang/IndexOutOfBoundsException" ["java/lang/RuntimeException", "java/lang/Exception"]).filter goodWord)
def wsX8_height_r1 : List Cond := [Cond.classLink RX8 94 "java/lang/IndexOutOfBoundsException", Cond.initialized "java/lang/IndexOutOfBoundsException", Cond.fieldLink RX8 12 "SlotFiller" "block" "LSlotFiller$Block;", Cond.fieldLink RX8 115 "SlotFiller$Block" "heights" "[I", Cond.methodLink RX8 105 yX0_holds, Cond.instanceMethod yX0_holds, Cond.selects RX0 yX0_holds yX0_holds, Cond.initialized RX0, Cond.code yX0_holds cX0_holds 2 (some .boolean), Cond.fieldLink RX0 23 "SlotFiller$Block" "size" "I", Cond.methodLink RX8 76 yX0_survey, Cond.instanceMethod yX0_survey, Cond.selects RX0 yX0_survey yX0_survey, Cond.code yX0_survey cX0_survey 5 none, Cond.fieldLink RX0 62 "SlotFiller$Block" "heights" "[I", Cond.methodLink RX0 126 Lib.Math.max.name, Cond.static Lib.Math.max.name, Cond.initialized "java/lang/Math", Cond.code Lib.Math.max.name Lib.Math.max.code 2 (some .int), Cond.fieldLink RX0 65 "SlotFiller$Block" "needed" "[Z", Cond.methodLink RX0 137 yX0_distance, Cond.instanceMethod yX0_distance, Cond.selects RX0 yX0_distance yX0_distance, Cond.code yX0_distance cX0_distance 4 (some .int)]
def wsX8_height_r2 : List Cond := [Cond.fieldLink RX0 41 "SlotFiller$Block" "writes" "[J", Cond.fieldLink RX0 37 "SlotFiller$Block" "reads" "[J", Cond.fieldLink RX0 47 "SlotFiller$Block" "writesFractions" "[I", Cond.fieldLink RX0 44 "SlotFiller$Block" "readsFractions" "[I", Cond.methodLink RX0 116 yX0_mustFollow, Cond.instanceMethod yX0_mustFollow, Cond.selects RX0 yX0_mustFollow yX0_mustFollow, Cond.code yX0_mustFollow cX0_mustFollow 3 (some .boolean), Cond.fieldLink RX0 30 "SlotFiller$Block" "kinds" "[I", Cond.methodLink RX0 119 yX0_meet, Cond.static yX0_meet, Cond.code yX0_meet cX0_meet 6 (some .boolean), Cond.methodLink RX0 131 yX0_bothInMemory, Cond.instanceMethod yX0_bothInMemory, Cond.selects RX0 yX0_bothInMemory yX0_bothInMemory, Cond.code yX0_bothInMemory cX0_bothInMemory 5 (some .boolean), Cond.methodLink RX0 134 yX0_areApart, Cond.instanceMethod yX0_areApart, Cond.selects RX0 yX0_areApart yX0_areApart, Cond.code yX0_areApart cX0_areApart 4 (some .boolean), Cond.fieldLink RX0 50 "SlotFiller$Block" "bases" "[I", Cond.fieldLink RX0 59 "SlotFiller$Block" "baseWriters" "[I", Cond.fieldLink RX0 56 "SlotFiller$Block" "endBytes" "[I", Cond.fieldLink RX0 53 "SlotFiller$Block" "firstBytes" "[I"]
def wsX8_height_r3 : List Cond := [Cond.methodLink RX0 123 yX0_latencyOf, Cond.instanceMethod yX0_latencyOf, Cond.selects RX0 yX0_latencyOf yX0_latencyOf, Cond.code yX0_latencyOf cX0_latencyOf 2 (some .int), Cond.fieldLink RX0 20 "SlotFiller$Block" "latencies" "[I"]
def wsX8_height : List Cond := .code yX8_height cX8_height 2 (some .int) :: ((wsX8_height_r1 ++ (wsX8_height_r2 ++ wsX8_height_r3)) ++ wsX80 ++ wsX00 ++ (vx_atS RX8 98 "java/lang/IndexOutOfBoundsException" ["java/lang/RuntimeException", "java/lang/Exception"]).filter goodWord)
def wsX8_cycles : List Cond := .code yX8_cycles cX8_cycles 1 (some .int) :: ([.fieldLink RX8 26 "SlotFiller" "outcome" "LSlotFiller$Outcome;", .fieldLink RX8 118 "SlotFiller$Outcome" "duration" "I"] ++ wsX80 ++ wsX60)
def wsX8_count : List Cond := .code yX8_count cX8_count 2 (some .int) :: ([.fieldLink RX8 12 "SlotFiller" "block" "LSlotFiller$Block;", .fieldLink RX8 121 "SlotFiller$Block" "size" "I", .fieldLink RX8 26 "SlotFiller" "outcome" "LSlotFiller$Outcome;", .fieldLink RX8 90 "SlotFiller$Outcome" "size" "I", .fieldLink RX8 122 "SlotFiller$Outcome" "ownNops" "I", .fieldLink RX8 125 "SlotFiller$Outcome" "filled" "I"] ++ wsX80 ++ wsX00 ++ wsX60)
def wsX9_init : List Cond := .code yX9_init cX9_init 1 none :: ([.methodLink RX9 1 objectInit, .instanceMethod objectInit, .code objectInit ⟨#[0xb1]⟩ 1 none, .arrayClass .int, .fieldLink RX9 7 "SlotFillerModel" "latencies" "[I", .fieldLink RX9 13 "SlotFillerModel" "words" "[I", .fieldLink RX9 16 "SlotFillerModel" "classes" "[I", .fieldLink RX9 19 "SlotFillerModel" "readMore" "[I", .fieldLink RX9 22 "SlotFillerModel" "writtenMore" "[I", .arrayClass .long, .fieldLink RX9 25 "SlotFillerModel" "read" "[J", .fieldLink RX9 29 "SlotFillerModel" "written" "[J", .arrayClass .boolean, .fieldLink RX9 32 "SlotFillerModel" "likely" "[Z", .fieldLink RX9 36 "SlotFillerModel" "out" "[I", .fieldLink RX9 39 "SlotFillerModel" "outFrom" "[I", .fieldLink RX9 42 "SlotFillerModel" "heights" "[I", .fieldLink RX9 45 "SlotFillerModel" "order" "[I", .fieldLink RX9 48 "SlotFillerModel" "placed" "[I", .fieldLink RX9 51 "SlotFillerModel" "begun" "[I"] ++ wsX90)
def wsX9_thrown : List Cond := .code yX9_thrown cX9_thrown 1 (some .int) :: ([.fieldLink RX9 54 "SlotFillerModel" "thrown" "I"] ++ wsX90)
def wsX9_fail : List Cond := .code yX9_fail cX9_fail 2 (some .int) :: ([.fieldLink RX9 54 "SlotFillerModel" "thrown" "I"] ++ wsX90)
def wsX9_field : List Cond := .code yX9_field cX9_field 2 (some .int) :: ([.fieldLink RX9 58 "SlotFillerModel" "w" "I"] ++ wsX90)
def wsX9_register : List Cond := .code yX9_register cX9_register 1 (some .long) :: ([])
def wsX9_s : List Cond := .code yX9_s cX9_s 1 (some .long) :: ([.methodLink RX9 61 yX9_field, .instanceMethod yX9_field, .selects RX9 yX9_field yX9_field, .initialized RX9, .code yX9_field cX9_field 2 (some .int), .fieldLink RX9 58 "SlotFillerModel" "w" "I", .methodLink RX9 65 yX9_register, .static yX9_register, .code yX9_register cX9_register 1 (some .long)] ++ wsX90)
def wsX9_t : List Cond := .code yX9_t cX9_t 1 (some .long) :: ([.methodLink RX9 61 yX9_field, .instanceMethod yX9_field, .selects RX9 yX9_field yX9_field, .initialized RX9, .code yX9_field cX9_field 2 (some .int), .fieldLink RX9 58 "SlotFillerModel" "w" "I", .methodLink RX9 65 yX9_register, .static yX9_register, .code yX9_register cX9_register 1 (some .long)] ++ wsX90)
def wsX9_d : List Cond := .code yX9_d cX9_d 1 (some .long) :: ([.methodLink RX9 61 yX9_field, .instanceMethod yX9_field, .selects RX9 yX9_field yX9_field, .initialized RX9, .code yX9_field cX9_field 2 (some .int), .fieldLink RX9 58 "SlotFillerModel" "w" "I", .methodLink RX9 65 yX9_register, .static yX9_register, .code yX9_register cX9_register 1 (some .long)] ++ wsX90)
def wsX9_is : List Cond := .code yX9_is cX9_is 6 none :: ([.fieldLink RX9 69 "SlotFillerModel" "sort" "I", .fieldLink RX9 72 "SlotFillerModel" "reads" "J", .fieldLink RX9 76 "SlotFillerModel" "writes" "J"] ++ wsX90)
def wsX9_also : List Cond := .code yX9_also cX9_also 3 none :: ([.fieldLink RX9 79 "SlotFillerModel" "readsMore" "I", .fieldLink RX9 82 "SlotFillerModel" "writesMore" "I"] ++ wsX90)
def wsX9_fraction : List Cond := .code yX9_fraction cX9_fraction 3 (some .long) :: ([.fieldLink RX9 69 "SlotFillerModel" "sort" "I", .constantLong RX9 85 (3)] ++ wsX90)
def wsX9_special_r1 : List Cond := [Cond.methodLink RX9 117 yX9_t, Cond.instanceMethod yX9_t, Cond.selects RX9 yX9_t yX9_t, Cond.initialized RX9, Cond.code yX9_t cX9_t 1 (some .long), Cond.methodLink RX9 61 yX9_field, Cond.instanceMethod yX9_field, Cond.selects RX9 yX9_field yX9_field, Cond.code yX9_field cX9_field 2 (some .int), Cond.fieldLink RX9 58 "SlotFillerModel" "w" "I", Cond.methodLink RX9 65 yX9_register, Cond.static yX9_register, Cond.code yX9_register cX9_register 1 (some .long), Cond.methodLink RX9 121 yX9_d, Cond.instanceMethod yX9_d, Cond.selects RX9 yX9_d yX9_d, Cond.code yX9_d cX9_d 1 (some .long), Cond.methodLink RX9 124 yX9_is, Cond.instanceMethod yX9_is, Cond.selects RX9 yX9_is yX9_is, Cond.code yX9_is cX9_is 6 none, Cond.fieldLink RX9 69 "SlotFillerModel" "sort" "I", Cond.fieldLink RX9 72 "SlotFillerModel" "reads" "J", Cond.fieldLink RX9 76 "SlotFillerModel" "writes" "J"]
def wsX9_special_r2 : List Cond := [Cond.methodLink RX9 128 yX9_s, Cond.instanceMethod yX9_s, Cond.selects RX9 yX9_s yX9_s, Cond.code yX9_s cX9_s 1 (some .long), Cond.methodLink RX9 91 yX9_also, Cond.instanceMethod yX9_also, Cond.selects RX9 yX9_also yX9_also, Cond.code yX9_also cX9_also 3 none, Cond.fieldLink RX9 79 "SlotFillerModel" "readsMore" "I", Cond.fieldLink RX9 82 "SlotFillerModel" "writesMore" "I"]
def wsX9_special : List Cond := .code yX9_special cX9_special 2 none :: ((wsX9_special_r1 ++ wsX9_special_r2) ++ wsX90)
def wsX9_immediate : List Cond := .code yX9_immediate cX9_immediate 2 none :: ([.fieldLink RX9 87 "SlotFillerModel" "isLikely" "Z", .methodLink RX9 128 yX9_s, .instanceMethod yX9_s, .selects RX9 yX9_s yX9_s, .initialized RX9, .code yX9_s cX9_s 1 (some .long), .methodLink RX9 61 yX9_field, .instanceMethod yX9_field, .selects RX9 yX9_field yX9_field, .code yX9_field cX9_field 2 (some .int), .fieldLink RX9 58 "SlotFillerModel" "w" "I", .methodLink RX9 65 yX9_register, .static yX9_register, .code yX9_register cX9_register 1 (some .long), .methodLink RX9 124 yX9_is, .instanceMethod yX9_is, .selects RX9 yX9_is yX9_is, .code yX9_is cX9_is 6 none, .fieldLink RX9 69 "SlotFillerModel" "sort" "I", .fieldLink RX9 72 "SlotFillerModel" "reads" "J", .fieldLink RX9 76 "SlotFillerModel" "writes" "J"] ++ wsX90)
def wsX9_branch_r1 : List Cond := [Cond.fieldLink RX9 87 "SlotFillerModel" "isLikely" "Z", Cond.methodLink RX9 65 yX9_register, Cond.static yX9_register, Cond.initialized RX9, Cond.code yX9_register cX9_register 1 (some .long), Cond.methodLink RX9 124 yX9_is, Cond.instanceMethod yX9_is, Cond.selects RX9 yX9_is yX9_is, Cond.code yX9_is cX9_is 6 none, Cond.fieldLink RX9 69 "SlotFillerModel" "sort" "I", Cond.fieldLink RX9 72 "SlotFillerModel" "reads" "J", Cond.fieldLink RX9 76 "SlotFillerModel" "writes" "J", Cond.methodLink RX9 128 yX9_s, Cond.instanceMethod yX9_s, Cond.selects RX9 yX9_s yX9_s, Cond.code yX9_s cX9_s 1 (some .long), Cond.methodLink RX9 61 yX9_field, Cond.instanceMethod yX9_field, Cond.selects RX9 yX9_field yX9_field, Cond.code yX9_field cX9_field 2 (some .int), Cond.fieldLink RX9 58 "SlotFillerModel" "w" "I", Cond.methodLink RX9 117 yX9_t, Cond.instanceMethod yX9_t, Cond.selects RX9 yX9_t yX9_t]
def wsX9_branch_r2 : List Cond := [Cond.code yX9_t cX9_t 1 (some .long)]
def wsX9_branch : List Cond := .code yX9_branch cX9_branch 2 none :: ((wsX9_branch_r1 ++ wsX9_branch_r2) ++ wsX90)
def wsX9_number : List Cond := .code yX9_number cX9_number 2 none :: ([.methodLink RX9 124 yX9_is, .instanceMethod yX9_is, .selects RX9 yX9_is yX9_is, .initialized RX9, .code yX9_is cX9_is 6 none, .fieldLink RX9 69 "SlotFillerModel" "sort" "I", .fieldLink RX9 72 "SlotFillerModel" "reads" "J", .fieldLink RX9 76 "SlotFillerModel" "writes" "J", .methodLink RX9 128 yX9_s, .instanceMethod yX9_s, .selects RX9 yX9_s yX9_s, .code yX9_s cX9_s 1 (some .long), .methodLink RX9 61 yX9_field, .instanceMethod yX9_field, .selects RX9 yX9_field yX9_field, .code yX9_field cX9_field 2 (some .int), .fieldLink RX9 58 "SlotFillerModel" "w" "I", .methodLink RX9 65 yX9_register, .static yX9_register, .code yX9_register cX9_register 1 (some .long), .methodLink RX9 117 yX9_t, .instanceMethod yX9_t, .selects RX9 yX9_t yX9_t, .code yX9_t cX9_t 1 (some .long)] ++ wsX90)
def wsX9_reckons_r1 : List Cond := [Cond.fieldLink RX9 69 "SlotFillerModel" "sort" "I", Cond.fieldLink RX9 72 "SlotFillerModel" "reads" "J", Cond.fieldLink RX9 76 "SlotFillerModel" "writes" "J", Cond.methodLink RX9 131 yX9_fraction, Cond.instanceMethod yX9_fraction, Cond.selects RX9 yX9_fraction yX9_fraction, Cond.initialized RX9, Cond.code yX9_fraction cX9_fraction 3 (some .long), Cond.constantLong RX9 85 (3), Cond.methodLink RX9 117 yX9_t, Cond.instanceMethod yX9_t, Cond.selects RX9 yX9_t yX9_t, Cond.code yX9_t cX9_t 1 (some .long), Cond.methodLink RX9 61 yX9_field, Cond.instanceMethod yX9_field, Cond.selects RX9 yX9_field yX9_field, Cond.code yX9_field cX9_field 2 (some .int), Cond.fieldLink RX9 58 "SlotFillerModel" "w" "I", Cond.methodLink RX9 65 yX9_register, Cond.static yX9_register, Cond.code yX9_register cX9_register 1 (some .long), Cond.methodLink RX9 91 yX9_also, Cond.instanceMethod yX9_also, Cond.selects RX9 yX9_also yX9_also]
def wsX9_reckons_r2 : List Cond := [Cond.code yX9_also cX9_also 3 none, Cond.fieldLink RX9 79 "SlotFillerModel" "readsMore" "I", Cond.fieldLink RX9 82 "SlotFillerModel" "writesMore" "I"]
def wsX9_reckons : List Cond := .code yX9_reckons cX9_reckons 6 none :: ((wsX9_reckons_r1 ++ wsX9_reckons_r2) ++ wsX90)
def wsX9_fractions_r1 : List Cond := [Cond.fieldLink RX9 58 "SlotFillerModel" "w" "I", Cond.fieldLink RX9 87 "SlotFillerModel" "isLikely" "Z", Cond.fieldLink RX9 76 "SlotFillerModel" "writes" "J", Cond.methodLink RX9 61 yX9_field, Cond.instanceMethod yX9_field, Cond.selects RX9 yX9_field yX9_field, Cond.initialized RX9, Cond.code yX9_field cX9_field 2 (some .int), Cond.methodLink RX9 117 yX9_t, Cond.instanceMethod yX9_t, Cond.selects RX9 yX9_t yX9_t, Cond.code yX9_t cX9_t 1 (some .long), Cond.methodLink RX9 65 yX9_register, Cond.static yX9_register, Cond.code yX9_register cX9_register 1 (some .long), Cond.methodLink RX9 124 yX9_is, Cond.instanceMethod yX9_is, Cond.selects RX9 yX9_is yX9_is, Cond.code yX9_is cX9_is 6 none, Cond.fieldLink RX9 69 "SlotFillerModel" "sort" "I", Cond.fieldLink RX9 72 "SlotFillerModel" "reads" "J", Cond.methodLink RX9 91 yX9_also, Cond.instanceMethod yX9_also, Cond.selects RX9 yX9_also yX9_also]
def wsX9_fractions_r2 : List Cond := [Cond.code yX9_also cX9_also 3 none, Cond.fieldLink RX9 79 "SlotFillerModel" "readsMore" "I", Cond.fieldLink RX9 82 "SlotFillerModel" "writesMore" "I", Cond.methodLink RX9 135 yX9_reckons, Cond.instanceMethod yX9_reckons, Cond.selects RX9 yX9_reckons yX9_reckons, Cond.code yX9_reckons cX9_reckons 6 none, Cond.methodLink RX9 131 yX9_fraction, Cond.instanceMethod yX9_fraction, Cond.selects RX9 yX9_fraction yX9_fraction, Cond.code yX9_fraction cX9_fraction 3 (some .long), Cond.constantLong RX9 85 (3)]
def wsX9_fractions : List Cond := .code yX9_fractions cX9_fractions 3 none :: ((wsX9_fractions_r1 ++ wsX9_fractions_r2) ++ wsX90)
def wsX9_second_r1 : List Cond := [Cond.methodLink RX9 128 yX9_s, Cond.instanceMethod yX9_s, Cond.selects RX9 yX9_s yX9_s, Cond.initialized RX9, Cond.code yX9_s cX9_s 1 (some .long), Cond.methodLink RX9 61 yX9_field, Cond.instanceMethod yX9_field, Cond.selects RX9 yX9_field yX9_field, Cond.code yX9_field cX9_field 2 (some .int), Cond.fieldLink RX9 58 "SlotFillerModel" "w" "I", Cond.methodLink RX9 65 yX9_register, Cond.static yX9_register, Cond.code yX9_register cX9_register 1 (some .long), Cond.methodLink RX9 121 yX9_d, Cond.instanceMethod yX9_d, Cond.selects RX9 yX9_d yX9_d, Cond.code yX9_d cX9_d 1 (some .long), Cond.methodLink RX9 124 yX9_is, Cond.instanceMethod yX9_is, Cond.selects RX9 yX9_is yX9_is, Cond.code yX9_is cX9_is 6 none, Cond.fieldLink RX9 69 "SlotFillerModel" "sort" "I", Cond.fieldLink RX9 72 "SlotFillerModel" "reads" "J", Cond.fieldLink RX9 76 "SlotFillerModel" "writes" "J"]
def wsX9_second_r2 : List Cond := [Cond.methodLink RX9 117 yX9_t, Cond.instanceMethod yX9_t, Cond.selects RX9 yX9_t yX9_t, Cond.code yX9_t cX9_t 1 (some .long), Cond.methodLink RX9 91 yX9_also, Cond.instanceMethod yX9_also, Cond.selects RX9 yX9_also yX9_also, Cond.code yX9_also cX9_also 3 none, Cond.fieldLink RX9 79 "SlotFillerModel" "readsMore" "I", Cond.fieldLink RX9 82 "SlotFillerModel" "writesMore" "I"]
def wsX9_second : List Cond := .code yX9_second cX9_second 2 none :: ((wsX9_second_r1 ++ wsX9_second_r2) ++ wsX90)
def wsX9_memory_r1 : List Cond := [Cond.fieldLink RX9 76 "SlotFillerModel" "writes" "J", Cond.fieldLink RX9 72 "SlotFillerModel" "reads" "J", Cond.methodLink RX9 61 yX9_field, Cond.instanceMethod yX9_field, Cond.selects RX9 yX9_field yX9_field, Cond.initialized RX9, Cond.code yX9_field cX9_field 2 (some .int), Cond.fieldLink RX9 58 "SlotFillerModel" "w" "I", Cond.methodLink RX9 128 yX9_s, Cond.instanceMethod yX9_s, Cond.selects RX9 yX9_s yX9_s, Cond.code yX9_s cX9_s 1 (some .long), Cond.methodLink RX9 65 yX9_register, Cond.static yX9_register, Cond.code yX9_register cX9_register 1 (some .long), Cond.methodLink RX9 117 yX9_t, Cond.instanceMethod yX9_t, Cond.selects RX9 yX9_t yX9_t, Cond.code yX9_t cX9_t 1 (some .long), Cond.methodLink RX9 124 yX9_is, Cond.instanceMethod yX9_is, Cond.selects RX9 yX9_is yX9_is, Cond.code yX9_is cX9_is 6 none, Cond.fieldLink RX9 69 "SlotFillerModel" "sort" "I"]
def wsX9_memory_r2 : List Cond := [Cond.methodLink RX9 131 yX9_fraction, Cond.instanceMethod yX9_fraction, Cond.selects RX9 yX9_fraction yX9_fraction, Cond.code yX9_fraction cX9_fraction 3 (some .long), Cond.constantLong RX9 85 (3)]
def wsX9_memory : List Cond := .code yX9_memory cX9_memory 3 none :: ((wsX9_memory_r1 ++ wsX9_memory_r2) ++ wsX90)
def wsX9_look_r1 : List Cond := [Cond.fieldLink RX9 58 "SlotFillerModel" "w" "I", Cond.fieldLink RX9 69 "SlotFillerModel" "sort" "I", Cond.fieldLink RX9 72 "SlotFillerModel" "reads" "J", Cond.fieldLink RX9 76 "SlotFillerModel" "writes" "J", Cond.fieldLink RX9 87 "SlotFillerModel" "isLikely" "Z", Cond.methodLink RX9 91 yX9_also, Cond.instanceMethod yX9_also, Cond.selects RX9 yX9_also yX9_also, Cond.initialized RX9, Cond.code yX9_also cX9_also 3 none, Cond.fieldLink RX9 79 "SlotFillerModel" "readsMore" "I", Cond.fieldLink RX9 82 "SlotFillerModel" "writesMore" "I", Cond.methodLink RX9 95 yX9_special, Cond.instanceMethod yX9_special, Cond.selects RX9 yX9_special yX9_special, Cond.code yX9_special cX9_special 2 none, Cond.methodLink RX9 117 yX9_t, Cond.instanceMethod yX9_t, Cond.selects RX9 yX9_t yX9_t, Cond.code yX9_t cX9_t 1 (some .long), Cond.methodLink RX9 61 yX9_field, Cond.instanceMethod yX9_field, Cond.selects RX9 yX9_field yX9_field, Cond.code yX9_field cX9_field 2 (some .int)]
def wsX9_look_r2 : List Cond := [Cond.methodLink RX9 65 yX9_register, Cond.static yX9_register, Cond.code yX9_register cX9_register 1 (some .long), Cond.methodLink RX9 121 yX9_d, Cond.instanceMethod yX9_d, Cond.selects RX9 yX9_d yX9_d, Cond.code yX9_d cX9_d 1 (some .long), Cond.methodLink RX9 124 yX9_is, Cond.instanceMethod yX9_is, Cond.selects RX9 yX9_is yX9_is, Cond.code yX9_is cX9_is 6 none, Cond.methodLink RX9 128 yX9_s, Cond.instanceMethod yX9_s, Cond.selects RX9 yX9_s yX9_s, Cond.code yX9_s cX9_s 1 (some .long), Cond.methodLink RX9 99 yX9_immediate, Cond.instanceMethod yX9_immediate, Cond.selects RX9 yX9_immediate yX9_immediate, Cond.code yX9_immediate cX9_immediate 2 none, Cond.methodLink RX9 102 yX9_branch, Cond.instanceMethod yX9_branch, Cond.selects RX9 yX9_branch yX9_branch, Cond.code yX9_branch cX9_branch 2 none, Cond.methodLink RX9 105 yX9_number]
def wsX9_look_r3 : List Cond := [Cond.instanceMethod yX9_number, Cond.selects RX9 yX9_number yX9_number, Cond.code yX9_number cX9_number 2 none, Cond.methodLink RX9 108 yX9_fractions, Cond.instanceMethod yX9_fractions, Cond.selects RX9 yX9_fractions yX9_fractions, Cond.code yX9_fractions cX9_fractions 3 none, Cond.methodLink RX9 135 yX9_reckons, Cond.instanceMethod yX9_reckons, Cond.selects RX9 yX9_reckons yX9_reckons, Cond.code yX9_reckons cX9_reckons 6 none, Cond.methodLink RX9 131 yX9_fraction, Cond.instanceMethod yX9_fraction, Cond.selects RX9 yX9_fraction yX9_fraction, Cond.code yX9_fraction cX9_fraction 3 (some .long), Cond.constantLong RX9 85 (3), Cond.methodLink RX9 111 yX9_second, Cond.instanceMethod yX9_second, Cond.selects RX9 yX9_second yX9_second, Cond.code yX9_second cX9_second 2 none, Cond.methodLink RX9 114 yX9_memory, Cond.instanceMethod yX9_memory, Cond.selects RX9 yX9_memory yX9_memory, Cond.code yX9_memory cX9_memory 3 none]
def wsX9_look : List Cond := .code yX9_look cX9_look 3 none :: ((wsX9_look_r1 ++ (wsX9_look_r2 ++ wsX9_look_r3)) ++ wsX90)
def wsX9_latency : List Cond := .code yX9_latency cX9_latency 4 (some .int) :: ([.fieldLink RX9 54 "SlotFillerModel" "thrown" "I", .fieldLink RX9 7 "SlotFillerModel" "latencies" "[I", .methodLink RX9 139 yX9_fail, .instanceMethod yX9_fail, .selects RX9 yX9_fail yX9_fail, .initialized RX9, .code yX9_fail cX9_fail 2 (some .int)] ++ wsX90)
def wsX9_add_r1 : List Cond := [Cond.fieldLink RX9 54 "SlotFillerModel" "thrown" "I", Cond.fieldLink RX9 69 "SlotFillerModel" "sort" "I", Cond.fieldLink RX9 145 "SlotFillerModel" "through" "Z", Cond.fieldLink RX9 148 "SlotFillerModel" "many" "I", Cond.fieldLink RX9 16 "SlotFillerModel" "classes" "[I", Cond.fieldLink RX9 13 "SlotFillerModel" "words" "[I", Cond.fieldLink RX9 25 "SlotFillerModel" "read" "[J", Cond.fieldLink RX9 72 "SlotFillerModel" "reads" "J", Cond.fieldLink RX9 29 "SlotFillerModel" "written" "[J", Cond.fieldLink RX9 76 "SlotFillerModel" "writes" "J", Cond.fieldLink RX9 19 "SlotFillerModel" "readMore" "[I", Cond.fieldLink RX9 79 "SlotFillerModel" "readsMore" "I", Cond.fieldLink RX9 22 "SlotFillerModel" "writtenMore" "[I", Cond.fieldLink RX9 82 "SlotFillerModel" "writesMore" "I", Cond.fieldLink RX9 32 "SlotFillerModel" "likely" "[Z", Cond.fieldLink RX9 87 "SlotFillerModel" "isLikely" "Z", Cond.methodLink RX9 142 yX9_look, Cond.instanceMethod yX9_look, Cond.selects RX9 yX9_look yX9_look, Cond.initialized RX9, Cond.code yX9_look cX9_look 3 none, Cond.fieldLink RX9 58 "SlotFillerModel" "w" "I", Cond.methodLink RX9 91 yX9_also, Cond.instanceMethod yX9_also]
def wsX9_add_r2 : List Cond := [Cond.selects RX9 yX9_also yX9_also, Cond.code yX9_also cX9_also 3 none, Cond.methodLink RX9 95 yX9_special, Cond.instanceMethod yX9_special, Cond.selects RX9 yX9_special yX9_special, Cond.code yX9_special cX9_special 2 none, Cond.methodLink RX9 117 yX9_t, Cond.instanceMethod yX9_t, Cond.selects RX9 yX9_t yX9_t, Cond.code yX9_t cX9_t 1 (some .long), Cond.methodLink RX9 61 yX9_field, Cond.instanceMethod yX9_field, Cond.selects RX9 yX9_field yX9_field, Cond.code yX9_field cX9_field 2 (some .int), Cond.methodLink RX9 65 yX9_register, Cond.static yX9_register, Cond.code yX9_register cX9_register 1 (some .long), Cond.methodLink RX9 121 yX9_d, Cond.instanceMethod yX9_d, Cond.selects RX9 yX9_d yX9_d, Cond.code yX9_d cX9_d 1 (some .long), Cond.methodLink RX9 124 yX9_is, Cond.instanceMethod yX9_is, Cond.selects RX9 yX9_is yX9_is]
def wsX9_add_r3 : List Cond := [Cond.code yX9_is cX9_is 6 none, Cond.methodLink RX9 128 yX9_s, Cond.instanceMethod yX9_s, Cond.selects RX9 yX9_s yX9_s, Cond.code yX9_s cX9_s 1 (some .long), Cond.methodLink RX9 99 yX9_immediate, Cond.instanceMethod yX9_immediate, Cond.selects RX9 yX9_immediate yX9_immediate, Cond.code yX9_immediate cX9_immediate 2 none, Cond.methodLink RX9 102 yX9_branch, Cond.instanceMethod yX9_branch, Cond.selects RX9 yX9_branch yX9_branch, Cond.code yX9_branch cX9_branch 2 none, Cond.methodLink RX9 105 yX9_number, Cond.instanceMethod yX9_number, Cond.selects RX9 yX9_number yX9_number, Cond.code yX9_number cX9_number 2 none, Cond.methodLink RX9 108 yX9_fractions, Cond.instanceMethod yX9_fractions, Cond.selects RX9 yX9_fractions yX9_fractions, Cond.code yX9_fractions cX9_fractions 3 none, Cond.methodLink RX9 135 yX9_reckons, Cond.instanceMethod yX9_reckons, Cond.selects RX9 yX9_reckons yX9_reckons]
def wsX9_add_r4 : List Cond := [Cond.code yX9_reckons cX9_reckons 6 none, Cond.methodLink RX9 131 yX9_fraction, Cond.instanceMethod yX9_fraction, Cond.selects RX9 yX9_fraction yX9_fraction, Cond.code yX9_fraction cX9_fraction 3 (some .long), Cond.constantLong RX9 85 (3), Cond.methodLink RX9 111 yX9_second, Cond.instanceMethod yX9_second, Cond.selects RX9 yX9_second yX9_second, Cond.code yX9_second cX9_second 2 none, Cond.methodLink RX9 114 yX9_memory, Cond.instanceMethod yX9_memory, Cond.selects RX9 yX9_memory yX9_memory, Cond.code yX9_memory cX9_memory 3 none, Cond.methodLink RX9 139 yX9_fail, Cond.instanceMethod yX9_fail, Cond.selects RX9 yX9_fail yX9_fail, Cond.code yX9_fail cX9_fail 2 (some .int)]
def wsX9_add : List Cond := .code yX9_add cX9_add 3 (some .int) :: ((wsX9_add_r1 ++ (wsX9_add_r2 ++ (wsX9_add_r3 ++ wsX9_add_r4))) ++ wsX90)
def wsX9_isPart : List Cond := .code yX9_isPart cX9_isPart 3 (some .boolean) :: ([.fieldLink RX9 13 "SlotFillerModel" "words" "[I"] ++ wsX90)
def wsX9_firstByte : List Cond := .code yX9_firstByte cX9_firstByte 3 (some .int) :: ([.fieldLink RX9 13 "SlotFillerModel" "words" "[I", .methodLink RX9 151 yX9_isPart, .instanceMethod yX9_isPart, .selects RX9 yX9_isPart yX9_isPart, .initialized RX9, .code yX9_isPart cX9_isPart 3 (some .boolean)] ++ wsX90)
def wsX9_bytes : List Cond := .code yX9_bytes cX9_bytes 3 (some .int) :: ([.fieldLink RX9 13 "SlotFillerModel" "words" "[I"] ++ wsX90)
def wsX9_apart : List Cond := .code yX9_apart cX9_apart 5 (some .boolean) :: ([.fieldLink RX9 13 "SlotFillerModel" "words" "[I", .fieldLink RX9 29 "SlotFillerModel" "written" "[J", .methodLink RX9 65 yX9_register, .static yX9_register, .initialized RX9, .code yX9_register cX9_register 1 (some .long), .methodLink RX9 155 yX9_firstByte, .instanceMethod yX9_firstByte, .selects RX9 yX9_firstByte yX9_firstByte, .code yX9_firstByte cX9_firstByte 3 (some .int), .methodLink RX9 151 yX9_isPart, .instanceMethod yX9_isPart, .selects RX9 yX9_isPart yX9_isPart, .code yX9_isPart cX9_isPart 3 (some .boolean), .methodLink RX9 158 yX9_bytes, .instanceMethod yX9_bytes, .selects RX9 yX9_bytes yX9_bytes, .code yX9_bytes cX9_bytes 3 (some .int)] ++ wsX90)
def wsX9_after_r1 : List Cond := [Cond.fieldLink RX9 25 "SlotFillerModel" "read" "[J", Cond.fieldLink RX9 29 "SlotFillerModel" "written" "[J", Cond.fieldLink RX9 19 "SlotFillerModel" "readMore" "[I", Cond.fieldLink RX9 22 "SlotFillerModel" "writtenMore" "[I", Cond.fieldLink RX9 7 "SlotFillerModel" "latencies" "[I", Cond.fieldLink RX9 16 "SlotFillerModel" "classes" "[I", Cond.methodLink RX9 161 yX9_apart, Cond.instanceMethod yX9_apart, Cond.selects RX9 yX9_apart yX9_apart, Cond.initialized RX9, Cond.code yX9_apart cX9_apart 5 (some .boolean), Cond.fieldLink RX9 13 "SlotFillerModel" "words" "[I", Cond.methodLink RX9 65 yX9_register, Cond.static yX9_register, Cond.code yX9_register cX9_register 1 (some .long), Cond.methodLink RX9 155 yX9_firstByte, Cond.instanceMethod yX9_firstByte, Cond.selects RX9 yX9_firstByte yX9_firstByte, Cond.code yX9_firstByte cX9_firstByte 3 (some .int), Cond.methodLink RX9 151 yX9_isPart, Cond.instanceMethod yX9_isPart, Cond.selects RX9 yX9_isPart yX9_isPart, Cond.code yX9_isPart cX9_isPart 3 (some .boolean), Cond.methodLink RX9 158 yX9_bytes]
def wsX9_after_r2 : List Cond := [Cond.instanceMethod yX9_bytes, Cond.selects RX9 yX9_bytes yX9_bytes, Cond.code yX9_bytes cX9_bytes 3 (some .int)]
def wsX9_after : List Cond := .code yX9_after cX9_after 11 (some .int) :: ((wsX9_after_r1 ++ wsX9_after_r2) ++ wsX90)
def wsX9_findHeights_r1 : List Cond := [Cond.fieldLink RX9 148 "SlotFillerModel" "many" "I", Cond.fieldLink RX9 42 "SlotFillerModel" "heights" "[I", Cond.fieldLink RX9 7 "SlotFillerModel" "latencies" "[I", Cond.fieldLink RX9 16 "SlotFillerModel" "classes" "[I", Cond.methodLink RX9 165 yX9_after, Cond.instanceMethod yX9_after, Cond.selects RX9 yX9_after yX9_after, Cond.initialized RX9, Cond.code yX9_after cX9_after 11 (some .int), Cond.fieldLink RX9 25 "SlotFillerModel" "read" "[J", Cond.fieldLink RX9 29 "SlotFillerModel" "written" "[J", Cond.fieldLink RX9 19 "SlotFillerModel" "readMore" "[I", Cond.fieldLink RX9 22 "SlotFillerModel" "writtenMore" "[I", Cond.methodLink RX9 161 yX9_apart, Cond.instanceMethod yX9_apart, Cond.selects RX9 yX9_apart yX9_apart, Cond.code yX9_apart cX9_apart 5 (some .boolean), Cond.fieldLink RX9 13 "SlotFillerModel" "words" "[I", Cond.methodLink RX9 65 yX9_register, Cond.static yX9_register, Cond.code yX9_register cX9_register 1 (some .long), Cond.methodLink RX9 155 yX9_firstByte, Cond.instanceMethod yX9_firstByte, Cond.selects RX9 yX9_firstByte yX9_firstByte]
def wsX9_findHeights_r2 : List Cond := [Cond.code yX9_firstByte cX9_firstByte 3 (some .int), Cond.methodLink RX9 151 yX9_isPart, Cond.instanceMethod yX9_isPart, Cond.selects RX9 yX9_isPart yX9_isPart, Cond.code yX9_isPart cX9_isPart 3 (some .boolean), Cond.methodLink RX9 158 yX9_bytes, Cond.instanceMethod yX9_bytes, Cond.selects RX9 yX9_bytes yX9_bytes, Cond.code yX9_bytes cX9_bytes 3 (some .int)]
def wsX9_findHeights : List Cond := .code yX9_findHeights cX9_findHeights 5 none :: ((wsX9_findHeights_r1 ++ wsX9_findHeights_r2) ++ wsX90)
def wsX9_canCome_r1 : List Cond := [Cond.fieldLink RX9 48 "SlotFillerModel" "placed" "[I", Cond.methodLink RX9 165 yX9_after, Cond.instanceMethod yX9_after, Cond.selects RX9 yX9_after yX9_after, Cond.initialized RX9, Cond.code yX9_after cX9_after 11 (some .int), Cond.fieldLink RX9 25 "SlotFillerModel" "read" "[J", Cond.fieldLink RX9 29 "SlotFillerModel" "written" "[J", Cond.fieldLink RX9 19 "SlotFillerModel" "readMore" "[I", Cond.fieldLink RX9 22 "SlotFillerModel" "writtenMore" "[I", Cond.fieldLink RX9 7 "SlotFillerModel" "latencies" "[I", Cond.fieldLink RX9 16 "SlotFillerModel" "classes" "[I", Cond.methodLink RX9 161 yX9_apart, Cond.instanceMethod yX9_apart, Cond.selects RX9 yX9_apart yX9_apart, Cond.code yX9_apart cX9_apart 5 (some .boolean), Cond.fieldLink RX9 13 "SlotFillerModel" "words" "[I", Cond.methodLink RX9 65 yX9_register, Cond.static yX9_register, Cond.code yX9_register cX9_register 1 (some .long), Cond.methodLink RX9 155 yX9_firstByte, Cond.instanceMethod yX9_firstByte, Cond.selects RX9 yX9_firstByte yX9_firstByte, Cond.code yX9_firstByte cX9_firstByte 3 (some .int)]
def wsX9_canCome_r2 : List Cond := [Cond.methodLink RX9 151 yX9_isPart, Cond.instanceMethod yX9_isPart, Cond.selects RX9 yX9_isPart yX9_isPart, Cond.code yX9_isPart cX9_isPart 3 (some .boolean), Cond.methodLink RX9 158 yX9_bytes, Cond.instanceMethod yX9_bytes, Cond.selects RX9 yX9_bytes yX9_bytes, Cond.code yX9_bytes cX9_bytes 3 (some .int)]
def wsX9_canCome : List Cond := .code yX9_canCome cX9_canCome 5 (some .boolean) :: ((wsX9_canCome_r1 ++ wsX9_canCome_r2) ++ wsX90)
def wsX9_place_r1 : List Cond := [Cond.fieldLink RX9 48 "SlotFillerModel" "placed" "[I", Cond.fieldLink RX9 42 "SlotFillerModel" "heights" "[I", Cond.fieldLink RX9 45 "SlotFillerModel" "order" "[I", Cond.methodLink RX9 169 yX9_findHeights, Cond.instanceMethod yX9_findHeights, Cond.selects RX9 yX9_findHeights yX9_findHeights, Cond.initialized RX9, Cond.code yX9_findHeights cX9_findHeights 5 none, Cond.fieldLink RX9 148 "SlotFillerModel" "many" "I", Cond.fieldLink RX9 7 "SlotFillerModel" "latencies" "[I", Cond.fieldLink RX9 16 "SlotFillerModel" "classes" "[I", Cond.methodLink RX9 165 yX9_after, Cond.instanceMethod yX9_after, Cond.selects RX9 yX9_after yX9_after, Cond.code yX9_after cX9_after 11 (some .int), Cond.fieldLink RX9 25 "SlotFillerModel" "read" "[J", Cond.fieldLink RX9 29 "SlotFillerModel" "written" "[J", Cond.fieldLink RX9 19 "SlotFillerModel" "readMore" "[I", Cond.fieldLink RX9 22 "SlotFillerModel" "writtenMore" "[I", Cond.methodLink RX9 161 yX9_apart, Cond.instanceMethod yX9_apart, Cond.selects RX9 yX9_apart yX9_apart, Cond.code yX9_apart cX9_apart 5 (some .boolean), Cond.fieldLink RX9 13 "SlotFillerModel" "words" "[I"]
def wsX9_place_r2 : List Cond := [Cond.methodLink RX9 65 yX9_register, Cond.static yX9_register, Cond.code yX9_register cX9_register 1 (some .long), Cond.methodLink RX9 155 yX9_firstByte, Cond.instanceMethod yX9_firstByte, Cond.selects RX9 yX9_firstByte yX9_firstByte, Cond.code yX9_firstByte cX9_firstByte 3 (some .int), Cond.methodLink RX9 151 yX9_isPart, Cond.instanceMethod yX9_isPart, Cond.selects RX9 yX9_isPart yX9_isPart, Cond.code yX9_isPart cX9_isPart 3 (some .boolean), Cond.methodLink RX9 158 yX9_bytes, Cond.instanceMethod yX9_bytes, Cond.selects RX9 yX9_bytes yX9_bytes, Cond.code yX9_bytes cX9_bytes 3 (some .int), Cond.methodLink RX9 172 yX9_canCome, Cond.instanceMethod yX9_canCome, Cond.selects RX9 yX9_canCome yX9_canCome, Cond.code yX9_canCome cX9_canCome 5 (some .boolean)]
def wsX9_place : List Cond := .code yX9_place cX9_place 6 none :: ((wsX9_place_r1 ++ wsX9_place_r2) ++ wsX90)
def wsX9_filler_r1 : List Cond := [Cond.fieldLink RX9 45 "SlotFillerModel" "order" "[I", Cond.fieldLink RX9 16 "SlotFillerModel" "classes" "[I", Cond.fieldLink RX9 148 "SlotFillerModel" "many" "I", Cond.methodLink RX9 165 yX9_after, Cond.instanceMethod yX9_after, Cond.selects RX9 yX9_after yX9_after, Cond.initialized RX9, Cond.code yX9_after cX9_after 11 (some .int), Cond.fieldLink RX9 25 "SlotFillerModel" "read" "[J", Cond.fieldLink RX9 29 "SlotFillerModel" "written" "[J", Cond.fieldLink RX9 19 "SlotFillerModel" "readMore" "[I", Cond.fieldLink RX9 22 "SlotFillerModel" "writtenMore" "[I", Cond.fieldLink RX9 7 "SlotFillerModel" "latencies" "[I", Cond.methodLink RX9 161 yX9_apart, Cond.instanceMethod yX9_apart, Cond.selects RX9 yX9_apart yX9_apart, Cond.code yX9_apart cX9_apart 5 (some .boolean), Cond.fieldLink RX9 13 "SlotFillerModel" "words" "[I", Cond.methodLink RX9 65 yX9_register, Cond.static yX9_register, Cond.code yX9_register cX9_register 1 (some .long), Cond.methodLink RX9 155 yX9_firstByte, Cond.instanceMethod yX9_firstByte, Cond.selects RX9 yX9_firstByte yX9_firstByte]
def wsX9_filler_r2 : List Cond := [Cond.code yX9_firstByte cX9_firstByte 3 (some .int), Cond.methodLink RX9 151 yX9_isPart, Cond.instanceMethod yX9_isPart, Cond.selects RX9 yX9_isPart yX9_isPart, Cond.code yX9_isPart cX9_isPart 3 (some .boolean), Cond.methodLink RX9 158 yX9_bytes, Cond.instanceMethod yX9_bytes, Cond.selects RX9 yX9_bytes yX9_bytes, Cond.code yX9_bytes cX9_bytes 3 (some .int)]
def wsX9_filler : List Cond := .code yX9_filler cX9_filler 6 (some .int) :: ((wsX9_filler_r1 ++ wsX9_filler_r2) ++ wsX90)
def wsX9_comes : List Cond := .code yX9_comes cX9_comes 2 none :: ([.fieldLink RX9 36 "SlotFillerModel" "out" "[I", .fieldLink RX9 181 "SlotFillerModel" "came" "I", .fieldLink RX9 13 "SlotFillerModel" "words" "[I", .fieldLink RX9 39 "SlotFillerModel" "outFrom" "[I"] ++ wsX90)
def wsX9_findCycles_r1 : List Cond := [Cond.fieldLink RX9 190 "SlotFillerModel" "cycles" "I", Cond.fieldLink RX9 181 "SlotFillerModel" "came" "I", Cond.fieldLink RX9 51 "SlotFillerModel" "begun" "[I", Cond.fieldLink RX9 39 "SlotFillerModel" "outFrom" "[I", Cond.methodLink RX9 165 yX9_after, Cond.instanceMethod yX9_after, Cond.selects RX9 yX9_after yX9_after, Cond.initialized RX9, Cond.code yX9_after cX9_after 11 (some .int), Cond.fieldLink RX9 25 "SlotFillerModel" "read" "[J", Cond.fieldLink RX9 29 "SlotFillerModel" "written" "[J", Cond.fieldLink RX9 19 "SlotFillerModel" "readMore" "[I", Cond.fieldLink RX9 22 "SlotFillerModel" "writtenMore" "[I", Cond.fieldLink RX9 7 "SlotFillerModel" "latencies" "[I", Cond.fieldLink RX9 16 "SlotFillerModel" "classes" "[I", Cond.methodLink RX9 161 yX9_apart, Cond.instanceMethod yX9_apart, Cond.selects RX9 yX9_apart yX9_apart, Cond.code yX9_apart cX9_apart 5 (some .boolean), Cond.fieldLink RX9 13 "SlotFillerModel" "words" "[I", Cond.methodLink RX9 65 yX9_register, Cond.static yX9_register, Cond.code yX9_register cX9_register 1 (some .long), Cond.methodLink RX9 155 yX9_firstByte]
def wsX9_findCycles_r2 : List Cond := [Cond.instanceMethod yX9_firstByte, Cond.selects RX9 yX9_firstByte yX9_firstByte, Cond.code yX9_firstByte cX9_firstByte 3 (some .int), Cond.methodLink RX9 151 yX9_isPart, Cond.instanceMethod yX9_isPart, Cond.selects RX9 yX9_isPart yX9_isPart, Cond.code yX9_isPart cX9_isPart 3 (some .boolean), Cond.methodLink RX9 158 yX9_bytes, Cond.instanceMethod yX9_bytes, Cond.selects RX9 yX9_bytes yX9_bytes, Cond.code yX9_bytes cX9_bytes 3 (some .int)]
def wsX9_findCycles : List Cond := .code yX9_findCycles cX9_findCycles 7 none :: ((wsX9_findCycles_r1 ++ wsX9_findCycles_r2) ++ wsX90)
def wsX9_schedule_r1 : List Cond := [Cond.fieldLink RX9 54 "SlotFillerModel" "thrown" "I", Cond.fieldLink RX9 145 "SlotFillerModel" "through" "Z", Cond.fieldLink RX9 148 "SlotFillerModel" "many" "I", Cond.fieldLink RX9 16 "SlotFillerModel" "classes" "[I", Cond.fieldLink RX9 45 "SlotFillerModel" "order" "[I", Cond.fieldLink RX9 32 "SlotFillerModel" "likely" "[Z", Cond.fieldLink RX9 181 "SlotFillerModel" "came" "I", Cond.methodLink RX9 175 yX9_place, Cond.instanceMethod yX9_place, Cond.selects RX9 yX9_place yX9_place, Cond.initialized RX9, Cond.code yX9_place cX9_place 6 none, Cond.fieldLink RX9 48 "SlotFillerModel" "placed" "[I", Cond.fieldLink RX9 42 "SlotFillerModel" "heights" "[I", Cond.methodLink RX9 169 yX9_findHeights, Cond.instanceMethod yX9_findHeights, Cond.selects RX9 yX9_findHeights yX9_findHeights, Cond.code yX9_findHeights cX9_findHeights 5 none, Cond.fieldLink RX9 7 "SlotFillerModel" "latencies" "[I", Cond.methodLink RX9 165 yX9_after, Cond.instanceMethod yX9_after, Cond.selects RX9 yX9_after yX9_after, Cond.code yX9_after cX9_after 11 (some .int), Cond.fieldLink RX9 25 "SlotFillerModel" "read" "[J"]
def wsX9_schedule_r2 : List Cond := [Cond.fieldLink RX9 29 "SlotFillerModel" "written" "[J", Cond.fieldLink RX9 19 "SlotFillerModel" "readMore" "[I", Cond.fieldLink RX9 22 "SlotFillerModel" "writtenMore" "[I", Cond.methodLink RX9 161 yX9_apart, Cond.instanceMethod yX9_apart, Cond.selects RX9 yX9_apart yX9_apart, Cond.code yX9_apart cX9_apart 5 (some .boolean), Cond.fieldLink RX9 13 "SlotFillerModel" "words" "[I", Cond.methodLink RX9 65 yX9_register, Cond.static yX9_register, Cond.code yX9_register cX9_register 1 (some .long), Cond.methodLink RX9 155 yX9_firstByte, Cond.instanceMethod yX9_firstByte, Cond.selects RX9 yX9_firstByte yX9_firstByte, Cond.code yX9_firstByte cX9_firstByte 3 (some .int), Cond.methodLink RX9 151 yX9_isPart, Cond.instanceMethod yX9_isPart, Cond.selects RX9 yX9_isPart yX9_isPart, Cond.code yX9_isPart cX9_isPart 3 (some .boolean), Cond.methodLink RX9 158 yX9_bytes, Cond.instanceMethod yX9_bytes, Cond.selects RX9 yX9_bytes yX9_bytes, Cond.code yX9_bytes cX9_bytes 3 (some .int), Cond.methodLink RX9 172 yX9_canCome]
def wsX9_schedule_r3 : List Cond := [Cond.instanceMethod yX9_canCome, Cond.selects RX9 yX9_canCome yX9_canCome, Cond.code yX9_canCome cX9_canCome 5 (some .boolean), Cond.methodLink RX9 178 yX9_filler, Cond.instanceMethod yX9_filler, Cond.selects RX9 yX9_filler yX9_filler, Cond.code yX9_filler cX9_filler 6 (some .int), Cond.methodLink RX9 184 yX9_comes, Cond.instanceMethod yX9_comes, Cond.selects RX9 yX9_comes yX9_comes, Cond.code yX9_comes cX9_comes 2 none, Cond.fieldLink RX9 36 "SlotFillerModel" "out" "[I", Cond.fieldLink RX9 39 "SlotFillerModel" "outFrom" "[I", Cond.methodLink RX9 187 yX9_findCycles, Cond.instanceMethod yX9_findCycles, Cond.selects RX9 yX9_findCycles yX9_findCycles, Cond.code yX9_findCycles cX9_findCycles 7 none, Cond.fieldLink RX9 190 "SlotFillerModel" "cycles" "I", Cond.fieldLink RX9 51 "SlotFillerModel" "begun" "[I"]
def wsX9_schedule : List Cond := .code yX9_schedule cX9_schedule 7 (some .int) :: ((wsX9_schedule_r1 ++ (wsX9_schedule_r2 ++ wsX9_schedule_r3)) ++ wsX90)
def wsX9_word : List Cond := .code yX9_word cX9_word 2 (some .int) :: ([.fieldLink RX9 54 "SlotFillerModel" "thrown" "I", .fieldLink RX9 181 "SlotFillerModel" "came" "I", .fieldLink RX9 36 "SlotFillerModel" "out" "[I", .methodLink RX9 139 yX9_fail, .instanceMethod yX9_fail, .selects RX9 yX9_fail yX9_fail, .initialized RX9, .code yX9_fail cX9_fail 2 (some .int)] ++ wsX90)
def wsX9_from : List Cond := .code yX9_from cX9_from 2 (some .int) :: ([.fieldLink RX9 54 "SlotFillerModel" "thrown" "I", .fieldLink RX9 181 "SlotFillerModel" "came" "I", .fieldLink RX9 39 "SlotFillerModel" "outFrom" "[I", .methodLink RX9 139 yX9_fail, .instanceMethod yX9_fail, .selects RX9 yX9_fail yX9_fail, .initialized RX9, .code yX9_fail cX9_fail 2 (some .int)] ++ wsX90)
def wsX9_depends_r1 : List Cond := [Cond.fieldLink RX9 54 "SlotFillerModel" "thrown" "I", Cond.fieldLink RX9 148 "SlotFillerModel" "many" "I", Cond.methodLink RX9 139 yX9_fail, Cond.instanceMethod yX9_fail, Cond.selects RX9 yX9_fail yX9_fail, Cond.initialized RX9, Cond.code yX9_fail cX9_fail 2 (some .int), Cond.methodLink RX9 165 yX9_after, Cond.instanceMethod yX9_after, Cond.selects RX9 yX9_after yX9_after, Cond.code yX9_after cX9_after 11 (some .int), Cond.fieldLink RX9 25 "SlotFillerModel" "read" "[J", Cond.fieldLink RX9 29 "SlotFillerModel" "written" "[J", Cond.fieldLink RX9 19 "SlotFillerModel" "readMore" "[I", Cond.fieldLink RX9 22 "SlotFillerModel" "writtenMore" "[I", Cond.fieldLink RX9 7 "SlotFillerModel" "latencies" "[I", Cond.fieldLink RX9 16 "SlotFillerModel" "classes" "[I", Cond.methodLink RX9 161 yX9_apart, Cond.instanceMethod yX9_apart, Cond.selects RX9 yX9_apart yX9_apart, Cond.code yX9_apart cX9_apart 5 (some .boolean), Cond.fieldLink RX9 13 "SlotFillerModel" "words" "[I", Cond.methodLink RX9 65 yX9_register, Cond.static yX9_register]
def wsX9_depends_r2 : List Cond := [Cond.code yX9_register cX9_register 1 (some .long), Cond.methodLink RX9 155 yX9_firstByte, Cond.instanceMethod yX9_firstByte, Cond.selects RX9 yX9_firstByte yX9_firstByte, Cond.code yX9_firstByte cX9_firstByte 3 (some .int), Cond.methodLink RX9 151 yX9_isPart, Cond.instanceMethod yX9_isPart, Cond.selects RX9 yX9_isPart yX9_isPart, Cond.code yX9_isPart cX9_isPart 3 (some .boolean), Cond.methodLink RX9 158 yX9_bytes, Cond.instanceMethod yX9_bytes, Cond.selects RX9 yX9_bytes yX9_bytes, Cond.code yX9_bytes cX9_bytes 3 (some .int)]
def wsX9_depends : List Cond := .code yX9_depends cX9_depends 3 (some .int) :: ((wsX9_depends_r1 ++ wsX9_depends_r2) ++ wsX90)
def wsX9_height_r1 : List Cond := [Cond.fieldLink RX9 54 "SlotFillerModel" "thrown" "I", Cond.fieldLink RX9 148 "SlotFillerModel" "many" "I", Cond.fieldLink RX9 42 "SlotFillerModel" "heights" "[I", Cond.methodLink RX9 139 yX9_fail, Cond.instanceMethod yX9_fail, Cond.selects RX9 yX9_fail yX9_fail, Cond.initialized RX9, Cond.code yX9_fail cX9_fail 2 (some .int), Cond.methodLink RX9 169 yX9_findHeights, Cond.instanceMethod yX9_findHeights, Cond.selects RX9 yX9_findHeights yX9_findHeights, Cond.code yX9_findHeights cX9_findHeights 5 none, Cond.fieldLink RX9 7 "SlotFillerModel" "latencies" "[I", Cond.fieldLink RX9 16 "SlotFillerModel" "classes" "[I", Cond.methodLink RX9 165 yX9_after, Cond.instanceMethod yX9_after, Cond.selects RX9 yX9_after yX9_after, Cond.code yX9_after cX9_after 11 (some .int), Cond.fieldLink RX9 25 "SlotFillerModel" "read" "[J", Cond.fieldLink RX9 29 "SlotFillerModel" "written" "[J", Cond.fieldLink RX9 19 "SlotFillerModel" "readMore" "[I", Cond.fieldLink RX9 22 "SlotFillerModel" "writtenMore" "[I", Cond.methodLink RX9 161 yX9_apart, Cond.instanceMethod yX9_apart]
def wsX9_height_r2 : List Cond := [Cond.selects RX9 yX9_apart yX9_apart, Cond.code yX9_apart cX9_apart 5 (some .boolean), Cond.fieldLink RX9 13 "SlotFillerModel" "words" "[I", Cond.methodLink RX9 65 yX9_register, Cond.static yX9_register, Cond.code yX9_register cX9_register 1 (some .long), Cond.methodLink RX9 155 yX9_firstByte, Cond.instanceMethod yX9_firstByte, Cond.selects RX9 yX9_firstByte yX9_firstByte, Cond.code yX9_firstByte cX9_firstByte 3 (some .int), Cond.methodLink RX9 151 yX9_isPart, Cond.instanceMethod yX9_isPart, Cond.selects RX9 yX9_isPart yX9_isPart, Cond.code yX9_isPart cX9_isPart 3 (some .boolean), Cond.methodLink RX9 158 yX9_bytes, Cond.instanceMethod yX9_bytes, Cond.selects RX9 yX9_bytes yX9_bytes, Cond.code yX9_bytes cX9_bytes 3 (some .int)]
def wsX9_height : List Cond := .code yX9_height cX9_height 2 (some .int) :: ((wsX9_height_r1 ++ wsX9_height_r2) ++ wsX90)
def wsX9_cycles : List Cond := .code yX9_cycles cX9_cycles 1 (some .int) :: ([.fieldLink RX9 54 "SlotFillerModel" "thrown" "I", .fieldLink RX9 190 "SlotFillerModel" "cycles" "I"] ++ wsX90)
def wsX9_isBranch_r1 : List Cond := [Cond.fieldLink RX9 69 "SlotFillerModel" "sort" "I", Cond.methodLink RX9 142 yX9_look, Cond.instanceMethod yX9_look, Cond.selects RX9 yX9_look yX9_look, Cond.initialized RX9, Cond.code yX9_look cX9_look 3 none, Cond.fieldLink RX9 58 "SlotFillerModel" "w" "I", Cond.fieldLink RX9 72 "SlotFillerModel" "reads" "J", Cond.fieldLink RX9 76 "SlotFillerModel" "writes" "J", Cond.fieldLink RX9 87 "SlotFillerModel" "isLikely" "Z", Cond.methodLink RX9 91 yX9_also, Cond.instanceMethod yX9_also, Cond.selects RX9 yX9_also yX9_also, Cond.code yX9_also cX9_also 3 none, Cond.fieldLink RX9 79 "SlotFillerModel" "readsMore" "I", Cond.fieldLink RX9 82 "SlotFillerModel" "writesMore" "I", Cond.methodLink RX9 95 yX9_special, Cond.instanceMethod yX9_special, Cond.selects RX9 yX9_special yX9_special, Cond.code yX9_special cX9_special 2 none, Cond.methodLink RX9 117 yX9_t, Cond.instanceMethod yX9_t, Cond.selects RX9 yX9_t yX9_t, Cond.code yX9_t cX9_t 1 (some .long)]
def wsX9_isBranch_r2 : List Cond := [Cond.methodLink RX9 61 yX9_field, Cond.instanceMethod yX9_field, Cond.selects RX9 yX9_field yX9_field, Cond.code yX9_field cX9_field 2 (some .int), Cond.methodLink RX9 65 yX9_register, Cond.static yX9_register, Cond.code yX9_register cX9_register 1 (some .long), Cond.methodLink RX9 121 yX9_d, Cond.instanceMethod yX9_d, Cond.selects RX9 yX9_d yX9_d, Cond.code yX9_d cX9_d 1 (some .long), Cond.methodLink RX9 124 yX9_is, Cond.instanceMethod yX9_is, Cond.selects RX9 yX9_is yX9_is, Cond.code yX9_is cX9_is 6 none, Cond.methodLink RX9 128 yX9_s, Cond.instanceMethod yX9_s, Cond.selects RX9 yX9_s yX9_s, Cond.code yX9_s cX9_s 1 (some .long), Cond.methodLink RX9 99 yX9_immediate, Cond.instanceMethod yX9_immediate, Cond.selects RX9 yX9_immediate yX9_immediate, Cond.code yX9_immediate cX9_immediate 2 none, Cond.methodLink RX9 102 yX9_branch]
def wsX9_isBranch_r3 : List Cond := [Cond.instanceMethod yX9_branch, Cond.selects RX9 yX9_branch yX9_branch, Cond.code yX9_branch cX9_branch 2 none, Cond.methodLink RX9 105 yX9_number, Cond.instanceMethod yX9_number, Cond.selects RX9 yX9_number yX9_number, Cond.code yX9_number cX9_number 2 none, Cond.methodLink RX9 108 yX9_fractions, Cond.instanceMethod yX9_fractions, Cond.selects RX9 yX9_fractions yX9_fractions, Cond.code yX9_fractions cX9_fractions 3 none, Cond.methodLink RX9 135 yX9_reckons, Cond.instanceMethod yX9_reckons, Cond.selects RX9 yX9_reckons yX9_reckons, Cond.code yX9_reckons cX9_reckons 6 none, Cond.methodLink RX9 131 yX9_fraction, Cond.instanceMethod yX9_fraction, Cond.selects RX9 yX9_fraction yX9_fraction, Cond.code yX9_fraction cX9_fraction 3 (some .long), Cond.constantLong RX9 85 (3), Cond.methodLink RX9 111 yX9_second, Cond.instanceMethod yX9_second, Cond.selects RX9 yX9_second yX9_second, Cond.code yX9_second cX9_second 2 none]
def wsX9_isBranch_r4 : List Cond := [Cond.methodLink RX9 114 yX9_memory, Cond.instanceMethod yX9_memory, Cond.selects RX9 yX9_memory yX9_memory, Cond.code yX9_memory cX9_memory 3 none]
def wsX9_isBranch : List Cond := .code yX9_isBranch cX9_isBranch 2 (some .boolean) :: ((wsX9_isBranch_r1 ++ (wsX9_isBranch_r2 ++ (wsX9_isBranch_r3 ++ wsX9_isBranch_r4))) ++ wsX90)
def wsX9_count_r1 : List Cond := [Cond.fieldLink RX9 54 "SlotFillerModel" "thrown" "I", Cond.fieldLink RX9 181 "SlotFillerModel" "came" "I", Cond.fieldLink RX9 39 "SlotFillerModel" "outFrom" "[I", Cond.fieldLink RX9 36 "SlotFillerModel" "out" "[I", Cond.fieldLink RX9 148 "SlotFillerModel" "many" "I", Cond.methodLink RX9 193 yX9_isBranch, Cond.instanceMethod yX9_isBranch, Cond.selects RX9 yX9_isBranch yX9_isBranch, Cond.initialized RX9, Cond.code yX9_isBranch cX9_isBranch 2 (some .boolean), Cond.fieldLink RX9 69 "SlotFillerModel" "sort" "I", Cond.methodLink RX9 142 yX9_look, Cond.instanceMethod yX9_look, Cond.selects RX9 yX9_look yX9_look, Cond.code yX9_look cX9_look 3 none, Cond.fieldLink RX9 58 "SlotFillerModel" "w" "I", Cond.fieldLink RX9 72 "SlotFillerModel" "reads" "J", Cond.fieldLink RX9 76 "SlotFillerModel" "writes" "J", Cond.fieldLink RX9 87 "SlotFillerModel" "isLikely" "Z", Cond.methodLink RX9 91 yX9_also, Cond.instanceMethod yX9_also, Cond.selects RX9 yX9_also yX9_also, Cond.code yX9_also cX9_also 3 none, Cond.fieldLink RX9 79 "SlotFillerModel" "readsMore" "I"]
def wsX9_count_r2 : List Cond := [Cond.fieldLink RX9 82 "SlotFillerModel" "writesMore" "I", Cond.methodLink RX9 95 yX9_special, Cond.instanceMethod yX9_special, Cond.selects RX9 yX9_special yX9_special, Cond.code yX9_special cX9_special 2 none, Cond.methodLink RX9 117 yX9_t, Cond.instanceMethod yX9_t, Cond.selects RX9 yX9_t yX9_t, Cond.code yX9_t cX9_t 1 (some .long), Cond.methodLink RX9 61 yX9_field, Cond.instanceMethod yX9_field, Cond.selects RX9 yX9_field yX9_field, Cond.code yX9_field cX9_field 2 (some .int), Cond.methodLink RX9 65 yX9_register, Cond.static yX9_register, Cond.code yX9_register cX9_register 1 (some .long), Cond.methodLink RX9 121 yX9_d, Cond.instanceMethod yX9_d, Cond.selects RX9 yX9_d yX9_d, Cond.code yX9_d cX9_d 1 (some .long), Cond.methodLink RX9 124 yX9_is, Cond.instanceMethod yX9_is, Cond.selects RX9 yX9_is yX9_is, Cond.code yX9_is cX9_is 6 none]
def wsX9_count_r3 : List Cond := [Cond.methodLink RX9 128 yX9_s, Cond.instanceMethod yX9_s, Cond.selects RX9 yX9_s yX9_s, Cond.code yX9_s cX9_s 1 (some .long), Cond.methodLink RX9 99 yX9_immediate, Cond.instanceMethod yX9_immediate, Cond.selects RX9 yX9_immediate yX9_immediate, Cond.code yX9_immediate cX9_immediate 2 none, Cond.methodLink RX9 102 yX9_branch, Cond.instanceMethod yX9_branch, Cond.selects RX9 yX9_branch yX9_branch, Cond.code yX9_branch cX9_branch 2 none, Cond.methodLink RX9 105 yX9_number, Cond.instanceMethod yX9_number, Cond.selects RX9 yX9_number yX9_number, Cond.code yX9_number cX9_number 2 none, Cond.methodLink RX9 108 yX9_fractions, Cond.instanceMethod yX9_fractions, Cond.selects RX9 yX9_fractions yX9_fractions, Cond.code yX9_fractions cX9_fractions 3 none, Cond.methodLink RX9 135 yX9_reckons, Cond.instanceMethod yX9_reckons, Cond.selects RX9 yX9_reckons yX9_reckons, Cond.code yX9_reckons cX9_reckons 6 none]
def wsX9_count_r4 : List Cond := [Cond.methodLink RX9 131 yX9_fraction, Cond.instanceMethod yX9_fraction, Cond.selects RX9 yX9_fraction yX9_fraction, Cond.code yX9_fraction cX9_fraction 3 (some .long), Cond.constantLong RX9 85 (3), Cond.methodLink RX9 111 yX9_second, Cond.instanceMethod yX9_second, Cond.selects RX9 yX9_second yX9_second, Cond.code yX9_second cX9_second 2 none, Cond.methodLink RX9 114 yX9_memory, Cond.instanceMethod yX9_memory, Cond.selects RX9 yX9_memory yX9_memory, Cond.code yX9_memory cX9_memory 3 none]
def wsX9_count : List Cond := .code yX9_count cX9_count 4 (some .int) :: ((wsX9_count_r1 ++ (wsX9_count_r2 ++ (wsX9_count_r3 ++ wsX9_count_r4))) ++ wsX90)
def wsJ9_max_7cf53 : List Cond := .code yJ9_max_7cf53 cJ9_max_7cf53 2 (some .int) :: ([])
def wsL_latency : List Cond := .codeWith yL_latency cL_latency 5 (some .int) [(0, 10, 13, 13)] :: ([.classLink RL 13 "java/lang/IllegalArgumentException", .methodLink RL 7 yX8_latency, .instanceMethod yX8_latency, .selects RX8 yX8_latency yX8_latency, .initialized RX8, .code yX8_latency cX8_latency 4 (some .int), .classLink RX8 36 "java/lang/IllegalArgumentException", .initialized "java/lang/IllegalArgumentException", .fieldLink RX8 12 "SlotFiller" "block" "LSlotFiller$Block;", .fieldLink RX8 45 "SlotFiller$Block" "latencies" "[I"] ++ wsX80 ++ wsX00 ++ (vx_atS RX8 40 "java/lang/IllegalArgumentException" ["java/lang/RuntimeException", "java/lang/Exception"]).filter goodWord)
def wsL_add_r1 : List Cond := [Cond.classLink RL 13 "java/lang/IllegalArgumentException", Cond.classLink RL 19 "java/lang/IllegalStateException", Cond.methodLink RL 15 yX8_add, Cond.instanceMethod yX8_add, Cond.selects RX8 yX8_add yX8_add, Cond.initialized RX8, Cond.code yX8_add cX8_add 3 (some .int), Cond.classLink RX8 36 "java/lang/IllegalArgumentException", Cond.initialized "java/lang/IllegalArgumentException", Cond.classLink RX8 61 "java/lang/IllegalStateException", Cond.initialized "java/lang/IllegalStateException", Cond.fieldLink RX8 30 "SlotFiller" "through" "Z", Cond.fieldLink RX8 12 "SlotFiller" "block" "LSlotFiller$Block;", Cond.methodLink RX8 49 yX2_formOf, Cond.static yX2_formOf, Cond.initialized RX2, Cond.code yX2_formOf cX2_formOf 2 (some .int), Cond.methodLink RX2 11 yX2_formByOperation, Cond.static yX2_formByOperation, Cond.code yX2_formByOperation cX2_formByOperation 2 (some .int), Cond.methodLink RX2 36 yX3_operation, Cond.static yX3_operation, Cond.initialized RX3, Cond.code yX3_operation cX3_operation 1 (some .int)]
def wsL_add_r2 : List Cond := [Cond.methodLink RX2 39 yX3_function, Cond.static yX3_function, Cond.code yX3_function cX3_function 1 (some .int), Cond.methodLink RX2 42 yX2_special, Cond.static yX2_special, Cond.code yX2_special cX2_special 1 (some .int), Cond.methodLink RX2 63 yX2_threeOrBarrier, Cond.static yX2_threeOrBarrier, Cond.code yX2_threeOrBarrier cX2_threeOrBarrier 1 (some .int), Cond.methodLink RX2 45 yX3_t, Cond.static yX3_t, Cond.code yX3_t cX3_t 1 (some .int), Cond.methodLink RX2 48 yX2_byRegisterField, Cond.static yX2_byRegisterField, Cond.code yX2_byRegisterField cX2_byRegisterField 1 (some .int), Cond.constant RX2 66 (8388631), Cond.methodLink RX2 51 yX2_coprocessor, Cond.static yX2_coprocessor, Cond.code yX2_coprocessor cX2_coprocessor 2 (some .int), Cond.constant RX2 75 (131104), Cond.constant RX2 76 (8392711), Cond.constant RX2 77 (4734981), Cond.constant RX2 81 (1589253), Cond.methodLink RX2 72 yX3_s]
def wsL_add_r3 : List Cond := [Cond.static yX3_s, Cond.code yX3_s cX3_s 1 (some .int), Cond.methodLink RX2 78 yX2_fraction, Cond.static yX2_fraction, Cond.code yX2_fraction cX2_fraction 1 (some .int), Cond.constant RX2 95 (573445), Cond.constant RX2 96 (573446), Cond.constant RX2 97 (540678), Cond.constant RX2 88 (540677), Cond.constant RX2 98 (610309), Cond.constant RX2 99 (606245), Cond.constant RX2 100 (61445), Cond.methodLink RX2 82 yX2_doubled, Cond.static yX2_doubled, Cond.code yX2_doubled cX2_doubled 3 (some .int), Cond.constant RX2 19 (1048576), Cond.constant RX2 89 (32768), Cond.constant RX2 28 (2097152), Cond.constant RX2 90 (524288), Cond.constant RX2 32 (4194304), Cond.methodLink RX2 20 yX4_has, Cond.static yX4_has, Cond.initialized RX4, Cond.code yX4_has cX4_has 2 (some .boolean)]
def wsL_add_r4 : List Cond := [Cond.methodLink RX2 91 yX2_answersWhole, Cond.static yX2_answersWhole, Cond.code yX2_answersWhole cX2_answersWhole 1 (some .boolean), Cond.methodLink RX2 85 yX2_ofWhole, Cond.static yX2_ofWhole, Cond.code yX2_ofWhole cX2_ofWhole 1 (some .int), Cond.methodLink RX2 54 yX2_special2, Cond.static yX2_special2, Cond.code yX2_special2 cX2_special2 1 (some .int), Cond.methodLink RX2 57 yX2_immediateOrBranch, Cond.static yX2_immediateOrBranch, Cond.code yX2_immediateOrBranch cX2_immediateOrBranch 1 (some .int), Cond.constant RX2 67 (8388663), Cond.methodLink RX2 60 yX2_memory, Cond.static yX2_memory, Cond.code yX2_memory cX2_memory 1 (some .int), Cond.constant RX2 68 (262161), Cond.constant RX2 69 (2359313), Cond.constant RX2 70 (32786), Cond.constant RX2 71 (2129938), Cond.methodLink RX2 15 yX2_hasOddDouble, Cond.static yX2_hasOddDouble, Cond.code yX2_hasOddDouble cX2_hasOddDouble 3 (some .boolean), Cond.methodLink RX2 23 yX3_fractionS]
def wsL_add_r5 : List Cond := [Cond.static yX3_fractionS, Cond.code yX3_fractionS cX3_fractionS 1 (some .int), Cond.methodLink RX3 13 yX3_d, Cond.static yX3_d, Cond.code yX3_d cX3_d 1 (some .int), Cond.methodLink RX2 29 yX3_fractionT, Cond.static yX3_fractionT, Cond.code yX3_fractionT cX3_fractionT 1 (some .int), Cond.methodLink RX3 7 yX3_t, Cond.methodLink RX2 33 yX3_fractionD, Cond.static yX3_fractionD, Cond.code yX3_fractionD cX3_fractionD 1 (some .int), Cond.methodLink RX8 57 yX0_isClosed, Cond.instanceMethod yX0_isClosed, Cond.selects RX0 yX0_isClosed yX0_isClosed, Cond.initialized RX0, Cond.code yX0_isClosed cX0_isClosed 1 (some .boolean), Cond.fieldLink RX0 23 "SlotFiller$Block" "size" "I", Cond.methodLink RX0 70 yX0_endsInBranch, Cond.instanceMethod yX0_endsInBranch, Cond.selects RX0 yX0_endsInBranch yX0_endsInBranch, Cond.code yX0_endsInBranch cX0_endsInBranch 1 (some .boolean), Cond.fieldLink RX0 30 "SlotFiller$Block" "kinds" "[I", Cond.methodLink RX8 66 yX0_empty]
def wsL_add_r6 : List Cond := [Cond.instanceMethod yX0_empty, Cond.selects RX0 yX0_empty yX0_empty, Cond.code yX0_empty cX0_empty 1 none, Cond.methodLink RX8 69 yX0_append, Cond.instanceMethod yX0_append, Cond.selects RX0 yX0_append yX0_append, Cond.code yX0_append cX0_append 3 none, Cond.fieldLink RX0 27 "SlotFiller$Block" "words" "[I", Cond.fieldLink RX0 33 "SlotFiller$Block" "likely" "[Z", Cond.constant RX0 78 (8388608), Cond.fieldLink RX0 37 "SlotFiller$Block" "reads" "[J", Cond.fieldLink RX0 41 "SlotFiller$Block" "writes" "[J", Cond.fieldLink RX0 44 "SlotFiller$Block" "readsFractions" "[I", Cond.fieldLink RX0 47 "SlotFiller$Block" "writesFractions" "[I", Cond.fieldLink RX0 50 "SlotFiller$Block" "bases" "[I", Cond.fieldLink RX0 53 "SlotFiller$Block" "firstBytes" "[I", Cond.fieldLink RX0 56 "SlotFiller$Block" "endBytes" "[I", Cond.fieldLink RX0 59 "SlotFiller$Block" "baseWriters" "[I", Cond.methodLink RX0 74 yX4_kindOf, Cond.static yX4_kindOf, Cond.code yX4_kindOf cX4_kindOf 1 (some .int), Cond.methodLink RX0 79 yX4_has, Cond.methodLink RX0 83 yX7_reads, Cond.static yX7_reads]
def wsL_add_r7 : List Cond := [Cond.initialized RX7, Cond.code yX7_reads cX7_reads 4 (some .long), Cond.constantLong RX7 31 (4294967296), Cond.constantLong RX7 33 (8589934592), Cond.methodLink RX7 9 yX4_has, Cond.methodLink RX7 13 yX3_s, Cond.methodLink RX7 19 yX7_register, Cond.static yX7_register, Cond.code yX7_register cX7_register 1 (some .long), Cond.methodLink RX7 25 yX3_t, Cond.methodLink RX7 28 yX3_d, Cond.methodLink RX0 88 yX7_writes, Cond.static yX7_writes, Cond.code yX7_writes cX7_writes 4 (some .long), Cond.methodLink RX0 90 yX7_readsFractions, Cond.static yX7_readsFractions, Cond.code yX7_readsFractions cX7_readsFractions 3 (some .int), Cond.constant RX7 39 (32768), Cond.constant RX7 43 (65536), Cond.methodLink RX7 35 yX7_fractionS, Cond.static yX7_fractionS, Cond.code yX7_fractionS cX7_fractionS 2 (some .int), Cond.constant RX7 52 (1048576), Cond.methodLink RX7 50 yX3_fractionS]
def wsL_add_r8 : List Cond := [Cond.methodLink RX7 53 yX7_fraction, Cond.static yX7_fraction, Cond.code yX7_fraction cX7_fraction 2 (some .int), Cond.methodLink RX7 40 yX7_fractionT, Cond.static yX7_fractionT, Cond.code yX7_fractionT cX7_fractionT 2 (some .int), Cond.constant RX7 59 (2097152), Cond.methodLink RX7 57 yX3_fractionT, Cond.methodLink RX7 44 yX7_fractionD, Cond.static yX7_fractionD, Cond.code yX7_fractionD cX7_fractionD 2 (some .int), Cond.constant RX7 62 (4194304), Cond.methodLink RX7 60 yX3_fractionD, Cond.methodLink RX0 93 yX7_writesFractions, Cond.static yX7_writesFractions, Cond.code yX7_writesFractions cX7_writesFractions 3 (some .int), Cond.constant RX7 47 (131072), Cond.constant RX7 48 (262144), Cond.constant RX7 49 (524288), Cond.methodLink RX0 95 yX3_s, Cond.methodLink RX0 100 yX1_first, Cond.static yX1_first, Cond.initialized RX1, Cond.code yX1_first cX1_first 2 (some .int)]
def wsL_add_r9 : List Cond := [Cond.methodLink RX1 7 yX3_offset, Cond.static yX3_offset, Cond.code yX3_offset cX3_offset 1 (some .int), Cond.methodLink RX1 13 yX3_operation, Cond.methodLink RX1 16 yX1_touchesWholeWord, Cond.static yX1_touchesWholeWord, Cond.code yX1_touchesWholeWord cX1_touchesWholeWord 1 (some .boolean), Cond.methodLink RX0 105 yX1_many, Cond.static yX1_many, Cond.code yX1_many cX1_many 1 (some .int), Cond.methodLink RX0 108 yX7_register, Cond.methodLink RX0 112 yX0_lastWriter, Cond.instanceMethod yX0_lastWriter, Cond.selects RX0 yX0_lastWriter yX0_lastWriter, Cond.code yX0_lastWriter cX0_lastWriter 4 (some .int), Cond.methodLink RX8 73 yX4_kindOf]
def wsL_add : List Cond := .codeWith yL_add cL_add 4 (some .int) [(0, 9, 12, 13), (0, 9, 15, 19)] :: ((wsL_add_r1 ++ (wsL_add_r2 ++ (wsL_add_r3 ++ (wsL_add_r4 ++ (wsL_add_r5 ++ (wsL_add_r6 ++ (wsL_add_r7 ++ (wsL_add_r8 ++ wsL_add_r9)))))))) ++ wsX80 ++ wsX00 ++ (vx_atS RX8 40 "java/lang/IllegalArgumentException" ["java/lang/RuntimeException", "java/lang/Exception"]).filter goodWord ++ (vx_atS RX8 65 "java/lang/IllegalStateException" ["java/lang/RuntimeException", "java/lang/Exception"]).filter goodWord)
def wsL_word : List Cond := .codeWith yL_word cL_word 4 (some .int) [(0, 9, 12, 24)] :: ([.classLink RL 24 "java/lang/IndexOutOfBoundsException", .methodLink RL 21 yX8_word, .instanceMethod yX8_word, .selects RX8 yX8_word yX8_word, .initialized RX8, .code yX8_word cX8_word 2 (some .int), .classLink RX8 94 "java/lang/IndexOutOfBoundsException", .initialized "java/lang/IndexOutOfBoundsException", .fieldLink RX8 26 "SlotFiller" "outcome" "LSlotFiller$Outcome;", .fieldLink RX8 90 "SlotFiller$Outcome" "size" "I", .fieldLink RX8 99 "SlotFiller$Outcome" "words" "[I"] ++ wsX80 ++ wsX60 ++ (vx_atS RX8 98 "java/lang/IndexOutOfBoundsException" ["java/lang/RuntimeException", "java/lang/Exception"]).filter goodWord)
def wsL_from : List Cond := .codeWith yL_from cL_from 4 (some .int) [(0, 9, 12, 24)] :: ([.classLink RL 24 "java/lang/IndexOutOfBoundsException", .methodLink RL 26 yX8_from, .instanceMethod yX8_from, .selects RX8 yX8_from yX8_from, .initialized RX8, .code yX8_from cX8_from 2 (some .int), .classLink RX8 94 "java/lang/IndexOutOfBoundsException", .initialized "java/lang/IndexOutOfBoundsException", .fieldLink RX8 26 "SlotFiller" "outcome" "LSlotFiller$Outcome;", .fieldLink RX8 90 "SlotFiller$Outcome" "size" "I", .fieldLink RX8 102 "SlotFiller$Outcome" "origins" "[I"] ++ wsX80 ++ wsX60 ++ (vx_atS RX8 98 "java/lang/IndexOutOfBoundsException" ["java/lang/RuntimeException", "java/lang/Exception"]).filter goodWord)
def wsL_depends_r1 : List Cond := [Cond.classLink RL 24 "java/lang/IndexOutOfBoundsException", Cond.methodLink RL 29 yX8_depends, Cond.instanceMethod yX8_depends, Cond.selects RX8 yX8_depends yX8_depends, Cond.initialized RX8, Cond.code yX8_depends cX8_depends 4 (some .int), Cond.classLink RX8 94 "java/lang/IndexOutOfBoundsException", Cond.initialized "java/lang/IndexOutOfBoundsException", Cond.fieldLink RX8 12 "SlotFiller" "block" "LSlotFiller$Block;", Cond.methodLink RX8 105 yX0_holds, Cond.instanceMethod yX0_holds, Cond.selects RX0 yX0_holds yX0_holds, Cond.initialized RX0, Cond.code yX0_holds cX0_holds 2 (some .boolean), Cond.fieldLink RX0 23 "SlotFiller$Block" "size" "I", Cond.methodLink RX8 111 yX0_distance, Cond.instanceMethod yX0_distance, Cond.selects RX0 yX0_distance yX0_distance, Cond.code yX0_distance cX0_distance 4 (some .int), Cond.fieldLink RX0 41 "SlotFiller$Block" "writes" "[J", Cond.fieldLink RX0 37 "SlotFiller$Block" "reads" "[J", Cond.fieldLink RX0 47 "SlotFiller$Block" "writesFractions" "[I", Cond.fieldLink RX0 44 "SlotFiller$Block" "readsFractions" "[I", Cond.methodLink RX0 126 Lib.Math.max.name]
def wsL_depends_r2 : List Cond := [Cond.static Lib.Math.max.name, Cond.initialized "java/lang/Math", Cond.code Lib.Math.max.name Lib.Math.max.code 2 (some .int), Cond.methodLink RX0 116 yX0_mustFollow, Cond.instanceMethod yX0_mustFollow, Cond.selects RX0 yX0_mustFollow yX0_mustFollow, Cond.code yX0_mustFollow cX0_mustFollow 3 (some .boolean), Cond.fieldLink RX0 30 "SlotFiller$Block" "kinds" "[I", Cond.methodLink RX0 119 yX0_meet, Cond.static yX0_meet, Cond.code yX0_meet cX0_meet 6 (some .boolean), Cond.methodLink RX0 131 yX0_bothInMemory, Cond.instanceMethod yX0_bothInMemory, Cond.selects RX0 yX0_bothInMemory yX0_bothInMemory, Cond.code yX0_bothInMemory cX0_bothInMemory 5 (some .boolean), Cond.methodLink RX0 134 yX0_areApart, Cond.instanceMethod yX0_areApart, Cond.selects RX0 yX0_areApart yX0_areApart, Cond.code yX0_areApart cX0_areApart 4 (some .boolean), Cond.fieldLink RX0 50 "SlotFiller$Block" "bases" "[I", Cond.fieldLink RX0 59 "SlotFiller$Block" "baseWriters" "[I", Cond.fieldLink RX0 56 "SlotFiller$Block" "endBytes" "[I", Cond.fieldLink RX0 53 "SlotFiller$Block" "firstBytes" "[I", Cond.methodLink RX0 123 yX0_latencyOf]
def wsL_depends_r3 : List Cond := [Cond.instanceMethod yX0_latencyOf, Cond.selects RX0 yX0_latencyOf yX0_latencyOf, Cond.code yX0_latencyOf cX0_latencyOf 2 (some .int), Cond.fieldLink RX0 20 "SlotFiller$Block" "latencies" "[I"]
def wsL_depends : List Cond := .codeWith yL_depends cL_depends 5 (some .int) [(0, 10, 13, 24)] :: ((wsL_depends_r1 ++ (wsL_depends_r2 ++ wsL_depends_r3)) ++ wsX80 ++ wsX00 ++ (vx_atS RX8 98 "java/lang/IndexOutOfBoundsException" ["java/lang/RuntimeException", "java/lang/Exception"]).filter goodWord)
def wsL_height_r1 : List Cond := [Cond.classLink RL 24 "java/lang/IndexOutOfBoundsException", Cond.methodLink RL 32 yX8_height, Cond.instanceMethod yX8_height, Cond.selects RX8 yX8_height yX8_height, Cond.initialized RX8, Cond.code yX8_height cX8_height 2 (some .int), Cond.classLink RX8 94 "java/lang/IndexOutOfBoundsException", Cond.initialized "java/lang/IndexOutOfBoundsException", Cond.fieldLink RX8 12 "SlotFiller" "block" "LSlotFiller$Block;", Cond.fieldLink RX8 115 "SlotFiller$Block" "heights" "[I", Cond.methodLink RX8 105 yX0_holds, Cond.instanceMethod yX0_holds, Cond.selects RX0 yX0_holds yX0_holds, Cond.initialized RX0, Cond.code yX0_holds cX0_holds 2 (some .boolean), Cond.fieldLink RX0 23 "SlotFiller$Block" "size" "I", Cond.methodLink RX8 76 yX0_survey, Cond.instanceMethod yX0_survey, Cond.selects RX0 yX0_survey yX0_survey, Cond.code yX0_survey cX0_survey 5 none, Cond.fieldLink RX0 62 "SlotFiller$Block" "heights" "[I", Cond.methodLink RX0 126 Lib.Math.max.name, Cond.static Lib.Math.max.name, Cond.initialized "java/lang/Math"]
def wsL_height_r2 : List Cond := [Cond.code Lib.Math.max.name Lib.Math.max.code 2 (some .int), Cond.fieldLink RX0 65 "SlotFiller$Block" "needed" "[Z", Cond.methodLink RX0 137 yX0_distance, Cond.instanceMethod yX0_distance, Cond.selects RX0 yX0_distance yX0_distance, Cond.code yX0_distance cX0_distance 4 (some .int), Cond.fieldLink RX0 41 "SlotFiller$Block" "writes" "[J", Cond.fieldLink RX0 37 "SlotFiller$Block" "reads" "[J", Cond.fieldLink RX0 47 "SlotFiller$Block" "writesFractions" "[I", Cond.fieldLink RX0 44 "SlotFiller$Block" "readsFractions" "[I", Cond.methodLink RX0 116 yX0_mustFollow, Cond.instanceMethod yX0_mustFollow, Cond.selects RX0 yX0_mustFollow yX0_mustFollow, Cond.code yX0_mustFollow cX0_mustFollow 3 (some .boolean), Cond.fieldLink RX0 30 "SlotFiller$Block" "kinds" "[I", Cond.methodLink RX0 119 yX0_meet, Cond.static yX0_meet, Cond.code yX0_meet cX0_meet 6 (some .boolean), Cond.methodLink RX0 131 yX0_bothInMemory, Cond.instanceMethod yX0_bothInMemory, Cond.selects RX0 yX0_bothInMemory yX0_bothInMemory, Cond.code yX0_bothInMemory cX0_bothInMemory 5 (some .boolean), Cond.methodLink RX0 134 yX0_areApart, Cond.instanceMethod yX0_areApart]
def wsL_height_r3 : List Cond := [Cond.selects RX0 yX0_areApart yX0_areApart, Cond.code yX0_areApart cX0_areApart 4 (some .boolean), Cond.fieldLink RX0 50 "SlotFiller$Block" "bases" "[I", Cond.fieldLink RX0 59 "SlotFiller$Block" "baseWriters" "[I", Cond.fieldLink RX0 56 "SlotFiller$Block" "endBytes" "[I", Cond.fieldLink RX0 53 "SlotFiller$Block" "firstBytes" "[I", Cond.methodLink RX0 123 yX0_latencyOf, Cond.instanceMethod yX0_latencyOf, Cond.selects RX0 yX0_latencyOf yX0_latencyOf, Cond.code yX0_latencyOf cX0_latencyOf 2 (some .int), Cond.fieldLink RX0 20 "SlotFiller$Block" "latencies" "[I"]
def wsL_height : List Cond := .codeWith yL_height cL_height 4 (some .int) [(0, 9, 12, 24)] :: ((wsL_height_r1 ++ (wsL_height_r2 ++ wsL_height_r3)) ++ wsX80 ++ wsX00 ++ (vx_atS RX8 98 "java/lang/IndexOutOfBoundsException" ["java/lang/RuntimeException", "java/lang/Exception"]).filter goodWord)
abbrev vwCl : List vw_C := [(RX0, TX0, 15), (RX5, TX5, 5), (RX6, TX6, 7), (RX8, TX8, 4), (RX9, TX9, 26)]
end
section
theorem dX0_init_0 : decode cX0_init 0 = .ok (.aload_n 0, 1) := by decide +kernel
theorem dX0_init_1 : decode cX0_init 1 = .ok (.invokespecial 3, 3) := by decide +kernel
theorem dX0_init_4 : decode cX0_init 4 = .ok (.aload_n 0, 1) := by decide +kernel
theorem dX0_init_5 : decode cX0_init 5 = .ok (.getstatic 9, 3) := by decide +kernel
theorem dX0_init_8 : decode cX0_init 8 = .ok (.invokevirtual 15, 3) := by decide +kernel
theorem dX0_init_11 : decode cX0_init 11 = .ok (.checkcast 16, 3) := by decide +kernel
theorem dX0_init_14 : decode cX0_init 14 = .ok (.putfield 20, 3) := by decide +kernel
theorem dX0_init_17 : decode cX0_init 17 = .ok (.aload_n 0, 1) := by decide +kernel
theorem dX0_init_18 : decode cX0_init 18 = .ok (.iconst 0, 1) := by decide +kernel
theorem dX0_init_19 : decode cX0_init 19 = .ok (.putfield 23, 3) := by decide +kernel
theorem dX0_init_22 : decode cX0_init 22 = .ok (.aload_n 0, 1) := by decide +kernel
theorem dX0_init_23 : decode cX0_init 23 = .ok (.bipush 40, 2) := by decide +kernel
theorem dX0_init_25 : decode cX0_init 25 = .ok (.newarray .int, 2) := by decide +kernel
theorem dX0_init_27 : decode cX0_init 27 = .ok (.putfield 27, 3) := by decide +kernel
theorem dX0_init_30 : decode cX0_init 30 = .ok (.aload_n 0, 1) := by decide +kernel
theorem dX0_init_31 : decode cX0_init 31 = .ok (.bipush 40, 2) := by decide +kernel
theorem dX0_init_33 : decode cX0_init 33 = .ok (.newarray .int, 2) := by decide +kernel
theorem dX0_init_35 : decode cX0_init 35 = .ok (.putfield 30, 3) := by decide +kernel
theorem dX0_init_38 : decode cX0_init 38 = .ok (.aload_n 0, 1) := by decide +kernel
theorem dX0_init_39 : decode cX0_init 39 = .ok (.bipush 40, 2) := by decide +kernel
theorem dX0_init_41 : decode cX0_init 41 = .ok (.newarray .boolean, 2) := by decide +kernel
theorem dX0_init_43 : decode cX0_init 43 = .ok (.putfield 33, 3) := by decide +kernel
theorem dX0_init_46 : decode cX0_init 46 = .ok (.aload_n 0, 1) := by decide +kernel
theorem dX0_init_47 : decode cX0_init 47 = .ok (.bipush 40, 2) := by decide +kernel
theorem dX0_init_49 : decode cX0_init 49 = .ok (.newarray .long, 2) := by decide +kernel
theorem dX0_init_51 : decode cX0_init 51 = .ok (.putfield 37, 3) := by decide +kernel
theorem dX0_init_54 : decode cX0_init 54 = .ok (.aload_n 0, 1) := by decide +kernel
theorem dX0_init_55 : decode cX0_init 55 = .ok (.bipush 40, 2) := by decide +kernel
theorem dX0_init_57 : decode cX0_init 57 = .ok (.newarray .long, 2) := by decide +kernel
theorem dX0_init_59 : decode cX0_init 59 = .ok (.putfield 41, 3) := by decide +kernel
theorem dX0_init_62 : decode cX0_init 62 = .ok (.aload_n 0, 1) := by decide +kernel
theorem dX0_init_63 : decode cX0_init 63 = .ok (.bipush 40, 2) := by decide +kernel
theorem dX0_init_65 : decode cX0_init 65 = .ok (.newarray .int, 2) := by decide +kernel
theorem dX0_init_67 : decode cX0_init 67 = .ok (.putfield 44, 3) := by decide +kernel
theorem dX0_init_70 : decode cX0_init 70 = .ok (.aload_n 0, 1) := by decide +kernel
theorem dX0_init_71 : decode cX0_init 71 = .ok (.bipush 40, 2) := by decide +kernel
theorem dX0_init_73 : decode cX0_init 73 = .ok (.newarray .int, 2) := by decide +kernel
theorem dX0_init_75 : decode cX0_init 75 = .ok (.putfield 47, 3) := by decide +kernel
theorem dX0_init_78 : decode cX0_init 78 = .ok (.aload_n 0, 1) := by decide +kernel
theorem dX0_init_79 : decode cX0_init 79 = .ok (.bipush 40, 2) := by decide +kernel
theorem dX0_init_81 : decode cX0_init 81 = .ok (.newarray .int, 2) := by decide +kernel
theorem dX0_init_83 : decode cX0_init 83 = .ok (.putfield 50, 3) := by decide +kernel
theorem dX0_init_86 : decode cX0_init 86 = .ok (.aload_n 0, 1) := by decide +kernel
theorem dX0_init_87 : decode cX0_init 87 = .ok (.bipush 40, 2) := by decide +kernel
theorem dX0_init_89 : decode cX0_init 89 = .ok (.newarray .int, 2) := by decide +kernel
theorem dX0_init_91 : decode cX0_init 91 = .ok (.putfield 53, 3) := by decide +kernel
theorem dX0_init_94 : decode cX0_init 94 = .ok (.aload_n 0, 1) := by decide +kernel
theorem dX0_init_95 : decode cX0_init 95 = .ok (.bipush 40, 2) := by decide +kernel
theorem dX0_init_97 : decode cX0_init 97 = .ok (.newarray .int, 2) := by decide +kernel
theorem dX0_init_99 : decode cX0_init 99 = .ok (.putfield 56, 3) := by decide +kernel
theorem dX0_init_102 : decode cX0_init 102 = .ok (.aload_n 0, 1) := by decide +kernel
theorem dX0_init_103 : decode cX0_init 103 = .ok (.bipush 40, 2) := by decide +kernel
theorem dX0_init_105 : decode cX0_init 105 = .ok (.newarray .int, 2) := by decide +kernel
theorem dX0_init_107 : decode cX0_init 107 = .ok (.putfield 59, 3) := by decide +kernel
theorem dX0_init_110 : decode cX0_init 110 = .ok (.aload_n 0, 1) := by decide +kernel
theorem dX0_init_111 : decode cX0_init 111 = .ok (.bipush 40, 2) := by decide +kernel
theorem dX0_init_113 : decode cX0_init 113 = .ok (.newarray .int, 2) := by decide +kernel
theorem dX0_init_115 : decode cX0_init 115 = .ok (.putfield 62, 3) := by decide +kernel
theorem dX0_init_118 : decode cX0_init 118 = .ok (.aload_n 0, 1) := by decide +kernel
theorem dX0_init_119 : decode cX0_init 119 = .ok (.bipush 40, 2) := by decide +kernel
theorem dX0_init_121 : decode cX0_init 121 = .ok (.newarray .boolean, 2) := by decide +kernel
theorem dX0_init_123 : decode cX0_init 123 = .ok (.putfield 65, 3) := by decide +kernel
theorem dX0_init_126 : decode cX0_init 126 = .ok (.return_, 1) := by decide +kernel
theorem dX0_holds_0 : decode cX0_holds 0 = .ok (.iload_n 1, 1) := by decide +kernel
theorem dX0_holds_1 : decode cX0_holds 1 = .ok (.ifCond .lt 15, 3) := by decide +kernel
theorem dX0_holds_4 : decode cX0_holds 4 = .ok (.iload_n 1, 1) := by decide +kernel
theorem dX0_holds_5 : decode cX0_holds 5 = .ok (.aload_n 0, 1) := by decide +kernel
theorem dX0_holds_6 : decode cX0_holds 6 = .ok (.getfield 23, 3) := by decide +kernel
theorem dX0_holds_9 : decode cX0_holds 9 = .ok (.if_icmp .ge 7, 3) := by decide +kernel
theorem dX0_holds_12 : decode cX0_holds 12 = .ok (.iconst 1, 1) := by decide +kernel
theorem dX0_holds_13 : decode cX0_holds 13 = .ok (.goto 4, 3) := by decide +kernel
theorem dX0_holds_16 : decode cX0_holds 16 = .ok (.iconst 0, 1) := by decide +kernel
theorem dX0_holds_17 : decode cX0_holds 17 = .ok (.ireturn, 1) := by decide +kernel
theorem dX0_endsInBranch_0 : decode cX0_endsInBranch 0 = .ok (.aload_n 0, 1) := by decide +kernel
theorem dX0_endsInBranch_1 : decode cX0_endsInBranch 1 = .ok (.getfield 23, 3) := by decide +kernel
theorem dX0_endsInBranch_4 : decode cX0_endsInBranch 4 = .ok (.ifCond .le 23, 3) := by decide +kernel
theorem dX0_endsInBranch_7 : decode cX0_endsInBranch 7 = .ok (.aload_n 0, 1) := by decide +kernel
theorem dX0_endsInBranch_8 : decode cX0_endsInBranch 8 = .ok (.getfield 30, 3) := by decide +kernel
theorem dX0_endsInBranch_11 : decode cX0_endsInBranch 11 = .ok (.aload_n 0, 1) := by decide +kernel
theorem dX0_endsInBranch_12 : decode cX0_endsInBranch 12 = .ok (.getfield 23, 3) := by decide +kernel
theorem dX0_endsInBranch_15 : decode cX0_endsInBranch 15 = .ok (.iconst 1, 1) := by decide +kernel
theorem dX0_endsInBranch_16 : decode cX0_endsInBranch 16 = .ok (.isub, 1) := by decide +kernel
theorem dX0_endsInBranch_17 : decode cX0_endsInBranch 17 = .ok (.iaload, 1) := by decide +kernel
theorem dX0_endsInBranch_18 : decode cX0_endsInBranch 18 = .ok (.bipush 7, 2) := by decide +kernel
theorem dX0_endsInBranch_20 : decode cX0_endsInBranch 20 = .ok (.if_icmp .ne 7, 3) := by decide +kernel
theorem dX0_endsInBranch_23 : decode cX0_endsInBranch 23 = .ok (.iconst 1, 1) := by decide +kernel
theorem dX0_endsInBranch_24 : decode cX0_endsInBranch 24 = .ok (.goto 4, 3) := by decide +kernel
theorem dX0_endsInBranch_27 : decode cX0_endsInBranch 27 = .ok (.iconst 0, 1) := by decide +kernel
theorem dX0_endsInBranch_28 : decode cX0_endsInBranch 28 = .ok (.ireturn, 1) := by decide +kernel
set_option maxRecDepth 20000 in
theorem ggX0_isClosed_X0_endsInBranch : GoodIn wsX0_isClosed wsX0_endsInBranch := goodIn_r _ [6, 1, 7, 8, 9, 10, 11, 12, 13, 14, 15, 16, 17, 18, 19, 20, 21, 22] (by decide +kernel) (by decide +kernel)
set_option maxRecDepth 20000 in
theorem gX0_isClosed_X0_endsInBranch : GoodIn wsX0_isClosed (wsV RX0 70 RX0 yX0_endsInBranch wsX0_endsInBranch) := goodIn_app (goodIn_of _ (by decide +kernel)) ggX0_isClosed_X0_endsInBranch
theorem dX0_isClosed_0 : decode cX0_isClosed 0 = .ok (.aload_n 0, 1) := by decide +kernel
theorem dX0_isClosed_1 : decode cX0_isClosed 1 = .ok (.getfield 23, 3) := by decide +kernel
theorem dX0_isClosed_4 : decode cX0_isClosed 4 = .ok (.bipush 40, 2) := by decide +kernel
theorem dX0_isClosed_6 : decode cX0_isClosed 6 = .ok (.if_icmp .ge 10, 3) := by decide +kernel
theorem dX0_isClosed_9 : decode cX0_isClosed 9 = .ok (.aload_n 0, 1) := by decide +kernel
theorem dX0_isClosed_10 : decode cX0_isClosed 10 = .ok (.invokevirtual 70, 3) := by decide +kernel
theorem dX0_isClosed_13 : decode cX0_isClosed 13 = .ok (.ifCond .eq 7, 3) := by decide +kernel
theorem dX0_isClosed_16 : decode cX0_isClosed 16 = .ok (.iconst 1, 1) := by decide +kernel
theorem dX0_isClosed_17 : decode cX0_isClosed 17 = .ok (.goto 4, 3) := by decide +kernel
theorem dX0_isClosed_20 : decode cX0_isClosed 20 = .ok (.iconst 0, 1) := by decide +kernel
theorem dX0_isClosed_21 : decode cX0_isClosed 21 = .ok (.ireturn, 1) := by decide +kernel
set_option maxRecDepth 20000 in
theorem ggX0_sizeWithoutBranch_X0_endsInBranch : GoodIn wsX0_sizeWithoutBranch wsX0_endsInBranch := goodIn_r _ [6, 1, 7, 8, 9, 10, 11, 12, 13, 14, 15, 16, 17, 18, 19, 20, 21, 22] (by decide +kernel) (by decide +kernel)
set_option maxRecDepth 20000 in
theorem gX0_sizeWithoutBranch_X0_endsInBranch : GoodIn wsX0_sizeWithoutBranch (wsV RX0 70 RX0 yX0_endsInBranch wsX0_endsInBranch) := goodIn_app (goodIn_of _ (by decide +kernel)) ggX0_sizeWithoutBranch_X0_endsInBranch
theorem dX0_sizeWithoutBranch_0 : decode cX0_sizeWithoutBranch 0 = .ok (.aload_n 0, 1) := by decide +kernel
theorem dX0_sizeWithoutBranch_1 : decode cX0_sizeWithoutBranch 1 = .ok (.invokevirtual 70, 3) := by decide +kernel
theorem dX0_sizeWithoutBranch_4 : decode cX0_sizeWithoutBranch 4 = .ok (.ifCond .eq 12, 3) := by decide +kernel
theorem dX0_sizeWithoutBranch_7 : decode cX0_sizeWithoutBranch 7 = .ok (.aload_n 0, 1) := by decide +kernel
theorem dX0_sizeWithoutBranch_8 : decode cX0_sizeWithoutBranch 8 = .ok (.getfield 23, 3) := by decide +kernel
theorem dX0_sizeWithoutBranch_11 : decode cX0_sizeWithoutBranch 11 = .ok (.iconst 1, 1) := by decide +kernel
theorem dX0_sizeWithoutBranch_12 : decode cX0_sizeWithoutBranch 12 = .ok (.isub, 1) := by decide +kernel
theorem dX0_sizeWithoutBranch_13 : decode cX0_sizeWithoutBranch 13 = .ok (.goto 7, 3) := by decide +kernel
theorem dX0_sizeWithoutBranch_16 : decode cX0_sizeWithoutBranch 16 = .ok (.aload_n 0, 1) := by decide +kernel
theorem dX0_sizeWithoutBranch_17 : decode cX0_sizeWithoutBranch 17 = .ok (.getfield 23, 3) := by decide +kernel
theorem dX0_sizeWithoutBranch_20 : decode cX0_sizeWithoutBranch 20 = .ok (.ireturn, 1) := by decide +kernel
theorem dX0_empty_0 : decode cX0_empty 0 = .ok (.aload_n 0, 1) := by decide +kernel
theorem dX0_empty_1 : decode cX0_empty 1 = .ok (.iconst 0, 1) := by decide +kernel
theorem dX0_empty_2 : decode cX0_empty 2 = .ok (.putfield 23, 3) := by decide +kernel
theorem dX0_empty_5 : decode cX0_empty 5 = .ok (.return_, 1) := by decide +kernel
set_option maxRecDepth 20000 in
theorem ggX0_append_X4_kindOf : GoodIn wsX0_append wsX4_kindOf := goodIn_r _ [17] (by decide +kernel) (by decide +kernel)
set_option maxRecDepth 20000 in
theorem gX0_append_X4_kindOf : GoodIn wsX0_append (va_wsS RX0 74 yX4_kindOf wsX4_kindOf) := goodIn_app (goodIn_of _ (by decide +kernel)) ggX0_append_X4_kindOf
set_option maxRecDepth 20000 in
theorem ggX0_append_X4_has : GoodIn wsX0_append wsX4_has := goodIn_r _ [20] (by decide +kernel) (by decide +kernel)
set_option maxRecDepth 20000 in
theorem gX0_append_X4_has : GoodIn wsX0_append (va_wsS RX0 79 yX4_has wsX4_has) := goodIn_app (goodIn_of _ (by decide +kernel)) ggX0_append_X4_has
set_option maxRecDepth 20000 in
theorem ggX0_append_X7_reads : GoodIn wsX0_append wsX7_reads := goodIn_r _ [24, 25, 26, 27, 19, 16, 20, 28, 29, 30, 31, 32, 33, 23, 34, 35, 36, 37, 38, 39, 40] (by decide +kernel) (by decide +kernel)
set_option maxRecDepth 20000 in
theorem gX0_append_X7_reads : GoodIn wsX0_append (va_wsS RX0 83 yX7_reads wsX7_reads) := goodIn_app (goodIn_of _ (by decide +kernel)) ggX0_append_X7_reads
set_option maxRecDepth 20000 in
theorem ggX0_append_X7_writes : GoodIn wsX0_append wsX7_writes := goodIn_r _ [43, 25, 26, 27, 19, 16, 20, 35, 36, 30, 37, 32, 33, 23, 34, 38, 39, 40] (by decide +kernel) (by decide +kernel)
set_option maxRecDepth 20000 in
theorem gX0_append_X7_writes : GoodIn wsX0_append (va_wsS RX0 88 yX7_writes wsX7_writes) := goodIn_app (goodIn_of _ (by decide +kernel)) ggX0_append_X7_writes
set_option maxRecDepth 20000 in
theorem ggX0_append_X7_readsFractions : GoodIn wsX0_append wsX7_readsFractions := goodIn_r _ [46, 47, 48, 27, 19, 16, 20, 49, 50, 23, 51, 52, 53, 54, 30, 55, 56, 39, 40, 57, 58, 59, 60, 61, 62, 63, 64, 65, 66, 67, 36, 37, 68, 69, 70, 71, 72, 73, 74] (by decide +kernel) (by decide +kernel)
set_option maxRecDepth 20000 in
theorem gX0_append_X7_readsFractions : GoodIn wsX0_append (va_wsS RX0 90 yX7_readsFractions wsX7_readsFractions) := goodIn_app (goodIn_of _ (by decide +kernel)) ggX0_append_X7_readsFractions
set_option maxRecDepth 20000 in
theorem ggX0_append_X7_writesFractions : GoodIn wsX0_append wsX7_writesFractions := goodIn_r _ [77, 78, 79, 80, 27, 19, 16, 20, 49, 50, 23, 51, 52, 53, 54, 30, 55, 56, 39, 40, 57, 58, 59, 60, 61, 62, 63, 64, 65, 66, 67, 36, 37, 68, 69, 70, 71, 72, 73, 74] (by decide +kernel) (by decide +kernel)
set_option maxRecDepth 20000 in
theorem gX0_append_X7_writesFractions : GoodIn wsX0_append (va_wsS RX0 93 yX7_writesFractions wsX7_writesFractions) := goodIn_app (goodIn_of _ (by decide +kernel)) ggX0_append_X7_writesFractions
set_option maxRecDepth 20000 in
theorem ggX0_append_X3_s : GoodIn wsX0_append wsX3_s := goodIn_r _ [31] (by decide +kernel) (by decide +kernel)
set_option maxRecDepth 20000 in
theorem gX0_append_X3_s : GoodIn wsX0_append (va_wsS RX0 95 yX3_s wsX3_s) := goodIn_app (goodIn_of _ (by decide +kernel)) ggX0_append_X3_s
set_option maxRecDepth 20000 in
theorem ggX0_append_X1_first : GoodIn wsX0_append wsX1_first := goodIn_r _ [85, 86, 87, 30, 88, 89, 90, 91, 92, 93, 84, 94] (by decide +kernel) (by decide +kernel)
set_option maxRecDepth 20000 in
theorem gX0_append_X1_first : GoodIn wsX0_append (va_wsS RX0 100 yX1_first wsX1_first) := goodIn_app (goodIn_of _ (by decide +kernel)) ggX0_append_X1_first
set_option maxRecDepth 20000 in
theorem ggX0_append_X1_many : GoodIn wsX0_append wsX1_many := goodIn_r _ [97, 89, 90, 30, 91] (by decide +kernel) (by decide +kernel)
set_option maxRecDepth 20000 in
theorem gX0_append_X1_many : GoodIn wsX0_append (va_wsS RX0 105 yX1_many wsX1_many) := goodIn_app (goodIn_of _ (by decide +kernel)) ggX0_append_X1_many
set_option maxRecDepth 20000 in
theorem ggX0_append_X7_register : GoodIn wsX0_append wsX7_register := goodIn_r _ [34] (by decide +kernel) (by decide +kernel)
set_option maxRecDepth 20000 in
theorem gX0_append_X7_register : GoodIn wsX0_append (va_wsS RX0 108 yX7_register wsX7_register) := goodIn_app (goodIn_of _ (by decide +kernel)) ggX0_append_X7_register
set_option maxRecDepth 20000 in
theorem ggX0_append_X0_lastWriter : GoodIn wsX0_append wsX0_lastWriter := goodIn_r _ [103, 1, 7, 104, 105, 106, 107, 108, 109, 110, 111, 112, 113, 114, 115, 116, 117, 118] (by decide +kernel) (by decide +kernel)
set_option maxRecDepth 20000 in
theorem gX0_append_X0_lastWriter : GoodIn wsX0_append (wsV RX0 112 RX0 yX0_lastWriter wsX0_lastWriter) := goodIn_app (goodIn_of _ (by decide +kernel)) ggX0_append_X0_lastWriter
theorem dX0_append_0 : decode cX0_append 0 = .ok (.aload_n 0, 1) := by decide +kernel
theorem dX0_append_1 : decode cX0_append 1 = .ok (.getfield 23, 3) := by decide +kernel
theorem dX0_append_4 : decode cX0_append 4 = .ok (.bipush 40, 2) := by decide +kernel
theorem dX0_append_6 : decode cX0_append 6 = .ok (.if_icmp .lt 4, 3) := by decide +kernel
theorem dX0_append_9 : decode cX0_append 9 = .ok (.return_, 1) := by decide +kernel
theorem dX0_append_10 : decode cX0_append 10 = .ok (.aload_n 0, 1) := by decide +kernel
theorem dX0_append_11 : decode cX0_append 11 = .ok (.getfield 27, 3) := by decide +kernel
theorem dX0_append_14 : decode cX0_append 14 = .ok (.aload_n 0, 1) := by decide +kernel
theorem dX0_append_15 : decode cX0_append 15 = .ok (.getfield 23, 3) := by decide +kernel
theorem dX0_append_18 : decode cX0_append 18 = .ok (.iload_n 1, 1) := by decide +kernel
theorem dX0_append_19 : decode cX0_append 19 = .ok (.iastore, 1) := by decide +kernel
theorem dX0_append_20 : decode cX0_append 20 = .ok (.aload_n 0, 1) := by decide +kernel
theorem dX0_append_21 : decode cX0_append 21 = .ok (.getfield 30, 3) := by decide +kernel
theorem dX0_append_24 : decode cX0_append 24 = .ok (.aload_n 0, 1) := by decide +kernel
theorem dX0_append_25 : decode cX0_append 25 = .ok (.getfield 23, 3) := by decide +kernel
theorem dX0_append_28 : decode cX0_append 28 = .ok (.iload_n 2, 1) := by decide +kernel
theorem dX0_append_29 : decode cX0_append 29 = .ok (.invokestatic 74, 3) := by decide +kernel
theorem dX0_append_32 : decode cX0_append 32 = .ok (.iastore, 1) := by decide +kernel
theorem dX0_append_33 : decode cX0_append 33 = .ok (.aload_n 0, 1) := by decide +kernel
theorem dX0_append_34 : decode cX0_append 34 = .ok (.getfield 33, 3) := by decide +kernel
theorem dX0_append_37 : decode cX0_append 37 = .ok (.aload_n 0, 1) := by decide +kernel
theorem dX0_append_38 : decode cX0_append 38 = .ok (.getfield 23, 3) := by decide +kernel
theorem dX0_append_41 : decode cX0_append 41 = .ok (.iload_n 2, 1) := by decide +kernel
theorem dX0_append_42 : decode cX0_append 42 = .ok (.ldc 78, 2) := by decide +kernel
theorem dX0_append_44 : decode cX0_append 44 = .ok (.invokestatic 79, 3) := by decide +kernel
theorem dX0_append_47 : decode cX0_append 47 = .ok (.bastore, 1) := by decide +kernel
theorem dX0_append_48 : decode cX0_append 48 = .ok (.aload_n 0, 1) := by decide +kernel
theorem dX0_append_49 : decode cX0_append 49 = .ok (.getfield 37, 3) := by decide +kernel
theorem dX0_append_52 : decode cX0_append 52 = .ok (.aload_n 0, 1) := by decide +kernel
theorem dX0_append_53 : decode cX0_append 53 = .ok (.getfield 23, 3) := by decide +kernel
theorem dX0_append_56 : decode cX0_append 56 = .ok (.iload_n 1, 1) := by decide +kernel
theorem dX0_append_57 : decode cX0_append 57 = .ok (.iload_n 2, 1) := by decide +kernel
theorem dX0_append_58 : decode cX0_append 58 = .ok (.invokestatic 83, 3) := by decide +kernel
theorem dX0_append_61 : decode cX0_append 61 = .ok (.lastore, 1) := by decide +kernel
theorem dX0_append_62 : decode cX0_append 62 = .ok (.aload_n 0, 1) := by decide +kernel
theorem dX0_append_63 : decode cX0_append 63 = .ok (.getfield 41, 3) := by decide +kernel
theorem dX0_append_66 : decode cX0_append 66 = .ok (.aload_n 0, 1) := by decide +kernel
theorem dX0_append_67 : decode cX0_append 67 = .ok (.getfield 23, 3) := by decide +kernel
theorem dX0_append_70 : decode cX0_append 70 = .ok (.iload_n 1, 1) := by decide +kernel
theorem dX0_append_71 : decode cX0_append 71 = .ok (.iload_n 2, 1) := by decide +kernel
theorem dX0_append_72 : decode cX0_append 72 = .ok (.invokestatic 88, 3) := by decide +kernel
theorem dX0_append_75 : decode cX0_append 75 = .ok (.lastore, 1) := by decide +kernel
theorem dX0_append_76 : decode cX0_append 76 = .ok (.aload_n 0, 1) := by decide +kernel
theorem dX0_append_77 : decode cX0_append 77 = .ok (.getfield 44, 3) := by decide +kernel
theorem dX0_append_80 : decode cX0_append 80 = .ok (.aload_n 0, 1) := by decide +kernel
theorem dX0_append_81 : decode cX0_append 81 = .ok (.getfield 23, 3) := by decide +kernel
theorem dX0_append_84 : decode cX0_append 84 = .ok (.iload_n 1, 1) := by decide +kernel
theorem dX0_append_85 : decode cX0_append 85 = .ok (.iload_n 2, 1) := by decide +kernel
theorem dX0_append_86 : decode cX0_append 86 = .ok (.invokestatic 90, 3) := by decide +kernel
theorem dX0_append_89 : decode cX0_append 89 = .ok (.iastore, 1) := by decide +kernel
theorem dX0_append_90 : decode cX0_append 90 = .ok (.aload_n 0, 1) := by decide +kernel
theorem dX0_append_91 : decode cX0_append 91 = .ok (.getfield 47, 3) := by decide +kernel
theorem dX0_append_94 : decode cX0_append 94 = .ok (.aload_n 0, 1) := by decide +kernel
theorem dX0_append_95 : decode cX0_append 95 = .ok (.getfield 23, 3) := by decide +kernel
theorem dX0_append_98 : decode cX0_append 98 = .ok (.iload_n 1, 1) := by decide +kernel
theorem dX0_append_99 : decode cX0_append 99 = .ok (.iload_n 2, 1) := by decide +kernel
theorem dX0_append_100 : decode cX0_append 100 = .ok (.invokestatic 93, 3) := by decide +kernel
theorem dX0_append_103 : decode cX0_append 103 = .ok (.iastore, 1) := by decide +kernel
theorem dX0_append_104 : decode cX0_append 104 = .ok (.aload_n 0, 1) := by decide +kernel
theorem dX0_append_105 : decode cX0_append 105 = .ok (.getfield 50, 3) := by decide +kernel
theorem dX0_append_108 : decode cX0_append 108 = .ok (.aload_n 0, 1) := by decide +kernel
theorem dX0_append_109 : decode cX0_append 109 = .ok (.getfield 23, 3) := by decide +kernel
theorem dX0_append_112 : decode cX0_append 112 = .ok (.iload_n 1, 1) := by decide +kernel
theorem dX0_append_113 : decode cX0_append 113 = .ok (.invokestatic 95, 3) := by decide +kernel
theorem dX0_append_116 : decode cX0_append 116 = .ok (.iastore, 1) := by decide +kernel
theorem dX0_append_117 : decode cX0_append 117 = .ok (.aload_n 0, 1) := by decide +kernel
theorem dX0_append_118 : decode cX0_append 118 = .ok (.getfield 53, 3) := by decide +kernel
theorem dX0_append_121 : decode cX0_append 121 = .ok (.aload_n 0, 1) := by decide +kernel
theorem dX0_append_122 : decode cX0_append 122 = .ok (.getfield 23, 3) := by decide +kernel
theorem dX0_append_125 : decode cX0_append 125 = .ok (.iload_n 1, 1) := by decide +kernel
theorem dX0_append_126 : decode cX0_append 126 = .ok (.invokestatic 100, 3) := by decide +kernel
theorem dX0_append_129 : decode cX0_append 129 = .ok (.iastore, 1) := by decide +kernel
theorem dX0_append_130 : decode cX0_append 130 = .ok (.aload_n 0, 1) := by decide +kernel
theorem dX0_append_131 : decode cX0_append 131 = .ok (.getfield 56, 3) := by decide +kernel
theorem dX0_append_134 : decode cX0_append 134 = .ok (.aload_n 0, 1) := by decide +kernel
theorem dX0_append_135 : decode cX0_append 135 = .ok (.getfield 23, 3) := by decide +kernel
theorem dX0_append_138 : decode cX0_append 138 = .ok (.aload_n 0, 1) := by decide +kernel
theorem dX0_append_139 : decode cX0_append 139 = .ok (.getfield 53, 3) := by decide +kernel
theorem dX0_append_142 : decode cX0_append 142 = .ok (.aload_n 0, 1) := by decide +kernel
theorem dX0_append_143 : decode cX0_append 143 = .ok (.getfield 23, 3) := by decide +kernel
theorem dX0_append_146 : decode cX0_append 146 = .ok (.iaload, 1) := by decide +kernel
theorem dX0_append_147 : decode cX0_append 147 = .ok (.iload_n 1, 1) := by decide +kernel
theorem dX0_append_148 : decode cX0_append 148 = .ok (.invokestatic 105, 3) := by decide +kernel
theorem dX0_append_151 : decode cX0_append 151 = .ok (.iadd, 1) := by decide +kernel
theorem dX0_append_152 : decode cX0_append 152 = .ok (.iastore, 1) := by decide +kernel
theorem dX0_append_153 : decode cX0_append 153 = .ok (.aload_n 0, 1) := by decide +kernel
theorem dX0_append_154 : decode cX0_append 154 = .ok (.getfield 59, 3) := by decide +kernel
theorem dX0_append_157 : decode cX0_append 157 = .ok (.aload_n 0, 1) := by decide +kernel
theorem dX0_append_158 : decode cX0_append 158 = .ok (.getfield 23, 3) := by decide +kernel
theorem dX0_append_161 : decode cX0_append 161 = .ok (.aload_n 0, 1) := by decide +kernel
theorem dX0_append_162 : decode cX0_append 162 = .ok (.aload_n 0, 1) := by decide +kernel
theorem dX0_append_163 : decode cX0_append 163 = .ok (.getfield 50, 3) := by decide +kernel
theorem dX0_append_166 : decode cX0_append 166 = .ok (.aload_n 0, 1) := by decide +kernel
theorem dX0_append_167 : decode cX0_append 167 = .ok (.getfield 23, 3) := by decide +kernel
theorem dX0_append_170 : decode cX0_append 170 = .ok (.iaload, 1) := by decide +kernel
theorem dX0_append_171 : decode cX0_append 171 = .ok (.invokestatic 108, 3) := by decide +kernel
theorem dX0_append_174 : decode cX0_append 174 = .ok (.invokevirtual 112, 3) := by decide +kernel
theorem dX0_append_177 : decode cX0_append 177 = .ok (.iastore, 1) := by decide +kernel
theorem dX0_append_178 : decode cX0_append 178 = .ok (.aload_n 0, 1) := by decide +kernel
theorem dX0_append_179 : decode cX0_append 179 = .ok (.dup, 1) := by decide +kernel
theorem dX0_append_180 : decode cX0_append 180 = .ok (.getfield 23, 3) := by decide +kernel
theorem dX0_append_183 : decode cX0_append 183 = .ok (.iconst 1, 1) := by decide +kernel
theorem dX0_append_184 : decode cX0_append 184 = .ok (.iadd, 1) := by decide +kernel
theorem dX0_append_185 : decode cX0_append 185 = .ok (.putfield 23, 3) := by decide +kernel
theorem dX0_append_188 : decode cX0_append 188 = .ok (.return_, 1) := by decide +kernel
theorem dX0_lastWriter_0 : decode cX0_lastWriter 0 = .ok (.aload_n 0, 1) := by decide +kernel
theorem dX0_lastWriter_1 : decode cX0_lastWriter 1 = .ok (.getfield 23, 3) := by decide +kernel
theorem dX0_lastWriter_4 : decode cX0_lastWriter 4 = .ok (.iconst 1, 1) := by decide +kernel
theorem dX0_lastWriter_5 : decode cX0_lastWriter 5 = .ok (.isub, 1) := by decide +kernel
theorem dX0_lastWriter_6 : decode cX0_lastWriter 6 = .ok (.istore_n 3, 1) := by decide +kernel
theorem dX0_lastWriter_7 : decode cX0_lastWriter 7 = .ok (.iload_n 3, 1) := by decide +kernel
theorem dX0_lastWriter_8 : decode cX0_lastWriter 8 = .ok (.ifCond .lt 24, 3) := by decide +kernel
theorem dX0_lastWriter_11 : decode cX0_lastWriter 11 = .ok (.aload_n 0, 1) := by decide +kernel
theorem dX0_lastWriter_12 : decode cX0_lastWriter 12 = .ok (.getfield 41, 3) := by decide +kernel
theorem dX0_lastWriter_15 : decode cX0_lastWriter 15 = .ok (.iload_n 3, 1) := by decide +kernel
theorem dX0_lastWriter_16 : decode cX0_lastWriter 16 = .ok (.laload, 1) := by decide +kernel
theorem dX0_lastWriter_17 : decode cX0_lastWriter 17 = .ok (.lload_n 1, 1) := by decide +kernel
theorem dX0_lastWriter_18 : decode cX0_lastWriter 18 = .ok (.land, 1) := by decide +kernel
theorem dX0_lastWriter_19 : decode cX0_lastWriter 19 = .ok (.lconst 0, 1) := by decide +kernel
theorem dX0_lastWriter_20 : decode cX0_lastWriter 20 = .ok (.lcmp, 1) := by decide +kernel
theorem dX0_lastWriter_21 : decode cX0_lastWriter 21 = .ok (.ifCond .eq 5, 3) := by decide +kernel
theorem dX0_lastWriter_24 : decode cX0_lastWriter 24 = .ok (.iload_n 3, 1) := by decide +kernel
theorem dX0_lastWriter_25 : decode cX0_lastWriter 25 = .ok (.ireturn, 1) := by decide +kernel
theorem dX0_lastWriter_26 : decode cX0_lastWriter 26 = .ok (.iinc 3 (-1), 3) := by decide +kernel
theorem dX0_lastWriter_29 : decode cX0_lastWriter 29 = .ok (.goto (-22), 3) := by decide +kernel
theorem dX0_lastWriter_32 : decode cX0_lastWriter 32 = .ok (.iconst (-1), 1) := by decide +kernel
theorem dX0_lastWriter_33 : decode cX0_lastWriter 33 = .ok (.ireturn, 1) := by decide +kernel
theorem dX0_latencyOf_0 : decode cX0_latencyOf 0 = .ok (.aload_n 0, 1) := by decide +kernel
theorem dX0_latencyOf_1 : decode cX0_latencyOf 1 = .ok (.getfield 20, 3) := by decide +kernel
theorem dX0_latencyOf_4 : decode cX0_latencyOf 4 = .ok (.aload_n 0, 1) := by decide +kernel
theorem dX0_latencyOf_5 : decode cX0_latencyOf 5 = .ok (.getfield 30, 3) := by decide +kernel
theorem dX0_latencyOf_8 : decode cX0_latencyOf 8 = .ok (.iload_n 1, 1) := by decide +kernel
theorem dX0_latencyOf_9 : decode cX0_latencyOf 9 = .ok (.iaload, 1) := by decide +kernel
theorem dX0_latencyOf_10 : decode cX0_latencyOf 10 = .ok (.iaload, 1) := by decide +kernel
theorem dX0_latencyOf_11 : decode cX0_latencyOf 11 = .ok (.ireturn, 1) := by decide +kernel
set_option maxRecDepth 20000 in
theorem ggX0_distance_X0_mustFollow : GoodIn wsX0_distance wsX0_mustFollow := goodIn_r _ [13, 2, 1, 4, 3, 14, 15, 16, 12, 17, 18, 19, 20, 21, 22, 23, 24, 25, 26, 27, 28, 29, 35, 36, 37, 38, 39, 40, 41, 42, 43, 44, 45, 46, 47, 48, 49] (by decide +kernel) (by decide +kernel)
set_option maxRecDepth 20000 in
theorem gX0_distance_X0_mustFollow : GoodIn wsX0_distance (wsV RX0 116 RX0 yX0_mustFollow wsX0_mustFollow) := goodIn_app (goodIn_of _ (by decide +kernel)) ggX0_distance_X0_mustFollow
set_option maxRecDepth 20000 in
theorem ggX0_distance_X0_meet : GoodIn wsX0_distance wsX0_meet := goodIn_r _ [17] (by decide +kernel) (by decide +kernel)
set_option maxRecDepth 20000 in
theorem gX0_distance_X0_meet : GoodIn wsX0_distance (va_wsS RX0 119 yX0_meet wsX0_meet) := goodIn_app (goodIn_of _ (by decide +kernel)) ggX0_distance_X0_meet
set_option maxRecDepth 20000 in
theorem ggX0_distance_X0_latencyOf : GoodIn wsX0_distance wsX0_latencyOf := goodIn_r _ [33, 34, 14, 35, 36, 37, 38, 39, 40, 41, 42, 43, 44, 45, 46, 47, 48, 49] (by decide +kernel) (by decide +kernel)
set_option maxRecDepth 20000 in
theorem gX0_distance_X0_latencyOf : GoodIn wsX0_distance (wsV RX0 123 RX0 yX0_latencyOf wsX0_latencyOf) := goodIn_app (goodIn_of _ (by decide +kernel)) ggX0_distance_X0_latencyOf
theorem dX0_distance_0 : decode cX0_distance 0 = .ok (.iload_n 2, 1) := by decide +kernel
theorem dX0_distance_1 : decode cX0_distance 1 = .ok (.iload_n 1, 1) := by decide +kernel
theorem dX0_distance_2 : decode cX0_distance 2 = .ok (.if_icmp .lt 5, 3) := by decide +kernel
theorem dX0_distance_5 : decode cX0_distance 5 = .ok (.iconst 0, 1) := by decide +kernel
theorem dX0_distance_6 : decode cX0_distance 6 = .ok (.ireturn, 1) := by decide +kernel
theorem dX0_distance_7 : decode cX0_distance 7 = .ok (.aload_n 0, 1) := by decide +kernel
theorem dX0_distance_8 : decode cX0_distance 8 = .ok (.iload_n 1, 1) := by decide +kernel
theorem dX0_distance_9 : decode cX0_distance 9 = .ok (.iload_n 2, 1) := by decide +kernel
theorem dX0_distance_10 : decode cX0_distance 10 = .ok (.invokevirtual 116, 3) := by decide +kernel
theorem dX0_distance_13 : decode cX0_distance 13 = .ok (.ifCond .eq 7, 3) := by decide +kernel
theorem dX0_distance_16 : decode cX0_distance 16 = .ok (.iconst 1, 1) := by decide +kernel
theorem dX0_distance_17 : decode cX0_distance 17 = .ok (.goto 4, 3) := by decide +kernel
theorem dX0_distance_20 : decode cX0_distance 20 = .ok (.iconst 0, 1) := by decide +kernel
theorem dX0_distance_21 : decode cX0_distance 21 = .ok (.istore_n 3, 1) := by decide +kernel
theorem dX0_distance_22 : decode cX0_distance 22 = .ok (.aload_n 0, 1) := by decide +kernel
theorem dX0_distance_23 : decode cX0_distance 23 = .ok (.getfield 41, 3) := by decide +kernel
theorem dX0_distance_26 : decode cX0_distance 26 = .ok (.iload_n 2, 1) := by decide +kernel
theorem dX0_distance_27 : decode cX0_distance 27 = .ok (.laload, 1) := by decide +kernel
theorem dX0_distance_28 : decode cX0_distance 28 = .ok (.aload_n 0, 1) := by decide +kernel
theorem dX0_distance_29 : decode cX0_distance 29 = .ok (.getfield 37, 3) := by decide +kernel
theorem dX0_distance_32 : decode cX0_distance 32 = .ok (.iload_n 1, 1) := by decide +kernel
theorem dX0_distance_33 : decode cX0_distance 33 = .ok (.laload, 1) := by decide +kernel
theorem dX0_distance_34 : decode cX0_distance 34 = .ok (.aload_n 0, 1) := by decide +kernel
theorem dX0_distance_35 : decode cX0_distance 35 = .ok (.getfield 47, 3) := by decide +kernel
theorem dX0_distance_38 : decode cX0_distance 38 = .ok (.iload_n 2, 1) := by decide +kernel
theorem dX0_distance_39 : decode cX0_distance 39 = .ok (.iaload, 1) := by decide +kernel
theorem dX0_distance_40 : decode cX0_distance 40 = .ok (.aload_n 0, 1) := by decide +kernel
theorem dX0_distance_41 : decode cX0_distance 41 = .ok (.getfield 44, 3) := by decide +kernel
theorem dX0_distance_44 : decode cX0_distance 44 = .ok (.iload_n 1, 1) := by decide +kernel
theorem dX0_distance_45 : decode cX0_distance 45 = .ok (.iaload, 1) := by decide +kernel
theorem dX0_distance_46 : decode cX0_distance 46 = .ok (.invokestatic 119, 3) := by decide +kernel
theorem dX0_distance_49 : decode cX0_distance 49 = .ok (.ifCond .eq 13, 3) := by decide +kernel
theorem dX0_distance_52 : decode cX0_distance 52 = .ok (.iload_n 3, 1) := by decide +kernel
theorem dX0_distance_53 : decode cX0_distance 53 = .ok (.aload_n 0, 1) := by decide +kernel
theorem dX0_distance_54 : decode cX0_distance 54 = .ok (.iload_n 2, 1) := by decide +kernel
theorem dX0_distance_55 : decode cX0_distance 55 = .ok (.invokevirtual 123, 3) := by decide +kernel
theorem dX0_distance_58 : decode cX0_distance 58 = .ok (.invokestatic 126, 3) := by decide +kernel
theorem dX0_distance_61 : decode cX0_distance 61 = .ok (.istore_n 3, 1) := by decide +kernel
theorem dX0_distance_62 : decode cX0_distance 62 = .ok (.aload_n 0, 1) := by decide +kernel
theorem dX0_distance_63 : decode cX0_distance 63 = .ok (.getfield 41, 3) := by decide +kernel
theorem dX0_distance_66 : decode cX0_distance 66 = .ok (.iload_n 2, 1) := by decide +kernel
theorem dX0_distance_67 : decode cX0_distance 67 = .ok (.laload, 1) := by decide +kernel
theorem dX0_distance_68 : decode cX0_distance 68 = .ok (.aload_n 0, 1) := by decide +kernel
theorem dX0_distance_69 : decode cX0_distance 69 = .ok (.getfield 41, 3) := by decide +kernel
theorem dX0_distance_72 : decode cX0_distance 72 = .ok (.iload_n 1, 1) := by decide +kernel
theorem dX0_distance_73 : decode cX0_distance 73 = .ok (.laload, 1) := by decide +kernel
theorem dX0_distance_74 : decode cX0_distance 74 = .ok (.aload_n 0, 1) := by decide +kernel
theorem dX0_distance_75 : decode cX0_distance 75 = .ok (.getfield 47, 3) := by decide +kernel
theorem dX0_distance_78 : decode cX0_distance 78 = .ok (.iload_n 2, 1) := by decide +kernel
theorem dX0_distance_79 : decode cX0_distance 79 = .ok (.iaload, 1) := by decide +kernel
theorem dX0_distance_80 : decode cX0_distance 80 = .ok (.aload_n 0, 1) := by decide +kernel
theorem dX0_distance_81 : decode cX0_distance 81 = .ok (.getfield 47, 3) := by decide +kernel
theorem dX0_distance_84 : decode cX0_distance 84 = .ok (.iload_n 1, 1) := by decide +kernel
theorem dX0_distance_85 : decode cX0_distance 85 = .ok (.iaload, 1) := by decide +kernel
theorem dX0_distance_86 : decode cX0_distance 86 = .ok (.invokestatic 119, 3) := by decide +kernel
theorem dX0_distance_89 : decode cX0_distance 89 = .ok (.ifCond .eq 25, 3) := by decide +kernel
theorem dX0_distance_92 : decode cX0_distance 92 = .ok (.iload_n 3, 1) := by decide +kernel
theorem dX0_distance_93 : decode cX0_distance 93 = .ok (.iconst 1, 1) := by decide +kernel
theorem dX0_distance_94 : decode cX0_distance 94 = .ok (.aload_n 0, 1) := by decide +kernel
theorem dX0_distance_95 : decode cX0_distance 95 = .ok (.iload_n 2, 1) := by decide +kernel
theorem dX0_distance_96 : decode cX0_distance 96 = .ok (.invokevirtual 123, 3) := by decide +kernel
theorem dX0_distance_99 : decode cX0_distance 99 = .ok (.aload_n 0, 1) := by decide +kernel
theorem dX0_distance_100 : decode cX0_distance 100 = .ok (.iload_n 1, 1) := by decide +kernel
theorem dX0_distance_101 : decode cX0_distance 101 = .ok (.invokevirtual 123, 3) := by decide +kernel
theorem dX0_distance_104 : decode cX0_distance 104 = .ok (.isub, 1) := by decide +kernel
theorem dX0_distance_105 : decode cX0_distance 105 = .ok (.iconst 1, 1) := by decide +kernel
theorem dX0_distance_106 : decode cX0_distance 106 = .ok (.iadd, 1) := by decide +kernel
theorem dX0_distance_107 : decode cX0_distance 107 = .ok (.invokestatic 126, 3) := by decide +kernel
theorem dX0_distance_110 : decode cX0_distance 110 = .ok (.invokestatic 126, 3) := by decide +kernel
theorem dX0_distance_113 : decode cX0_distance 113 = .ok (.istore_n 3, 1) := by decide +kernel
theorem dX0_distance_114 : decode cX0_distance 114 = .ok (.iload_n 3, 1) := by decide +kernel
theorem dX0_distance_115 : decode cX0_distance 115 = .ok (.ireturn, 1) := by decide +kernel
set_option maxRecDepth 20000 in
theorem ggX0_mustFollow_X0_meet : GoodIn wsX0_mustFollow wsX0_meet := goodIn_r _ [9] (by decide +kernel) (by decide +kernel)
set_option maxRecDepth 20000 in
theorem gX0_mustFollow_X0_meet : GoodIn wsX0_mustFollow (va_wsS RX0 119 yX0_meet wsX0_meet) := goodIn_app (goodIn_of _ (by decide +kernel)) ggX0_mustFollow_X0_meet
set_option maxRecDepth 20000 in
theorem ggX0_mustFollow_X0_bothInMemory : GoodIn wsX0_mustFollow wsX0_bothInMemory := goodIn_r _ [13, 5, 22, 23, 24, 25, 26, 27, 28, 29, 30, 31, 32, 33, 34, 35, 36] (by decide +kernel) (by decide +kernel)
set_option maxRecDepth 20000 in
theorem gX0_mustFollow_X0_bothInMemory : GoodIn wsX0_mustFollow (wsV RX0 131 RX0 yX0_bothInMemory wsX0_bothInMemory) := goodIn_app (goodIn_of _ (by decide +kernel)) ggX0_mustFollow_X0_bothInMemory
set_option maxRecDepth 20000 in
theorem ggX0_mustFollow_X0_areApart : GoodIn wsX0_mustFollow wsX0_areApart := goodIn_r _ [17, 18, 19, 20, 21, 22, 23, 24, 25, 26, 27, 28, 29, 30, 31, 32, 33, 34, 35, 36] (by decide +kernel) (by decide +kernel)
set_option maxRecDepth 20000 in
theorem gX0_mustFollow_X0_areApart : GoodIn wsX0_mustFollow (wsV RX0 134 RX0 yX0_areApart wsX0_areApart) := goodIn_app (goodIn_of _ (by decide +kernel)) ggX0_mustFollow_X0_areApart
theorem dX0_mustFollow_0 : decode cX0_mustFollow 0 = .ok (.aload_n 0, 1) := by decide +kernel
theorem dX0_mustFollow_1 : decode cX0_mustFollow 1 = .ok (.getfield 37, 3) := by decide +kernel
theorem dX0_mustFollow_4 : decode cX0_mustFollow 4 = .ok (.iload_n 2, 1) := by decide +kernel
theorem dX0_mustFollow_5 : decode cX0_mustFollow 5 = .ok (.laload, 1) := by decide +kernel
theorem dX0_mustFollow_6 : decode cX0_mustFollow 6 = .ok (.aload_n 0, 1) := by decide +kernel
theorem dX0_mustFollow_7 : decode cX0_mustFollow 7 = .ok (.getfield 41, 3) := by decide +kernel
theorem dX0_mustFollow_10 : decode cX0_mustFollow 10 = .ok (.iload_n 1, 1) := by decide +kernel
theorem dX0_mustFollow_11 : decode cX0_mustFollow 11 = .ok (.laload, 1) := by decide +kernel
theorem dX0_mustFollow_12 : decode cX0_mustFollow 12 = .ok (.aload_n 0, 1) := by decide +kernel
theorem dX0_mustFollow_13 : decode cX0_mustFollow 13 = .ok (.getfield 44, 3) := by decide +kernel
theorem dX0_mustFollow_16 : decode cX0_mustFollow 16 = .ok (.iload_n 2, 1) := by decide +kernel
theorem dX0_mustFollow_17 : decode cX0_mustFollow 17 = .ok (.iaload, 1) := by decide +kernel
theorem dX0_mustFollow_18 : decode cX0_mustFollow 18 = .ok (.aload_n 0, 1) := by decide +kernel
theorem dX0_mustFollow_19 : decode cX0_mustFollow 19 = .ok (.getfield 47, 3) := by decide +kernel
theorem dX0_mustFollow_22 : decode cX0_mustFollow 22 = .ok (.iload_n 1, 1) := by decide +kernel
theorem dX0_mustFollow_23 : decode cX0_mustFollow 23 = .ok (.iaload, 1) := by decide +kernel
theorem dX0_mustFollow_24 : decode cX0_mustFollow 24 = .ok (.invokestatic 119, 3) := by decide +kernel
theorem dX0_mustFollow_27 : decode cX0_mustFollow 27 = .ok (.ifCond .ne 43, 3) := by decide +kernel
theorem dX0_mustFollow_30 : decode cX0_mustFollow 30 = .ok (.aload_n 0, 1) := by decide +kernel
theorem dX0_mustFollow_31 : decode cX0_mustFollow 31 = .ok (.getfield 30, 3) := by decide +kernel
theorem dX0_mustFollow_34 : decode cX0_mustFollow 34 = .ok (.iload_n 2, 1) := by decide +kernel
theorem dX0_mustFollow_35 : decode cX0_mustFollow 35 = .ok (.iaload, 1) := by decide +kernel
theorem dX0_mustFollow_36 : decode cX0_mustFollow 36 = .ok (.bipush 8, 2) := by decide +kernel
theorem dX0_mustFollow_38 : decode cX0_mustFollow 38 = .ok (.if_icmp .eq 32, 3) := by decide +kernel
theorem dX0_mustFollow_41 : decode cX0_mustFollow 41 = .ok (.aload_n 0, 1) := by decide +kernel
theorem dX0_mustFollow_42 : decode cX0_mustFollow 42 = .ok (.getfield 30, 3) := by decide +kernel
theorem dX0_mustFollow_45 : decode cX0_mustFollow 45 = .ok (.iload_n 1, 1) := by decide +kernel
theorem dX0_mustFollow_46 : decode cX0_mustFollow 46 = .ok (.iaload, 1) := by decide +kernel
theorem dX0_mustFollow_47 : decode cX0_mustFollow 47 = .ok (.bipush 8, 2) := by decide +kernel
theorem dX0_mustFollow_49 : decode cX0_mustFollow 49 = .ok (.if_icmp .eq 21, 3) := by decide +kernel
theorem dX0_mustFollow_52 : decode cX0_mustFollow 52 = .ok (.aload_n 0, 1) := by decide +kernel
theorem dX0_mustFollow_53 : decode cX0_mustFollow 53 = .ok (.iload_n 1, 1) := by decide +kernel
theorem dX0_mustFollow_54 : decode cX0_mustFollow 54 = .ok (.iload_n 2, 1) := by decide +kernel
theorem dX0_mustFollow_55 : decode cX0_mustFollow 55 = .ok (.invokevirtual 131, 3) := by decide +kernel
theorem dX0_mustFollow_58 : decode cX0_mustFollow 58 = .ok (.ifCond .eq 16, 3) := by decide +kernel
theorem dX0_mustFollow_61 : decode cX0_mustFollow 61 = .ok (.aload_n 0, 1) := by decide +kernel
theorem dX0_mustFollow_62 : decode cX0_mustFollow 62 = .ok (.iload_n 1, 1) := by decide +kernel
theorem dX0_mustFollow_63 : decode cX0_mustFollow 63 = .ok (.iload_n 2, 1) := by decide +kernel
theorem dX0_mustFollow_64 : decode cX0_mustFollow 64 = .ok (.invokevirtual 134, 3) := by decide +kernel
theorem dX0_mustFollow_67 : decode cX0_mustFollow 67 = .ok (.ifCond .ne 7, 3) := by decide +kernel
theorem dX0_mustFollow_70 : decode cX0_mustFollow 70 = .ok (.iconst 1, 1) := by decide +kernel
theorem dX0_mustFollow_71 : decode cX0_mustFollow 71 = .ok (.goto 4, 3) := by decide +kernel
theorem dX0_mustFollow_74 : decode cX0_mustFollow 74 = .ok (.iconst 0, 1) := by decide +kernel
theorem dX0_mustFollow_75 : decode cX0_mustFollow 75 = .ok (.ireturn, 1) := by decide +kernel
theorem dX0_meet_0 : decode cX0_meet 0 = .ok (.lload_n 0, 1) := by decide +kernel
theorem dX0_meet_1 : decode cX0_meet 1 = .ok (.lload_n 2, 1) := by decide +kernel
theorem dX0_meet_2 : decode cX0_meet 2 = .ok (.land, 1) := by decide +kernel
theorem dX0_meet_3 : decode cX0_meet 3 = .ok (.lconst 0, 1) := by decide +kernel
theorem dX0_meet_4 : decode cX0_meet 4 = .ok (.lcmp, 1) := by decide +kernel
theorem dX0_meet_5 : decode cX0_meet 5 = .ok (.ifCond .ne 11, 3) := by decide +kernel
theorem dX0_meet_8 : decode cX0_meet 8 = .ok (.iload 4, 2) := by decide +kernel
theorem dX0_meet_10 : decode cX0_meet 10 = .ok (.iload 5, 2) := by decide +kernel
theorem dX0_meet_12 : decode cX0_meet 12 = .ok (.iand, 1) := by decide +kernel
theorem dX0_meet_13 : decode cX0_meet 13 = .ok (.ifCond .eq 7, 3) := by decide +kernel
theorem dX0_meet_16 : decode cX0_meet 16 = .ok (.iconst 1, 1) := by decide +kernel
theorem dX0_meet_17 : decode cX0_meet 17 = .ok (.goto 4, 3) := by decide +kernel
theorem dX0_meet_20 : decode cX0_meet 20 = .ok (.iconst 0, 1) := by decide +kernel
theorem dX0_meet_21 : decode cX0_meet 21 = .ok (.ireturn, 1) := by decide +kernel
theorem dX0_bothInMemory_0 : decode cX0_bothInMemory 0 = .ok (.aload_n 0, 1) := by decide +kernel
theorem dX0_bothInMemory_1 : decode cX0_bothInMemory 1 = .ok (.getfield 30, 3) := by decide +kernel
theorem dX0_bothInMemory_4 : decode cX0_bothInMemory 4 = .ok (.iload_n 1, 1) := by decide +kernel
theorem dX0_bothInMemory_5 : decode cX0_bothInMemory 5 = .ok (.iaload, 1) := by decide +kernel
theorem dX0_bothInMemory_6 : decode cX0_bothInMemory 6 = .ok (.istore_n 3, 1) := by decide +kernel
theorem dX0_bothInMemory_7 : decode cX0_bothInMemory 7 = .ok (.aload_n 0, 1) := by decide +kernel
theorem dX0_bothInMemory_8 : decode cX0_bothInMemory 8 = .ok (.getfield 30, 3) := by decide +kernel
theorem dX0_bothInMemory_11 : decode cX0_bothInMemory 11 = .ok (.iload_n 2, 1) := by decide +kernel
theorem dX0_bothInMemory_12 : decode cX0_bothInMemory 12 = .ok (.iaload, 1) := by decide +kernel
theorem dX0_bothInMemory_13 : decode cX0_bothInMemory 13 = .ok (.istore 4, 2) := by decide +kernel
theorem dX0_bothInMemory_15 : decode cX0_bothInMemory 15 = .ok (.iload_n 3, 1) := by decide +kernel
theorem dX0_bothInMemory_16 : decode cX0_bothInMemory 16 = .ok (.iconst 2, 1) := by decide +kernel
theorem dX0_bothInMemory_17 : decode cX0_bothInMemory 17 = .ok (.if_icmp .ne 15, 3) := by decide +kernel
theorem dX0_bothInMemory_20 : decode cX0_bothInMemory 20 = .ok (.iload 4, 2) := by decide +kernel
theorem dX0_bothInMemory_22 : decode cX0_bothInMemory 22 = .ok (.iconst 2, 1) := by decide +kernel
theorem dX0_bothInMemory_23 : decode cX0_bothInMemory 23 = .ok (.if_icmp .eq 20, 3) := by decide +kernel
theorem dX0_bothInMemory_26 : decode cX0_bothInMemory 26 = .ok (.iload 4, 2) := by decide +kernel
theorem dX0_bothInMemory_28 : decode cX0_bothInMemory 28 = .ok (.iconst 1, 1) := by decide +kernel
theorem dX0_bothInMemory_29 : decode cX0_bothInMemory 29 = .ok (.if_icmp .eq 14, 3) := by decide +kernel
theorem dX0_bothInMemory_32 : decode cX0_bothInMemory 32 = .ok (.iload_n 3, 1) := by decide +kernel
theorem dX0_bothInMemory_33 : decode cX0_bothInMemory 33 = .ok (.iconst 1, 1) := by decide +kernel
theorem dX0_bothInMemory_34 : decode cX0_bothInMemory 34 = .ok (.if_icmp .ne 13, 3) := by decide +kernel
theorem dX0_bothInMemory_37 : decode cX0_bothInMemory 37 = .ok (.iload 4, 2) := by decide +kernel
theorem dX0_bothInMemory_39 : decode cX0_bothInMemory 39 = .ok (.iconst 2, 1) := by decide +kernel
theorem dX0_bothInMemory_40 : decode cX0_bothInMemory 40 = .ok (.if_icmp .ne 7, 3) := by decide +kernel
theorem dX0_bothInMemory_43 : decode cX0_bothInMemory 43 = .ok (.iconst 1, 1) := by decide +kernel
theorem dX0_bothInMemory_44 : decode cX0_bothInMemory 44 = .ok (.goto 4, 3) := by decide +kernel
theorem dX0_bothInMemory_47 : decode cX0_bothInMemory 47 = .ok (.iconst 0, 1) := by decide +kernel
theorem dX0_bothInMemory_48 : decode cX0_bothInMemory 48 = .ok (.ireturn, 1) := by decide +kernel
theorem dX0_areApart_0 : decode cX0_areApart 0 = .ok (.aload_n 0, 1) := by decide +kernel
theorem dX0_areApart_1 : decode cX0_areApart 1 = .ok (.getfield 50, 3) := by decide +kernel
theorem dX0_areApart_4 : decode cX0_areApart 4 = .ok (.iload_n 1, 1) := by decide +kernel
theorem dX0_areApart_5 : decode cX0_areApart 5 = .ok (.iaload, 1) := by decide +kernel
theorem dX0_areApart_6 : decode cX0_areApart 6 = .ok (.aload_n 0, 1) := by decide +kernel
theorem dX0_areApart_7 : decode cX0_areApart 7 = .ok (.getfield 50, 3) := by decide +kernel
theorem dX0_areApart_10 : decode cX0_areApart 10 = .ok (.iload_n 2, 1) := by decide +kernel
theorem dX0_areApart_11 : decode cX0_areApart 11 = .ok (.iaload, 1) := by decide +kernel
theorem dX0_areApart_12 : decode cX0_areApart 12 = .ok (.if_icmp .ne 17, 3) := by decide +kernel
theorem dX0_areApart_15 : decode cX0_areApart 15 = .ok (.aload_n 0, 1) := by decide +kernel
theorem dX0_areApart_16 : decode cX0_areApart 16 = .ok (.getfield 59, 3) := by decide +kernel
theorem dX0_areApart_19 : decode cX0_areApart 19 = .ok (.iload_n 1, 1) := by decide +kernel
theorem dX0_areApart_20 : decode cX0_areApart 20 = .ok (.iaload, 1) := by decide +kernel
theorem dX0_areApart_21 : decode cX0_areApart 21 = .ok (.iload_n 2, 1) := by decide +kernel
theorem dX0_areApart_22 : decode cX0_areApart 22 = .ok (.if_icmp .ge 7, 3) := by decide +kernel
theorem dX0_areApart_25 : decode cX0_areApart 25 = .ok (.iconst 1, 1) := by decide +kernel
theorem dX0_areApart_26 : decode cX0_areApart 26 = .ok (.goto 4, 3) := by decide +kernel
theorem dX0_areApart_29 : decode cX0_areApart 29 = .ok (.iconst 0, 1) := by decide +kernel
theorem dX0_areApart_30 : decode cX0_areApart 30 = .ok (.istore_n 3, 1) := by decide +kernel
theorem dX0_areApart_31 : decode cX0_areApart 31 = .ok (.iload_n 3, 1) := by decide +kernel
theorem dX0_areApart_32 : decode cX0_areApart 32 = .ok (.ifCond .eq 37, 3) := by decide +kernel
theorem dX0_areApart_35 : decode cX0_areApart 35 = .ok (.aload_n 0, 1) := by decide +kernel
theorem dX0_areApart_36 : decode cX0_areApart 36 = .ok (.getfield 56, 3) := by decide +kernel
theorem dX0_areApart_39 : decode cX0_areApart 39 = .ok (.iload_n 1, 1) := by decide +kernel
theorem dX0_areApart_40 : decode cX0_areApart 40 = .ok (.iaload, 1) := by decide +kernel
theorem dX0_areApart_41 : decode cX0_areApart 41 = .ok (.aload_n 0, 1) := by decide +kernel
theorem dX0_areApart_42 : decode cX0_areApart 42 = .ok (.getfield 53, 3) := by decide +kernel
theorem dX0_areApart_45 : decode cX0_areApart 45 = .ok (.iload_n 2, 1) := by decide +kernel
theorem dX0_areApart_46 : decode cX0_areApart 46 = .ok (.iaload, 1) := by decide +kernel
theorem dX0_areApart_47 : decode cX0_areApart 47 = .ok (.if_icmp .le 18, 3) := by decide +kernel
theorem dX0_areApart_50 : decode cX0_areApart 50 = .ok (.aload_n 0, 1) := by decide +kernel
theorem dX0_areApart_51 : decode cX0_areApart 51 = .ok (.getfield 56, 3) := by decide +kernel
theorem dX0_areApart_54 : decode cX0_areApart 54 = .ok (.iload_n 2, 1) := by decide +kernel
theorem dX0_areApart_55 : decode cX0_areApart 55 = .ok (.iaload, 1) := by decide +kernel
theorem dX0_areApart_56 : decode cX0_areApart 56 = .ok (.aload_n 0, 1) := by decide +kernel
theorem dX0_areApart_57 : decode cX0_areApart 57 = .ok (.getfield 53, 3) := by decide +kernel
theorem dX0_areApart_60 : decode cX0_areApart 60 = .ok (.iload_n 1, 1) := by decide +kernel
theorem dX0_areApart_61 : decode cX0_areApart 61 = .ok (.iaload, 1) := by decide +kernel
theorem dX0_areApart_62 : decode cX0_areApart 62 = .ok (.if_icmp .gt 7, 3) := by decide +kernel
theorem dX0_areApart_65 : decode cX0_areApart 65 = .ok (.iconst 1, 1) := by decide +kernel
theorem dX0_areApart_66 : decode cX0_areApart 66 = .ok (.goto 4, 3) := by decide +kernel
theorem dX0_areApart_69 : decode cX0_areApart 69 = .ok (.iconst 0, 1) := by decide +kernel
theorem dX0_areApart_70 : decode cX0_areApart 70 = .ok (.ireturn, 1) := by decide +kernel
set_option maxRecDepth 20000 in
theorem ggX0_survey_X0_distance : GoodIn wsX0_survey wsX0_distance := goodIn_r _ [12, 13, 14, 15, 16, 3, 4, 5, 6, 17, 18, 19, 11, 20, 21, 22, 23, 24, 25, 26, 27, 28, 29, 30, 31, 32, 33, 34, 35, 36, 37, 38, 39, 40, 41, 42, 43, 44, 45, 46, 47, 48, 49, 50, 51, 52, 53, 54, 55, 56] (by decide +kernel) (by decide +kernel)
set_option maxRecDepth 20000 in
theorem gX0_survey_X0_distance : GoodIn wsX0_survey (wsV RX0 137 RX0 yX0_distance wsX0_distance) := goodIn_app (goodIn_of _ (by decide +kernel)) ggX0_survey_X0_distance
set_option maxRecDepth 20000 in
theorem ggX0_survey_X0_latencyOf : GoodIn wsX0_survey wsX0_latencyOf := goodIn_r _ [40, 41, 21, 42, 43, 44, 45, 46, 47, 48, 49, 50, 51, 52, 53, 54, 55, 56] (by decide +kernel) (by decide +kernel)
set_option maxRecDepth 20000 in
theorem gX0_survey_X0_latencyOf : GoodIn wsX0_survey (wsV RX0 123 RX0 yX0_latencyOf wsX0_latencyOf) := goodIn_app (goodIn_of _ (by decide +kernel)) ggX0_survey_X0_latencyOf
theorem dX0_survey_0 : decode cX0_survey 0 = .ok (.aload_n 0, 1) := by decide +kernel
theorem dX0_survey_1 : decode cX0_survey 1 = .ok (.getfield 23, 3) := by decide +kernel
theorem dX0_survey_4 : decode cX0_survey 4 = .ok (.iconst 1, 1) := by decide +kernel
theorem dX0_survey_5 : decode cX0_survey 5 = .ok (.isub, 1) := by decide +kernel
theorem dX0_survey_6 : decode cX0_survey 6 = .ok (.istore_n 1, 1) := by decide +kernel
theorem dX0_survey_7 : decode cX0_survey 7 = .ok (.iload_n 1, 1) := by decide +kernel
theorem dX0_survey_8 : decode cX0_survey 8 = .ok (.ifCond .lt 95, 3) := by decide +kernel
theorem dX0_survey_11 : decode cX0_survey 11 = .ok (.iconst 0, 1) := by decide +kernel
theorem dX0_survey_12 : decode cX0_survey 12 = .ok (.istore_n 2, 1) := by decide +kernel
theorem dX0_survey_13 : decode cX0_survey 13 = .ok (.iload_n 1, 1) := by decide +kernel
theorem dX0_survey_14 : decode cX0_survey 14 = .ok (.iconst 1, 1) := by decide +kernel
theorem dX0_survey_15 : decode cX0_survey 15 = .ok (.iadd, 1) := by decide +kernel
theorem dX0_survey_16 : decode cX0_survey 16 = .ok (.istore_n 3, 1) := by decide +kernel
theorem dX0_survey_17 : decode cX0_survey 17 = .ok (.iload_n 3, 1) := by decide +kernel
theorem dX0_survey_18 : decode cX0_survey 18 = .ok (.aload_n 0, 1) := by decide +kernel
theorem dX0_survey_19 : decode cX0_survey 19 = .ok (.getfield 23, 3) := by decide +kernel
theorem dX0_survey_22 : decode cX0_survey 22 = .ok (.if_icmp .ge 36, 3) := by decide +kernel
theorem dX0_survey_25 : decode cX0_survey 25 = .ok (.aload_n 0, 1) := by decide +kernel
theorem dX0_survey_26 : decode cX0_survey 26 = .ok (.iload_n 3, 1) := by decide +kernel
theorem dX0_survey_27 : decode cX0_survey 27 = .ok (.iload_n 1, 1) := by decide +kernel
theorem dX0_survey_28 : decode cX0_survey 28 = .ok (.invokevirtual 137, 3) := by decide +kernel
theorem dX0_survey_31 : decode cX0_survey 31 = .ok (.istore 4, 2) := by decide +kernel
theorem dX0_survey_33 : decode cX0_survey 33 = .ok (.iload 4, 2) := by decide +kernel
theorem dX0_survey_35 : decode cX0_survey 35 = .ok (.ifCond .le 17, 3) := by decide +kernel
theorem dX0_survey_38 : decode cX0_survey 38 = .ok (.iload_n 2, 1) := by decide +kernel
theorem dX0_survey_39 : decode cX0_survey 39 = .ok (.aload_n 0, 1) := by decide +kernel
theorem dX0_survey_40 : decode cX0_survey 40 = .ok (.getfield 62, 3) := by decide +kernel
theorem dX0_survey_43 : decode cX0_survey 43 = .ok (.iload_n 3, 1) := by decide +kernel
theorem dX0_survey_44 : decode cX0_survey 44 = .ok (.iaload, 1) := by decide +kernel
theorem dX0_survey_45 : decode cX0_survey 45 = .ok (.iload 4, 2) := by decide +kernel
theorem dX0_survey_47 : decode cX0_survey 47 = .ok (.iadd, 1) := by decide +kernel
theorem dX0_survey_48 : decode cX0_survey 48 = .ok (.invokestatic 126, 3) := by decide +kernel
theorem dX0_survey_51 : decode cX0_survey 51 = .ok (.istore_n 2, 1) := by decide +kernel
theorem dX0_survey_52 : decode cX0_survey 52 = .ok (.iinc 3 1, 3) := by decide +kernel
theorem dX0_survey_55 : decode cX0_survey 55 = .ok (.goto (-38), 3) := by decide +kernel
theorem dX0_survey_58 : decode cX0_survey 58 = .ok (.aload_n 0, 1) := by decide +kernel
theorem dX0_survey_59 : decode cX0_survey 59 = .ok (.getfield 65, 3) := by decide +kernel
theorem dX0_survey_62 : decode cX0_survey 62 = .ok (.iload_n 1, 1) := by decide +kernel
theorem dX0_survey_63 : decode cX0_survey 63 = .ok (.iload_n 2, 1) := by decide +kernel
theorem dX0_survey_64 : decode cX0_survey 64 = .ok (.ifCond .le 7, 3) := by decide +kernel
theorem dX0_survey_67 : decode cX0_survey 67 = .ok (.iconst 1, 1) := by decide +kernel
theorem dX0_survey_68 : decode cX0_survey 68 = .ok (.goto 4, 3) := by decide +kernel
theorem dX0_survey_71 : decode cX0_survey 71 = .ok (.iconst 0, 1) := by decide +kernel
theorem dX0_survey_72 : decode cX0_survey 72 = .ok (.bastore, 1) := by decide +kernel
theorem dX0_survey_73 : decode cX0_survey 73 = .ok (.aload_n 0, 1) := by decide +kernel
theorem dX0_survey_74 : decode cX0_survey 74 = .ok (.getfield 62, 3) := by decide +kernel
theorem dX0_survey_77 : decode cX0_survey 77 = .ok (.iload_n 1, 1) := by decide +kernel
theorem dX0_survey_78 : decode cX0_survey 78 = .ok (.aload_n 0, 1) := by decide +kernel
theorem dX0_survey_79 : decode cX0_survey 79 = .ok (.getfield 65, 3) := by decide +kernel
theorem dX0_survey_82 : decode cX0_survey 82 = .ok (.iload_n 1, 1) := by decide +kernel
theorem dX0_survey_83 : decode cX0_survey 83 = .ok (.baload, 1) := by decide +kernel
theorem dX0_survey_84 : decode cX0_survey 84 = .ok (.ifCond .eq 7, 3) := by decide +kernel
theorem dX0_survey_87 : decode cX0_survey 87 = .ok (.iload_n 2, 1) := by decide +kernel
theorem dX0_survey_88 : decode cX0_survey 88 = .ok (.goto 8, 3) := by decide +kernel
theorem dX0_survey_91 : decode cX0_survey 91 = .ok (.aload_n 0, 1) := by decide +kernel
theorem dX0_survey_92 : decode cX0_survey 92 = .ok (.iload_n 1, 1) := by decide +kernel
theorem dX0_survey_93 : decode cX0_survey 93 = .ok (.invokevirtual 123, 3) := by decide +kernel
theorem dX0_survey_96 : decode cX0_survey 96 = .ok (.iastore, 1) := by decide +kernel
theorem dX0_survey_97 : decode cX0_survey 97 = .ok (.iinc 1 (-1), 3) := by decide +kernel
theorem dX0_survey_100 : decode cX0_survey 100 = .ok (.goto (-93), 3) := by decide +kernel
theorem dX0_survey_103 : decode cX0_survey 103 = .ok (.return_, 1) := by decide +kernel
set_option maxRecDepth 20000 in
theorem ggX1_first_X3_offset : GoodIn wsX1_first wsX3_offset := goodIn_r _ [4] (by decide +kernel) (by decide +kernel)
set_option maxRecDepth 20000 in
theorem gX1_first_X3_offset : GoodIn wsX1_first (va_wsS RX1 7 yX3_offset wsX3_offset) := goodIn_app (goodIn_of _ (by decide +kernel)) ggX1_first_X3_offset
set_option maxRecDepth 20000 in
theorem ggX1_first_X3_operation : GoodIn wsX1_first wsX3_operation := goodIn_r _ [7] (by decide +kernel) (by decide +kernel)
set_option maxRecDepth 20000 in
theorem gX1_first_X3_operation : GoodIn wsX1_first (va_wsS RX1 13 yX3_operation wsX3_operation) := goodIn_app (goodIn_of _ (by decide +kernel)) ggX1_first_X3_operation
set_option maxRecDepth 20000 in
theorem ggX1_first_X1_touchesWholeWord : GoodIn wsX1_first wsX1_touchesWholeWord := goodIn_r _ [11] (by decide +kernel) (by decide +kernel)
set_option maxRecDepth 20000 in
theorem gX1_first_X1_touchesWholeWord : GoodIn wsX1_first (va_wsS RX1 16 yX1_touchesWholeWord wsX1_touchesWholeWord) := goodIn_app (goodIn_of _ (by decide +kernel)) ggX1_first_X1_touchesWholeWord
theorem dX1_first_0 : decode cX1_first 0 = .ok (.iload_n 0, 1) := by decide +kernel
theorem dX1_first_1 : decode cX1_first 1 = .ok (.invokestatic 7, 3) := by decide +kernel
theorem dX1_first_4 : decode cX1_first 4 = .ok (.istore_n 1, 1) := by decide +kernel
theorem dX1_first_5 : decode cX1_first 5 = .ok (.iload_n 0, 1) := by decide +kernel
theorem dX1_first_6 : decode cX1_first 6 = .ok (.invokestatic 13, 3) := by decide +kernel
theorem dX1_first_9 : decode cX1_first 9 = .ok (.invokestatic 16, 3) := by decide +kernel
theorem dX1_first_12 : decode cX1_first 12 = .ok (.ifCond .eq 10, 3) := by decide +kernel
theorem dX1_first_15 : decode cX1_first 15 = .ok (.iload_n 1, 1) := by decide +kernel
theorem dX1_first_16 : decode cX1_first 16 = .ok (.bipush (-4), 2) := by decide +kernel
theorem dX1_first_18 : decode cX1_first 18 = .ok (.iand, 1) := by decide +kernel
theorem dX1_first_19 : decode cX1_first 19 = .ok (.goto 4, 3) := by decide +kernel
theorem dX1_first_22 : decode cX1_first 22 = .ok (.iload_n 1, 1) := by decide +kernel
theorem dX1_first_23 : decode cX1_first 23 = .ok (.ireturn, 1) := by decide +kernel
set_option maxRecDepth 20000 in
theorem ggX1_many_X3_operation : GoodIn wsX1_many wsX3_operation := goodIn_r _ [4] (by decide +kernel) (by decide +kernel)
set_option maxRecDepth 20000 in
theorem gX1_many_X3_operation : GoodIn wsX1_many (va_wsS RX1 13 yX3_operation wsX3_operation) := goodIn_app (goodIn_of _ (by decide +kernel)) ggX1_many_X3_operation
theorem dX1_many_0 : decode cX1_many 0 = .ok (.iload_n 0, 1) := by decide +kernel
theorem dX1_many_1 : decode cX1_many 1 = .ok (.invokestatic 13, 3) := by decide +kernel
theorem dX1_many_4 : decode cX1_many 4 = .ok (.tableswitch 143 32 61 #[136, 138, 143, 143, 136, 138, 143, 143, 136, 138, 143, 143, 143, 143, 143, 143, 143, 143, 143, 143, 143, 140, 143, 143, 143, 143, 143, 143, 143, 140], 136) := by decide +kernel
theorem dX1_many_140 : decode cX1_many 140 = .ok (.iconst 1, 1) := by decide +kernel
theorem dX1_many_141 : decode cX1_many 141 = .ok (.ireturn, 1) := by decide +kernel
theorem dX1_many_142 : decode cX1_many 142 = .ok (.iconst 2, 1) := by decide +kernel
theorem dX1_many_143 : decode cX1_many 143 = .ok (.ireturn, 1) := by decide +kernel
theorem dX1_many_144 : decode cX1_many 144 = .ok (.bipush 8, 2) := by decide +kernel
theorem dX1_many_146 : decode cX1_many 146 = .ok (.ireturn, 1) := by decide +kernel
theorem dX1_many_147 : decode cX1_many 147 = .ok (.iconst 4, 1) := by decide +kernel
theorem dX1_many_148 : decode cX1_many 148 = .ok (.ireturn, 1) := by decide +kernel
theorem dX1_touchesWholeWord_0 : decode cX1_touchesWholeWord 0 = .ok (.iload_n 0, 1) := by decide +kernel
theorem dX1_touchesWholeWord_1 : decode cX1_touchesWholeWord 1 = .ok (.bipush 34, 2) := by decide +kernel
theorem dX1_touchesWholeWord_3 : decode cX1_touchesWholeWord 3 = .ok (.if_icmp .eq 21, 3) := by decide +kernel
theorem dX1_touchesWholeWord_6 : decode cX1_touchesWholeWord 6 = .ok (.iload_n 0, 1) := by decide +kernel
theorem dX1_touchesWholeWord_7 : decode cX1_touchesWholeWord 7 = .ok (.bipush 38, 2) := by decide +kernel
theorem dX1_touchesWholeWord_9 : decode cX1_touchesWholeWord 9 = .ok (.if_icmp .eq 15, 3) := by decide +kernel
theorem dX1_touchesWholeWord_12 : decode cX1_touchesWholeWord 12 = .ok (.iload_n 0, 1) := by decide +kernel
theorem dX1_touchesWholeWord_13 : decode cX1_touchesWholeWord 13 = .ok (.bipush 42, 2) := by decide +kernel
theorem dX1_touchesWholeWord_15 : decode cX1_touchesWholeWord 15 = .ok (.if_icmp .eq 9, 3) := by decide +kernel
theorem dX1_touchesWholeWord_18 : decode cX1_touchesWholeWord 18 = .ok (.iload_n 0, 1) := by decide +kernel
theorem dX1_touchesWholeWord_19 : decode cX1_touchesWholeWord 19 = .ok (.bipush 46, 2) := by decide +kernel
theorem dX1_touchesWholeWord_21 : decode cX1_touchesWholeWord 21 = .ok (.if_icmp .ne 7, 3) := by decide +kernel
theorem dX1_touchesWholeWord_24 : decode cX1_touchesWholeWord 24 = .ok (.iconst 1, 1) := by decide +kernel
theorem dX1_touchesWholeWord_25 : decode cX1_touchesWholeWord 25 = .ok (.goto 4, 3) := by decide +kernel
theorem dX1_touchesWholeWord_28 : decode cX1_touchesWholeWord 28 = .ok (.iconst 0, 1) := by decide +kernel
theorem dX1_touchesWholeWord_29 : decode cX1_touchesWholeWord 29 = .ok (.ireturn, 1) := by decide +kernel
set_option maxRecDepth 20000 in
theorem ggX2_formOf_X2_formByOperation : GoodIn wsX2_formOf wsX2_formByOperation := goodIn_r _ [4, 5, 6, 7, 8, 9, 10, 11, 12, 13, 3, 14, 15, 16, 17, 18, 19, 20, 21, 22, 23, 24, 25, 26, 27, 28, 29, 30, 31, 32, 33, 34, 35, 36, 37, 38, 39, 40, 41, 42, 43, 44, 45, 46, 47, 48, 49, 50, 51, 52, 53, 54, 55, 56, 57, 58, 59, 60, 61, 62, 63, 64, 65, 66, 67, 68, 69, 70, 71, 72, 73, 74, 75, 76] (by decide +kernel) (by decide +kernel)
set_option maxRecDepth 20000 in
theorem gX2_formOf_X2_formByOperation : GoodIn wsX2_formOf (va_wsS RX2 11 yX2_formByOperation wsX2_formByOperation) := goodIn_app (goodIn_of _ (by decide +kernel)) ggX2_formOf_X2_formByOperation
set_option maxRecDepth 20000 in
theorem ggX2_formOf_X2_hasOddDouble : GoodIn wsX2_formOf wsX2_hasOddDouble := goodIn_r _ [79, 48, 50, 52, 53, 54, 55, 56, 80, 81, 7, 82, 83, 84, 85, 86, 87, 88, 89, 19, 20, 90, 91, 92] (by decide +kernel) (by decide +kernel)
set_option maxRecDepth 20000 in
theorem gX2_formOf_X2_hasOddDouble : GoodIn wsX2_formOf (va_wsS RX2 15 yX2_hasOddDouble wsX2_hasOddDouble) := goodIn_app (goodIn_of _ (by decide +kernel)) ggX2_formOf_X2_hasOddDouble
theorem dX2_formOf_0 : decode cX2_formOf 0 = .ok (.iload_n 0, 1) := by decide +kernel
theorem dX2_formOf_1 : decode cX2_formOf 1 = .ok (.invokestatic 11, 3) := by decide +kernel
theorem dX2_formOf_4 : decode cX2_formOf 4 = .ok (.istore_n 1, 1) := by decide +kernel
theorem dX2_formOf_5 : decode cX2_formOf 5 = .ok (.iload_n 1, 1) := by decide +kernel
theorem dX2_formOf_6 : decode cX2_formOf 6 = .ok (.iconst (-1), 1) := by decide +kernel
theorem dX2_formOf_7 : decode cX2_formOf 7 = .ok (.if_icmp .eq 11, 3) := by decide +kernel
theorem dX2_formOf_10 : decode cX2_formOf 10 = .ok (.iload_n 0, 1) := by decide +kernel
theorem dX2_formOf_11 : decode cX2_formOf 11 = .ok (.iload_n 1, 1) := by decide +kernel
theorem dX2_formOf_12 : decode cX2_formOf 12 = .ok (.invokestatic 15, 3) := by decide +kernel
theorem dX2_formOf_15 : decode cX2_formOf 15 = .ok (.ifCond .eq 5, 3) := by decide +kernel
theorem dX2_formOf_18 : decode cX2_formOf 18 = .ok (.iconst (-1), 1) := by decide +kernel
theorem dX2_formOf_19 : decode cX2_formOf 19 = .ok (.ireturn, 1) := by decide +kernel
theorem dX2_formOf_20 : decode cX2_formOf 20 = .ok (.iload_n 1, 1) := by decide +kernel
theorem dX2_formOf_21 : decode cX2_formOf 21 = .ok (.ireturn, 1) := by decide +kernel
set_option maxRecDepth 20000 in
theorem ggX2_hasOddDouble_X4_has : GoodIn wsX2_hasOddDouble wsX4_has := goodIn_r _ [7] (by decide +kernel) (by decide +kernel)
set_option maxRecDepth 20000 in
theorem gX2_hasOddDouble_X4_has : GoodIn wsX2_hasOddDouble (va_wsS RX2 20 yX4_has wsX4_has) := goodIn_app (goodIn_of _ (by decide +kernel)) ggX2_hasOddDouble_X4_has
set_option maxRecDepth 20000 in
theorem ggX2_hasOddDouble_X3_fractionS : GoodIn wsX2_hasOddDouble wsX3_fractionS := goodIn_r _ [11, 12, 13, 10, 14] (by decide +kernel) (by decide +kernel)
set_option maxRecDepth 20000 in
theorem gX2_hasOddDouble_X3_fractionS : GoodIn wsX2_hasOddDouble (va_wsS RX2 23 yX3_fractionS wsX3_fractionS) := goodIn_app (goodIn_of _ (by decide +kernel)) ggX2_hasOddDouble_X3_fractionS
set_option maxRecDepth 20000 in
theorem ggX2_hasOddDouble_X3_fractionT : GoodIn wsX2_hasOddDouble wsX3_fractionT := goodIn_r _ [17, 18, 19, 10, 20] (by decide +kernel) (by decide +kernel)
set_option maxRecDepth 20000 in
theorem gX2_hasOddDouble_X3_fractionT : GoodIn wsX2_hasOddDouble (va_wsS RX2 29 yX3_fractionT wsX3_fractionT) := goodIn_app (goodIn_of _ (by decide +kernel)) ggX2_hasOddDouble_X3_fractionT
set_option maxRecDepth 20000 in
theorem ggX2_hasOddDouble_X3_fractionD : GoodIn wsX2_hasOddDouble wsX3_fractionD := goodIn_r _ [23] (by decide +kernel) (by decide +kernel)
set_option maxRecDepth 20000 in
theorem gX2_hasOddDouble_X3_fractionD : GoodIn wsX2_hasOddDouble (va_wsS RX2 33 yX3_fractionD wsX3_fractionD) := goodIn_app (goodIn_of _ (by decide +kernel)) ggX2_hasOddDouble_X3_fractionD
theorem dX2_hasOddDouble_0 : decode cX2_hasOddDouble 0 = .ok (.iconst 0, 1) := by decide +kernel
theorem dX2_hasOddDouble_1 : decode cX2_hasOddDouble 1 = .ok (.istore_n 2, 1) := by decide +kernel
theorem dX2_hasOddDouble_2 : decode cX2_hasOddDouble 2 = .ok (.iload_n 1, 1) := by decide +kernel
theorem dX2_hasOddDouble_3 : decode cX2_hasOddDouble 3 = .ok (.ldc 19, 2) := by decide +kernel
theorem dX2_hasOddDouble_5 : decode cX2_hasOddDouble 5 = .ok (.invokestatic 20, 3) := by decide +kernel
theorem dX2_hasOddDouble_8 : decode cX2_hasOddDouble 8 = .ok (.ifCond .eq 10, 3) := by decide +kernel
theorem dX2_hasOddDouble_11 : decode cX2_hasOddDouble 11 = .ok (.iload_n 2, 1) := by decide +kernel
theorem dX2_hasOddDouble_12 : decode cX2_hasOddDouble 12 = .ok (.iload_n 0, 1) := by decide +kernel
theorem dX2_hasOddDouble_13 : decode cX2_hasOddDouble 13 = .ok (.invokestatic 23, 3) := by decide +kernel
theorem dX2_hasOddDouble_16 : decode cX2_hasOddDouble 16 = .ok (.ior, 1) := by decide +kernel
theorem dX2_hasOddDouble_17 : decode cX2_hasOddDouble 17 = .ok (.istore_n 2, 1) := by decide +kernel
theorem dX2_hasOddDouble_18 : decode cX2_hasOddDouble 18 = .ok (.iload_n 1, 1) := by decide +kernel
theorem dX2_hasOddDouble_19 : decode cX2_hasOddDouble 19 = .ok (.ldc 28, 2) := by decide +kernel
theorem dX2_hasOddDouble_21 : decode cX2_hasOddDouble 21 = .ok (.invokestatic 20, 3) := by decide +kernel
theorem dX2_hasOddDouble_24 : decode cX2_hasOddDouble 24 = .ok (.ifCond .eq 10, 3) := by decide +kernel
theorem dX2_hasOddDouble_27 : decode cX2_hasOddDouble 27 = .ok (.iload_n 2, 1) := by decide +kernel
theorem dX2_hasOddDouble_28 : decode cX2_hasOddDouble 28 = .ok (.iload_n 0, 1) := by decide +kernel
theorem dX2_hasOddDouble_29 : decode cX2_hasOddDouble 29 = .ok (.invokestatic 29, 3) := by decide +kernel
theorem dX2_hasOddDouble_32 : decode cX2_hasOddDouble 32 = .ok (.ior, 1) := by decide +kernel
theorem dX2_hasOddDouble_33 : decode cX2_hasOddDouble 33 = .ok (.istore_n 2, 1) := by decide +kernel
theorem dX2_hasOddDouble_34 : decode cX2_hasOddDouble 34 = .ok (.iload_n 1, 1) := by decide +kernel
theorem dX2_hasOddDouble_35 : decode cX2_hasOddDouble 35 = .ok (.ldc 32, 2) := by decide +kernel
theorem dX2_hasOddDouble_37 : decode cX2_hasOddDouble 37 = .ok (.invokestatic 20, 3) := by decide +kernel
theorem dX2_hasOddDouble_40 : decode cX2_hasOddDouble 40 = .ok (.ifCond .eq 10, 3) := by decide +kernel
theorem dX2_hasOddDouble_43 : decode cX2_hasOddDouble 43 = .ok (.iload_n 2, 1) := by decide +kernel
theorem dX2_hasOddDouble_44 : decode cX2_hasOddDouble 44 = .ok (.iload_n 0, 1) := by decide +kernel
theorem dX2_hasOddDouble_45 : decode cX2_hasOddDouble 45 = .ok (.invokestatic 33, 3) := by decide +kernel
theorem dX2_hasOddDouble_48 : decode cX2_hasOddDouble 48 = .ok (.ior, 1) := by decide +kernel
theorem dX2_hasOddDouble_49 : decode cX2_hasOddDouble 49 = .ok (.istore_n 2, 1) := by decide +kernel
theorem dX2_hasOddDouble_50 : decode cX2_hasOddDouble 50 = .ok (.iload_n 2, 1) := by decide +kernel
theorem dX2_hasOddDouble_51 : decode cX2_hasOddDouble 51 = .ok (.iconst 1, 1) := by decide +kernel
theorem dX2_hasOddDouble_52 : decode cX2_hasOddDouble 52 = .ok (.iand, 1) := by decide +kernel
theorem dX2_hasOddDouble_53 : decode cX2_hasOddDouble 53 = .ok (.ifCond .eq 7, 3) := by decide +kernel
theorem dX2_hasOddDouble_56 : decode cX2_hasOddDouble 56 = .ok (.iconst 1, 1) := by decide +kernel
theorem dX2_hasOddDouble_57 : decode cX2_hasOddDouble 57 = .ok (.goto 4, 3) := by decide +kernel
theorem dX2_hasOddDouble_60 : decode cX2_hasOddDouble 60 = .ok (.iconst 0, 1) := by decide +kernel
theorem dX2_hasOddDouble_61 : decode cX2_hasOddDouble 61 = .ok (.ireturn, 1) := by decide +kernel
set_option maxRecDepth 20000 in
theorem ggX2_formByOperation_X3_operation : GoodIn wsX2_formByOperation wsX3_operation := goodIn_r _ [4] (by decide +kernel) (by decide +kernel)
set_option maxRecDepth 20000 in
theorem gX2_formByOperation_X3_operation : GoodIn wsX2_formByOperation (va_wsS RX2 36 yX3_operation wsX3_operation) := goodIn_app (goodIn_of _ (by decide +kernel)) ggX2_formByOperation_X3_operation
set_option maxRecDepth 20000 in
theorem ggX2_formByOperation_X3_function : GoodIn wsX2_formByOperation wsX3_function := goodIn_r _ [7] (by decide +kernel) (by decide +kernel)
set_option maxRecDepth 20000 in
theorem gX2_formByOperation_X3_function : GoodIn wsX2_formByOperation (va_wsS RX2 39 yX3_function wsX3_function) := goodIn_app (goodIn_of _ (by decide +kernel)) ggX2_formByOperation_X3_function
set_option maxRecDepth 20000 in
theorem ggX2_formByOperation_X2_special : GoodIn wsX2_formByOperation wsX2_special := goodIn_r _ [11, 12, 13, 10, 14] (by decide +kernel) (by decide +kernel)
set_option maxRecDepth 20000 in
theorem gX2_formByOperation_X2_special : GoodIn wsX2_formByOperation (va_wsS RX2 42 yX2_special wsX2_special) := goodIn_app (goodIn_of _ (by decide +kernel)) ggX2_formByOperation_X2_special
set_option maxRecDepth 20000 in
theorem ggX2_formByOperation_X3_t : GoodIn wsX2_formByOperation wsX3_t := goodIn_r _ [17] (by decide +kernel) (by decide +kernel)
set_option maxRecDepth 20000 in
theorem gX2_formByOperation_X3_t : GoodIn wsX2_formByOperation (va_wsS RX2 45 yX3_t wsX3_t) := goodIn_app (goodIn_of _ (by decide +kernel)) ggX2_formByOperation_X3_t
set_option maxRecDepth 20000 in
theorem ggX2_formByOperation_X2_byRegisterField : GoodIn wsX2_formByOperation wsX2_byRegisterField := goodIn_r _ [20, 21] (by decide +kernel) (by decide +kernel)
set_option maxRecDepth 20000 in
theorem gX2_formByOperation_X2_byRegisterField : GoodIn wsX2_formByOperation (va_wsS RX2 48 yX2_byRegisterField wsX2_byRegisterField) := goodIn_app (goodIn_of _ (by decide +kernel)) ggX2_formByOperation_X2_byRegisterField
set_option maxRecDepth 20000 in
theorem ggX2_formByOperation_X2_coprocessor : GoodIn wsX2_formByOperation wsX2_coprocessor := goodIn_r _ [24, 25, 26, 27, 28, 5, 6, 3, 7, 29, 30, 31, 15, 16, 17, 32, 33, 10, 34, 35, 36, 37, 38, 39, 40, 41, 42, 43, 44, 45, 46, 47, 48, 49, 50, 51, 52, 53, 54, 55, 56, 57, 58, 59] (by decide +kernel) (by decide +kernel)
set_option maxRecDepth 20000 in
theorem gX2_formByOperation_X2_coprocessor : GoodIn wsX2_formByOperation (va_wsS RX2 51 yX2_coprocessor wsX2_coprocessor) := goodIn_app (goodIn_of _ (by decide +kernel)) ggX2_formByOperation_X2_coprocessor
set_option maxRecDepth 20000 in
theorem ggX2_formByOperation_X2_special2 : GoodIn wsX2_formByOperation wsX2_special2 := goodIn_r _ [62] (by decide +kernel) (by decide +kernel)
set_option maxRecDepth 20000 in
theorem gX2_formByOperation_X2_special2 : GoodIn wsX2_formByOperation (va_wsS RX2 54 yX2_special2 wsX2_special2) := goodIn_app (goodIn_of _ (by decide +kernel)) ggX2_formByOperation_X2_special2
set_option maxRecDepth 20000 in
theorem ggX2_formByOperation_X2_immediateOrBranch : GoodIn wsX2_formByOperation wsX2_immediateOrBranch := goodIn_r _ [65, 66, 21] (by decide +kernel) (by decide +kernel)
set_option maxRecDepth 20000 in
theorem gX2_formByOperation_X2_immediateOrBranch : GoodIn wsX2_formByOperation (va_wsS RX2 57 yX2_immediateOrBranch wsX2_immediateOrBranch) := goodIn_app (goodIn_of _ (by decide +kernel)) ggX2_formByOperation_X2_immediateOrBranch
set_option maxRecDepth 20000 in
theorem ggX2_formByOperation_X2_memory : GoodIn wsX2_formByOperation wsX2_memory := goodIn_r _ [69, 70, 71, 72, 73] (by decide +kernel) (by decide +kernel)
set_option maxRecDepth 20000 in
theorem gX2_formByOperation_X2_memory : GoodIn wsX2_formByOperation (va_wsS RX2 60 yX2_memory wsX2_memory) := goodIn_app (goodIn_of _ (by decide +kernel)) ggX2_formByOperation_X2_memory
theorem dX2_formByOperation_0 : decode cX2_formByOperation 0 = .ok (.iload_n 0, 1) := by decide +kernel
theorem dX2_formByOperation_1 : decode cX2_formByOperation 1 = .ok (.invokestatic 36, 3) := by decide +kernel
theorem dX2_formByOperation_4 : decode cX2_formByOperation 4 = .ok (.istore_n 1, 1) := by decide +kernel
theorem dX2_formByOperation_5 : decode cX2_formByOperation 5 = .ok (.iload_n 1, 1) := by decide +kernel
theorem dX2_formByOperation_6 : decode cX2_formByOperation 6 = .ok (.lookupswitch 71 #[(0, 42), (1, 50), (17, 58), (28, 63)], 42) := by decide +kernel
theorem dX2_formByOperation_48 : decode cX2_formByOperation 48 = .ok (.iload_n 0, 1) := by decide +kernel
theorem dX2_formByOperation_49 : decode cX2_formByOperation 49 = .ok (.invokestatic 39, 3) := by decide +kernel
theorem dX2_formByOperation_52 : decode cX2_formByOperation 52 = .ok (.invokestatic 42, 3) := by decide +kernel
theorem dX2_formByOperation_55 : decode cX2_formByOperation 55 = .ok (.ireturn, 1) := by decide +kernel
theorem dX2_formByOperation_56 : decode cX2_formByOperation 56 = .ok (.iload_n 0, 1) := by decide +kernel
theorem dX2_formByOperation_57 : decode cX2_formByOperation 57 = .ok (.invokestatic 45, 3) := by decide +kernel
theorem dX2_formByOperation_60 : decode cX2_formByOperation 60 = .ok (.invokestatic 48, 3) := by decide +kernel
theorem dX2_formByOperation_63 : decode cX2_formByOperation 63 = .ok (.ireturn, 1) := by decide +kernel
theorem dX2_formByOperation_64 : decode cX2_formByOperation 64 = .ok (.iload_n 0, 1) := by decide +kernel
theorem dX2_formByOperation_65 : decode cX2_formByOperation 65 = .ok (.invokestatic 51, 3) := by decide +kernel
theorem dX2_formByOperation_68 : decode cX2_formByOperation 68 = .ok (.ireturn, 1) := by decide +kernel
theorem dX2_formByOperation_69 : decode cX2_formByOperation 69 = .ok (.iload_n 0, 1) := by decide +kernel
theorem dX2_formByOperation_70 : decode cX2_formByOperation 70 = .ok (.invokestatic 39, 3) := by decide +kernel
theorem dX2_formByOperation_73 : decode cX2_formByOperation 73 = .ok (.invokestatic 54, 3) := by decide +kernel
theorem dX2_formByOperation_76 : decode cX2_formByOperation 76 = .ok (.ireturn, 1) := by decide +kernel
theorem dX2_formByOperation_77 : decode cX2_formByOperation 77 = .ok (.iload_n 1, 1) := by decide +kernel
theorem dX2_formByOperation_78 : decode cX2_formByOperation 78 = .ok (.bipush 32, 2) := by decide +kernel
theorem dX2_formByOperation_80 : decode cX2_formByOperation 80 = .ok (.if_icmp .ge 10, 3) := by decide +kernel
theorem dX2_formByOperation_83 : decode cX2_formByOperation 83 = .ok (.iload_n 1, 1) := by decide +kernel
theorem dX2_formByOperation_84 : decode cX2_formByOperation 84 = .ok (.invokestatic 57, 3) := by decide +kernel
theorem dX2_formByOperation_87 : decode cX2_formByOperation 87 = .ok (.goto 7, 3) := by decide +kernel
theorem dX2_formByOperation_90 : decode cX2_formByOperation 90 = .ok (.iload_n 1, 1) := by decide +kernel
theorem dX2_formByOperation_91 : decode cX2_formByOperation 91 = .ok (.invokestatic 60, 3) := by decide +kernel
theorem dX2_formByOperation_94 : decode cX2_formByOperation 94 = .ok (.ireturn, 1) := by decide +kernel
set_option maxRecDepth 20000 in
theorem ggX2_special_X2_threeOrBarrier : GoodIn wsX2_special wsX2_threeOrBarrier := goodIn_r _ [4] (by decide +kernel) (by decide +kernel)
set_option maxRecDepth 20000 in
theorem gX2_special_X2_threeOrBarrier : GoodIn wsX2_special (va_wsS RX2 63 yX2_threeOrBarrier wsX2_threeOrBarrier) := goodIn_app (goodIn_of _ (by decide +kernel)) ggX2_special_X2_threeOrBarrier
theorem dX2_special_0 : decode cX2_special 0 = .ok (.iload_n 0, 1) := by decide +kernel
theorem dX2_special_1 : decode cX2_special 1 = .ok (.tableswitch 162 0 27 #[127, 131, 127, 127, 162, 162, 162, 162, 135, 138, 142, 142, 162, 162, 162, 162, 146, 150, 146, 150, 162, 162, 162, 162, 154, 154, 158, 158], 127) := by decide +kernel
theorem dX2_special_128 : decode cX2_special 128 = .ok (.sipush 288, 3) := by decide +kernel
theorem dX2_special_131 : decode cX2_special 131 = .ok (.ireturn, 1) := by decide +kernel
theorem dX2_special_132 : decode cX2_special 132 = .ok (.sipush 4432, 3) := by decide +kernel
theorem dX2_special_135 : decode cX2_special 135 = .ok (.ireturn, 1) := by decide +kernel
theorem dX2_special_136 : decode cX2_special 136 = .ok (.bipush 23, 2) := by decide +kernel
theorem dX2_special_138 : decode cX2_special 138 = .ok (.ireturn, 1) := by decide +kernel
theorem dX2_special_139 : decode cX2_special 139 = .ok (.sipush 279, 3) := by decide +kernel
theorem dX2_special_142 : decode cX2_special 142 = .ok (.ireturn, 1) := by decide +kernel
theorem dX2_special_143 : decode cX2_special 143 = .ok (.sipush 368, 3) := by decide +kernel
theorem dX2_special_146 : decode cX2_special 146 = .ok (.ireturn, 1) := by decide +kernel
theorem dX2_special_147 : decode cX2_special 147 = .ok (.sipush 1280, 3) := by decide +kernel
theorem dX2_special_150 : decode cX2_special 150 = .ok (.ireturn, 1) := by decide +kernel
theorem dX2_special_151 : decode cX2_special 151 = .ok (.sipush 3088, 3) := by decide +kernel
theorem dX2_special_154 : decode cX2_special 154 = .ok (.ireturn, 1) := by decide +kernel
theorem dX2_special_155 : decode cX2_special 155 = .ok (.sipush 2099, 3) := by decide +kernel
theorem dX2_special_158 : decode cX2_special 158 = .ok (.ireturn, 1) := by decide +kernel
theorem dX2_special_159 : decode cX2_special 159 = .ok (.sipush 2100, 3) := by decide +kernel
theorem dX2_special_162 : decode cX2_special 162 = .ok (.ireturn, 1) := by decide +kernel
theorem dX2_special_163 : decode cX2_special 163 = .ok (.iload_n 0, 1) := by decide +kernel
theorem dX2_special_164 : decode cX2_special 164 = .ok (.invokestatic 63, 3) := by decide +kernel
theorem dX2_special_167 : decode cX2_special 167 = .ok (.ireturn, 1) := by decide +kernel
theorem dX2_threeOrBarrier_0 : decode cX2_threeOrBarrier 0 = .ok (.iload_n 0, 1) := by decide +kernel
theorem dX2_threeOrBarrier_1 : decode cX2_threeOrBarrier 1 = .ok (.tableswitch 226 4 54 #[219, 226, 219, 219, 226, 226, 226, 226, 223, 223, 226, 223, 226, 226, 226, 226, 226, 226, 226, 226, 226, 226, 226, 226, 226, 226, 226, 226, 223, 219, 223, 219, 219, 219, 219, 219, 226, 226, 219, 219, 226, 226, 226, 226, 223, 223, 223, 223, 223, 226, 223], 219) := by decide +kernel
theorem dX2_threeOrBarrier_220 : decode cX2_threeOrBarrier 220 = .ok (.sipush 304, 3) := by decide +kernel
theorem dX2_threeOrBarrier_223 : decode cX2_threeOrBarrier 223 = .ok (.ireturn, 1) := by decide +kernel
theorem dX2_threeOrBarrier_224 : decode cX2_threeOrBarrier 224 = .ok (.bipush 8, 2) := by decide +kernel
theorem dX2_threeOrBarrier_226 : decode cX2_threeOrBarrier 226 = .ok (.ireturn, 1) := by decide +kernel
theorem dX2_threeOrBarrier_227 : decode cX2_threeOrBarrier 227 = .ok (.iconst (-1), 1) := by decide +kernel
theorem dX2_threeOrBarrier_228 : decode cX2_threeOrBarrier 228 = .ok (.ireturn, 1) := by decide +kernel
theorem dX2_special2_0 : decode cX2_special2 0 = .ok (.iload_n 0, 1) := by decide +kernel
theorem dX2_special2_1 : decode cX2_special2 1 = .ok (.lookupswitch 79 #[(0, 67), (1, 67), (2, 71), (4, 67), (5, 67), (32, 75), (33, 75)], 67) := by decide +kernel
theorem dX2_special2_68 : decode cX2_special2 68 = .ok (.sipush 3123, 3) := by decide +kernel
theorem dX2_special2_71 : decode cX2_special2 71 = .ok (.ireturn, 1) := by decide +kernel
theorem dX2_special2_72 : decode cX2_special2 72 = .ok (.sipush 2355, 3) := by decide +kernel
theorem dX2_special2_75 : decode cX2_special2 75 = .ok (.ireturn, 1) := by decide +kernel
theorem dX2_special2_76 : decode cX2_special2 76 = .ok (.sipush 272, 3) := by decide +kernel
theorem dX2_special2_79 : decode cX2_special2 79 = .ok (.ireturn, 1) := by decide +kernel
theorem dX2_special2_80 : decode cX2_special2 80 = .ok (.iconst (-1), 1) := by decide +kernel
theorem dX2_special2_81 : decode cX2_special2 81 = .ok (.ireturn, 1) := by decide +kernel
theorem dX2_byRegisterField_0 : decode cX2_byRegisterField 0 = .ok (.iload_n 0, 1) := by decide +kernel
theorem dX2_byRegisterField_1 : decode cX2_byRegisterField 1 = .ok (.tableswitch 100 0 17 #[87, 87, 90, 90, 100, 100, 100, 100, 93, 93, 93, 93, 93, 100, 93, 100, 96, 96], 87) := by decide +kernel
theorem dX2_byRegisterField_88 : decode cX2_byRegisterField 88 = .ok (.bipush 23, 2) := by decide +kernel
theorem dX2_byRegisterField_90 : decode cX2_byRegisterField 90 = .ok (.ireturn, 1) := by decide +kernel
theorem dX2_byRegisterField_91 : decode cX2_byRegisterField 91 = .ok (.ldc 66, 2) := by decide +kernel
theorem dX2_byRegisterField_93 : decode cX2_byRegisterField 93 = .ok (.ireturn, 1) := by decide +kernel
theorem dX2_byRegisterField_94 : decode cX2_byRegisterField 94 = .ok (.bipush 8, 2) := by decide +kernel
theorem dX2_byRegisterField_96 : decode cX2_byRegisterField 96 = .ok (.ireturn, 1) := by decide +kernel
theorem dX2_byRegisterField_97 : decode cX2_byRegisterField 97 = .ok (.sipush 535, 3) := by decide +kernel
theorem dX2_byRegisterField_100 : decode cX2_byRegisterField 100 = .ok (.ireturn, 1) := by decide +kernel
theorem dX2_byRegisterField_101 : decode cX2_byRegisterField 101 = .ok (.iconst (-1), 1) := by decide +kernel
theorem dX2_byRegisterField_102 : decode cX2_byRegisterField 102 = .ok (.ireturn, 1) := by decide +kernel
theorem dX2_immediateOrBranch_0 : decode cX2_immediateOrBranch 0 = .ok (.iload_n 0, 1) := by decide +kernel
theorem dX2_immediateOrBranch_1 : decode cX2_immediateOrBranch 1 = .ok (.tableswitch 133 2 23 #[103, 106, 110, 110, 113, 113, 122, 125, 125, 125, 125, 125, 125, 129, 133, 133, 133, 133, 116, 116, 119, 119], 103) := by decide +kernel
theorem dX2_immediateOrBranch_104 : decode cX2_immediateOrBranch 104 = .ok (.bipush 7, 2) := by decide +kernel
theorem dX2_immediateOrBranch_106 : decode cX2_immediateOrBranch 106 = .ok (.ireturn, 1) := by decide +kernel
theorem dX2_immediateOrBranch_107 : decode cX2_immediateOrBranch 107 = .ok (.sipush 519, 3) := by decide +kernel
theorem dX2_immediateOrBranch_110 : decode cX2_immediateOrBranch 110 = .ok (.ireturn, 1) := by decide +kernel
theorem dX2_immediateOrBranch_111 : decode cX2_immediateOrBranch 111 = .ok (.bipush 55, 2) := by decide +kernel
theorem dX2_immediateOrBranch_113 : decode cX2_immediateOrBranch 113 = .ok (.ireturn, 1) := by decide +kernel
theorem dX2_immediateOrBranch_114 : decode cX2_immediateOrBranch 114 = .ok (.bipush 23, 2) := by decide +kernel
theorem dX2_immediateOrBranch_116 : decode cX2_immediateOrBranch 116 = .ok (.ireturn, 1) := by decide +kernel
theorem dX2_immediateOrBranch_117 : decode cX2_immediateOrBranch 117 = .ok (.ldc 67, 2) := by decide +kernel
theorem dX2_immediateOrBranch_119 : decode cX2_immediateOrBranch 119 = .ok (.ireturn, 1) := by decide +kernel
theorem dX2_immediateOrBranch_120 : decode cX2_immediateOrBranch 120 = .ok (.ldc 66, 2) := by decide +kernel
theorem dX2_immediateOrBranch_122 : decode cX2_immediateOrBranch 122 = .ok (.ireturn, 1) := by decide +kernel
theorem dX2_immediateOrBranch_123 : decode cX2_immediateOrBranch 123 = .ok (.bipush 8, 2) := by decide +kernel
theorem dX2_immediateOrBranch_125 : decode cX2_immediateOrBranch 125 = .ok (.ireturn, 1) := by decide +kernel
theorem dX2_immediateOrBranch_126 : decode cX2_immediateOrBranch 126 = .ok (.sipush 144, 3) := by decide +kernel
theorem dX2_immediateOrBranch_129 : decode cX2_immediateOrBranch 129 = .ok (.ireturn, 1) := by decide +kernel
theorem dX2_immediateOrBranch_130 : decode cX2_immediateOrBranch 130 = .ok (.sipush 128, 3) := by decide +kernel
theorem dX2_immediateOrBranch_133 : decode cX2_immediateOrBranch 133 = .ok (.ireturn, 1) := by decide +kernel
theorem dX2_immediateOrBranch_134 : decode cX2_immediateOrBranch 134 = .ok (.iconst (-1), 1) := by decide +kernel
theorem dX2_immediateOrBranch_135 : decode cX2_immediateOrBranch 135 = .ok (.ireturn, 1) := by decide +kernel
theorem dX2_memory_0 : decode cX2_memory 0 = .ok (.iload_n 0, 1) := by decide +kernel
theorem dX2_memory_1 : decode cX2_memory 1 = .ok (.tableswitch 164 32 61 #[135, 135, 139, 135, 135, 135, 139, 164, 143, 143, 143, 143, 164, 164, 143, 164, 146, 149, 164, 152, 164, 155, 164, 164, 146, 158, 164, 164, 164, 161], 135) := by decide +kernel
theorem dX2_memory_136 : decode cX2_memory 136 = .ok (.sipush 145, 3) := by decide +kernel
theorem dX2_memory_139 : decode cX2_memory 139 = .ok (.ireturn, 1) := by decide +kernel
theorem dX2_memory_140 : decode cX2_memory 140 = .ok (.sipush 177, 3) := by decide +kernel
theorem dX2_memory_143 : decode cX2_memory 143 = .ok (.ireturn, 1) := by decide +kernel
theorem dX2_memory_144 : decode cX2_memory 144 = .ok (.bipush 50, 2) := by decide +kernel
theorem dX2_memory_146 : decode cX2_memory 146 = .ok (.ireturn, 1) := by decide +kernel
theorem dX2_memory_147 : decode cX2_memory 147 = .ok (.bipush 8, 2) := by decide +kernel
theorem dX2_memory_149 : decode cX2_memory 149 = .ok (.ireturn, 1) := by decide +kernel
theorem dX2_memory_150 : decode cX2_memory 150 = .ok (.ldc 68, 2) := by decide +kernel
theorem dX2_memory_152 : decode cX2_memory 152 = .ok (.ireturn, 1) := by decide +kernel
theorem dX2_memory_153 : decode cX2_memory 153 = .ok (.bipush 16, 2) := by decide +kernel
theorem dX2_memory_155 : decode cX2_memory 155 = .ok (.ireturn, 1) := by decide +kernel
theorem dX2_memory_156 : decode cX2_memory 156 = .ok (.ldc 69, 2) := by decide +kernel
theorem dX2_memory_158 : decode cX2_memory 158 = .ok (.ireturn, 1) := by decide +kernel
theorem dX2_memory_159 : decode cX2_memory 159 = .ok (.ldc 70, 2) := by decide +kernel
theorem dX2_memory_161 : decode cX2_memory 161 = .ok (.ireturn, 1) := by decide +kernel
theorem dX2_memory_162 : decode cX2_memory 162 = .ok (.ldc 71, 2) := by decide +kernel
theorem dX2_memory_164 : decode cX2_memory 164 = .ok (.ireturn, 1) := by decide +kernel
theorem dX2_memory_165 : decode cX2_memory 165 = .ok (.iconst (-1), 1) := by decide +kernel
theorem dX2_memory_166 : decode cX2_memory 166 = .ok (.ireturn, 1) := by decide +kernel
set_option maxRecDepth 20000 in
theorem ggX2_coprocessor_X3_function : GoodIn wsX2_coprocessor wsX3_function := goodIn_r _ [8] (by decide +kernel) (by decide +kernel)
set_option maxRecDepth 20000 in
theorem gX2_coprocessor_X3_function : GoodIn wsX2_coprocessor (va_wsS RX2 39 yX3_function wsX3_function) := goodIn_app (goodIn_of _ (by decide +kernel)) ggX2_coprocessor_X3_function
set_option maxRecDepth 20000 in
theorem ggX2_coprocessor_X3_s : GoodIn wsX2_coprocessor wsX3_s := goodIn_r _ [11] (by decide +kernel) (by decide +kernel)
end
section
set_option maxRecDepth 20000 in
theorem gX2_coprocessor_X3_s : GoodIn wsX2_coprocessor (va_wsS RX2 72 yX3_s wsX3_s) := goodIn_app (goodIn_of _ (by decide +kernel)) ggX2_coprocessor_X3_s
set_option maxRecDepth 20000 in
theorem ggX2_coprocessor_X3_t : GoodIn wsX2_coprocessor wsX3_t := goodIn_r _ [14] (by decide +kernel) (by decide +kernel)
set_option maxRecDepth 20000 in
theorem gX2_coprocessor_X3_t : GoodIn wsX2_coprocessor (va_wsS RX2 45 yX3_t wsX3_t) := goodIn_app (goodIn_of _ (by decide +kernel)) ggX2_coprocessor_X3_t
set_option maxRecDepth 20000 in
theorem ggX2_coprocessor_X2_fraction : GoodIn wsX2_coprocessor wsX2_fraction := goodIn_r _ [18, 19, 20, 21, 22, 23, 24, 25] (by decide +kernel) (by decide +kernel)
set_option maxRecDepth 20000 in
theorem gX2_coprocessor_X2_fraction : GoodIn wsX2_coprocessor (va_wsS RX2 78 yX2_fraction wsX2_fraction) := goodIn_app (goodIn_of _ (by decide +kernel)) ggX2_coprocessor_X2_fraction
set_option maxRecDepth 20000 in
theorem ggX2_coprocessor_X2_doubled : GoodIn wsX2_coprocessor wsX2_doubled := goodIn_r _ [28, 29, 30, 31, 32, 33, 15, 16, 17, 18, 19, 20, 21, 22, 23, 24, 25, 34, 35, 36, 37, 38, 39, 40] (by decide +kernel) (by decide +kernel)
set_option maxRecDepth 20000 in
theorem gX2_coprocessor_X2_doubled : GoodIn wsX2_coprocessor (va_wsS RX2 82 yX2_doubled wsX2_doubled) := goodIn_app (goodIn_of _ (by decide +kernel)) ggX2_coprocessor_X2_doubled
set_option maxRecDepth 20000 in
theorem ggX2_coprocessor_X2_ofWhole : GoodIn wsX2_coprocessor wsX2_ofWhole := goodIn_r _ [43, 22, 3] (by decide +kernel) (by decide +kernel)
set_option maxRecDepth 20000 in
theorem gX2_coprocessor_X2_ofWhole : GoodIn wsX2_coprocessor (va_wsS RX2 85 yX2_ofWhole wsX2_ofWhole) := goodIn_app (goodIn_of _ (by decide +kernel)) ggX2_coprocessor_X2_ofWhole
theorem dX2_coprocessor_0 : decode cX2_coprocessor 0 = .ok (.iload_n 0, 1) := by decide +kernel
theorem dX2_coprocessor_1 : decode cX2_coprocessor 1 = .ok (.invokestatic 39, 3) := by decide +kernel
theorem dX2_coprocessor_4 : decode cX2_coprocessor 4 = .ok (.istore_n 1, 1) := by decide +kernel
theorem dX2_coprocessor_5 : decode cX2_coprocessor 5 = .ok (.iload_n 0, 1) := by decide +kernel
theorem dX2_coprocessor_6 : decode cX2_coprocessor 6 = .ok (.invokestatic 72, 3) := by decide +kernel
theorem dX2_coprocessor_9 : decode cX2_coprocessor 9 = .ok (.lookupswitch 121 #[(0, 59), (4, 63), (8, 66), (16, 84), (17, 100), (20, 116)], 59) := by decide +kernel
theorem dX2_coprocessor_68 : decode cX2_coprocessor 68 = .ok (.sipush 16512, 3) := by decide +kernel
theorem dX2_coprocessor_71 : decode cX2_coprocessor 71 = .ok (.ireturn, 1) := by decide +kernel
theorem dX2_coprocessor_72 : decode cX2_coprocessor 72 = .ok (.ldc 75, 2) := by decide +kernel
theorem dX2_coprocessor_74 : decode cX2_coprocessor 74 = .ok (.ireturn, 1) := by decide +kernel
theorem dX2_coprocessor_75 : decode cX2_coprocessor 75 = .ok (.iload_n 0, 1) := by decide +kernel
theorem dX2_coprocessor_76 : decode cX2_coprocessor 76 = .ok (.invokestatic 45, 3) := by decide +kernel
theorem dX2_coprocessor_79 : decode cX2_coprocessor 79 = .ok (.iconst 2, 1) := by decide +kernel
theorem dX2_coprocessor_80 : decode cX2_coprocessor 80 = .ok (.iand, 1) := by decide +kernel
theorem dX2_coprocessor_81 : decode cX2_coprocessor 81 = .ok (.ifCond .ne 9, 3) := by decide +kernel
theorem dX2_coprocessor_84 : decode cX2_coprocessor 84 = .ok (.sipush 4103, 3) := by decide +kernel
theorem dX2_coprocessor_87 : decode cX2_coprocessor 87 = .ok (.goto 5, 3) := by decide +kernel
theorem dX2_coprocessor_90 : decode cX2_coprocessor 90 = .ok (.ldc 76, 2) := by decide +kernel
theorem dX2_coprocessor_92 : decode cX2_coprocessor 92 = .ok (.ireturn, 1) := by decide +kernel
theorem dX2_coprocessor_93 : decode cX2_coprocessor 93 = .ok (.iload_n 1, 1) := by decide +kernel
theorem dX2_coprocessor_94 : decode cX2_coprocessor 94 = .ok (.bipush 33, 2) := by decide +kernel
theorem dX2_coprocessor_96 : decode cX2_coprocessor 96 = .ok (.if_icmp .ne 8, 3) := by decide +kernel
theorem dX2_coprocessor_99 : decode cX2_coprocessor 99 = .ok (.ldc 77, 2) := by decide +kernel
theorem dX2_coprocessor_101 : decode cX2_coprocessor 101 = .ok (.goto 7, 3) := by decide +kernel
theorem dX2_coprocessor_104 : decode cX2_coprocessor 104 = .ok (.iload_n 1, 1) := by decide +kernel
theorem dX2_coprocessor_105 : decode cX2_coprocessor 105 = .ok (.invokestatic 78, 3) := by decide +kernel
theorem dX2_coprocessor_108 : decode cX2_coprocessor 108 = .ok (.ireturn, 1) := by decide +kernel
theorem dX2_coprocessor_109 : decode cX2_coprocessor 109 = .ok (.iload_n 1, 1) := by decide +kernel
theorem dX2_coprocessor_110 : decode cX2_coprocessor 110 = .ok (.bipush 32, 2) := by decide +kernel
theorem dX2_coprocessor_112 : decode cX2_coprocessor 112 = .ok (.if_icmp .ne 8, 3) := by decide +kernel
theorem dX2_coprocessor_115 : decode cX2_coprocessor 115 = .ok (.ldc 81, 2) := by decide +kernel
theorem dX2_coprocessor_117 : decode cX2_coprocessor 117 = .ok (.goto 7, 3) := by decide +kernel
theorem dX2_coprocessor_120 : decode cX2_coprocessor 120 = .ok (.iload_n 1, 1) := by decide +kernel
theorem dX2_coprocessor_121 : decode cX2_coprocessor 121 = .ok (.invokestatic 82, 3) := by decide +kernel
theorem dX2_coprocessor_124 : decode cX2_coprocessor 124 = .ok (.ireturn, 1) := by decide +kernel
theorem dX2_coprocessor_125 : decode cX2_coprocessor 125 = .ok (.iload_n 1, 1) := by decide +kernel
theorem dX2_coprocessor_126 : decode cX2_coprocessor 126 = .ok (.invokestatic 85, 3) := by decide +kernel
theorem dX2_coprocessor_129 : decode cX2_coprocessor 129 = .ok (.ireturn, 1) := by decide +kernel
theorem dX2_coprocessor_130 : decode cX2_coprocessor 130 = .ok (.iconst (-1), 1) := by decide +kernel
theorem dX2_coprocessor_131 : decode cX2_coprocessor 131 = .ok (.ireturn, 1) := by decide +kernel
theorem dX2_ofWhole_0 : decode cX2_ofWhole 0 = .ok (.iload_n 0, 1) := by decide +kernel
theorem dX2_ofWhole_1 : decode cX2_ofWhole 1 = .ok (.lookupswitch 33 #[(32, 27), (33, 30)], 27) := by decide +kernel
theorem dX2_ofWhole_28 : decode cX2_ofWhole 28 = .ok (.ldc 88, 2) := by decide +kernel
theorem dX2_ofWhole_30 : decode cX2_ofWhole 30 = .ok (.ireturn, 1) := by decide +kernel
theorem dX2_ofWhole_31 : decode cX2_ofWhole 31 = .ok (.ldc 77, 2) := by decide +kernel
theorem dX2_ofWhole_33 : decode cX2_ofWhole 33 = .ok (.ireturn, 1) := by decide +kernel
theorem dX2_ofWhole_34 : decode cX2_ofWhole 34 = .ok (.iconst (-1), 1) := by decide +kernel
theorem dX2_ofWhole_35 : decode cX2_ofWhole 35 = .ok (.ireturn, 1) := by decide +kernel
set_option maxRecDepth 20000 in
theorem ggX2_doubled_X2_fraction : GoodIn wsX2_doubled wsX2_fraction := goodIn_r _ [9, 10, 11, 12, 13, 14, 15, 16] (by decide +kernel) (by decide +kernel)
set_option maxRecDepth 20000 in
theorem gX2_doubled_X2_fraction : GoodIn wsX2_doubled (va_wsS RX2 78 yX2_fraction wsX2_fraction) := goodIn_app (goodIn_of _ (by decide +kernel)) ggX2_doubled_X2_fraction
set_option maxRecDepth 20000 in
theorem ggX2_doubled_X4_has : GoodIn wsX2_doubled wsX4_has := goodIn_r _ [20] (by decide +kernel) (by decide +kernel)
set_option maxRecDepth 20000 in
theorem gX2_doubled_X4_has : GoodIn wsX2_doubled (va_wsS RX2 20 yX4_has wsX4_has) := goodIn_app (goodIn_of _ (by decide +kernel)) ggX2_doubled_X4_has
set_option maxRecDepth 20000 in
theorem ggX2_doubled_X2_answersWhole : GoodIn wsX2_doubled wsX2_answersWhole := goodIn_r _ [23] (by decide +kernel) (by decide +kernel)
set_option maxRecDepth 20000 in
theorem gX2_doubled_X2_answersWhole : GoodIn wsX2_doubled (va_wsS RX2 91 yX2_answersWhole wsX2_answersWhole) := goodIn_app (goodIn_of _ (by decide +kernel)) ggX2_doubled_X2_answersWhole
theorem dX2_doubled_0 : decode cX2_doubled 0 = .ok (.iload_n 0, 1) := by decide +kernel
theorem dX2_doubled_1 : decode cX2_doubled 1 = .ok (.invokestatic 78, 3) := by decide +kernel
theorem dX2_doubled_4 : decode cX2_doubled 4 = .ok (.istore_n 1, 1) := by decide +kernel
theorem dX2_doubled_5 : decode cX2_doubled 5 = .ok (.iload_n 1, 1) := by decide +kernel
theorem dX2_doubled_6 : decode cX2_doubled 6 = .ok (.iconst (-1), 1) := by decide +kernel
theorem dX2_doubled_7 : decode cX2_doubled 7 = .ok (.if_icmp .ne 5, 3) := by decide +kernel
theorem dX2_doubled_10 : decode cX2_doubled 10 = .ok (.iconst (-1), 1) := by decide +kernel
theorem dX2_doubled_11 : decode cX2_doubled 11 = .ok (.ireturn, 1) := by decide +kernel
theorem dX2_doubled_12 : decode cX2_doubled 12 = .ok (.iload_n 1, 1) := by decide +kernel
theorem dX2_doubled_13 : decode cX2_doubled 13 = .ok (.sipush 16384, 3) := by decide +kernel
theorem dX2_doubled_16 : decode cX2_doubled 16 = .ok (.invokestatic 20, 3) := by decide +kernel
theorem dX2_doubled_19 : decode cX2_doubled 19 = .ok (.ifCond .eq 8, 3) := by decide +kernel
theorem dX2_doubled_22 : decode cX2_doubled 22 = .ok (.ldc 19, 2) := by decide +kernel
theorem dX2_doubled_24 : decode cX2_doubled 24 = .ok (.goto 4, 3) := by decide +kernel
theorem dX2_doubled_27 : decode cX2_doubled 27 = .ok (.iconst 0, 1) := by decide +kernel
theorem dX2_doubled_28 : decode cX2_doubled 28 = .ok (.istore_n 2, 1) := by decide +kernel
theorem dX2_doubled_29 : decode cX2_doubled 29 = .ok (.iload_n 1, 1) := by decide +kernel
theorem dX2_doubled_30 : decode cX2_doubled 30 = .ok (.ldc 89, 2) := by decide +kernel
theorem dX2_doubled_32 : decode cX2_doubled 32 = .ok (.invokestatic 20, 3) := by decide +kernel
theorem dX2_doubled_35 : decode cX2_doubled 35 = .ok (.ifCond .eq 8, 3) := by decide +kernel
theorem dX2_doubled_38 : decode cX2_doubled 38 = .ok (.iload_n 2, 1) := by decide +kernel
theorem dX2_doubled_39 : decode cX2_doubled 39 = .ok (.ldc 28, 2) := by decide +kernel
theorem dX2_doubled_41 : decode cX2_doubled 41 = .ok (.ior, 1) := by decide +kernel
theorem dX2_doubled_42 : decode cX2_doubled 42 = .ok (.istore_n 2, 1) := by decide +kernel
theorem dX2_doubled_43 : decode cX2_doubled 43 = .ok (.iload_n 1, 1) := by decide +kernel
theorem dX2_doubled_44 : decode cX2_doubled 44 = .ok (.ldc 90, 2) := by decide +kernel
theorem dX2_doubled_46 : decode cX2_doubled 46 = .ok (.invokestatic 20, 3) := by decide +kernel
theorem dX2_doubled_49 : decode cX2_doubled 49 = .ok (.ifCond .eq 15, 3) := by decide +kernel
theorem dX2_doubled_52 : decode cX2_doubled 52 = .ok (.iload_n 0, 1) := by decide +kernel
theorem dX2_doubled_53 : decode cX2_doubled 53 = .ok (.invokestatic 91, 3) := by decide +kernel
theorem dX2_doubled_56 : decode cX2_doubled 56 = .ok (.ifCond .ne 8, 3) := by decide +kernel
theorem dX2_doubled_59 : decode cX2_doubled 59 = .ok (.iload_n 2, 1) := by decide +kernel
theorem dX2_doubled_60 : decode cX2_doubled 60 = .ok (.ldc 32, 2) := by decide +kernel
theorem dX2_doubled_62 : decode cX2_doubled 62 = .ok (.ior, 1) := by decide +kernel
theorem dX2_doubled_63 : decode cX2_doubled 63 = .ok (.istore_n 2, 1) := by decide +kernel
theorem dX2_doubled_64 : decode cX2_doubled 64 = .ok (.iload_n 1, 1) := by decide +kernel
theorem dX2_doubled_65 : decode cX2_doubled 65 = .ok (.iload_n 2, 1) := by decide +kernel
theorem dX2_doubled_66 : decode cX2_doubled 66 = .ok (.ior, 1) := by decide +kernel
theorem dX2_doubled_67 : decode cX2_doubled 67 = .ok (.ireturn, 1) := by decide +kernel
theorem dX2_answersWhole_0 : decode cX2_answersWhole 0 = .ok (.iload_n 0, 1) := by decide +kernel
theorem dX2_answersWhole_1 : decode cX2_answersWhole 1 = .ok (.bipush 12, 2) := by decide +kernel
theorem dX2_answersWhole_3 : decode cX2_answersWhole 3 = .ok (.if_icmp .lt 9, 3) := by decide +kernel
theorem dX2_answersWhole_6 : decode cX2_answersWhole 6 = .ok (.iload_n 0, 1) := by decide +kernel
theorem dX2_answersWhole_7 : decode cX2_answersWhole 7 = .ok (.bipush 15, 2) := by decide +kernel
theorem dX2_answersWhole_9 : decode cX2_answersWhole 9 = .ok (.if_icmp .le 9, 3) := by decide +kernel
theorem dX2_answersWhole_12 : decode cX2_answersWhole 12 = .ok (.iload_n 0, 1) := by decide +kernel
theorem dX2_answersWhole_13 : decode cX2_answersWhole 13 = .ok (.bipush 36, 2) := by decide +kernel
theorem dX2_answersWhole_15 : decode cX2_answersWhole 15 = .ok (.if_icmp .ne 7, 3) := by decide +kernel
theorem dX2_answersWhole_18 : decode cX2_answersWhole 18 = .ok (.iconst 1, 1) := by decide +kernel
theorem dX2_answersWhole_19 : decode cX2_answersWhole 19 = .ok (.goto 4, 3) := by decide +kernel
theorem dX2_answersWhole_22 : decode cX2_answersWhole 22 = .ok (.iconst 0, 1) := by decide +kernel
theorem dX2_answersWhole_23 : decode cX2_answersWhole 23 = .ok (.ireturn, 1) := by decide +kernel
theorem dX2_fraction_0 : decode cX2_fraction 0 = .ok (.iload_n 0, 1) := by decide +kernel
theorem dX2_fraction_1 : decode cX2_fraction 1 = .ok (.tableswitch 181 0 36 #[163, 163, 163, 166, 169, 172, 172, 172, 181, 181, 181, 181, 172, 172, 172, 172, 181, 175, 178, 178, 181, 181, 181, 181, 181, 181, 181, 181, 181, 181, 181, 181, 181, 181, 181, 181, 172], 163) := by decide +kernel
theorem dX2_fraction_164 : decode cX2_fraction 164 = .ok (.ldc 95, 2) := by decide +kernel
theorem dX2_fraction_166 : decode cX2_fraction 166 = .ok (.ireturn, 1) := by decide +kernel
theorem dX2_fraction_167 : decode cX2_fraction 167 = .ok (.ldc 96, 2) := by decide +kernel
theorem dX2_fraction_169 : decode cX2_fraction 169 = .ok (.ireturn, 1) := by decide +kernel
theorem dX2_fraction_170 : decode cX2_fraction 170 = .ok (.ldc 97, 2) := by decide +kernel
theorem dX2_fraction_172 : decode cX2_fraction 172 = .ok (.ireturn, 1) := by decide +kernel
theorem dX2_fraction_173 : decode cX2_fraction 173 = .ok (.ldc 88, 2) := by decide +kernel
theorem dX2_fraction_175 : decode cX2_fraction 175 = .ok (.ireturn, 1) := by decide +kernel
theorem dX2_fraction_176 : decode cX2_fraction 176 = .ok (.ldc 98, 2) := by decide +kernel
theorem dX2_fraction_178 : decode cX2_fraction 178 = .ok (.ireturn, 1) := by decide +kernel
theorem dX2_fraction_179 : decode cX2_fraction 179 = .ok (.ldc 99, 2) := by decide +kernel
theorem dX2_fraction_181 : decode cX2_fraction 181 = .ok (.ireturn, 1) := by decide +kernel
theorem dX2_fraction_182 : decode cX2_fraction 182 = .ok (.iload_n 0, 1) := by decide +kernel
theorem dX2_fraction_183 : decode cX2_fraction 183 = .ok (.bipush 48, 2) := by decide +kernel
theorem dX2_fraction_185 : decode cX2_fraction 185 = .ok (.if_icmp .lt 8, 3) := by decide +kernel
theorem dX2_fraction_188 : decode cX2_fraction 188 = .ok (.ldc 100, 2) := by decide +kernel
theorem dX2_fraction_190 : decode cX2_fraction 190 = .ok (.goto 4, 3) := by decide +kernel
theorem dX2_fraction_193 : decode cX2_fraction 193 = .ok (.iconst (-1), 1) := by decide +kernel
theorem dX2_fraction_194 : decode cX2_fraction 194 = .ok (.ireturn, 1) := by decide +kernel
theorem dX3_operation_0 : decode cX3_operation 0 = .ok (.iload_n 0, 1) := by decide +kernel
theorem dX3_operation_1 : decode cX3_operation 1 = .ok (.bipush 26, 2) := by decide +kernel
theorem dX3_operation_3 : decode cX3_operation 3 = .ok (.iushr, 1) := by decide +kernel
theorem dX3_operation_4 : decode cX3_operation 4 = .ok (.ireturn, 1) := by decide +kernel
theorem dX3_s_0 : decode cX3_s 0 = .ok (.iload_n 0, 1) := by decide +kernel
theorem dX3_s_1 : decode cX3_s 1 = .ok (.bipush 21, 2) := by decide +kernel
theorem dX3_s_3 : decode cX3_s 3 = .ok (.iushr, 1) := by decide +kernel
theorem dX3_s_4 : decode cX3_s 4 = .ok (.bipush 31, 2) := by decide +kernel
theorem dX3_s_6 : decode cX3_s 6 = .ok (.iand, 1) := by decide +kernel
theorem dX3_s_7 : decode cX3_s 7 = .ok (.ireturn, 1) := by decide +kernel
theorem dX3_t_0 : decode cX3_t 0 = .ok (.iload_n 0, 1) := by decide +kernel
theorem dX3_t_1 : decode cX3_t 1 = .ok (.bipush 16, 2) := by decide +kernel
theorem dX3_t_3 : decode cX3_t 3 = .ok (.iushr, 1) := by decide +kernel
theorem dX3_t_4 : decode cX3_t 4 = .ok (.bipush 31, 2) := by decide +kernel
theorem dX3_t_6 : decode cX3_t 6 = .ok (.iand, 1) := by decide +kernel
theorem dX3_t_7 : decode cX3_t 7 = .ok (.ireturn, 1) := by decide +kernel
theorem dX3_d_0 : decode cX3_d 0 = .ok (.iload_n 0, 1) := by decide +kernel
theorem dX3_d_1 : decode cX3_d 1 = .ok (.bipush 11, 2) := by decide +kernel
theorem dX3_d_3 : decode cX3_d 3 = .ok (.iushr, 1) := by decide +kernel
theorem dX3_d_4 : decode cX3_d 4 = .ok (.bipush 31, 2) := by decide +kernel
theorem dX3_d_6 : decode cX3_d 6 = .ok (.iand, 1) := by decide +kernel
theorem dX3_d_7 : decode cX3_d 7 = .ok (.ireturn, 1) := by decide +kernel
set_option maxRecDepth 20000 in
theorem ggX3_fractionT_X3_t : GoodIn wsX3_fractionT wsX3_t := goodIn_r _ [4] (by decide +kernel) (by decide +kernel)
set_option maxRecDepth 20000 in
theorem gX3_fractionT_X3_t : GoodIn wsX3_fractionT (va_wsS RX3 7 yX3_t wsX3_t) := goodIn_app (goodIn_of _ (by decide +kernel)) ggX3_fractionT_X3_t
theorem dX3_fractionT_0 : decode cX3_fractionT 0 = .ok (.iload_n 0, 1) := by decide +kernel
theorem dX3_fractionT_1 : decode cX3_fractionT 1 = .ok (.invokestatic 7, 3) := by decide +kernel
theorem dX3_fractionT_4 : decode cX3_fractionT 4 = .ok (.ireturn, 1) := by decide +kernel
set_option maxRecDepth 20000 in
theorem ggX3_fractionS_X3_d : GoodIn wsX3_fractionS wsX3_d := goodIn_r _ [4] (by decide +kernel) (by decide +kernel)
set_option maxRecDepth 20000 in
theorem gX3_fractionS_X3_d : GoodIn wsX3_fractionS (va_wsS RX3 13 yX3_d wsX3_d) := goodIn_app (goodIn_of _ (by decide +kernel)) ggX3_fractionS_X3_d
theorem dX3_fractionS_0 : decode cX3_fractionS 0 = .ok (.iload_n 0, 1) := by decide +kernel
theorem dX3_fractionS_1 : decode cX3_fractionS 1 = .ok (.invokestatic 13, 3) := by decide +kernel
theorem dX3_fractionS_4 : decode cX3_fractionS 4 = .ok (.ireturn, 1) := by decide +kernel
theorem dX3_fractionD_0 : decode cX3_fractionD 0 = .ok (.iload_n 0, 1) := by decide +kernel
theorem dX3_fractionD_1 : decode cX3_fractionD 1 = .ok (.bipush 6, 2) := by decide +kernel
theorem dX3_fractionD_3 : decode cX3_fractionD 3 = .ok (.iushr, 1) := by decide +kernel
theorem dX3_fractionD_4 : decode cX3_fractionD 4 = .ok (.bipush 31, 2) := by decide +kernel
theorem dX3_fractionD_6 : decode cX3_fractionD 6 = .ok (.iand, 1) := by decide +kernel
theorem dX3_fractionD_7 : decode cX3_fractionD 7 = .ok (.ireturn, 1) := by decide +kernel
theorem dX3_function_0 : decode cX3_function 0 = .ok (.iload_n 0, 1) := by decide +kernel
theorem dX3_function_1 : decode cX3_function 1 = .ok (.bipush 63, 2) := by decide +kernel
theorem dX3_function_3 : decode cX3_function 3 = .ok (.iand, 1) := by decide +kernel
theorem dX3_function_4 : decode cX3_function 4 = .ok (.ireturn, 1) := by decide +kernel
theorem dX3_offset_0 : decode cX3_offset 0 = .ok (.iload_n 0, 1) := by decide +kernel
theorem dX3_offset_1 : decode cX3_offset 1 = .ok (.i2s, 1) := by decide +kernel
theorem dX3_offset_2 : decode cX3_offset 2 = .ok (.ireturn, 1) := by decide +kernel
theorem dX4_kindOf_0 : decode cX4_kindOf 0 = .ok (.iload_n 0, 1) := by decide +kernel
theorem dX4_kindOf_1 : decode cX4_kindOf 1 = .ok (.bipush 15, 2) := by decide +kernel
theorem dX4_kindOf_3 : decode cX4_kindOf 3 = .ok (.iand, 1) := by decide +kernel
theorem dX4_kindOf_4 : decode cX4_kindOf 4 = .ok (.ireturn, 1) := by decide +kernel
theorem dX4_has_0 : decode cX4_has 0 = .ok (.iload_n 0, 1) := by decide +kernel
theorem dX4_has_1 : decode cX4_has 1 = .ok (.iload_n 1, 1) := by decide +kernel
theorem dX4_has_2 : decode cX4_has 2 = .ok (.iand, 1) := by decide +kernel
theorem dX4_has_3 : decode cX4_has 3 = .ok (.ifCond .eq 7, 3) := by decide +kernel
theorem dX4_has_6 : decode cX4_has 6 = .ok (.iconst 1, 1) := by decide +kernel
theorem dX4_has_7 : decode cX4_has 7 = .ok (.goto 4, 3) := by decide +kernel
theorem dX4_has_10 : decode cX4_has 10 = .ok (.iconst 0, 1) := by decide +kernel
theorem dX4_has_11 : decode cX4_has 11 = .ok (.ireturn, 1) := by decide +kernel
theorem dX5_init_0 : decode cX5_init 0 = .ok (.aload_n 0, 1) := by decide +kernel
theorem dX5_init_1 : decode cX5_init 1 = .ok (.invokespecial 3, 3) := by decide +kernel
theorem dX5_init_4 : decode cX5_init 4 = .ok (.aload_n 0, 1) := by decide +kernel
theorem dX5_init_5 : decode cX5_init 5 = .ok (.iconst 0, 1) := by decide +kernel
theorem dX5_init_6 : decode cX5_init 6 = .ok (.putfield 9, 3) := by decide +kernel
theorem dX5_init_9 : decode cX5_init 9 = .ok (.aload_n 0, 1) := by decide +kernel
theorem dX5_init_10 : decode cX5_init 10 = .ok (.bipush 40, 2) := by decide +kernel
theorem dX5_init_12 : decode cX5_init 12 = .ok (.newarray .int, 2) := by decide +kernel
theorem dX5_init_14 : decode cX5_init 14 = .ok (.putfield 15, 3) := by decide +kernel
theorem dX5_init_17 : decode cX5_init 17 = .ok (.aload_n 0, 1) := by decide +kernel
theorem dX5_init_18 : decode cX5_init 18 = .ok (.bipush 40, 2) := by decide +kernel
theorem dX5_init_20 : decode cX5_init 20 = .ok (.newarray .boolean, 2) := by decide +kernel
theorem dX5_init_22 : decode cX5_init 22 = .ok (.putfield 19, 3) := by decide +kernel
theorem dX5_init_25 : decode cX5_init 25 = .ok (.aload_n 0, 1) := by decide +kernel
theorem dX5_init_26 : decode cX5_init 26 = .ok (.bipush 40, 2) := by decide +kernel
theorem dX5_init_28 : decode cX5_init 28 = .ok (.newarray .int, 2) := by decide +kernel
theorem dX5_init_30 : decode cX5_init 30 = .ok (.putfield 23, 3) := by decide +kernel
theorem dX5_init_33 : decode cX5_init 33 = .ok (.aload_n 0, 1) := by decide +kernel
theorem dX5_init_34 : decode cX5_init 34 = .ok (.bipush 40, 2) := by decide +kernel
theorem dX5_init_36 : decode cX5_init 36 = .ok (.newarray .int, 2) := by decide +kernel
theorem dX5_init_38 : decode cX5_init 38 = .ok (.putfield 26, 3) := by decide +kernel
theorem dX5_init_41 : decode cX5_init 41 = .ok (.return_, 1) := by decide +kernel
set_option maxRecDepth 20000 in
theorem ggX5_asInBlock_X0_sizeWithoutBranch : GoodIn wsX5_asInBlock wsX0_sizeWithoutBranch := goodIn_r _ [7, 8, 9, 10, 11, 6, 12, 13, 19, 20, 21, 22, 23, 24, 25, 26, 27, 28, 29, 30, 31, 32, 33] (by decide +kernel) (by decide +kernel)
set_option maxRecDepth 20000 in
theorem gX5_asInBlock_X0_sizeWithoutBranch : GoodIn wsX5_asInBlock (wsV RX5 29 RX0 yX0_sizeWithoutBranch wsX0_sizeWithoutBranch) := goodIn_app (goodIn_of _ (by decide +kernel)) ggX5_asInBlock_X0_sizeWithoutBranch
theorem dX5_asInBlock_0 : decode cX5_asInBlock 0 = .ok (.aload_n 0, 1) := by decide +kernel
theorem dX5_asInBlock_1 : decode cX5_asInBlock 1 = .ok (.aload_n 1, 1) := by decide +kernel
theorem dX5_asInBlock_2 : decode cX5_asInBlock 2 = .ok (.invokevirtual 29, 3) := by decide +kernel
theorem dX5_asInBlock_5 : decode cX5_asInBlock 5 = .ok (.putfield 9, 3) := by decide +kernel
theorem dX5_asInBlock_8 : decode cX5_asInBlock 8 = .ok (.iconst 0, 1) := by decide +kernel
theorem dX5_asInBlock_9 : decode cX5_asInBlock 9 = .ok (.istore_n 2, 1) := by decide +kernel
theorem dX5_asInBlock_10 : decode cX5_asInBlock 10 = .ok (.iload_n 2, 1) := by decide +kernel
theorem dX5_asInBlock_11 : decode cX5_asInBlock 11 = .ok (.aload_n 0, 1) := by decide +kernel
theorem dX5_asInBlock_12 : decode cX5_asInBlock 12 = .ok (.getfield 9, 3) := by decide +kernel
theorem dX5_asInBlock_15 : decode cX5_asInBlock 15 = .ok (.if_icmp .ge 16, 3) := by decide +kernel
theorem dX5_asInBlock_18 : decode cX5_asInBlock 18 = .ok (.aload_n 0, 1) := by decide +kernel
theorem dX5_asInBlock_19 : decode cX5_asInBlock 19 = .ok (.getfield 15, 3) := by decide +kernel
theorem dX5_asInBlock_22 : decode cX5_asInBlock 22 = .ok (.iload_n 2, 1) := by decide +kernel
theorem dX5_asInBlock_23 : decode cX5_asInBlock 23 = .ok (.iload_n 2, 1) := by decide +kernel
theorem dX5_asInBlock_24 : decode cX5_asInBlock 24 = .ok (.iastore, 1) := by decide +kernel
theorem dX5_asInBlock_25 : decode cX5_asInBlock 25 = .ok (.iinc 2 1, 3) := by decide +kernel
theorem dX5_asInBlock_28 : decode cX5_asInBlock 28 = .ok (.goto (-18), 3) := by decide +kernel
theorem dX5_asInBlock_31 : decode cX5_asInBlock 31 = .ok (.return_, 1) := by decide +kernel
set_option maxRecDepth 20000 in
theorem ggX5_byHeights_X0_sizeWithoutBranch : GoodIn wsX5_byHeights wsX0_sizeWithoutBranch := goodIn_r _ [6, 7, 8, 9, 10, 5, 11, 12, 73, 74, 75, 76, 77, 78, 79, 80, 81, 82, 83, 84, 85, 86, 87] (by decide +kernel) (by decide +kernel)
set_option maxRecDepth 20000 in
theorem gX5_byHeights_X0_sizeWithoutBranch : GoodIn wsX5_byHeights (wsV RX5 29 RX0 yX0_sizeWithoutBranch wsX0_sizeWithoutBranch) := goodIn_app (goodIn_of _ (by decide +kernel)) ggX5_byHeights_X0_sizeWithoutBranch
set_option maxRecDepth 20000 in
theorem ggX5_byHeights_X5_prepare : GoodIn wsX5_byHeights wsX5_prepare := goodIn_r _ [17, 18, 19, 20, 21, 22, 23, 5, 24, 25, 26, 27, 28, 29, 30, 31, 32, 33, 34, 35, 36, 12, 37, 38, 39, 40, 41, 42, 43, 44, 45, 46, 47, 48, 49, 50, 51, 52, 53, 54, 55, 56, 68, 69, 70, 71, 72, 73, 74, 75, 76, 77, 78, 79, 80, 81, 82, 83, 84, 85, 86, 87] (by decide +kernel) (by decide +kernel)
set_option maxRecDepth 20000 in
theorem gX5_byHeights_X5_prepare : GoodIn wsX5_byHeights (wsV RX5 35 RX5 yX5_prepare wsX5_prepare) := goodIn_app (goodIn_of _ (by decide +kernel)) ggX5_byHeights_X5_prepare
set_option maxRecDepth 20000 in
theorem ggX5_byHeights_X5_choose : GoodIn wsX5_byHeights wsX5_choose := goodIn_r _ [60, 18, 20, 19, 61, 68, 69, 70, 71, 72, 73, 74, 75, 76, 77, 78, 79, 80, 81, 82, 83, 84, 85, 86, 87] (by decide +kernel) (by decide +kernel)
set_option maxRecDepth 20000 in
theorem gX5_byHeights_X5_choose : GoodIn wsX5_byHeights (wsV RX5 39 RX5 yX5_choose wsX5_choose) := goodIn_app (goodIn_of _ (by decide +kernel)) ggX5_byHeights_X5_choose
set_option maxRecDepth 20000 in
theorem ggX5_byHeights_X5_place : GoodIn wsX5_byHeights wsX5_place := goodIn_r _ [65, 66, 1, 18, 20, 19, 67, 30, 31, 32, 21, 22, 23, 5, 24, 25, 26, 27, 28, 29, 33, 34, 35, 36, 12, 37, 38, 39, 40, 41, 42, 43, 44, 45, 46, 47, 48, 49, 50, 51, 52, 53, 54, 55, 56, 68, 69, 70, 71, 72, 73, 74, 75, 76, 77, 78, 79, 80, 81, 82, 83, 84, 85, 86, 87] (by decide +kernel) (by decide +kernel)
set_option maxRecDepth 20000 in
theorem gX5_byHeights_X5_place : GoodIn wsX5_byHeights (wsV RX5 43 RX5 yX5_place wsX5_place) := goodIn_app (goodIn_of _ (by decide +kernel)) ggX5_byHeights_X5_place
theorem dX5_byHeights_0 : decode cX5_byHeights 0 = .ok (.aload_n 1, 1) := by decide +kernel
theorem dX5_byHeights_1 : decode cX5_byHeights 1 = .ok (.invokevirtual 29, 3) := by decide +kernel
theorem dX5_byHeights_4 : decode cX5_byHeights 4 = .ok (.istore_n 2, 1) := by decide +kernel
theorem dX5_byHeights_5 : decode cX5_byHeights 5 = .ok (.aload_n 0, 1) := by decide +kernel
theorem dX5_byHeights_6 : decode cX5_byHeights 6 = .ok (.aload_n 1, 1) := by decide +kernel
theorem dX5_byHeights_7 : decode cX5_byHeights 7 = .ok (.iload_n 2, 1) := by decide +kernel
theorem dX5_byHeights_8 : decode cX5_byHeights 8 = .ok (.invokevirtual 35, 3) := by decide +kernel
theorem dX5_byHeights_11 : decode cX5_byHeights 11 = .ok (.aload_n 0, 1) := by decide +kernel
theorem dX5_byHeights_12 : decode cX5_byHeights 12 = .ok (.iconst 0, 1) := by decide +kernel
theorem dX5_byHeights_13 : decode cX5_byHeights 13 = .ok (.putfield 9, 3) := by decide +kernel
theorem dX5_byHeights_16 : decode cX5_byHeights 16 = .ok (.iconst 0, 1) := by decide +kernel
theorem dX5_byHeights_17 : decode cX5_byHeights 17 = .ok (.istore_n 3, 1) := by decide +kernel
theorem dX5_byHeights_18 : decode cX5_byHeights 18 = .ok (.iload_n 3, 1) := by decide +kernel
theorem dX5_byHeights_19 : decode cX5_byHeights 19 = .ok (.sipush 1640, 3) := by decide +kernel
theorem dX5_byHeights_22 : decode cX5_byHeights 22 = .ok (.if_icmp .ge 41, 3) := by decide +kernel
theorem dX5_byHeights_25 : decode cX5_byHeights 25 = .ok (.aload_n 0, 1) := by decide +kernel
theorem dX5_byHeights_26 : decode cX5_byHeights 26 = .ok (.getfield 9, 3) := by decide +kernel
theorem dX5_byHeights_29 : decode cX5_byHeights 29 = .ok (.iload_n 2, 1) := by decide +kernel
theorem dX5_byHeights_30 : decode cX5_byHeights 30 = .ok (.if_icmp .ge 33, 3) := by decide +kernel
theorem dX5_byHeights_33 : decode cX5_byHeights 33 = .ok (.aload_n 0, 1) := by decide +kernel
theorem dX5_byHeights_34 : decode cX5_byHeights 34 = .ok (.aload_n 1, 1) := by decide +kernel
theorem dX5_byHeights_35 : decode cX5_byHeights 35 = .ok (.iload_n 2, 1) := by decide +kernel
theorem dX5_byHeights_36 : decode cX5_byHeights 36 = .ok (.iload_n 3, 1) := by decide +kernel
theorem dX5_byHeights_37 : decode cX5_byHeights 37 = .ok (.invokevirtual 39, 3) := by decide +kernel
theorem dX5_byHeights_40 : decode cX5_byHeights 40 = .ok (.istore 4, 2) := by decide +kernel
theorem dX5_byHeights_42 : decode cX5_byHeights 42 = .ok (.iload 4, 2) := by decide +kernel
theorem dX5_byHeights_44 : decode cX5_byHeights 44 = .ok (.iconst (-1), 1) := by decide +kernel
theorem dX5_byHeights_45 : decode cX5_byHeights 45 = .ok (.if_icmp .eq 12, 3) := by decide +kernel
theorem dX5_byHeights_48 : decode cX5_byHeights 48 = .ok (.aload_n 0, 1) := by decide +kernel
theorem dX5_byHeights_49 : decode cX5_byHeights 49 = .ok (.aload_n 1, 1) := by decide +kernel
theorem dX5_byHeights_50 : decode cX5_byHeights 50 = .ok (.iload_n 2, 1) := by decide +kernel
theorem dX5_byHeights_51 : decode cX5_byHeights 51 = .ok (.iload 4, 2) := by decide +kernel
theorem dX5_byHeights_53 : decode cX5_byHeights 53 = .ok (.iload_n 3, 1) := by decide +kernel
theorem dX5_byHeights_54 : decode cX5_byHeights 54 = .ok (.invokevirtual 43, 3) := by decide +kernel
theorem dX5_byHeights_57 : decode cX5_byHeights 57 = .ok (.iinc 3 1, 3) := by decide +kernel
theorem dX5_byHeights_60 : decode cX5_byHeights 60 = .ok (.goto (-42), 3) := by decide +kernel
theorem dX5_byHeights_63 : decode cX5_byHeights 63 = .ok (.return_, 1) := by decide +kernel
set_option maxRecDepth 20000 in
theorem ggX5_prepare_X0_distance : GoodIn wsX5_prepare wsX0_distance := goodIn_r _ [8, 9, 10, 11, 12, 13, 14, 15, 16, 17, 18, 19, 7, 20, 21, 22, 23, 24, 25, 26, 27, 28, 29, 30, 31, 32, 33, 34, 35, 36, 37, 38, 39, 40, 41, 47, 48, 49, 50, 51, 52, 53, 54, 55, 56, 57, 58, 59, 60, 61] (by decide +kernel) (by decide +kernel)
set_option maxRecDepth 20000 in
theorem gX5_prepare_X0_distance : GoodIn wsX5_prepare (wsV RX5 47 RX0 yX0_distance wsX0_distance) := goodIn_app (goodIn_of _ (by decide +kernel)) ggX5_prepare_X0_distance
theorem dX5_prepare_0 : decode cX5_prepare 0 = .ok (.iconst 0, 1) := by decide +kernel
theorem dX5_prepare_1 : decode cX5_prepare 1 = .ok (.istore_n 3, 1) := by decide +kernel
theorem dX5_prepare_2 : decode cX5_prepare 2 = .ok (.iload_n 3, 1) := by decide +kernel
theorem dX5_prepare_3 : decode cX5_prepare 3 = .ok (.iload_n 2, 1) := by decide +kernel
theorem dX5_prepare_4 : decode cX5_prepare 4 = .ok (.if_icmp .ge 65, 3) := by decide +kernel
theorem dX5_prepare_7 : decode cX5_prepare 7 = .ok (.aload_n 0, 1) := by decide +kernel
theorem dX5_prepare_8 : decode cX5_prepare 8 = .ok (.getfield 19, 3) := by decide +kernel
theorem dX5_prepare_11 : decode cX5_prepare 11 = .ok (.iload_n 3, 1) := by decide +kernel
theorem dX5_prepare_12 : decode cX5_prepare 12 = .ok (.iconst 0, 1) := by decide +kernel
theorem dX5_prepare_13 : decode cX5_prepare 13 = .ok (.bastore, 1) := by decide +kernel
theorem dX5_prepare_14 : decode cX5_prepare 14 = .ok (.aload_n 0, 1) := by decide +kernel
theorem dX5_prepare_15 : decode cX5_prepare 15 = .ok (.getfield 26, 3) := by decide +kernel
theorem dX5_prepare_18 : decode cX5_prepare 18 = .ok (.iload_n 3, 1) := by decide +kernel
theorem dX5_prepare_19 : decode cX5_prepare 19 = .ok (.iconst 0, 1) := by decide +kernel
theorem dX5_prepare_20 : decode cX5_prepare 20 = .ok (.iastore, 1) := by decide +kernel
theorem dX5_prepare_21 : decode cX5_prepare 21 = .ok (.aload_n 0, 1) := by decide +kernel
theorem dX5_prepare_22 : decode cX5_prepare 22 = .ok (.getfield 23, 3) := by decide +kernel
theorem dX5_prepare_25 : decode cX5_prepare 25 = .ok (.iload_n 3, 1) := by decide +kernel
theorem dX5_prepare_26 : decode cX5_prepare 26 = .ok (.iconst 0, 1) := by decide +kernel
theorem dX5_prepare_27 : decode cX5_prepare 27 = .ok (.iastore, 1) := by decide +kernel
theorem dX5_prepare_28 : decode cX5_prepare 28 = .ok (.iconst 0, 1) := by decide +kernel
theorem dX5_prepare_29 : decode cX5_prepare 29 = .ok (.istore 4, 2) := by decide +kernel
theorem dX5_prepare_31 : decode cX5_prepare 31 = .ok (.iload 4, 2) := by decide +kernel
theorem dX5_prepare_33 : decode cX5_prepare 33 = .ok (.iload_n 3, 1) := by decide +kernel
theorem dX5_prepare_34 : decode cX5_prepare 34 = .ok (.if_icmp .ge 29, 3) := by decide +kernel
theorem dX5_prepare_37 : decode cX5_prepare 37 = .ok (.aload_n 1, 1) := by decide +kernel
theorem dX5_prepare_38 : decode cX5_prepare 38 = .ok (.iload_n 3, 1) := by decide +kernel
theorem dX5_prepare_39 : decode cX5_prepare 39 = .ok (.iload 4, 2) := by decide +kernel
theorem dX5_prepare_41 : decode cX5_prepare 41 = .ok (.invokevirtual 47, 3) := by decide +kernel
theorem dX5_prepare_44 : decode cX5_prepare 44 = .ok (.ifCond .le 13, 3) := by decide +kernel
theorem dX5_prepare_47 : decode cX5_prepare 47 = .ok (.aload_n 0, 1) := by decide +kernel
theorem dX5_prepare_48 : decode cX5_prepare 48 = .ok (.getfield 23, 3) := by decide +kernel
theorem dX5_prepare_51 : decode cX5_prepare 51 = .ok (.iload_n 3, 1) := by decide +kernel
theorem dX5_prepare_52 : decode cX5_prepare 52 = .ok (.dup2, 1) := by decide +kernel
theorem dX5_prepare_53 : decode cX5_prepare 53 = .ok (.iaload, 1) := by decide +kernel
theorem dX5_prepare_54 : decode cX5_prepare 54 = .ok (.iconst 1, 1) := by decide +kernel
theorem dX5_prepare_55 : decode cX5_prepare 55 = .ok (.iadd, 1) := by decide +kernel
theorem dX5_prepare_56 : decode cX5_prepare 56 = .ok (.iastore, 1) := by decide +kernel
theorem dX5_prepare_57 : decode cX5_prepare 57 = .ok (.iinc 4 1, 3) := by decide +kernel
theorem dX5_prepare_60 : decode cX5_prepare 60 = .ok (.goto (-29), 3) := by decide +kernel
theorem dX5_prepare_63 : decode cX5_prepare 63 = .ok (.iinc 3 1, 3) := by decide +kernel
theorem dX5_prepare_66 : decode cX5_prepare 66 = .ok (.goto (-64), 3) := by decide +kernel
theorem dX5_prepare_69 : decode cX5_prepare 69 = .ok (.return_, 1) := by decide +kernel
theorem dX5_choose_0 : decode cX5_choose 0 = .ok (.iconst (-1), 1) := by decide +kernel
theorem dX5_choose_1 : decode cX5_choose 1 = .ok (.istore 4, 2) := by decide +kernel
theorem dX5_choose_3 : decode cX5_choose 3 = .ok (.iconst 0, 1) := by decide +kernel
theorem dX5_choose_4 : decode cX5_choose 4 = .ok (.istore 5, 2) := by decide +kernel
theorem dX5_choose_6 : decode cX5_choose 6 = .ok (.iload 5, 2) := by decide +kernel
theorem dX5_choose_8 : decode cX5_choose 8 = .ok (.iload_n 2, 1) := by decide +kernel
theorem dX5_choose_9 : decode cX5_choose 9 = .ok (.if_icmp .ge 79, 3) := by decide +kernel
theorem dX5_choose_12 : decode cX5_choose 12 = .ok (.aload_n 0, 1) := by decide +kernel
theorem dX5_choose_13 : decode cX5_choose 13 = .ok (.getfield 19, 3) := by decide +kernel
theorem dX5_choose_16 : decode cX5_choose 16 = .ok (.iload 5, 2) := by decide +kernel
theorem dX5_choose_18 : decode cX5_choose 18 = .ok (.baload, 1) := by decide +kernel
theorem dX5_choose_19 : decode cX5_choose 19 = .ok (.ifCond .ne 28, 3) := by decide +kernel
theorem dX5_choose_22 : decode cX5_choose 22 = .ok (.aload_n 0, 1) := by decide +kernel
theorem dX5_choose_23 : decode cX5_choose 23 = .ok (.getfield 23, 3) := by decide +kernel
theorem dX5_choose_26 : decode cX5_choose 26 = .ok (.iload 5, 2) := by decide +kernel
theorem dX5_choose_28 : decode cX5_choose 28 = .ok (.iaload, 1) := by decide +kernel
theorem dX5_choose_29 : decode cX5_choose 29 = .ok (.ifCond .ne 18, 3) := by decide +kernel
theorem dX5_choose_32 : decode cX5_choose 32 = .ok (.aload_n 0, 1) := by decide +kernel
theorem dX5_choose_33 : decode cX5_choose 33 = .ok (.getfield 26, 3) := by decide +kernel
theorem dX5_choose_36 : decode cX5_choose 36 = .ok (.iload 5, 2) := by decide +kernel
theorem dX5_choose_38 : decode cX5_choose 38 = .ok (.iaload, 1) := by decide +kernel
theorem dX5_choose_39 : decode cX5_choose 39 = .ok (.iload_n 3, 1) := by decide +kernel
theorem dX5_choose_40 : decode cX5_choose 40 = .ok (.if_icmp .gt 7, 3) := by decide +kernel
theorem dX5_choose_43 : decode cX5_choose 43 = .ok (.iconst 1, 1) := by decide +kernel
theorem dX5_choose_44 : decode cX5_choose 44 = .ok (.goto 4, 3) := by decide +kernel
theorem dX5_choose_47 : decode cX5_choose 47 = .ok (.iconst 0, 1) := by decide +kernel
theorem dX5_choose_48 : decode cX5_choose 48 = .ok (.istore 6, 2) := by decide +kernel
theorem dX5_choose_50 : decode cX5_choose 50 = .ok (.iload 6, 2) := by decide +kernel
theorem dX5_choose_52 : decode cX5_choose 52 = .ok (.ifCond .eq 30, 3) := by decide +kernel
theorem dX5_choose_55 : decode cX5_choose 55 = .ok (.iload 4, 2) := by decide +kernel
theorem dX5_choose_57 : decode cX5_choose 57 = .ok (.iconst (-1), 1) := by decide +kernel
theorem dX5_choose_58 : decode cX5_choose 58 = .ok (.if_icmp .eq 20, 3) := by decide +kernel
theorem dX5_choose_61 : decode cX5_choose 61 = .ok (.aload_n 1, 1) := by decide +kernel
theorem dX5_choose_62 : decode cX5_choose 62 = .ok (.getfield 51, 3) := by decide +kernel
theorem dX5_choose_65 : decode cX5_choose 65 = .ok (.iload 5, 2) := by decide +kernel
theorem dX5_choose_67 : decode cX5_choose 67 = .ok (.iaload, 1) := by decide +kernel
theorem dX5_choose_68 : decode cX5_choose 68 = .ok (.aload_n 1, 1) := by decide +kernel
theorem dX5_choose_69 : decode cX5_choose 69 = .ok (.getfield 51, 3) := by decide +kernel
theorem dX5_choose_72 : decode cX5_choose 72 = .ok (.iload 4, 2) := by decide +kernel
theorem dX5_choose_74 : decode cX5_choose 74 = .ok (.iaload, 1) := by decide +kernel
theorem dX5_choose_75 : decode cX5_choose 75 = .ok (.if_icmp .le 7, 3) := by decide +kernel
theorem dX5_choose_78 : decode cX5_choose 78 = .ok (.iload 5, 2) := by decide +kernel
theorem dX5_choose_80 : decode cX5_choose 80 = .ok (.istore 4, 2) := by decide +kernel
theorem dX5_choose_82 : decode cX5_choose 82 = .ok (.iinc 5 1, 3) := by decide +kernel
theorem dX5_choose_85 : decode cX5_choose 85 = .ok (.goto (-79), 3) := by decide +kernel
theorem dX5_choose_88 : decode cX5_choose 88 = .ok (.iload 4, 2) := by decide +kernel
theorem dX5_choose_90 : decode cX5_choose 90 = .ok (.ireturn, 1) := by decide +kernel
set_option maxRecDepth 20000 in
theorem ggX5_place_X0_distance : GoodIn wsX5_place wsX0_distance := goodIn_r _ [14, 15, 16, 17, 18, 19, 7, 8, 9, 20, 21, 22, 13, 23, 24, 25, 26, 27, 28, 29, 30, 31, 32, 33, 34, 35, 36, 37, 38, 39, 40, 41, 42, 43, 44, 50, 51, 52, 53, 54, 55, 56, 57, 58, 59, 60, 61, 62, 63, 64] (by decide +kernel) (by decide +kernel)
set_option maxRecDepth 20000 in
theorem gX5_place_X0_distance : GoodIn wsX5_place (wsV RX5 47 RX0 yX0_distance wsX0_distance) := goodIn_app (goodIn_of _ (by decide +kernel)) ggX5_place_X0_distance
theorem dX5_place_0 : decode cX5_place 0 = .ok (.aload_n 0, 1) := by decide +kernel
theorem dX5_place_1 : decode cX5_place 1 = .ok (.getfield 15, 3) := by decide +kernel
theorem dX5_place_4 : decode cX5_place 4 = .ok (.aload_n 0, 1) := by decide +kernel
theorem dX5_place_5 : decode cX5_place 5 = .ok (.getfield 9, 3) := by decide +kernel
theorem dX5_place_8 : decode cX5_place 8 = .ok (.iload_n 3, 1) := by decide +kernel
theorem dX5_place_9 : decode cX5_place 9 = .ok (.iastore, 1) := by decide +kernel
theorem dX5_place_10 : decode cX5_place 10 = .ok (.aload_n 0, 1) := by decide +kernel
theorem dX5_place_11 : decode cX5_place 11 = .ok (.dup, 1) := by decide +kernel
theorem dX5_place_12 : decode cX5_place 12 = .ok (.getfield 9, 3) := by decide +kernel
theorem dX5_place_15 : decode cX5_place 15 = .ok (.iconst 1, 1) := by decide +kernel
theorem dX5_place_16 : decode cX5_place 16 = .ok (.iadd, 1) := by decide +kernel
theorem dX5_place_17 : decode cX5_place 17 = .ok (.putfield 9, 3) := by decide +kernel
theorem dX5_place_20 : decode cX5_place 20 = .ok (.aload_n 0, 1) := by decide +kernel
theorem dX5_place_21 : decode cX5_place 21 = .ok (.getfield 19, 3) := by decide +kernel
theorem dX5_place_24 : decode cX5_place 24 = .ok (.iload_n 3, 1) := by decide +kernel
theorem dX5_place_25 : decode cX5_place 25 = .ok (.iconst 1, 1) := by decide +kernel
theorem dX5_place_26 : decode cX5_place 26 = .ok (.bastore, 1) := by decide +kernel
theorem dX5_place_27 : decode cX5_place 27 = .ok (.iload_n 3, 1) := by decide +kernel
theorem dX5_place_28 : decode cX5_place 28 = .ok (.iconst 1, 1) := by decide +kernel
theorem dX5_place_29 : decode cX5_place 29 = .ok (.iadd, 1) := by decide +kernel
theorem dX5_place_30 : decode cX5_place 30 = .ok (.istore 5, 2) := by decide +kernel
theorem dX5_place_32 : decode cX5_place 32 = .ok (.iload 5, 2) := by decide +kernel
theorem dX5_place_34 : decode cX5_place 34 = .ok (.iload_n 2, 1) := by decide +kernel
theorem dX5_place_35 : decode cX5_place 35 = .ok (.if_icmp .ge 56, 3) := by decide +kernel
theorem dX5_place_38 : decode cX5_place 38 = .ok (.aload_n 1, 1) := by decide +kernel
theorem dX5_place_39 : decode cX5_place 39 = .ok (.iload 5, 2) := by decide +kernel
theorem dX5_place_41 : decode cX5_place 41 = .ok (.iload_n 3, 1) := by decide +kernel
theorem dX5_place_42 : decode cX5_place 42 = .ok (.invokevirtual 47, 3) := by decide +kernel
theorem dX5_place_45 : decode cX5_place 45 = .ok (.istore 6, 2) := by decide +kernel
theorem dX5_place_47 : decode cX5_place 47 = .ok (.iload 6, 2) := by decide +kernel
theorem dX5_place_49 : decode cX5_place 49 = .ok (.ifCond .le 36, 3) := by decide +kernel
theorem dX5_place_52 : decode cX5_place 52 = .ok (.aload_n 0, 1) := by decide +kernel
theorem dX5_place_53 : decode cX5_place 53 = .ok (.getfield 23, 3) := by decide +kernel
theorem dX5_place_56 : decode cX5_place 56 = .ok (.iload 5, 2) := by decide +kernel
theorem dX5_place_58 : decode cX5_place 58 = .ok (.dup2, 1) := by decide +kernel
theorem dX5_place_59 : decode cX5_place 59 = .ok (.iaload, 1) := by decide +kernel
theorem dX5_place_60 : decode cX5_place 60 = .ok (.iconst 1, 1) := by decide +kernel
theorem dX5_place_61 : decode cX5_place 61 = .ok (.isub, 1) := by decide +kernel
theorem dX5_place_62 : decode cX5_place 62 = .ok (.iastore, 1) := by decide +kernel
theorem dX5_place_63 : decode cX5_place 63 = .ok (.aload_n 0, 1) := by decide +kernel
theorem dX5_place_64 : decode cX5_place 64 = .ok (.getfield 26, 3) := by decide +kernel
theorem dX5_place_67 : decode cX5_place 67 = .ok (.iload 5, 2) := by decide +kernel
theorem dX5_place_69 : decode cX5_place 69 = .ok (.aload_n 0, 1) := by decide +kernel
theorem dX5_place_70 : decode cX5_place 70 = .ok (.getfield 26, 3) := by decide +kernel
theorem dX5_place_73 : decode cX5_place 73 = .ok (.iload 5, 2) := by decide +kernel
theorem dX5_place_75 : decode cX5_place 75 = .ok (.iaload, 1) := by decide +kernel
theorem dX5_place_76 : decode cX5_place 76 = .ok (.iload 4, 2) := by decide +kernel
theorem dX5_place_78 : decode cX5_place 78 = .ok (.iload 6, 2) := by decide +kernel
theorem dX5_place_80 : decode cX5_place 80 = .ok (.iadd, 1) := by decide +kernel
theorem dX5_place_81 : decode cX5_place 81 = .ok (.invokestatic 54, 3) := by decide +kernel
theorem dX5_place_84 : decode cX5_place 84 = .ok (.iastore, 1) := by decide +kernel
theorem dX5_place_85 : decode cX5_place 85 = .ok (.iinc 5 1, 3) := by decide +kernel
theorem dX5_place_88 : decode cX5_place 88 = .ok (.goto (-56), 3) := by decide +kernel
theorem dX5_place_91 : decode cX5_place 91 = .ok (.return_, 1) := by decide +kernel
theorem dX6_init_0 : decode cX6_init 0 = .ok (.aload_n 0, 1) := by decide +kernel
theorem dX6_init_1 : decode cX6_init 1 = .ok (.invokespecial 3, 3) := by decide +kernel
theorem dX6_init_4 : decode cX6_init 4 = .ok (.aload_n 0, 1) := by decide +kernel
theorem dX6_init_5 : decode cX6_init 5 = .ok (.iconst 0, 1) := by decide +kernel
theorem dX6_init_6 : decode cX6_init 6 = .ok (.putfield 9, 3) := by decide +kernel
theorem dX6_init_9 : decode cX6_init 9 = .ok (.aload_n 0, 1) := by decide +kernel
theorem dX6_init_10 : decode cX6_init 10 = .ok (.bipush 41, 2) := by decide +kernel
theorem dX6_init_12 : decode cX6_init 12 = .ok (.newarray .int, 2) := by decide +kernel
theorem dX6_init_14 : decode cX6_init 14 = .ok (.putfield 15, 3) := by decide +kernel
theorem dX6_init_17 : decode cX6_init 17 = .ok (.aload_n 0, 1) := by decide +kernel
theorem dX6_init_18 : decode cX6_init 18 = .ok (.bipush 41, 2) := by decide +kernel
theorem dX6_init_20 : decode cX6_init 20 = .ok (.newarray .int, 2) := by decide +kernel
theorem dX6_init_22 : decode cX6_init 22 = .ok (.putfield 19, 3) := by decide +kernel
theorem dX6_init_25 : decode cX6_init 25 = .ok (.aload_n 0, 1) := by decide +kernel
theorem dX6_init_26 : decode cX6_init 26 = .ok (.iconst 0, 1) := by decide +kernel
theorem dX6_init_27 : decode cX6_init 27 = .ok (.putfield 22, 3) := by decide +kernel
theorem dX6_init_30 : decode cX6_init 30 = .ok (.aload_n 0, 1) := by decide +kernel
theorem dX6_init_31 : decode cX6_init 31 = .ok (.iconst 0, 1) := by decide +kernel
theorem dX6_init_32 : decode cX6_init 32 = .ok (.putfield 25, 3) := by decide +kernel
theorem dX6_init_35 : decode cX6_init 35 = .ok (.aload_n 0, 1) := by decide +kernel
theorem dX6_init_36 : decode cX6_init 36 = .ok (.iconst 0, 1) := by decide +kernel
theorem dX6_init_37 : decode cX6_init 37 = .ok (.putfield 28, 3) := by decide +kernel
theorem dX6_init_40 : decode cX6_init 40 = .ok (.aload_n 0, 1) := by decide +kernel
theorem dX6_init_41 : decode cX6_init 41 = .ok (.bipush 41, 2) := by decide +kernel
theorem dX6_init_43 : decode cX6_init 43 = .ok (.newarray .int, 2) := by decide +kernel
theorem dX6_init_45 : decode cX6_init 45 = .ok (.putfield 31, 3) := by decide +kernel
theorem dX6_init_48 : decode cX6_init 48 = .ok (.return_, 1) := by decide +kernel
set_option maxRecDepth 20000 in
theorem ggX6_take_X6_spare : GoodIn wsX6_take wsX6_spare := goodIn_r _ [11, 12, 6, 4, 5, 13, 14, 15, 16, 17, 18, 19, 20, 21, 91, 92, 93, 94, 95, 96, 97, 98, 99, 100, 101, 102, 103, 104, 105, 86, 87, 88, 89, 90] (by decide +kernel) (by decide +kernel)
set_option maxRecDepth 20000 in
theorem gX6_take_X6_spare : GoodIn wsX6_take (va_wsS RX6 34 yX6_spare wsX6_spare) := goodIn_app (goodIn_of _ (by decide +kernel)) ggX6_take_X6_spare
set_option maxRecDepth 20000 in
theorem ggX6_take_X6_put : GoodIn wsX6_take wsX6_put := goodIn_r _ [25, 1, 26, 27, 28, 79, 80, 81, 82, 83, 84, 85, 91, 92, 93, 94, 95, 96, 97, 98, 99, 100, 101, 102, 103, 104, 105] (by decide +kernel) (by decide +kernel)
set_option maxRecDepth 20000 in
theorem gX6_take_X6_put : GoodIn wsX6_take (wsV RX6 44 RX6 yX6_put wsX6_put) := goodIn_app (goodIn_of _ (by decide +kernel)) ggX6_take_X6_put
set_option maxRecDepth 20000 in
theorem ggX6_take_X0_endsInBranch : GoodIn wsX6_take wsX0_endsInBranch := goodIn_r _ [19, 20, 21, 91, 92, 93, 94, 95, 96, 97, 98, 99, 100, 101, 102, 103, 104, 105] (by decide +kernel) (by decide +kernel)
set_option maxRecDepth 20000 in
theorem gX6_take_X0_endsInBranch : GoodIn wsX6_take (wsV RX6 48 RX0 yX0_endsInBranch wsX0_endsInBranch) := goodIn_app (goodIn_of _ (by decide +kernel)) ggX6_take_X0_endsInBranch
set_option maxRecDepth 20000 in
theorem ggX6_take_X6_fillSlot : GoodIn wsX6_take wsX6_fillSlot := goodIn_r _ [32, 2, 3, 22, 23, 24, 10, 25, 1, 26, 27, 28, 79, 80, 81, 82, 83, 84, 85, 91, 92, 93, 94, 95, 96, 97, 98, 99, 100, 101, 102, 103, 104, 105] (by decide +kernel) (by decide +kernel)
set_option maxRecDepth 20000 in
theorem gX6_take_X6_fillSlot : GoodIn wsX6_take (wsV RX6 55 RX6 yX6_fillSlot wsX6_fillSlot) := goodIn_app (goodIn_of _ (by decide +kernel)) ggX6_take_X6_fillSlot
set_option maxRecDepth 20000 in
theorem ggX6_take_X6_run : GoodIn wsX6_take wsX6_run := goodIn_r _ [36, 1, 37, 38, 39, 40, 41, 42, 43, 44, 10, 45, 28, 46, 47, 48, 18, 49, 50, 51, 52, 53, 54, 55, 56, 57, 58, 21, 59, 60, 61, 62, 63, 64, 65, 66, 67, 68, 69, 70, 71, 72, 73, 74, 75, 76, 77, 78, 79, 80, 81, 82, 83, 84, 85, 91, 92, 93, 94, 95, 96, 97, 98, 99, 100, 101, 102, 103, 104, 105] (by decide +kernel) (by decide +kernel)
set_option maxRecDepth 20000 in
theorem gX6_take_X6_run : GoodIn wsX6_take (wsV RX6 58 RX6 yX6_run wsX6_run) := goodIn_app (goodIn_of _ (by decide +kernel)) ggX6_take_X6_run
theorem dX6_take_0 : decode cX6_take 0 = .ok (.aload_n 0, 1) := by decide +kernel
theorem dX6_take_1 : decode cX6_take 1 = .ok (.iconst 0, 1) := by decide +kernel
theorem dX6_take_2 : decode cX6_take 2 = .ok (.putfield 9, 3) := by decide +kernel
theorem dX6_take_5 : decode cX6_take 5 = .ok (.aload_n 0, 1) := by decide +kernel
theorem dX6_take_6 : decode cX6_take 6 = .ok (.iconst 0, 1) := by decide +kernel
theorem dX6_take_7 : decode cX6_take 7 = .ok (.putfield 25, 3) := by decide +kernel
theorem dX6_take_10 : decode cX6_take 10 = .ok (.aload_n 0, 1) := by decide +kernel
theorem dX6_take_11 : decode cX6_take 11 = .ok (.iconst 0, 1) := by decide +kernel
theorem dX6_take_12 : decode cX6_take 12 = .ok (.putfield 28, 3) := by decide +kernel
theorem dX6_take_15 : decode cX6_take 15 = .ok (.iload_n 3, 1) := by decide +kernel
theorem dX6_take_16 : decode cX6_take 16 = .ok (.ifCond .eq 11, 3) := by decide +kernel
theorem dX6_take_19 : decode cX6_take 19 = .ok (.aload_n 1, 1) := by decide +kernel
theorem dX6_take_20 : decode cX6_take 20 = .ok (.aload_n 2, 1) := by decide +kernel
theorem dX6_take_21 : decode cX6_take 21 = .ok (.invokestatic 34, 3) := by decide +kernel
theorem dX6_take_24 : decode cX6_take 24 = .ok (.goto 4, 3) := by decide +kernel
theorem dX6_take_27 : decode cX6_take 27 = .ok (.iconst (-1), 1) := by decide +kernel
theorem dX6_take_28 : decode cX6_take 28 = .ok (.istore 4, 2) := by decide +kernel
theorem dX6_take_30 : decode cX6_take 30 = .ok (.iconst 0, 1) := by decide +kernel
theorem dX6_take_31 : decode cX6_take 31 = .ok (.istore 5, 2) := by decide +kernel
theorem dX6_take_33 : decode cX6_take 33 = .ok (.iload 5, 2) := by decide +kernel
theorem dX6_take_35 : decode cX6_take 35 = .ok (.aload_n 2, 1) := by decide +kernel
theorem dX6_take_36 : decode cX6_take 36 = .ok (.getfield 38, 3) := by decide +kernel
theorem dX6_take_39 : decode cX6_take 39 = .ok (.if_icmp .ge 33, 3) := by decide +kernel
theorem dX6_take_42 : decode cX6_take 42 = .ok (.aload_n 2, 1) := by decide +kernel
theorem dX6_take_43 : decode cX6_take 43 = .ok (.getfield 41, 3) := by decide +kernel
theorem dX6_take_46 : decode cX6_take 46 = .ok (.iload 5, 2) := by decide +kernel
theorem dX6_take_48 : decode cX6_take 48 = .ok (.iaload, 1) := by decide +kernel
theorem dX6_take_49 : decode cX6_take 49 = .ok (.iload 4, 2) := by decide +kernel
theorem dX6_take_51 : decode cX6_take 51 = .ok (.if_icmp .eq 15, 3) := by decide +kernel
theorem dX6_take_54 : decode cX6_take 54 = .ok (.aload_n 0, 1) := by decide +kernel
theorem dX6_take_55 : decode cX6_take 55 = .ok (.aload_n 1, 1) := by decide +kernel
theorem dX6_take_56 : decode cX6_take 56 = .ok (.aload_n 2, 1) := by decide +kernel
theorem dX6_take_57 : decode cX6_take 57 = .ok (.getfield 41, 3) := by decide +kernel
theorem dX6_take_60 : decode cX6_take 60 = .ok (.iload 5, 2) := by decide +kernel
theorem dX6_take_62 : decode cX6_take 62 = .ok (.iaload, 1) := by decide +kernel
theorem dX6_take_63 : decode cX6_take 63 = .ok (.invokevirtual 44, 3) := by decide +kernel
theorem dX6_take_66 : decode cX6_take 66 = .ok (.iinc 5 1, 3) := by decide +kernel
theorem dX6_take_69 : decode cX6_take 69 = .ok (.goto (-36), 3) := by decide +kernel
theorem dX6_take_72 : decode cX6_take 72 = .ok (.aload_n 1, 1) := by decide +kernel
theorem dX6_take_73 : decode cX6_take 73 = .ok (.invokevirtual 48, 3) := by decide +kernel
theorem dX6_take_76 : decode cX6_take 76 = .ok (.ifCond .eq 21, 3) := by decide +kernel
theorem dX6_take_79 : decode cX6_take 79 = .ok (.aload_n 0, 1) := by decide +kernel
theorem dX6_take_80 : decode cX6_take 80 = .ok (.aload_n 1, 1) := by decide +kernel
theorem dX6_take_81 : decode cX6_take 81 = .ok (.aload_n 1, 1) := by decide +kernel
theorem dX6_take_82 : decode cX6_take 82 = .ok (.getfield 54, 3) := by decide +kernel
theorem dX6_take_85 : decode cX6_take 85 = .ok (.iconst 1, 1) := by decide +kernel
theorem dX6_take_86 : decode cX6_take 86 = .ok (.isub, 1) := by decide +kernel
theorem dX6_take_87 : decode cX6_take 87 = .ok (.invokevirtual 44, 3) := by decide +kernel
theorem dX6_take_90 : decode cX6_take 90 = .ok (.aload_n 0, 1) := by decide +kernel
theorem dX6_take_91 : decode cX6_take 91 = .ok (.aload_n 1, 1) := by decide +kernel
theorem dX6_take_92 : decode cX6_take 92 = .ok (.iload 4, 2) := by decide +kernel
theorem dX6_take_94 : decode cX6_take 94 = .ok (.invokevirtual 55, 3) := by decide +kernel
theorem dX6_take_97 : decode cX6_take 97 = .ok (.aload_n 0, 1) := by decide +kernel
theorem dX6_take_98 : decode cX6_take 98 = .ok (.aload_n 0, 1) := by decide +kernel
theorem dX6_take_99 : decode cX6_take 99 = .ok (.aload_n 1, 1) := by decide +kernel
theorem dX6_take_100 : decode cX6_take 100 = .ok (.invokevirtual 58, 3) := by decide +kernel
theorem dX6_take_103 : decode cX6_take 103 = .ok (.putfield 22, 3) := by decide +kernel
theorem dX6_take_106 : decode cX6_take 106 = .ok (.return_, 1) := by decide +kernel
set_option maxRecDepth 20000 in
theorem ggX6_spare_X0_endsInBranch : GoodIn wsX6_spare wsX0_endsInBranch := goodIn_r _ [11, 12, 13, 14, 15, 16, 17, 18, 19, 20, 21, 22, 23, 24, 25, 26, 27, 28] (by decide +kernel) (by decide +kernel)
set_option maxRecDepth 20000 in
theorem gX6_spare_X0_endsInBranch : GoodIn wsX6_spare (wsV RX6 48 RX0 yX0_endsInBranch wsX0_endsInBranch) := goodIn_app (goodIn_of _ (by decide +kernel)) ggX6_spare_X0_endsInBranch
theorem dX6_spare_0 : decode cX6_spare 0 = .ok (.aload_n 0, 1) := by decide +kernel
theorem dX6_spare_1 : decode cX6_spare 1 = .ok (.invokevirtual 48, 3) := by decide +kernel
theorem dX6_spare_4 : decode cX6_spare 4 = .ok (.ifCond .eq 17, 3) := by decide +kernel
theorem dX6_spare_7 : decode cX6_spare 7 = .ok (.aload_n 0, 1) := by decide +kernel
theorem dX6_spare_8 : decode cX6_spare 8 = .ok (.getfield 62, 3) := by decide +kernel
theorem dX6_spare_11 : decode cX6_spare 11 = .ok (.aload_n 0, 1) := by decide +kernel
theorem dX6_spare_12 : decode cX6_spare 12 = .ok (.getfield 54, 3) := by decide +kernel
theorem dX6_spare_15 : decode cX6_spare 15 = .ok (.iconst 1, 1) := by decide +kernel
theorem dX6_spare_16 : decode cX6_spare 16 = .ok (.isub, 1) := by decide +kernel
theorem dX6_spare_17 : decode cX6_spare 17 = .ok (.baload, 1) := by decide +kernel
theorem dX6_spare_18 : decode cX6_spare 18 = .ok (.ifCond .eq 5, 3) := by decide +kernel
theorem dX6_spare_21 : decode cX6_spare 21 = .ok (.iconst (-1), 1) := by decide +kernel
theorem dX6_spare_22 : decode cX6_spare 22 = .ok (.ireturn, 1) := by decide +kernel
theorem dX6_spare_23 : decode cX6_spare 23 = .ok (.aload_n 1, 1) := by decide +kernel
theorem dX6_spare_24 : decode cX6_spare 24 = .ok (.getfield 38, 3) := by decide +kernel
theorem dX6_spare_27 : decode cX6_spare 27 = .ok (.iconst 1, 1) := by decide +kernel
theorem dX6_spare_28 : decode cX6_spare 28 = .ok (.isub, 1) := by decide +kernel
theorem dX6_spare_29 : decode cX6_spare 29 = .ok (.istore_n 2, 1) := by decide +kernel
theorem dX6_spare_30 : decode cX6_spare 30 = .ok (.iload_n 2, 1) := by decide +kernel
theorem dX6_spare_31 : decode cX6_spare 31 = .ok (.ifCond .lt 38, 3) := by decide +kernel
theorem dX6_spare_34 : decode cX6_spare 34 = .ok (.aload_n 1, 1) := by decide +kernel
theorem dX6_spare_35 : decode cX6_spare 35 = .ok (.getfield 41, 3) := by decide +kernel
theorem dX6_spare_38 : decode cX6_spare 38 = .ok (.iload_n 2, 1) := by decide +kernel
theorem dX6_spare_39 : decode cX6_spare 39 = .ok (.iaload, 1) := by decide +kernel
theorem dX6_spare_40 : decode cX6_spare 40 = .ok (.istore_n 3, 1) := by decide +kernel
theorem dX6_spare_41 : decode cX6_spare 41 = .ok (.aload_n 0, 1) := by decide +kernel
theorem dX6_spare_42 : decode cX6_spare 42 = .ok (.getfield 66, 3) := by decide +kernel
theorem dX6_spare_45 : decode cX6_spare 45 = .ok (.iload_n 3, 1) := by decide +kernel
theorem dX6_spare_46 : decode cX6_spare 46 = .ok (.baload, 1) := by decide +kernel
theorem dX6_spare_47 : decode cX6_spare 47 = .ok (.ifCond .ne 16, 3) := by decide +kernel
theorem dX6_spare_50 : decode cX6_spare 50 = .ok (.aload_n 0, 1) := by decide +kernel
theorem dX6_spare_51 : decode cX6_spare 51 = .ok (.getfield 69, 3) := by decide +kernel
theorem dX6_spare_54 : decode cX6_spare 54 = .ok (.iload_n 3, 1) := by decide +kernel
theorem dX6_spare_55 : decode cX6_spare 55 = .ok (.iaload, 1) := by decide +kernel
theorem dX6_spare_56 : decode cX6_spare 56 = .ok (.bipush 8, 2) := by decide +kernel
theorem dX6_spare_58 : decode cX6_spare 58 = .ok (.if_icmp .eq 5, 3) := by decide +kernel
theorem dX6_spare_61 : decode cX6_spare 61 = .ok (.iload_n 3, 1) := by decide +kernel
theorem dX6_spare_62 : decode cX6_spare 62 = .ok (.ireturn, 1) := by decide +kernel
theorem dX6_spare_63 : decode cX6_spare 63 = .ok (.iinc 2 (-1), 3) := by decide +kernel
theorem dX6_spare_66 : decode cX6_spare 66 = .ok (.goto (-36), 3) := by decide +kernel
theorem dX6_spare_69 : decode cX6_spare 69 = .ok (.iconst (-1), 1) := by decide +kernel
theorem dX6_spare_70 : decode cX6_spare 70 = .ok (.ireturn, 1) := by decide +kernel
set_option maxRecDepth 20000 in
theorem ggX6_fillSlot_X6_put : GoodIn wsX6_fillSlot wsX6_put := goodIn_r _ [7, 8, 9, 10, 11, 12, 13, 14, 15, 16, 17, 18, 19, 20, 21, 22, 23, 24, 25, 26, 27, 28, 29, 30, 31, 32, 33] (by decide +kernel) (by decide +kernel)
set_option maxRecDepth 20000 in
theorem gX6_fillSlot_X6_put : GoodIn wsX6_fillSlot (wsV RX6 44 RX6 yX6_put wsX6_put) := goodIn_app (goodIn_of _ (by decide +kernel)) ggX6_fillSlot_X6_put
theorem dX6_fillSlot_0 : decode cX6_fillSlot 0 = .ok (.aload_n 0, 1) := by decide +kernel
theorem dX6_fillSlot_1 : decode cX6_fillSlot 1 = .ok (.aload_n 1, 1) := by decide +kernel
theorem dX6_fillSlot_2 : decode cX6_fillSlot 2 = .ok (.iload_n 2, 1) := by decide +kernel
theorem dX6_fillSlot_3 : decode cX6_fillSlot 3 = .ok (.invokevirtual 44, 3) := by decide +kernel
theorem dX6_fillSlot_6 : decode cX6_fillSlot 6 = .ok (.iload_n 2, 1) := by decide +kernel
theorem dX6_fillSlot_7 : decode cX6_fillSlot 7 = .ok (.iconst (-1), 1) := by decide +kernel
theorem dX6_fillSlot_8 : decode cX6_fillSlot 8 = .ok (.if_icmp .ne 16, 3) := by decide +kernel
theorem dX6_fillSlot_11 : decode cX6_fillSlot 11 = .ok (.aload_n 0, 1) := by decide +kernel
theorem dX6_fillSlot_12 : decode cX6_fillSlot 12 = .ok (.dup, 1) := by decide +kernel
theorem dX6_fillSlot_13 : decode cX6_fillSlot 13 = .ok (.getfield 25, 3) := by decide +kernel
theorem dX6_fillSlot_16 : decode cX6_fillSlot 16 = .ok (.iconst 1, 1) := by decide +kernel
theorem dX6_fillSlot_17 : decode cX6_fillSlot 17 = .ok (.iadd, 1) := by decide +kernel
theorem dX6_fillSlot_18 : decode cX6_fillSlot 18 = .ok (.putfield 25, 3) := by decide +kernel
theorem dX6_fillSlot_21 : decode cX6_fillSlot 21 = .ok (.goto 8, 3) := by decide +kernel
theorem dX6_fillSlot_24 : decode cX6_fillSlot 24 = .ok (.aload_n 0, 1) := by decide +kernel
theorem dX6_fillSlot_25 : decode cX6_fillSlot 25 = .ok (.iconst 1, 1) := by decide +kernel
theorem dX6_fillSlot_26 : decode cX6_fillSlot 26 = .ok (.putfield 28, 3) := by decide +kernel
theorem dX6_fillSlot_29 : decode cX6_fillSlot 29 = .ok (.return_, 1) := by decide +kernel
theorem dX6_put_0 : decode cX6_put 0 = .ok (.aload_n 0, 1) := by decide +kernel
theorem dX6_put_1 : decode cX6_put 1 = .ok (.getfield 9, 3) := by decide +kernel
theorem dX6_put_4 : decode cX6_put 4 = .ok (.bipush 41, 2) := by decide +kernel
theorem dX6_put_6 : decode cX6_put 6 = .ok (.if_icmp .lt 4, 3) := by decide +kernel
theorem dX6_put_9 : decode cX6_put 9 = .ok (.return_, 1) := by decide +kernel
theorem dX6_put_10 : decode cX6_put 10 = .ok (.aload_n 0, 1) := by decide +kernel
theorem dX6_put_11 : decode cX6_put 11 = .ok (.getfield 15, 3) := by decide +kernel
theorem dX6_put_14 : decode cX6_put 14 = .ok (.aload_n 0, 1) := by decide +kernel
theorem dX6_put_15 : decode cX6_put 15 = .ok (.getfield 9, 3) := by decide +kernel
theorem dX6_put_18 : decode cX6_put 18 = .ok (.iload_n 2, 1) := by decide +kernel
theorem dX6_put_19 : decode cX6_put 19 = .ok (.iconst (-1), 1) := by decide +kernel
theorem dX6_put_20 : decode cX6_put 20 = .ok (.if_icmp .ne 7, 3) := by decide +kernel
theorem dX6_put_23 : decode cX6_put 23 = .ok (.iconst 0, 1) := by decide +kernel
theorem dX6_put_24 : decode cX6_put 24 = .ok (.goto 9, 3) := by decide +kernel
theorem dX6_put_27 : decode cX6_put 27 = .ok (.aload_n 1, 1) := by decide +kernel
theorem dX6_put_28 : decode cX6_put 28 = .ok (.getfield 74, 3) := by decide +kernel
theorem dX6_put_31 : decode cX6_put 31 = .ok (.iload_n 2, 1) := by decide +kernel
theorem dX6_put_32 : decode cX6_put 32 = .ok (.iaload, 1) := by decide +kernel
theorem dX6_put_33 : decode cX6_put 33 = .ok (.iastore, 1) := by decide +kernel
theorem dX6_put_34 : decode cX6_put 34 = .ok (.aload_n 0, 1) := by decide +kernel
theorem dX6_put_35 : decode cX6_put 35 = .ok (.getfield 19, 3) := by decide +kernel
theorem dX6_put_38 : decode cX6_put 38 = .ok (.aload_n 0, 1) := by decide +kernel
theorem dX6_put_39 : decode cX6_put 39 = .ok (.getfield 9, 3) := by decide +kernel
theorem dX6_put_42 : decode cX6_put 42 = .ok (.iload_n 2, 1) := by decide +kernel
theorem dX6_put_43 : decode cX6_put 43 = .ok (.iastore, 1) := by decide +kernel
theorem dX6_put_44 : decode cX6_put 44 = .ok (.aload_n 0, 1) := by decide +kernel
theorem dX6_put_45 : decode cX6_put 45 = .ok (.dup, 1) := by decide +kernel
theorem dX6_put_46 : decode cX6_put 46 = .ok (.getfield 9, 3) := by decide +kernel
theorem dX6_put_49 : decode cX6_put 49 = .ok (.iconst 1, 1) := by decide +kernel
theorem dX6_put_50 : decode cX6_put 50 = .ok (.iadd, 1) := by decide +kernel
theorem dX6_put_51 : decode cX6_put 51 = .ok (.putfield 9, 3) := by decide +kernel
theorem dX6_put_54 : decode cX6_put 54 = .ok (.return_, 1) := by decide +kernel
set_option maxRecDepth 20000 in
theorem ggX6_run_X6_distanceOf : GoodIn wsX6_run wsX6_distanceOf := goodIn_r _ [11, 12, 13, 14, 15, 16, 17, 18, 19, 20, 21, 22, 4, 5, 6, 23, 24, 25, 26, 27, 28, 29, 30, 31, 32, 33, 34, 35, 36, 37, 38, 39, 40, 41, 42, 43, 44, 45, 46, 47, 48, 49, 50, 51, 52, 53, 54, 55, 56, 57, 58, 59, 60, 61, 62, 63, 64, 65, 66, 67, 68, 69] (by decide +kernel) (by decide +kernel)
set_option maxRecDepth 20000 in
theorem gX6_run_X6_distanceOf : GoodIn wsX6_run (wsV RX6 75 RX6 yX6_distanceOf wsX6_distanceOf) := goodIn_app (goodIn_of _ (by decide +kernel)) ggX6_run_X6_distanceOf
theorem dX6_run_0 : decode cX6_run 0 = .ok (.iconst 0, 1) := by decide +kernel
theorem dX6_run_1 : decode cX6_run 1 = .ok (.istore_n 2, 1) := by decide +kernel
theorem dX6_run_2 : decode cX6_run 2 = .ok (.iload_n 2, 1) := by decide +kernel
theorem dX6_run_3 : decode cX6_run 3 = .ok (.aload_n 0, 1) := by decide +kernel
theorem dX6_run_4 : decode cX6_run 4 = .ok (.getfield 9, 3) := by decide +kernel
theorem dX6_run_7 : decode cX6_run 7 = .ok (.if_icmp .ge 71, 3) := by decide +kernel
theorem dX6_run_10 : decode cX6_run 10 = .ok (.iload_n 2, 1) := by decide +kernel
theorem dX6_run_11 : decode cX6_run 11 = .ok (.ifCond .ne 7, 3) := by decide +kernel
theorem dX6_run_14 : decode cX6_run 14 = .ok (.iconst 0, 1) := by decide +kernel
theorem dX6_run_15 : decode cX6_run 15 = .ok (.goto 13, 3) := by decide +kernel
theorem dX6_run_18 : decode cX6_run 18 = .ok (.aload_n 0, 1) := by decide +kernel
theorem dX6_run_19 : decode cX6_run 19 = .ok (.getfield 31, 3) := by decide +kernel
theorem dX6_run_22 : decode cX6_run 22 = .ok (.iload_n 2, 1) := by decide +kernel
theorem dX6_run_23 : decode cX6_run 23 = .ok (.iconst 1, 1) := by decide +kernel
theorem dX6_run_24 : decode cX6_run 24 = .ok (.isub, 1) := by decide +kernel
theorem dX6_run_25 : decode cX6_run 25 = .ok (.iaload, 1) := by decide +kernel
theorem dX6_run_26 : decode cX6_run 26 = .ok (.iconst 1, 1) := by decide +kernel
theorem dX6_run_27 : decode cX6_run 27 = .ok (.iadd, 1) := by decide +kernel
theorem dX6_run_28 : decode cX6_run 28 = .ok (.istore_n 3, 1) := by decide +kernel
theorem dX6_run_29 : decode cX6_run 29 = .ok (.iconst 0, 1) := by decide +kernel
theorem dX6_run_30 : decode cX6_run 30 = .ok (.istore 4, 2) := by decide +kernel
theorem dX6_run_32 : decode cX6_run 32 = .ok (.iload 4, 2) := by decide +kernel
theorem dX6_run_34 : decode cX6_run 34 = .ok (.iload_n 2, 1) := by decide +kernel
theorem dX6_run_35 : decode cX6_run 35 = .ok (.if_icmp .ge 30, 3) := by decide +kernel
theorem dX6_run_38 : decode cX6_run 38 = .ok (.iload_n 3, 1) := by decide +kernel
theorem dX6_run_39 : decode cX6_run 39 = .ok (.aload_n 0, 1) := by decide +kernel
theorem dX6_run_40 : decode cX6_run 40 = .ok (.getfield 31, 3) := by decide +kernel
theorem dX6_run_43 : decode cX6_run 43 = .ok (.iload 4, 2) := by decide +kernel
theorem dX6_run_45 : decode cX6_run 45 = .ok (.iaload, 1) := by decide +kernel
theorem dX6_run_46 : decode cX6_run 46 = .ok (.aload_n 0, 1) := by decide +kernel
theorem dX6_run_47 : decode cX6_run 47 = .ok (.aload_n 1, 1) := by decide +kernel
theorem dX6_run_48 : decode cX6_run 48 = .ok (.iload_n 2, 1) := by decide +kernel
theorem dX6_run_49 : decode cX6_run 49 = .ok (.iload 4, 2) := by decide +kernel
theorem dX6_run_51 : decode cX6_run 51 = .ok (.invokevirtual 75, 3) := by decide +kernel
theorem dX6_run_54 : decode cX6_run 54 = .ok (.iadd, 1) := by decide +kernel
theorem dX6_run_55 : decode cX6_run 55 = .ok (.invokestatic 79, 3) := by decide +kernel
theorem dX6_run_58 : decode cX6_run 58 = .ok (.istore_n 3, 1) := by decide +kernel
theorem dX6_run_59 : decode cX6_run 59 = .ok (.iinc 4 1, 3) := by decide +kernel
theorem dX6_run_62 : decode cX6_run 62 = .ok (.goto (-30), 3) := by decide +kernel
theorem dX6_run_65 : decode cX6_run 65 = .ok (.aload_n 0, 1) := by decide +kernel
theorem dX6_run_66 : decode cX6_run 66 = .ok (.getfield 31, 3) := by decide +kernel
theorem dX6_run_69 : decode cX6_run 69 = .ok (.iload_n 2, 1) := by decide +kernel
theorem dX6_run_70 : decode cX6_run 70 = .ok (.iload_n 3, 1) := by decide +kernel
theorem dX6_run_71 : decode cX6_run 71 = .ok (.iastore, 1) := by decide +kernel
theorem dX6_run_72 : decode cX6_run 72 = .ok (.iinc 2 1, 3) := by decide +kernel
theorem dX6_run_75 : decode cX6_run 75 = .ok (.goto (-73), 3) := by decide +kernel
theorem dX6_run_78 : decode cX6_run 78 = .ok (.aload_n 0, 1) := by decide +kernel
theorem dX6_run_79 : decode cX6_run 79 = .ok (.getfield 9, 3) := by decide +kernel
theorem dX6_run_82 : decode cX6_run 82 = .ok (.ifCond .ne 7, 3) := by decide +kernel
theorem dX6_run_85 : decode cX6_run 85 = .ok (.iconst 0, 1) := by decide +kernel
theorem dX6_run_86 : decode cX6_run 86 = .ok (.goto 16, 3) := by decide +kernel
theorem dX6_run_89 : decode cX6_run 89 = .ok (.aload_n 0, 1) := by decide +kernel
theorem dX6_run_90 : decode cX6_run 90 = .ok (.getfield 31, 3) := by decide +kernel
theorem dX6_run_93 : decode cX6_run 93 = .ok (.aload_n 0, 1) := by decide +kernel
theorem dX6_run_94 : decode cX6_run 94 = .ok (.getfield 9, 3) := by decide +kernel
theorem dX6_run_97 : decode cX6_run 97 = .ok (.iconst 1, 1) := by decide +kernel
theorem dX6_run_98 : decode cX6_run 98 = .ok (.isub, 1) := by decide +kernel
theorem dX6_run_99 : decode cX6_run 99 = .ok (.iaload, 1) := by decide +kernel
theorem dX6_run_100 : decode cX6_run 100 = .ok (.iconst 1, 1) := by decide +kernel
theorem dX6_run_101 : decode cX6_run 101 = .ok (.iadd, 1) := by decide +kernel
theorem dX6_run_102 : decode cX6_run 102 = .ok (.ireturn, 1) := by decide +kernel
set_option maxRecDepth 20000 in
theorem ggX6_distanceOf_X0_distance : GoodIn wsX6_distanceOf wsX0_distance := goodIn_r _ [6, 7, 8, 9, 10, 11, 12, 13, 14, 15, 16, 17, 5, 18, 19, 20, 21, 22, 23, 24, 25, 26, 27, 28, 29, 30, 31, 32, 33, 34, 35, 36, 37, 38, 39, 47, 48, 49, 50, 51, 52, 53, 54, 55, 56, 57, 58, 59, 60, 61] (by decide +kernel) (by decide +kernel)
set_option maxRecDepth 20000 in
theorem gX6_distanceOf_X0_distance : GoodIn wsX6_distanceOf (wsV RX6 85 RX0 yX0_distance wsX0_distance) := goodIn_app (goodIn_of _ (by decide +kernel)) ggX6_distanceOf_X0_distance
theorem dX6_distanceOf_0 : decode cX6_distanceOf 0 = .ok (.aload_n 0, 1) := by decide +kernel
theorem dX6_distanceOf_1 : decode cX6_distanceOf 1 = .ok (.getfield 19, 3) := by decide +kernel
theorem dX6_distanceOf_4 : decode cX6_distanceOf 4 = .ok (.iload_n 2, 1) := by decide +kernel
theorem dX6_distanceOf_5 : decode cX6_distanceOf 5 = .ok (.iaload, 1) := by decide +kernel
theorem dX6_distanceOf_6 : decode cX6_distanceOf 6 = .ok (.iconst (-1), 1) := by decide +kernel
theorem dX6_distanceOf_7 : decode cX6_distanceOf 7 = .ok (.if_icmp .eq 13, 3) := by decide +kernel
theorem dX6_distanceOf_10 : decode cX6_distanceOf 10 = .ok (.aload_n 0, 1) := by decide +kernel
theorem dX6_distanceOf_11 : decode cX6_distanceOf 11 = .ok (.getfield 19, 3) := by decide +kernel
theorem dX6_distanceOf_14 : decode cX6_distanceOf 14 = .ok (.iload_n 3, 1) := by decide +kernel
theorem dX6_distanceOf_15 : decode cX6_distanceOf 15 = .ok (.iaload, 1) := by decide +kernel
theorem dX6_distanceOf_16 : decode cX6_distanceOf 16 = .ok (.iconst (-1), 1) := by decide +kernel
theorem dX6_distanceOf_17 : decode cX6_distanceOf 17 = .ok (.if_icmp .ne 5, 3) := by decide +kernel
theorem dX6_distanceOf_20 : decode cX6_distanceOf 20 = .ok (.iconst 0, 1) := by decide +kernel
theorem dX6_distanceOf_21 : decode cX6_distanceOf 21 = .ok (.ireturn, 1) := by decide +kernel
theorem dX6_distanceOf_22 : decode cX6_distanceOf 22 = .ok (.aload_n 1, 1) := by decide +kernel
theorem dX6_distanceOf_23 : decode cX6_distanceOf 23 = .ok (.aload_n 0, 1) := by decide +kernel
theorem dX6_distanceOf_24 : decode cX6_distanceOf 24 = .ok (.getfield 19, 3) := by decide +kernel
theorem dX6_distanceOf_27 : decode cX6_distanceOf 27 = .ok (.iload_n 2, 1) := by decide +kernel
theorem dX6_distanceOf_28 : decode cX6_distanceOf 28 = .ok (.iaload, 1) := by decide +kernel
theorem dX6_distanceOf_29 : decode cX6_distanceOf 29 = .ok (.aload_n 0, 1) := by decide +kernel
theorem dX6_distanceOf_30 : decode cX6_distanceOf 30 = .ok (.getfield 19, 3) := by decide +kernel
theorem dX6_distanceOf_33 : decode cX6_distanceOf 33 = .ok (.iload_n 3, 1) := by decide +kernel
theorem dX6_distanceOf_34 : decode cX6_distanceOf 34 = .ok (.iaload, 1) := by decide +kernel
theorem dX6_distanceOf_35 : decode cX6_distanceOf 35 = .ok (.invokevirtual 85, 3) := by decide +kernel
theorem dX6_distanceOf_38 : decode cX6_distanceOf 38 = .ok (.ireturn, 1) := by decide +kernel
set_option maxRecDepth 20000 in
theorem ggX7_reads_X4_has : GoodIn wsX7_reads wsX4_has := goodIn_r _ [6] (by decide +kernel) (by decide +kernel)
set_option maxRecDepth 20000 in
theorem gX7_reads_X4_has : GoodIn wsX7_reads (va_wsS RX7 9 yX4_has wsX4_has) := goodIn_app (goodIn_of _ (by decide +kernel)) ggX7_reads_X4_has
set_option maxRecDepth 20000 in
theorem ggX7_reads_X3_s : GoodIn wsX7_reads wsX3_s := goodIn_r _ [10] (by decide +kernel) (by decide +kernel)
set_option maxRecDepth 20000 in
theorem gX7_reads_X3_s : GoodIn wsX7_reads (va_wsS RX7 13 yX3_s wsX3_s) := goodIn_app (goodIn_of _ (by decide +kernel)) ggX7_reads_X3_s
set_option maxRecDepth 20000 in
theorem ggX7_reads_X7_register : GoodIn wsX7_reads wsX7_register := goodIn_r _ [14] (by decide +kernel) (by decide +kernel)
set_option maxRecDepth 20000 in
theorem gX7_reads_X7_register : GoodIn wsX7_reads (va_wsS RX7 19 yX7_register wsX7_register) := goodIn_app (goodIn_of _ (by decide +kernel)) ggX7_reads_X7_register
set_option maxRecDepth 20000 in
theorem ggX7_reads_X3_t : GoodIn wsX7_reads wsX3_t := goodIn_r _ [17] (by decide +kernel) (by decide +kernel)
set_option maxRecDepth 20000 in
theorem gX7_reads_X3_t : GoodIn wsX7_reads (va_wsS RX7 25 yX3_t wsX3_t) := goodIn_app (goodIn_of _ (by decide +kernel)) ggX7_reads_X3_t
set_option maxRecDepth 20000 in
theorem ggX7_reads_X3_d : GoodIn wsX7_reads wsX3_d := goodIn_r _ [20] (by decide +kernel) (by decide +kernel)
set_option maxRecDepth 20000 in
theorem gX7_reads_X3_d : GoodIn wsX7_reads (va_wsS RX7 28 yX3_d wsX3_d) := goodIn_app (goodIn_of _ (by decide +kernel)) ggX7_reads_X3_d
theorem dX7_reads_0 : decode cX7_reads 0 = .ok (.lconst 0, 1) := by decide +kernel
theorem dX7_reads_1 : decode cX7_reads 1 = .ok (.lstore_n 2, 1) := by decide +kernel
theorem dX7_reads_2 : decode cX7_reads 2 = .ok (.iload_n 1, 1) := by decide +kernel
theorem dX7_reads_3 : decode cX7_reads 3 = .ok (.bipush 16, 2) := by decide +kernel
theorem dX7_reads_5 : decode cX7_reads 5 = .ok (.invokestatic 9, 3) := by decide +kernel
theorem dX7_reads_8 : decode cX7_reads 8 = .ok (.ifCond .eq 13, 3) := by decide +kernel
theorem dX7_reads_11 : decode cX7_reads 11 = .ok (.lload_n 2, 1) := by decide +kernel
theorem dX7_reads_12 : decode cX7_reads 12 = .ok (.iload_n 0, 1) := by decide +kernel
theorem dX7_reads_13 : decode cX7_reads 13 = .ok (.invokestatic 13, 3) := by decide +kernel
theorem dX7_reads_16 : decode cX7_reads 16 = .ok (.invokestatic 19, 3) := by decide +kernel
theorem dX7_reads_19 : decode cX7_reads 19 = .ok (.lor, 1) := by decide +kernel
theorem dX7_reads_20 : decode cX7_reads 20 = .ok (.lstore_n 2, 1) := by decide +kernel
theorem dX7_reads_21 : decode cX7_reads 21 = .ok (.iload_n 1, 1) := by decide +kernel
theorem dX7_reads_22 : decode cX7_reads 22 = .ok (.bipush 32, 2) := by decide +kernel
theorem dX7_reads_24 : decode cX7_reads 24 = .ok (.invokestatic 9, 3) := by decide +kernel
theorem dX7_reads_27 : decode cX7_reads 27 = .ok (.ifCond .eq 13, 3) := by decide +kernel
theorem dX7_reads_30 : decode cX7_reads 30 = .ok (.lload_n 2, 1) := by decide +kernel
theorem dX7_reads_31 : decode cX7_reads 31 = .ok (.iload_n 0, 1) := by decide +kernel
theorem dX7_reads_32 : decode cX7_reads 32 = .ok (.invokestatic 25, 3) := by decide +kernel
theorem dX7_reads_35 : decode cX7_reads 35 = .ok (.invokestatic 19, 3) := by decide +kernel
theorem dX7_reads_38 : decode cX7_reads 38 = .ok (.lor, 1) := by decide +kernel
theorem dX7_reads_39 : decode cX7_reads 39 = .ok (.lstore_n 2, 1) := by decide +kernel
theorem dX7_reads_40 : decode cX7_reads 40 = .ok (.iload_n 1, 1) := by decide +kernel
theorem dX7_reads_41 : decode cX7_reads 41 = .ok (.bipush 64, 2) := by decide +kernel
theorem dX7_reads_43 : decode cX7_reads 43 = .ok (.invokestatic 9, 3) := by decide +kernel
theorem dX7_reads_46 : decode cX7_reads 46 = .ok (.ifCond .eq 13, 3) := by decide +kernel
theorem dX7_reads_49 : decode cX7_reads 49 = .ok (.lload_n 2, 1) := by decide +kernel
theorem dX7_reads_50 : decode cX7_reads 50 = .ok (.iload_n 0, 1) := by decide +kernel
theorem dX7_reads_51 : decode cX7_reads 51 = .ok (.invokestatic 28, 3) := by decide +kernel
theorem dX7_reads_54 : decode cX7_reads 54 = .ok (.invokestatic 19, 3) := by decide +kernel
theorem dX7_reads_57 : decode cX7_reads 57 = .ok (.lor, 1) := by decide +kernel
theorem dX7_reads_58 : decode cX7_reads 58 = .ok (.lstore_n 2, 1) := by decide +kernel
theorem dX7_reads_59 : decode cX7_reads 59 = .ok (.iload_n 1, 1) := by decide +kernel
theorem dX7_reads_60 : decode cX7_reads 60 = .ok (.sipush 1024, 3) := by decide +kernel
theorem dX7_reads_63 : decode cX7_reads 63 = .ok (.invokestatic 9, 3) := by decide +kernel
theorem dX7_reads_66 : decode cX7_reads 66 = .ok (.ifCond .eq 9, 3) := by decide +kernel
theorem dX7_reads_69 : decode cX7_reads 69 = .ok (.lload_n 2, 1) := by decide +kernel
theorem dX7_reads_70 : decode cX7_reads 70 = .ok (.ldc2_w 31, 3) := by decide +kernel
theorem dX7_reads_73 : decode cX7_reads 73 = .ok (.lor, 1) := by decide +kernel
theorem dX7_reads_74 : decode cX7_reads 74 = .ok (.lstore_n 2, 1) := by decide +kernel
theorem dX7_reads_75 : decode cX7_reads 75 = .ok (.iload_n 1, 1) := by decide +kernel
theorem dX7_reads_76 : decode cX7_reads 76 = .ok (.sipush 4096, 3) := by decide +kernel
theorem dX7_reads_79 : decode cX7_reads 79 = .ok (.invokestatic 9, 3) := by decide +kernel
theorem dX7_reads_82 : decode cX7_reads 82 = .ok (.ifCond .eq 9, 3) := by decide +kernel
theorem dX7_reads_85 : decode cX7_reads 85 = .ok (.lload_n 2, 1) := by decide +kernel
theorem dX7_reads_86 : decode cX7_reads 86 = .ok (.ldc2_w 33, 3) := by decide +kernel
theorem dX7_reads_89 : decode cX7_reads 89 = .ok (.lor, 1) := by decide +kernel
theorem dX7_reads_90 : decode cX7_reads 90 = .ok (.lstore_n 2, 1) := by decide +kernel
theorem dX7_reads_91 : decode cX7_reads 91 = .ok (.lload_n 2, 1) := by decide +kernel
theorem dX7_reads_92 : decode cX7_reads 92 = .ok (.lreturn, 1) := by decide +kernel
set_option maxRecDepth 20000 in
theorem ggX7_writes_X4_has : GoodIn wsX7_writes wsX4_has := goodIn_r _ [6] (by decide +kernel) (by decide +kernel)
set_option maxRecDepth 20000 in
theorem gX7_writes_X4_has : GoodIn wsX7_writes (va_wsS RX7 9 yX4_has wsX4_has) := goodIn_app (goodIn_of _ (by decide +kernel)) ggX7_writes_X4_has
set_option maxRecDepth 20000 in
theorem ggX7_writes_X3_t : GoodIn wsX7_writes wsX3_t := goodIn_r _ [10] (by decide +kernel) (by decide +kernel)
set_option maxRecDepth 20000 in
theorem gX7_writes_X3_t : GoodIn wsX7_writes (va_wsS RX7 25 yX3_t wsX3_t) := goodIn_app (goodIn_of _ (by decide +kernel)) ggX7_writes_X3_t
set_option maxRecDepth 20000 in
theorem ggX7_writes_X7_register : GoodIn wsX7_writes wsX7_register := goodIn_r _ [14] (by decide +kernel) (by decide +kernel)
set_option maxRecDepth 20000 in
theorem gX7_writes_X7_register : GoodIn wsX7_writes (va_wsS RX7 19 yX7_register wsX7_register) := goodIn_app (goodIn_of _ (by decide +kernel)) ggX7_writes_X7_register
set_option maxRecDepth 20000 in
theorem ggX7_writes_X3_d : GoodIn wsX7_writes wsX3_d := goodIn_r _ [17] (by decide +kernel) (by decide +kernel)
set_option maxRecDepth 20000 in
theorem gX7_writes_X3_d : GoodIn wsX7_writes (va_wsS RX7 28 yX3_d wsX3_d) := goodIn_app (goodIn_of _ (by decide +kernel)) ggX7_writes_X3_d
theorem dX7_writes_0 : decode cX7_writes 0 = .ok (.lconst 0, 1) := by decide +kernel
theorem dX7_writes_1 : decode cX7_writes 1 = .ok (.lstore_n 2, 1) := by decide +kernel
theorem dX7_writes_2 : decode cX7_writes 2 = .ok (.iload_n 1, 1) := by decide +kernel
theorem dX7_writes_3 : decode cX7_writes 3 = .ok (.sipush 128, 3) := by decide +kernel
theorem dX7_writes_6 : decode cX7_writes 6 = .ok (.invokestatic 9, 3) := by decide +kernel
theorem dX7_writes_9 : decode cX7_writes 9 = .ok (.ifCond .eq 13, 3) := by decide +kernel
theorem dX7_writes_12 : decode cX7_writes 12 = .ok (.lload_n 2, 1) := by decide +kernel
theorem dX7_writes_13 : decode cX7_writes 13 = .ok (.iload_n 0, 1) := by decide +kernel
theorem dX7_writes_14 : decode cX7_writes 14 = .ok (.invokestatic 25, 3) := by decide +kernel
theorem dX7_writes_17 : decode cX7_writes 17 = .ok (.invokestatic 19, 3) := by decide +kernel
theorem dX7_writes_20 : decode cX7_writes 20 = .ok (.lor, 1) := by decide +kernel
theorem dX7_writes_21 : decode cX7_writes 21 = .ok (.lstore_n 2, 1) := by decide +kernel
theorem dX7_writes_22 : decode cX7_writes 22 = .ok (.iload_n 1, 1) := by decide +kernel
theorem dX7_writes_23 : decode cX7_writes 23 = .ok (.sipush 256, 3) := by decide +kernel
theorem dX7_writes_26 : decode cX7_writes 26 = .ok (.invokestatic 9, 3) := by decide +kernel
theorem dX7_writes_29 : decode cX7_writes 29 = .ok (.ifCond .eq 13, 3) := by decide +kernel
theorem dX7_writes_32 : decode cX7_writes 32 = .ok (.lload_n 2, 1) := by decide +kernel
theorem dX7_writes_33 : decode cX7_writes 33 = .ok (.iload_n 0, 1) := by decide +kernel
theorem dX7_writes_34 : decode cX7_writes 34 = .ok (.invokestatic 28, 3) := by decide +kernel
theorem dX7_writes_37 : decode cX7_writes 37 = .ok (.invokestatic 19, 3) := by decide +kernel
theorem dX7_writes_40 : decode cX7_writes 40 = .ok (.lor, 1) := by decide +kernel
theorem dX7_writes_41 : decode cX7_writes 41 = .ok (.lstore_n 2, 1) := by decide +kernel
theorem dX7_writes_42 : decode cX7_writes 42 = .ok (.iload_n 1, 1) := by decide +kernel
theorem dX7_writes_43 : decode cX7_writes 43 = .ok (.sipush 512, 3) := by decide +kernel
theorem dX7_writes_46 : decode cX7_writes 46 = .ok (.invokestatic 9, 3) := by decide +kernel
theorem dX7_writes_49 : decode cX7_writes 49 = .ok (.ifCond .eq 11, 3) := by decide +kernel
theorem dX7_writes_52 : decode cX7_writes 52 = .ok (.lload_n 2, 1) := by decide +kernel
theorem dX7_writes_53 : decode cX7_writes 53 = .ok (.bipush 31, 2) := by decide +kernel
theorem dX7_writes_55 : decode cX7_writes 55 = .ok (.invokestatic 19, 3) := by decide +kernel
theorem dX7_writes_58 : decode cX7_writes 58 = .ok (.lor, 1) := by decide +kernel
theorem dX7_writes_59 : decode cX7_writes 59 = .ok (.lstore_n 2, 1) := by decide +kernel
theorem dX7_writes_60 : decode cX7_writes 60 = .ok (.iload_n 1, 1) := by decide +kernel
theorem dX7_writes_61 : decode cX7_writes 61 = .ok (.sipush 2048, 3) := by decide +kernel
theorem dX7_writes_64 : decode cX7_writes 64 = .ok (.invokestatic 9, 3) := by decide +kernel
theorem dX7_writes_67 : decode cX7_writes 67 = .ok (.ifCond .eq 9, 3) := by decide +kernel
theorem dX7_writes_70 : decode cX7_writes 70 = .ok (.lload_n 2, 1) := by decide +kernel
theorem dX7_writes_71 : decode cX7_writes 71 = .ok (.ldc2_w 31, 3) := by decide +kernel
theorem dX7_writes_74 : decode cX7_writes 74 = .ok (.lor, 1) := by decide +kernel
theorem dX7_writes_75 : decode cX7_writes 75 = .ok (.lstore_n 2, 1) := by decide +kernel
theorem dX7_writes_76 : decode cX7_writes 76 = .ok (.iload_n 1, 1) := by decide +kernel
theorem dX7_writes_77 : decode cX7_writes 77 = .ok (.sipush 8192, 3) := by decide +kernel
theorem dX7_writes_80 : decode cX7_writes 80 = .ok (.invokestatic 9, 3) := by decide +kernel
theorem dX7_writes_83 : decode cX7_writes 83 = .ok (.ifCond .eq 9, 3) := by decide +kernel
theorem dX7_writes_86 : decode cX7_writes 86 = .ok (.lload_n 2, 1) := by decide +kernel
theorem dX7_writes_87 : decode cX7_writes 87 = .ok (.ldc2_w 33, 3) := by decide +kernel
theorem dX7_writes_90 : decode cX7_writes 90 = .ok (.lor, 1) := by decide +kernel
theorem dX7_writes_91 : decode cX7_writes 91 = .ok (.lstore_n 2, 1) := by decide +kernel
theorem dX7_writes_92 : decode cX7_writes 92 = .ok (.lload_n 2, 1) := by decide +kernel
theorem dX7_writes_93 : decode cX7_writes 93 = .ok (.lreturn, 1) := by decide +kernel
set_option maxRecDepth 20000 in
theorem ggX7_readsFractions_X4_has : GoodIn wsX7_readsFractions wsX4_has := goodIn_r _ [6] (by decide +kernel) (by decide +kernel)
set_option maxRecDepth 20000 in
theorem gX7_readsFractions_X4_has : GoodIn wsX7_readsFractions (va_wsS RX7 9 yX4_has wsX4_has) := goodIn_app (goodIn_of _ (by decide +kernel)) ggX7_readsFractions_X4_has
set_option maxRecDepth 20000 in
theorem ggX7_readsFractions_X7_fractionS : GoodIn wsX7_readsFractions wsX7_fractionS := goodIn_r _ [10, 11, 12, 13, 14, 15, 16, 17, 18, 3, 4, 5, 6, 19, 20, 9, 21] (by decide +kernel) (by decide +kernel)
end
section
set_option maxRecDepth 20000 in
theorem gX7_readsFractions_X7_fractionS : GoodIn wsX7_readsFractions (va_wsS RX7 35 yX7_fractionS wsX7_fractionS) := goodIn_app (goodIn_of _ (by decide +kernel)) ggX7_readsFractions_X7_fractionS
set_option maxRecDepth 20000 in
theorem ggX7_readsFractions_X7_fractionT : GoodIn wsX7_readsFractions wsX7_fractionT := goodIn_r _ [24, 25, 26, 27, 14, 28, 29, 30, 31, 3, 4, 5, 6, 19, 20, 9, 21] (by decide +kernel) (by decide +kernel)
set_option maxRecDepth 20000 in
theorem gX7_readsFractions_X7_fractionT : GoodIn wsX7_readsFractions (va_wsS RX7 40 yX7_fractionT wsX7_fractionT) := goodIn_app (goodIn_of _ (by decide +kernel)) ggX7_readsFractions_X7_fractionT
set_option maxRecDepth 20000 in
theorem ggX7_readsFractions_X7_fractionD : GoodIn wsX7_readsFractions wsX7_fractionD := goodIn_r _ [34, 35, 36, 37, 14, 38, 3, 4, 5, 6, 19, 20, 9, 21] (by decide +kernel) (by decide +kernel)
set_option maxRecDepth 20000 in
theorem gX7_readsFractions_X7_fractionD : GoodIn wsX7_readsFractions (va_wsS RX7 44 yX7_fractionD wsX7_fractionD) := goodIn_app (goodIn_of _ (by decide +kernel)) ggX7_readsFractions_X7_fractionD
theorem dX7_readsFractions_0 : decode cX7_readsFractions 0 = .ok (.iconst 0, 1) := by decide +kernel
theorem dX7_readsFractions_1 : decode cX7_readsFractions 1 = .ok (.istore_n 2, 1) := by decide +kernel
theorem dX7_readsFractions_2 : decode cX7_readsFractions 2 = .ok (.iload_n 1, 1) := by decide +kernel
theorem dX7_readsFractions_3 : decode cX7_readsFractions 3 = .ok (.sipush 16384, 3) := by decide +kernel
theorem dX7_readsFractions_6 : decode cX7_readsFractions 6 = .ok (.invokestatic 9, 3) := by decide +kernel
theorem dX7_readsFractions_9 : decode cX7_readsFractions 9 = .ok (.ifCond .eq 11, 3) := by decide +kernel
theorem dX7_readsFractions_12 : decode cX7_readsFractions 12 = .ok (.iload_n 2, 1) := by decide +kernel
theorem dX7_readsFractions_13 : decode cX7_readsFractions 13 = .ok (.iload_n 0, 1) := by decide +kernel
theorem dX7_readsFractions_14 : decode cX7_readsFractions 14 = .ok (.iload_n 1, 1) := by decide +kernel
theorem dX7_readsFractions_15 : decode cX7_readsFractions 15 = .ok (.invokestatic 35, 3) := by decide +kernel
theorem dX7_readsFractions_18 : decode cX7_readsFractions 18 = .ok (.ior, 1) := by decide +kernel
theorem dX7_readsFractions_19 : decode cX7_readsFractions 19 = .ok (.istore_n 2, 1) := by decide +kernel
theorem dX7_readsFractions_20 : decode cX7_readsFractions 20 = .ok (.iload_n 1, 1) := by decide +kernel
theorem dX7_readsFractions_21 : decode cX7_readsFractions 21 = .ok (.ldc 39, 2) := by decide +kernel
theorem dX7_readsFractions_23 : decode cX7_readsFractions 23 = .ok (.invokestatic 9, 3) := by decide +kernel
theorem dX7_readsFractions_26 : decode cX7_readsFractions 26 = .ok (.ifCond .eq 11, 3) := by decide +kernel
theorem dX7_readsFractions_29 : decode cX7_readsFractions 29 = .ok (.iload_n 2, 1) := by decide +kernel
theorem dX7_readsFractions_30 : decode cX7_readsFractions 30 = .ok (.iload_n 0, 1) := by decide +kernel
theorem dX7_readsFractions_31 : decode cX7_readsFractions 31 = .ok (.iload_n 1, 1) := by decide +kernel
theorem dX7_readsFractions_32 : decode cX7_readsFractions 32 = .ok (.invokestatic 40, 3) := by decide +kernel
theorem dX7_readsFractions_35 : decode cX7_readsFractions 35 = .ok (.ior, 1) := by decide +kernel
theorem dX7_readsFractions_36 : decode cX7_readsFractions 36 = .ok (.istore_n 2, 1) := by decide +kernel
theorem dX7_readsFractions_37 : decode cX7_readsFractions 37 = .ok (.iload_n 1, 1) := by decide +kernel
theorem dX7_readsFractions_38 : decode cX7_readsFractions 38 = .ok (.ldc 43, 2) := by decide +kernel
theorem dX7_readsFractions_40 : decode cX7_readsFractions 40 = .ok (.invokestatic 9, 3) := by decide +kernel
theorem dX7_readsFractions_43 : decode cX7_readsFractions 43 = .ok (.ifCond .eq 11, 3) := by decide +kernel
theorem dX7_readsFractions_46 : decode cX7_readsFractions 46 = .ok (.iload_n 2, 1) := by decide +kernel
theorem dX7_readsFractions_47 : decode cX7_readsFractions 47 = .ok (.iload_n 0, 1) := by decide +kernel
theorem dX7_readsFractions_48 : decode cX7_readsFractions 48 = .ok (.iload_n 1, 1) := by decide +kernel
theorem dX7_readsFractions_49 : decode cX7_readsFractions 49 = .ok (.invokestatic 44, 3) := by decide +kernel
theorem dX7_readsFractions_52 : decode cX7_readsFractions 52 = .ok (.ior, 1) := by decide +kernel
theorem dX7_readsFractions_53 : decode cX7_readsFractions 53 = .ok (.istore_n 2, 1) := by decide +kernel
theorem dX7_readsFractions_54 : decode cX7_readsFractions 54 = .ok (.iload_n 2, 1) := by decide +kernel
theorem dX7_readsFractions_55 : decode cX7_readsFractions 55 = .ok (.ireturn, 1) := by decide +kernel
set_option maxRecDepth 20000 in
theorem ggX7_writesFractions_X4_has : GoodIn wsX7_writesFractions wsX4_has := goodIn_r _ [7] (by decide +kernel) (by decide +kernel)
set_option maxRecDepth 20000 in
theorem gX7_writesFractions_X4_has : GoodIn wsX7_writesFractions (va_wsS RX7 9 yX4_has wsX4_has) := goodIn_app (goodIn_of _ (by decide +kernel)) ggX7_writesFractions_X4_has
set_option maxRecDepth 20000 in
theorem ggX7_writesFractions_X7_fractionS : GoodIn wsX7_writesFractions wsX7_fractionS := goodIn_r _ [11, 12, 13, 14, 15, 16, 17, 18, 19, 4, 5, 6, 7, 20, 21, 10, 22] (by decide +kernel) (by decide +kernel)
set_option maxRecDepth 20000 in
theorem gX7_writesFractions_X7_fractionS : GoodIn wsX7_writesFractions (va_wsS RX7 35 yX7_fractionS wsX7_fractionS) := goodIn_app (goodIn_of _ (by decide +kernel)) ggX7_writesFractions_X7_fractionS
set_option maxRecDepth 20000 in
theorem ggX7_writesFractions_X7_fractionT : GoodIn wsX7_writesFractions wsX7_fractionT := goodIn_r _ [25, 26, 27, 28, 15, 29, 30, 31, 32, 4, 5, 6, 7, 20, 21, 10, 22] (by decide +kernel) (by decide +kernel)
set_option maxRecDepth 20000 in
theorem gX7_writesFractions_X7_fractionT : GoodIn wsX7_writesFractions (va_wsS RX7 40 yX7_fractionT wsX7_fractionT) := goodIn_app (goodIn_of _ (by decide +kernel)) ggX7_writesFractions_X7_fractionT
set_option maxRecDepth 20000 in
theorem ggX7_writesFractions_X7_fractionD : GoodIn wsX7_writesFractions wsX7_fractionD := goodIn_r _ [35, 36, 37, 38, 15, 39, 4, 5, 6, 7, 20, 21, 10, 22] (by decide +kernel) (by decide +kernel)
set_option maxRecDepth 20000 in
theorem gX7_writesFractions_X7_fractionD : GoodIn wsX7_writesFractions (va_wsS RX7 44 yX7_fractionD wsX7_fractionD) := goodIn_app (goodIn_of _ (by decide +kernel)) ggX7_writesFractions_X7_fractionD
theorem dX7_writesFractions_0 : decode cX7_writesFractions 0 = .ok (.iconst 0, 1) := by decide +kernel
theorem dX7_writesFractions_1 : decode cX7_writesFractions 1 = .ok (.istore_n 2, 1) := by decide +kernel
theorem dX7_writesFractions_2 : decode cX7_writesFractions 2 = .ok (.iload_n 1, 1) := by decide +kernel
theorem dX7_writesFractions_3 : decode cX7_writesFractions 3 = .ok (.ldc 47, 2) := by decide +kernel
theorem dX7_writesFractions_5 : decode cX7_writesFractions 5 = .ok (.invokestatic 9, 3) := by decide +kernel
theorem dX7_writesFractions_8 : decode cX7_writesFractions 8 = .ok (.ifCond .eq 11, 3) := by decide +kernel
theorem dX7_writesFractions_11 : decode cX7_writesFractions 11 = .ok (.iload_n 2, 1) := by decide +kernel
theorem dX7_writesFractions_12 : decode cX7_writesFractions 12 = .ok (.iload_n 0, 1) := by decide +kernel
theorem dX7_writesFractions_13 : decode cX7_writesFractions 13 = .ok (.iload_n 1, 1) := by decide +kernel
theorem dX7_writesFractions_14 : decode cX7_writesFractions 14 = .ok (.invokestatic 35, 3) := by decide +kernel
theorem dX7_writesFractions_17 : decode cX7_writesFractions 17 = .ok (.ior, 1) := by decide +kernel
theorem dX7_writesFractions_18 : decode cX7_writesFractions 18 = .ok (.istore_n 2, 1) := by decide +kernel
theorem dX7_writesFractions_19 : decode cX7_writesFractions 19 = .ok (.iload_n 1, 1) := by decide +kernel
theorem dX7_writesFractions_20 : decode cX7_writesFractions 20 = .ok (.ldc 48, 2) := by decide +kernel
theorem dX7_writesFractions_22 : decode cX7_writesFractions 22 = .ok (.invokestatic 9, 3) := by decide +kernel
theorem dX7_writesFractions_25 : decode cX7_writesFractions 25 = .ok (.ifCond .eq 11, 3) := by decide +kernel
theorem dX7_writesFractions_28 : decode cX7_writesFractions 28 = .ok (.iload_n 2, 1) := by decide +kernel
theorem dX7_writesFractions_29 : decode cX7_writesFractions 29 = .ok (.iload_n 0, 1) := by decide +kernel
theorem dX7_writesFractions_30 : decode cX7_writesFractions 30 = .ok (.iload_n 1, 1) := by decide +kernel
theorem dX7_writesFractions_31 : decode cX7_writesFractions 31 = .ok (.invokestatic 40, 3) := by decide +kernel
theorem dX7_writesFractions_34 : decode cX7_writesFractions 34 = .ok (.ior, 1) := by decide +kernel
theorem dX7_writesFractions_35 : decode cX7_writesFractions 35 = .ok (.istore_n 2, 1) := by decide +kernel
theorem dX7_writesFractions_36 : decode cX7_writesFractions 36 = .ok (.iload_n 1, 1) := by decide +kernel
theorem dX7_writesFractions_37 : decode cX7_writesFractions 37 = .ok (.ldc 49, 2) := by decide +kernel
theorem dX7_writesFractions_39 : decode cX7_writesFractions 39 = .ok (.invokestatic 9, 3) := by decide +kernel
theorem dX7_writesFractions_42 : decode cX7_writesFractions 42 = .ok (.ifCond .eq 11, 3) := by decide +kernel
theorem dX7_writesFractions_45 : decode cX7_writesFractions 45 = .ok (.iload_n 2, 1) := by decide +kernel
theorem dX7_writesFractions_46 : decode cX7_writesFractions 46 = .ok (.iload_n 0, 1) := by decide +kernel
theorem dX7_writesFractions_47 : decode cX7_writesFractions 47 = .ok (.iload_n 1, 1) := by decide +kernel
theorem dX7_writesFractions_48 : decode cX7_writesFractions 48 = .ok (.invokestatic 44, 3) := by decide +kernel
theorem dX7_writesFractions_51 : decode cX7_writesFractions 51 = .ok (.ior, 1) := by decide +kernel
theorem dX7_writesFractions_52 : decode cX7_writesFractions 52 = .ok (.istore_n 2, 1) := by decide +kernel
theorem dX7_writesFractions_53 : decode cX7_writesFractions 53 = .ok (.iload_n 2, 1) := by decide +kernel
theorem dX7_writesFractions_54 : decode cX7_writesFractions 54 = .ok (.ireturn, 1) := by decide +kernel
theorem dX7_register_0 : decode cX7_register 0 = .ok (.iload_n 0, 1) := by decide +kernel
theorem dX7_register_1 : decode cX7_register 1 = .ok (.ifCond .ne 7, 3) := by decide +kernel
theorem dX7_register_4 : decode cX7_register 4 = .ok (.lconst 0, 1) := by decide +kernel
theorem dX7_register_5 : decode cX7_register 5 = .ok (.goto 6, 3) := by decide +kernel
theorem dX7_register_8 : decode cX7_register 8 = .ok (.lconst 1, 1) := by decide +kernel
theorem dX7_register_9 : decode cX7_register 9 = .ok (.iload_n 0, 1) := by decide +kernel
theorem dX7_register_10 : decode cX7_register 10 = .ok (.lshl, 1) := by decide +kernel
theorem dX7_register_11 : decode cX7_register 11 = .ok (.lreturn, 1) := by decide +kernel
set_option maxRecDepth 20000 in
theorem ggX7_fractionS_X3_fractionS : GoodIn wsX7_fractionS wsX3_fractionS := goodIn_r _ [5, 6, 7, 4, 8] (by decide +kernel) (by decide +kernel)
set_option maxRecDepth 20000 in
theorem gX7_fractionS_X3_fractionS : GoodIn wsX7_fractionS (va_wsS RX7 50 yX3_fractionS wsX3_fractionS) := goodIn_app (goodIn_of _ (by decide +kernel)) ggX7_fractionS_X3_fractionS
set_option maxRecDepth 20000 in
theorem ggX7_fractionS_X4_has : GoodIn wsX7_fractionS wsX4_has := goodIn_r _ [12] (by decide +kernel) (by decide +kernel)
set_option maxRecDepth 20000 in
theorem gX7_fractionS_X4_has : GoodIn wsX7_fractionS (va_wsS RX7 9 yX4_has wsX4_has) := goodIn_app (goodIn_of _ (by decide +kernel)) ggX7_fractionS_X4_has
set_option maxRecDepth 20000 in
theorem ggX7_fractionS_X7_fraction : GoodIn wsX7_fractionS wsX7_fraction := goodIn_r _ [16] (by decide +kernel) (by decide +kernel)
set_option maxRecDepth 20000 in
theorem gX7_fractionS_X7_fraction : GoodIn wsX7_fractionS (va_wsS RX7 53 yX7_fraction wsX7_fraction) := goodIn_app (goodIn_of _ (by decide +kernel)) ggX7_fractionS_X7_fraction
theorem dX7_fractionS_0 : decode cX7_fractionS 0 = .ok (.iload_n 0, 1) := by decide +kernel
theorem dX7_fractionS_1 : decode cX7_fractionS 1 = .ok (.invokestatic 50, 3) := by decide +kernel
theorem dX7_fractionS_4 : decode cX7_fractionS 4 = .ok (.iload_n 1, 1) := by decide +kernel
theorem dX7_fractionS_5 : decode cX7_fractionS 5 = .ok (.ldc 52, 2) := by decide +kernel
theorem dX7_fractionS_7 : decode cX7_fractionS 7 = .ok (.invokestatic 9, 3) := by decide +kernel
theorem dX7_fractionS_10 : decode cX7_fractionS 10 = .ok (.invokestatic 53, 3) := by decide +kernel
theorem dX7_fractionS_13 : decode cX7_fractionS 13 = .ok (.ireturn, 1) := by decide +kernel
set_option maxRecDepth 20000 in
theorem ggX7_fractionT_X3_fractionT : GoodIn wsX7_fractionT wsX3_fractionT := goodIn_r _ [5, 6, 7, 4, 8] (by decide +kernel) (by decide +kernel)
set_option maxRecDepth 20000 in
theorem gX7_fractionT_X3_fractionT : GoodIn wsX7_fractionT (va_wsS RX7 57 yX3_fractionT wsX3_fractionT) := goodIn_app (goodIn_of _ (by decide +kernel)) ggX7_fractionT_X3_fractionT
set_option maxRecDepth 20000 in
theorem ggX7_fractionT_X4_has : GoodIn wsX7_fractionT wsX4_has := goodIn_r _ [12] (by decide +kernel) (by decide +kernel)
set_option maxRecDepth 20000 in
theorem gX7_fractionT_X4_has : GoodIn wsX7_fractionT (va_wsS RX7 9 yX4_has wsX4_has) := goodIn_app (goodIn_of _ (by decide +kernel)) ggX7_fractionT_X4_has
set_option maxRecDepth 20000 in
theorem ggX7_fractionT_X7_fraction : GoodIn wsX7_fractionT wsX7_fraction := goodIn_r _ [16] (by decide +kernel) (by decide +kernel)
set_option maxRecDepth 20000 in
theorem gX7_fractionT_X7_fraction : GoodIn wsX7_fractionT (va_wsS RX7 53 yX7_fraction wsX7_fraction) := goodIn_app (goodIn_of _ (by decide +kernel)) ggX7_fractionT_X7_fraction
theorem dX7_fractionT_0 : decode cX7_fractionT 0 = .ok (.iload_n 0, 1) := by decide +kernel
theorem dX7_fractionT_1 : decode cX7_fractionT 1 = .ok (.invokestatic 57, 3) := by decide +kernel
theorem dX7_fractionT_4 : decode cX7_fractionT 4 = .ok (.iload_n 1, 1) := by decide +kernel
theorem dX7_fractionT_5 : decode cX7_fractionT 5 = .ok (.ldc 59, 2) := by decide +kernel
theorem dX7_fractionT_7 : decode cX7_fractionT 7 = .ok (.invokestatic 9, 3) := by decide +kernel
theorem dX7_fractionT_10 : decode cX7_fractionT 10 = .ok (.invokestatic 53, 3) := by decide +kernel
theorem dX7_fractionT_13 : decode cX7_fractionT 13 = .ok (.ireturn, 1) := by decide +kernel
set_option maxRecDepth 20000 in
theorem ggX7_fractionD_X3_fractionD : GoodIn wsX7_fractionD wsX3_fractionD := goodIn_r _ [5] (by decide +kernel) (by decide +kernel)
set_option maxRecDepth 20000 in
theorem gX7_fractionD_X3_fractionD : GoodIn wsX7_fractionD (va_wsS RX7 60 yX3_fractionD wsX3_fractionD) := goodIn_app (goodIn_of _ (by decide +kernel)) ggX7_fractionD_X3_fractionD
set_option maxRecDepth 20000 in
theorem ggX7_fractionD_X4_has : GoodIn wsX7_fractionD wsX4_has := goodIn_r _ [9] (by decide +kernel) (by decide +kernel)
set_option maxRecDepth 20000 in
theorem gX7_fractionD_X4_has : GoodIn wsX7_fractionD (va_wsS RX7 9 yX4_has wsX4_has) := goodIn_app (goodIn_of _ (by decide +kernel)) ggX7_fractionD_X4_has
set_option maxRecDepth 20000 in
theorem ggX7_fractionD_X7_fraction : GoodIn wsX7_fractionD wsX7_fraction := goodIn_r _ [13] (by decide +kernel) (by decide +kernel)
set_option maxRecDepth 20000 in
theorem gX7_fractionD_X7_fraction : GoodIn wsX7_fractionD (va_wsS RX7 53 yX7_fraction wsX7_fraction) := goodIn_app (goodIn_of _ (by decide +kernel)) ggX7_fractionD_X7_fraction
theorem dX7_fractionD_0 : decode cX7_fractionD 0 = .ok (.iload_n 0, 1) := by decide +kernel
theorem dX7_fractionD_1 : decode cX7_fractionD 1 = .ok (.invokestatic 60, 3) := by decide +kernel
theorem dX7_fractionD_4 : decode cX7_fractionD 4 = .ok (.iload_n 1, 1) := by decide +kernel
theorem dX7_fractionD_5 : decode cX7_fractionD 5 = .ok (.ldc 62, 2) := by decide +kernel
theorem dX7_fractionD_7 : decode cX7_fractionD 7 = .ok (.invokestatic 9, 3) := by decide +kernel
theorem dX7_fractionD_10 : decode cX7_fractionD 10 = .ok (.invokestatic 53, 3) := by decide +kernel
theorem dX7_fractionD_13 : decode cX7_fractionD 13 = .ok (.ireturn, 1) := by decide +kernel
theorem dX7_fraction_0 : decode cX7_fraction 0 = .ok (.iload_n 1, 1) := by decide +kernel
theorem dX7_fraction_1 : decode cX7_fraction 1 = .ok (.ifCond .eq 7, 3) := by decide +kernel
theorem dX7_fraction_4 : decode cX7_fraction 4 = .ok (.iconst 3, 1) := by decide +kernel
theorem dX7_fraction_5 : decode cX7_fraction 5 = .ok (.goto 4, 3) := by decide +kernel
theorem dX7_fraction_8 : decode cX7_fraction 8 = .ok (.iconst 1, 1) := by decide +kernel
theorem dX7_fraction_9 : decode cX7_fraction 9 = .ok (.iload_n 0, 1) := by decide +kernel
theorem dX7_fraction_10 : decode cX7_fraction 10 = .ok (.ishl, 1) := by decide +kernel
theorem dX7_fraction_11 : decode cX7_fraction 11 = .ok (.ireturn, 1) := by decide +kernel
set_option maxRecDepth 20000 in
theorem ggX8_init_X0_init : GoodIn wsX8_init wsX0_init := goodIn_r _ [18, 19, 2, 3, 20, 21, 22, 23, 24, 25, 26, 27, 28, 29, 30, 31, 32, 33, 34, 35, 36, 37, 38, 39, 40, 41, 42, 43, 44, 63, 64, 65, 66, 67, 68, 69, 70, 71, 72, 73, 74, 75, 76, 77] (by decide +kernel) (by decide +kernel)
set_option maxRecDepth 20000 in
theorem gX8_init_X0_init_n11 : GoodIn wsX8_init (wsX0_init) := ggX8_init_X0_init
set_option maxRecDepth 20000 in
theorem ggX8_init_X5_init : GoodIn wsX8_init wsX5_init := goodIn_r _ [46, 47, 2, 3, 48, 29, 49, 32, 50, 51, 52, 82, 83, 84, 85, 86] (by decide +kernel) (by decide +kernel)
set_option maxRecDepth 20000 in
theorem gX8_init_X5_init_n18 : GoodIn wsX8_init (wsX5_init) := ggX8_init_X5_init
set_option maxRecDepth 20000 in
theorem ggX8_init_X6_init : GoodIn wsX8_init wsX6_init := goodIn_r _ [54, 55, 2, 3, 56, 29, 57, 58, 59, 60, 61, 62, 87, 88, 89, 90, 91, 92, 93] (by decide +kernel) (by decide +kernel)
set_option maxRecDepth 20000 in
theorem gX8_init_X6_init_n25 : GoodIn wsX8_init (wsX6_init) := ggX8_init_X6_init
theorem dX8_init_0 : decode cX8_init 0 = .ok (.aload_n 0, 1) := by decide +kernel
theorem dX8_init_1 : decode cX8_init 1 = .ok (.invokespecial 3, 3) := by decide +kernel
theorem dX8_init_4 : decode cX8_init 4 = .ok (.aload_n 0, 1) := by decide +kernel
theorem dX8_init_5 : decode cX8_init 5 = .ok (.new 9, 3) := by decide +kernel
theorem dX8_init_8 : decode cX8_init 8 = .ok (.dup, 1) := by decide +kernel
theorem dX8_init_9 : decode cX8_init 9 = .ok (.invokespecial 11, 3) := by decide +kernel
theorem dX8_init_12 : decode cX8_init 12 = .ok (.putfield 12, 3) := by decide +kernel
theorem dX8_init_15 : decode cX8_init 15 = .ok (.aload_n 0, 1) := by decide +kernel
theorem dX8_init_16 : decode cX8_init 16 = .ok (.new 16, 3) := by decide +kernel
theorem dX8_init_19 : decode cX8_init 19 = .ok (.dup, 1) := by decide +kernel
theorem dX8_init_20 : decode cX8_init 20 = .ok (.invokespecial 18, 3) := by decide +kernel
theorem dX8_init_23 : decode cX8_init 23 = .ok (.putfield 19, 3) := by decide +kernel
theorem dX8_init_26 : decode cX8_init 26 = .ok (.aload_n 0, 1) := by decide +kernel
theorem dX8_init_27 : decode cX8_init 27 = .ok (.new 23, 3) := by decide +kernel
theorem dX8_init_30 : decode cX8_init 30 = .ok (.dup, 1) := by decide +kernel
theorem dX8_init_31 : decode cX8_init 31 = .ok (.invokespecial 25, 3) := by decide +kernel
theorem dX8_init_34 : decode cX8_init 34 = .ok (.putfield 26, 3) := by decide +kernel
theorem dX8_init_37 : decode cX8_init 37 = .ok (.aload_n 0, 1) := by decide +kernel
theorem dX8_init_38 : decode cX8_init 38 = .ok (.iconst 0, 1) := by decide +kernel
theorem dX8_init_39 : decode cX8_init 39 = .ok (.putfield 30, 3) := by decide +kernel
theorem dX8_init_42 : decode cX8_init 42 = .ok (.return_, 1) := by decide +kernel
theorem dX8_latency_0 : decode cX8_latency 0 = .ok (.iload_n 1, 1) := by decide +kernel
theorem dX8_latency_1 : decode cX8_latency 1 = .ok (.ifCond .lt 9, 3) := by decide +kernel
theorem dX8_latency_4 : decode cX8_latency 4 = .ok (.iload_n 1, 1) := by decide +kernel
theorem dX8_latency_5 : decode cX8_latency 5 = .ok (.bipush 6, 2) := by decide +kernel
theorem dX8_latency_7 : decode cX8_latency 7 = .ok (.if_icmp .le 13, 3) := by decide +kernel
theorem dX8_latency_10 : decode cX8_latency 10 = .ok (.new 36, 3) := by decide +kernel
theorem dX8_latency_13 : decode cX8_latency 13 = .ok (.dup, 1) := by decide +kernel
theorem dX8_latency_14 : decode cX8_latency 14 = .ok (.ldc 38, 2) := by decide +kernel
theorem dX8_latency_16 : decode cX8_latency 16 = .ok (.invokespecial 40, 3) := by decide +kernel
theorem dX8_latency_19 : decode cX8_latency 19 = .ok (.athrow, 1) := by decide +kernel
theorem dX8_latency_20 : decode cX8_latency 20 = .ok (.iload_n 2, 1) := by decide +kernel
theorem dX8_latency_21 : decode cX8_latency 21 = .ok (.iconst 1, 1) := by decide +kernel
theorem dX8_latency_22 : decode cX8_latency 22 = .ok (.if_icmp .lt 9, 3) := by decide +kernel
theorem dX8_latency_25 : decode cX8_latency 25 = .ok (.iload_n 2, 1) := by decide +kernel
theorem dX8_latency_26 : decode cX8_latency 26 = .ok (.bipush 40, 2) := by decide +kernel
theorem dX8_latency_28 : decode cX8_latency 28 = .ok (.if_icmp .le 13, 3) := by decide +kernel
theorem dX8_latency_31 : decode cX8_latency 31 = .ok (.new 36, 3) := by decide +kernel
theorem dX8_latency_34 : decode cX8_latency 34 = .ok (.dup, 1) := by decide +kernel
theorem dX8_latency_35 : decode cX8_latency 35 = .ok (.ldc 43, 2) := by decide +kernel
theorem dX8_latency_37 : decode cX8_latency 37 = .ok (.invokespecial 40, 3) := by decide +kernel
theorem dX8_latency_40 : decode cX8_latency 40 = .ok (.athrow, 1) := by decide +kernel
theorem dX8_latency_41 : decode cX8_latency 41 = .ok (.aload_n 0, 1) := by decide +kernel
theorem dX8_latency_42 : decode cX8_latency 42 = .ok (.getfield 12, 3) := by decide +kernel
theorem dX8_latency_45 : decode cX8_latency 45 = .ok (.getfield 45, 3) := by decide +kernel
theorem dX8_latency_48 : decode cX8_latency 48 = .ok (.iload_n 1, 1) := by decide +kernel
theorem dX8_latency_49 : decode cX8_latency 49 = .ok (.iaload, 1) := by decide +kernel
theorem dX8_latency_50 : decode cX8_latency 50 = .ok (.istore_n 3, 1) := by decide +kernel
theorem dX8_latency_51 : decode cX8_latency 51 = .ok (.aload_n 0, 1) := by decide +kernel
theorem dX8_latency_52 : decode cX8_latency 52 = .ok (.getfield 12, 3) := by decide +kernel
theorem dX8_latency_55 : decode cX8_latency 55 = .ok (.getfield 45, 3) := by decide +kernel
theorem dX8_latency_58 : decode cX8_latency 58 = .ok (.iload_n 1, 1) := by decide +kernel
theorem dX8_latency_59 : decode cX8_latency 59 = .ok (.iload_n 2, 1) := by decide +kernel
theorem dX8_latency_60 : decode cX8_latency 60 = .ok (.iastore, 1) := by decide +kernel
theorem dX8_latency_61 : decode cX8_latency 61 = .ok (.iload_n 3, 1) := by decide +kernel
theorem dX8_latency_62 : decode cX8_latency 62 = .ok (.ireturn, 1) := by decide +kernel
set_option maxRecDepth 20000 in
theorem ggX8_add_X2_formOf : GoodIn wsX8_add wsX2_formOf := goodIn_r _ [10, 11, 12, 9, 13, 14, 15, 16, 17, 18, 19, 20, 21, 22, 23, 24, 25, 26, 27, 28, 29, 30, 31, 32, 33, 34, 35, 36, 37, 38, 39, 40, 41, 42, 43, 44, 45, 46, 47, 48, 49, 50, 51, 52, 53, 54, 55, 56, 57, 58, 59, 60, 61, 62, 63, 64, 65, 66, 67, 68, 69, 70, 71, 72, 73, 74, 75, 76, 77, 78, 79, 80, 81, 82, 83, 84, 85, 86, 87, 88, 89, 90, 91, 92, 93, 94, 95, 96, 97, 98, 99, 100, 101] (by decide +kernel) (by decide +kernel)
set_option maxRecDepth 20000 in
theorem gX8_add_X2_formOf : GoodIn wsX8_add (va_wsS RX8 49 yX2_formOf wsX2_formOf) := goodIn_app (goodIn_of _ (by decide +kernel)) ggX8_add_X2_formOf
set_option maxRecDepth 20000 in
theorem ggX8_add_X0_isClosed : GoodIn wsX8_add wsX0_isClosed := goodIn_r _ [106, 107, 108, 109, 110, 105, 111, 112, 206, 207, 208, 209, 210, 211, 212, 213, 214, 215, 216, 217, 218, 219, 220] (by decide +kernel) (by decide +kernel)
set_option maxRecDepth 20000 in
theorem gX8_add_X0_isClosed : GoodIn wsX8_add (wsV RX8 57 RX0 yX0_isClosed wsX0_isClosed) := goodIn_app (goodIn_of _ (by decide +kernel)) ggX8_add_X0_isClosed
set_option maxRecDepth 20000 in
theorem ggX8_add_X0_empty : GoodIn wsX8_add wsX0_empty := goodIn_r _ [116, 107, 206, 207, 208, 209, 210, 211, 212, 213, 214, 215, 216, 217, 218, 219, 220] (by decide +kernel) (by decide +kernel)
set_option maxRecDepth 20000 in
theorem gX8_add_X0_empty : GoodIn wsX8_add (wsV RX8 66 RX0 yX0_empty wsX0_empty) := goodIn_app (goodIn_of _ (by decide +kernel)) ggX8_add_X0_empty
set_option maxRecDepth 20000 in
theorem ggX8_add_X0_append : GoodIn wsX8_add wsX0_append := goodIn_r _ [120, 107, 121, 112, 122, 123, 124, 125, 126, 127, 128, 129, 130, 131, 132, 133, 64, 134, 135, 63, 65, 136, 137, 138, 139, 140, 141, 142, 143, 42, 16, 43, 144, 145, 146, 147, 28, 29, 148, 93, 94, 149, 150, 151, 152, 153, 154, 155, 156, 157, 158, 159, 160, 161, 90, 91, 92, 162, 163, 164, 165, 166, 167, 168, 169, 96, 97, 98, 170, 171, 172, 173, 174, 100, 101, 175, 176, 177, 178, 179, 180, 181, 182, 183, 184, 185, 186, 187, 188, 189, 15, 17, 190, 191, 192, 193, 194, 195, 196, 197, 198, 199, 105, 200, 206, 207, 208, 209, 210, 211, 212, 213, 214, 215, 216, 217, 218, 219, 220] (by decide +kernel) (by decide +kernel)
set_option maxRecDepth 20000 in
theorem gX8_add_X0_append : GoodIn wsX8_add (wsV RX8 69 RX0 yX0_append wsX0_append) := goodIn_app (goodIn_of _ (by decide +kernel)) ggX8_add_X0_append
set_option maxRecDepth 20000 in
theorem ggX8_add_X4_kindOf : GoodIn wsX8_add wsX4_kindOf := goodIn_r _ [134] (by decide +kernel) (by decide +kernel)
set_option maxRecDepth 20000 in
theorem gX8_add_X4_kindOf : GoodIn wsX8_add (va_wsS RX8 73 yX4_kindOf wsX4_kindOf) := goodIn_app (goodIn_of _ (by decide +kernel)) ggX8_add_X4_kindOf
theorem dX8_add_0 : decode cX8_add 0 = .ok (.iload_n 1, 1) := by decide +kernel
theorem dX8_add_1 : decode cX8_add 1 = .ok (.invokestatic 49, 3) := by decide +kernel
theorem dX8_add_4 : decode cX8_add 4 = .ok (.istore_n 2, 1) := by decide +kernel
theorem dX8_add_5 : decode cX8_add 5 = .ok (.iload_n 2, 1) := by decide +kernel
theorem dX8_add_6 : decode cX8_add 6 = .ok (.iconst (-1), 1) := by decide +kernel
theorem dX8_add_7 : decode cX8_add 7 = .ok (.if_icmp .ne 13, 3) := by decide +kernel
theorem dX8_add_10 : decode cX8_add 10 = .ok (.new 36, 3) := by decide +kernel
theorem dX8_add_13 : decode cX8_add 13 = .ok (.dup, 1) := by decide +kernel
theorem dX8_add_14 : decode cX8_add 14 = .ok (.ldc 55, 2) := by decide +kernel
theorem dX8_add_16 : decode cX8_add 16 = .ok (.invokespecial 40, 3) := by decide +kernel
theorem dX8_add_19 : decode cX8_add 19 = .ok (.athrow, 1) := by decide +kernel
theorem dX8_add_20 : decode cX8_add 20 = .ok (.aload_n 0, 1) := by decide +kernel
theorem dX8_add_21 : decode cX8_add 21 = .ok (.getfield 30, 3) := by decide +kernel
theorem dX8_add_24 : decode cX8_add 24 = .ok (.ifCond .ne 23, 3) := by decide +kernel
theorem dX8_add_27 : decode cX8_add 27 = .ok (.aload_n 0, 1) := by decide +kernel
theorem dX8_add_28 : decode cX8_add 28 = .ok (.getfield 12, 3) := by decide +kernel
theorem dX8_add_31 : decode cX8_add 31 = .ok (.invokevirtual 57, 3) := by decide +kernel
theorem dX8_add_34 : decode cX8_add 34 = .ok (.ifCond .eq 13, 3) := by decide +kernel
theorem dX8_add_37 : decode cX8_add 37 = .ok (.new 61, 3) := by decide +kernel
theorem dX8_add_40 : decode cX8_add 40 = .ok (.dup, 1) := by decide +kernel
theorem dX8_add_41 : decode cX8_add 41 = .ok (.ldc 63, 2) := by decide +kernel
theorem dX8_add_43 : decode cX8_add 43 = .ok (.invokespecial 65, 3) := by decide +kernel
theorem dX8_add_46 : decode cX8_add 46 = .ok (.athrow, 1) := by decide +kernel
theorem dX8_add_47 : decode cX8_add 47 = .ok (.aload_n 0, 1) := by decide +kernel
theorem dX8_add_48 : decode cX8_add 48 = .ok (.getfield 30, 3) := by decide +kernel
theorem dX8_add_51 : decode cX8_add 51 = .ok (.ifCond .eq 15, 3) := by decide +kernel
theorem dX8_add_54 : decode cX8_add 54 = .ok (.aload_n 0, 1) := by decide +kernel
theorem dX8_add_55 : decode cX8_add 55 = .ok (.getfield 12, 3) := by decide +kernel
theorem dX8_add_58 : decode cX8_add 58 = .ok (.invokevirtual 66, 3) := by decide +kernel
theorem dX8_add_61 : decode cX8_add 61 = .ok (.aload_n 0, 1) := by decide +kernel
theorem dX8_add_62 : decode cX8_add 62 = .ok (.iconst 0, 1) := by decide +kernel
theorem dX8_add_63 : decode cX8_add 63 = .ok (.putfield 30, 3) := by decide +kernel
theorem dX8_add_66 : decode cX8_add 66 = .ok (.aload_n 0, 1) := by decide +kernel
theorem dX8_add_67 : decode cX8_add 67 = .ok (.getfield 12, 3) := by decide +kernel
theorem dX8_add_70 : decode cX8_add 70 = .ok (.iload_n 1, 1) := by decide +kernel
theorem dX8_add_71 : decode cX8_add 71 = .ok (.iload_n 2, 1) := by decide +kernel
theorem dX8_add_72 : decode cX8_add 72 = .ok (.invokevirtual 69, 3) := by decide +kernel
theorem dX8_add_75 : decode cX8_add 75 = .ok (.iload_n 2, 1) := by decide +kernel
theorem dX8_add_76 : decode cX8_add 76 = .ok (.invokestatic 73, 3) := by decide +kernel
theorem dX8_add_79 : decode cX8_add 79 = .ok (.ireturn, 1) := by decide +kernel
set_option maxRecDepth 20000 in
theorem ggX8_schedule_X0_survey : GoodIn wsX8_schedule wsX0_survey := goodIn_r _ [10, 11, 12, 13, 14, 15, 16, 17, 18, 19, 20, 9, 21, 22, 23, 24, 25, 26, 27, 28, 29, 30, 31, 32, 33, 34, 35, 36, 37, 38, 39, 40, 41, 42, 43, 44, 45, 46, 47, 48, 49, 50, 140, 141, 142, 143, 144, 145, 146, 147, 148, 149, 150, 151, 152, 153, 154] (by decide +kernel) (by decide +kernel)
set_option maxRecDepth 20000 in
theorem gX8_schedule_X0_survey : GoodIn wsX8_schedule (wsV RX8 76 RX0 yX0_survey wsX0_survey) := goodIn_app (goodIn_of _ (by decide +kernel)) ggX8_schedule_X0_survey
set_option maxRecDepth 20000 in
theorem ggX8_schedule_X5_byHeights : GoodIn wsX8_schedule wsX5_byHeights := goodIn_r _ [55, 56, 57, 58, 59, 9, 60, 11, 61, 62, 63, 64, 30, 65, 66, 67, 54, 68, 69, 70, 71, 72, 19, 20, 21, 22, 23, 24, 25, 13, 14, 15, 16, 26, 27, 28, 29, 31, 32, 33, 34, 35, 36, 37, 38, 39, 40, 41, 42, 43, 44, 45, 46, 47, 48, 49, 50, 73, 74, 75, 76, 77, 78, 79, 80, 81, 82, 83, 155, 156, 157, 158, 159, 140, 141, 142, 143, 144, 145, 146, 147, 148, 149, 150, 151, 152, 153, 154] (by decide +kernel) (by decide +kernel)
set_option maxRecDepth 20000 in
theorem gX8_schedule_X5_byHeights : GoodIn wsX8_schedule (wsV RX8 79 RX5 yX5_byHeights wsX5_byHeights) := goodIn_app (goodIn_of _ (by decide +kernel)) ggX8_schedule_X5_byHeights
set_option maxRecDepth 20000 in
theorem ggX8_schedule_X5_asInBlock : GoodIn wsX8_schedule wsX5_asInBlock := goodIn_r _ [87, 56, 82, 57, 58, 59, 9, 60, 11, 61, 62, 63, 64, 30, 155, 156, 157, 158, 159, 140, 141, 142, 143, 144, 145, 146, 147, 148, 149, 150, 151, 152, 153, 154] (by decide +kernel) (by decide +kernel)
set_option maxRecDepth 20000 in
theorem gX8_schedule_X5_asInBlock : GoodIn wsX8_schedule (wsV RX8 83 RX5 yX5_asInBlock wsX5_asInBlock) := goodIn_app (goodIn_of _ (by decide +kernel)) ggX8_schedule_X5_asInBlock
set_option maxRecDepth 20000 in
theorem ggX8_schedule_X6_take : GoodIn wsX8_schedule wsX6_take := goodIn_r _ [92, 93, 94, 95, 96, 97, 98, 99, 100, 101, 91, 102, 103, 104, 105, 106, 62, 63, 9, 64, 11, 30, 107, 108, 109, 110, 111, 112, 113, 114, 115, 116, 117, 118, 119, 120, 121, 122, 123, 14, 15, 16, 124, 125, 126, 127, 128, 19, 20, 21, 22, 23, 24, 25, 13, 26, 27, 28, 29, 31, 32, 33, 34, 35, 36, 37, 38, 39, 40, 41, 42, 43, 44, 45, 46, 47, 48, 49, 50, 133, 134, 135, 136, 137, 138, 139, 155, 156, 157, 158, 159, 140, 141, 142, 143, 144, 145, 146, 147, 148, 149, 150, 151, 152, 153, 154] (by decide +kernel) (by decide +kernel)
set_option maxRecDepth 20000 in
theorem gX8_schedule_X6_take : GoodIn wsX8_schedule (wsV RX8 86 RX6 yX6_take wsX6_take) := goodIn_app (goodIn_of _ (by decide +kernel)) ggX8_schedule_X6_take
theorem dX8_schedule_0 : decode cX8_schedule 0 = .ok (.aload_n 0, 1) := by decide +kernel
theorem dX8_schedule_1 : decode cX8_schedule 1 = .ok (.iconst 1, 1) := by decide +kernel
theorem dX8_schedule_2 : decode cX8_schedule 2 = .ok (.putfield 30, 3) := by decide +kernel
theorem dX8_schedule_5 : decode cX8_schedule 5 = .ok (.aload_n 0, 1) := by decide +kernel
theorem dX8_schedule_6 : decode cX8_schedule 6 = .ok (.getfield 12, 3) := by decide +kernel
theorem dX8_schedule_9 : decode cX8_schedule 9 = .ok (.invokevirtual 76, 3) := by decide +kernel
theorem dX8_schedule_12 : decode cX8_schedule 12 = .ok (.iload_n 1, 1) := by decide +kernel
theorem dX8_schedule_13 : decode cX8_schedule 13 = .ok (.ifCond .eq 17, 3) := by decide +kernel
theorem dX8_schedule_16 : decode cX8_schedule 16 = .ok (.aload_n 0, 1) := by decide +kernel
theorem dX8_schedule_17 : decode cX8_schedule 17 = .ok (.getfield 19, 3) := by decide +kernel
theorem dX8_schedule_20 : decode cX8_schedule 20 = .ok (.aload_n 0, 1) := by decide +kernel
theorem dX8_schedule_21 : decode cX8_schedule 21 = .ok (.getfield 12, 3) := by decide +kernel
theorem dX8_schedule_24 : decode cX8_schedule 24 = .ok (.invokevirtual 79, 3) := by decide +kernel
theorem dX8_schedule_27 : decode cX8_schedule 27 = .ok (.goto 14, 3) := by decide +kernel
theorem dX8_schedule_30 : decode cX8_schedule 30 = .ok (.aload_n 0, 1) := by decide +kernel
theorem dX8_schedule_31 : decode cX8_schedule 31 = .ok (.getfield 19, 3) := by decide +kernel
theorem dX8_schedule_34 : decode cX8_schedule 34 = .ok (.aload_n 0, 1) := by decide +kernel
theorem dX8_schedule_35 : decode cX8_schedule 35 = .ok (.getfield 12, 3) := by decide +kernel
theorem dX8_schedule_38 : decode cX8_schedule 38 = .ok (.invokevirtual 83, 3) := by decide +kernel
theorem dX8_schedule_41 : decode cX8_schedule 41 = .ok (.aload_n 0, 1) := by decide +kernel
theorem dX8_schedule_42 : decode cX8_schedule 42 = .ok (.getfield 26, 3) := by decide +kernel
theorem dX8_schedule_45 : decode cX8_schedule 45 = .ok (.aload_n 0, 1) := by decide +kernel
theorem dX8_schedule_46 : decode cX8_schedule 46 = .ok (.getfield 12, 3) := by decide +kernel
theorem dX8_schedule_49 : decode cX8_schedule 49 = .ok (.aload_n 0, 1) := by decide +kernel
theorem dX8_schedule_50 : decode cX8_schedule 50 = .ok (.getfield 19, 3) := by decide +kernel
theorem dX8_schedule_53 : decode cX8_schedule 53 = .ok (.iload_n 2, 1) := by decide +kernel
theorem dX8_schedule_54 : decode cX8_schedule 54 = .ok (.invokevirtual 86, 3) := by decide +kernel
theorem dX8_schedule_57 : decode cX8_schedule 57 = .ok (.aload_n 0, 1) := by decide +kernel
theorem dX8_schedule_58 : decode cX8_schedule 58 = .ok (.getfield 26, 3) := by decide +kernel
theorem dX8_schedule_61 : decode cX8_schedule 61 = .ok (.getfield 90, 3) := by decide +kernel
theorem dX8_schedule_64 : decode cX8_schedule 64 = .ok (.ireturn, 1) := by decide +kernel
theorem dX8_word_0 : decode cX8_word 0 = .ok (.iload_n 1, 1) := by decide +kernel
theorem dX8_word_1 : decode cX8_word 1 = .ok (.ifCond .lt 14, 3) := by decide +kernel
theorem dX8_word_4 : decode cX8_word 4 = .ok (.iload_n 1, 1) := by decide +kernel
theorem dX8_word_5 : decode cX8_word 5 = .ok (.aload_n 0, 1) := by decide +kernel
theorem dX8_word_6 : decode cX8_word 6 = .ok (.getfield 26, 3) := by decide +kernel
theorem dX8_word_9 : decode cX8_word 9 = .ok (.getfield 90, 3) := by decide +kernel
theorem dX8_word_12 : decode cX8_word 12 = .ok (.if_icmp .lt 13, 3) := by decide +kernel
theorem dX8_word_15 : decode cX8_word 15 = .ok (.new 94, 3) := by decide +kernel
theorem dX8_word_18 : decode cX8_word 18 = .ok (.dup, 1) := by decide +kernel
theorem dX8_word_19 : decode cX8_word 19 = .ok (.ldc 96, 2) := by decide +kernel
theorem dX8_word_21 : decode cX8_word 21 = .ok (.invokespecial 98, 3) := by decide +kernel
theorem dX8_word_24 : decode cX8_word 24 = .ok (.athrow, 1) := by decide +kernel
theorem dX8_word_25 : decode cX8_word 25 = .ok (.aload_n 0, 1) := by decide +kernel
theorem dX8_word_26 : decode cX8_word 26 = .ok (.getfield 26, 3) := by decide +kernel
theorem dX8_word_29 : decode cX8_word 29 = .ok (.getfield 99, 3) := by decide +kernel
theorem dX8_word_32 : decode cX8_word 32 = .ok (.iload_n 1, 1) := by decide +kernel
theorem dX8_word_33 : decode cX8_word 33 = .ok (.iaload, 1) := by decide +kernel
theorem dX8_word_34 : decode cX8_word 34 = .ok (.ireturn, 1) := by decide +kernel
theorem dX8_from_0 : decode cX8_from 0 = .ok (.iload_n 1, 1) := by decide +kernel
theorem dX8_from_1 : decode cX8_from 1 = .ok (.ifCond .lt 14, 3) := by decide +kernel
theorem dX8_from_4 : decode cX8_from 4 = .ok (.iload_n 1, 1) := by decide +kernel
theorem dX8_from_5 : decode cX8_from 5 = .ok (.aload_n 0, 1) := by decide +kernel
theorem dX8_from_6 : decode cX8_from 6 = .ok (.getfield 26, 3) := by decide +kernel
theorem dX8_from_9 : decode cX8_from 9 = .ok (.getfield 90, 3) := by decide +kernel
theorem dX8_from_12 : decode cX8_from 12 = .ok (.if_icmp .lt 13, 3) := by decide +kernel
theorem dX8_from_15 : decode cX8_from 15 = .ok (.new 94, 3) := by decide +kernel
theorem dX8_from_18 : decode cX8_from 18 = .ok (.dup, 1) := by decide +kernel
theorem dX8_from_19 : decode cX8_from 19 = .ok (.ldc 96, 2) := by decide +kernel
theorem dX8_from_21 : decode cX8_from 21 = .ok (.invokespecial 98, 3) := by decide +kernel
theorem dX8_from_24 : decode cX8_from 24 = .ok (.athrow, 1) := by decide +kernel
theorem dX8_from_25 : decode cX8_from 25 = .ok (.aload_n 0, 1) := by decide +kernel
theorem dX8_from_26 : decode cX8_from 26 = .ok (.getfield 26, 3) := by decide +kernel
theorem dX8_from_29 : decode cX8_from 29 = .ok (.getfield 102, 3) := by decide +kernel
theorem dX8_from_32 : decode cX8_from 32 = .ok (.iload_n 1, 1) := by decide +kernel
theorem dX8_from_33 : decode cX8_from 33 = .ok (.iaload, 1) := by decide +kernel
theorem dX8_from_34 : decode cX8_from 34 = .ok (.ireturn, 1) := by decide +kernel
set_option maxRecDepth 20000 in
theorem ggX8_depends_X0_holds : GoodIn wsX8_depends wsX0_holds := goodIn_r _ [8, 9, 51, 52, 53, 54, 55, 56, 57, 58, 59, 60, 61, 62, 63, 64, 65] (by decide +kernel) (by decide +kernel)
set_option maxRecDepth 20000 in
theorem gX8_depends_X0_holds : GoodIn wsX8_depends (wsV RX8 105 RX0 yX0_holds wsX0_holds) := goodIn_app (goodIn_of _ (by decide +kernel)) ggX8_depends_X0_holds
set_option maxRecDepth 20000 in
theorem ggX8_depends_X0_distance : GoodIn wsX8_depends wsX0_distance := goodIn_r _ [13, 14, 15, 16, 17, 18, 19, 20, 21, 22, 23, 24, 7, 25, 26, 27, 28, 29, 30, 31, 32, 33, 34, 35, 36, 37, 38, 39, 40, 41, 42, 43, 44, 45, 46, 51, 52, 53, 54, 55, 56, 57, 58, 59, 60, 61, 62, 63, 64, 65] (by decide +kernel) (by decide +kernel)
set_option maxRecDepth 20000 in
theorem gX8_depends_X0_distance : GoodIn wsX8_depends (wsV RX8 111 RX0 yX0_distance wsX0_distance) := goodIn_app (goodIn_of _ (by decide +kernel)) ggX8_depends_X0_distance
theorem dX8_depends_0 : decode cX8_depends 0 = .ok (.aload_n 0, 1) := by decide +kernel
theorem dX8_depends_1 : decode cX8_depends 1 = .ok (.getfield 12, 3) := by decide +kernel
theorem dX8_depends_4 : decode cX8_depends 4 = .ok (.iload_n 1, 1) := by decide +kernel
theorem dX8_depends_5 : decode cX8_depends 5 = .ok (.invokevirtual 105, 3) := by decide +kernel
theorem dX8_depends_8 : decode cX8_depends 8 = .ok (.ifCond .eq 14, 3) := by decide +kernel
theorem dX8_depends_11 : decode cX8_depends 11 = .ok (.aload_n 0, 1) := by decide +kernel
theorem dX8_depends_12 : decode cX8_depends 12 = .ok (.getfield 12, 3) := by decide +kernel
theorem dX8_depends_15 : decode cX8_depends 15 = .ok (.iload_n 2, 1) := by decide +kernel
theorem dX8_depends_16 : decode cX8_depends 16 = .ok (.invokevirtual 105, 3) := by decide +kernel
theorem dX8_depends_19 : decode cX8_depends 19 = .ok (.ifCond .ne 13, 3) := by decide +kernel
theorem dX8_depends_22 : decode cX8_depends 22 = .ok (.new 94, 3) := by decide +kernel
theorem dX8_depends_25 : decode cX8_depends 25 = .ok (.dup, 1) := by decide +kernel
theorem dX8_depends_26 : decode cX8_depends 26 = .ok (.ldc 109, 2) := by decide +kernel
theorem dX8_depends_28 : decode cX8_depends 28 = .ok (.invokespecial 98, 3) := by decide +kernel
theorem dX8_depends_31 : decode cX8_depends 31 = .ok (.athrow, 1) := by decide +kernel
theorem dX8_depends_32 : decode cX8_depends 32 = .ok (.aload_n 0, 1) := by decide +kernel
theorem dX8_depends_33 : decode cX8_depends 33 = .ok (.getfield 12, 3) := by decide +kernel
theorem dX8_depends_36 : decode cX8_depends 36 = .ok (.iload_n 1, 1) := by decide +kernel
theorem dX8_depends_37 : decode cX8_depends 37 = .ok (.iload_n 2, 1) := by decide +kernel
theorem dX8_depends_38 : decode cX8_depends 38 = .ok (.invokevirtual 111, 3) := by decide +kernel
theorem dX8_depends_41 : decode cX8_depends 41 = .ok (.istore_n 3, 1) := by decide +kernel
theorem dX8_depends_42 : decode cX8_depends 42 = .ok (.iload_n 3, 1) := by decide +kernel
theorem dX8_depends_43 : decode cX8_depends 43 = .ok (.ifCond .ne 7, 3) := by decide +kernel
theorem dX8_depends_46 : decode cX8_depends 46 = .ok (.iconst (-1), 1) := by decide +kernel
theorem dX8_depends_47 : decode cX8_depends 47 = .ok (.goto 4, 3) := by decide +kernel
theorem dX8_depends_50 : decode cX8_depends 50 = .ok (.iload_n 3, 1) := by decide +kernel
theorem dX8_depends_51 : decode cX8_depends 51 = .ok (.ireturn, 1) := by decide +kernel
set_option maxRecDepth 20000 in
theorem ggX8_height_X0_holds : GoodIn wsX8_height wsX0_holds := goodIn_r _ [9, 10, 58, 59, 60, 61, 62, 63, 64, 65, 66, 67, 68, 69, 70, 71, 72] (by decide +kernel) (by decide +kernel)
set_option maxRecDepth 20000 in
theorem gX8_height_X0_holds : GoodIn wsX8_height (wsV RX8 105 RX0 yX0_holds wsX0_holds) := goodIn_app (goodIn_of _ (by decide +kernel)) ggX8_height_X0_holds
set_option maxRecDepth 20000 in
theorem ggX8_height_X0_survey : GoodIn wsX8_height wsX0_survey := goodIn_r _ [14, 10, 15, 16, 17, 18, 19, 20, 21, 22, 23, 8, 24, 25, 26, 27, 28, 29, 30, 31, 32, 33, 34, 35, 36, 37, 38, 39, 40, 41, 42, 43, 44, 45, 46, 47, 48, 49, 50, 51, 52, 53, 58, 59, 60, 61, 62, 63, 64, 65, 66, 67, 68, 69, 70, 71, 72] (by decide +kernel) (by decide +kernel)
set_option maxRecDepth 20000 in
theorem gX8_height_X0_survey : GoodIn wsX8_height (wsV RX8 76 RX0 yX0_survey wsX0_survey) := goodIn_app (goodIn_of _ (by decide +kernel)) ggX8_height_X0_survey
theorem dX8_height_0 : decode cX8_height 0 = .ok (.aload_n 0, 1) := by decide +kernel
theorem dX8_height_1 : decode cX8_height 1 = .ok (.getfield 12, 3) := by decide +kernel
theorem dX8_height_4 : decode cX8_height 4 = .ok (.iload_n 1, 1) := by decide +kernel
theorem dX8_height_5 : decode cX8_height 5 = .ok (.invokevirtual 105, 3) := by decide +kernel
theorem dX8_height_8 : decode cX8_height 8 = .ok (.ifCond .ne 13, 3) := by decide +kernel
theorem dX8_height_11 : decode cX8_height 11 = .ok (.new 94, 3) := by decide +kernel
theorem dX8_height_14 : decode cX8_height 14 = .ok (.dup, 1) := by decide +kernel
theorem dX8_height_15 : decode cX8_height 15 = .ok (.ldc 109, 2) := by decide +kernel
theorem dX8_height_17 : decode cX8_height 17 = .ok (.invokespecial 98, 3) := by decide +kernel
theorem dX8_height_20 : decode cX8_height 20 = .ok (.athrow, 1) := by decide +kernel
theorem dX8_height_21 : decode cX8_height 21 = .ok (.aload_n 0, 1) := by decide +kernel
theorem dX8_height_22 : decode cX8_height 22 = .ok (.getfield 12, 3) := by decide +kernel
theorem dX8_height_25 : decode cX8_height 25 = .ok (.invokevirtual 76, 3) := by decide +kernel
theorem dX8_height_28 : decode cX8_height 28 = .ok (.aload_n 0, 1) := by decide +kernel
theorem dX8_height_29 : decode cX8_height 29 = .ok (.getfield 12, 3) := by decide +kernel
theorem dX8_height_32 : decode cX8_height 32 = .ok (.getfield 115, 3) := by decide +kernel
theorem dX8_height_35 : decode cX8_height 35 = .ok (.iload_n 1, 1) := by decide +kernel
theorem dX8_height_36 : decode cX8_height 36 = .ok (.iaload, 1) := by decide +kernel
theorem dX8_height_37 : decode cX8_height 37 = .ok (.ireturn, 1) := by decide +kernel
theorem dX8_cycles_0 : decode cX8_cycles 0 = .ok (.aload_n 0, 1) := by decide +kernel
theorem dX8_cycles_1 : decode cX8_cycles 1 = .ok (.getfield 26, 3) := by decide +kernel
theorem dX8_cycles_4 : decode cX8_cycles 4 = .ok (.getfield 118, 3) := by decide +kernel
theorem dX8_cycles_7 : decode cX8_cycles 7 = .ok (.ireturn, 1) := by decide +kernel
theorem dX8_count_0 : decode cX8_count 0 = .ok (.iload_n 1, 1) := by decide +kernel
theorem dX8_count_1 : decode cX8_count 1 = .ok (.tableswitch 63 0 3 #[31, 39, 47, 55], 31) := by decide +kernel
theorem dX8_count_32 : decode cX8_count 32 = .ok (.aload_n 0, 1) := by decide +kernel
theorem dX8_count_33 : decode cX8_count 33 = .ok (.getfield 12, 3) := by decide +kernel
theorem dX8_count_36 : decode cX8_count 36 = .ok (.getfield 121, 3) := by decide +kernel
theorem dX8_count_39 : decode cX8_count 39 = .ok (.ireturn, 1) := by decide +kernel
theorem dX8_count_40 : decode cX8_count 40 = .ok (.aload_n 0, 1) := by decide +kernel
theorem dX8_count_41 : decode cX8_count 41 = .ok (.getfield 26, 3) := by decide +kernel
theorem dX8_count_44 : decode cX8_count 44 = .ok (.getfield 90, 3) := by decide +kernel
theorem dX8_count_47 : decode cX8_count 47 = .ok (.ireturn, 1) := by decide +kernel
theorem dX8_count_48 : decode cX8_count 48 = .ok (.aload_n 0, 1) := by decide +kernel
theorem dX8_count_49 : decode cX8_count 49 = .ok (.getfield 26, 3) := by decide +kernel
theorem dX8_count_52 : decode cX8_count 52 = .ok (.getfield 122, 3) := by decide +kernel
theorem dX8_count_55 : decode cX8_count 55 = .ok (.ireturn, 1) := by decide +kernel
theorem dX8_count_56 : decode cX8_count 56 = .ok (.aload_n 0, 1) := by decide +kernel
theorem dX8_count_57 : decode cX8_count 57 = .ok (.getfield 26, 3) := by decide +kernel
theorem dX8_count_60 : decode cX8_count 60 = .ok (.getfield 125, 3) := by decide +kernel
theorem dX8_count_63 : decode cX8_count 63 = .ok (.ireturn, 1) := by decide +kernel
theorem dX8_count_64 : decode cX8_count 64 = .ok (.iconst (-1), 1) := by decide +kernel
theorem dX8_count_65 : decode cX8_count 65 = .ok (.ireturn, 1) := by decide +kernel
theorem dX9_init_0 : decode cX9_init 0 = .ok (.aload_n 0, 1) := by decide +kernel
theorem dX9_init_1 : decode cX9_init 1 = .ok (.invokespecial 1, 3) := by decide +kernel
theorem dX9_init_4 : decode cX9_init 4 = .ok (.aload_n 0, 1) := by decide +kernel
theorem dX9_init_5 : decode cX9_init 5 = .ok (.bipush 9, 2) := by decide +kernel
theorem dX9_init_7 : decode cX9_init 7 = .ok (.newarray .int, 2) := by decide +kernel
theorem dX9_init_9 : decode cX9_init 9 = .ok (.dup, 1) := by decide +kernel
theorem dX9_init_10 : decode cX9_init 10 = .ok (.iconst 0, 1) := by decide +kernel
theorem dX9_init_11 : decode cX9_init 11 = .ok (.iconst 1, 1) := by decide +kernel
theorem dX9_init_12 : decode cX9_init 12 = .ok (.iastore, 1) := by decide +kernel
theorem dX9_init_13 : decode cX9_init 13 = .ok (.dup, 1) := by decide +kernel
theorem dX9_init_14 : decode cX9_init 14 = .ok (.iconst 1, 1) := by decide +kernel
theorem dX9_init_15 : decode cX9_init 15 = .ok (.iconst 2, 1) := by decide +kernel
theorem dX9_init_16 : decode cX9_init 16 = .ok (.iastore, 1) := by decide +kernel
theorem dX9_init_17 : decode cX9_init 17 = .ok (.dup, 1) := by decide +kernel
theorem dX9_init_18 : decode cX9_init 18 = .ok (.iconst 2, 1) := by decide +kernel
theorem dX9_init_19 : decode cX9_init 19 = .ok (.iconst 1, 1) := by decide +kernel
theorem dX9_init_20 : decode cX9_init 20 = .ok (.iastore, 1) := by decide +kernel
theorem dX9_init_21 : decode cX9_init 21 = .ok (.dup, 1) := by decide +kernel
theorem dX9_init_22 : decode cX9_init 22 = .ok (.iconst 3, 1) := by decide +kernel
theorem dX9_init_23 : decode cX9_init 23 = .ok (.iconst 4, 1) := by decide +kernel
theorem dX9_init_24 : decode cX9_init 24 = .ok (.iastore, 1) := by decide +kernel
theorem dX9_init_25 : decode cX9_init 25 = .ok (.dup, 1) := by decide +kernel
theorem dX9_init_26 : decode cX9_init 26 = .ok (.iconst 4, 1) := by decide +kernel
theorem dX9_init_27 : decode cX9_init 27 = .ok (.bipush 20, 2) := by decide +kernel
theorem dX9_init_29 : decode cX9_init 29 = .ok (.iastore, 1) := by decide +kernel
theorem dX9_init_30 : decode cX9_init 30 = .ok (.dup, 1) := by decide +kernel
theorem dX9_init_31 : decode cX9_init 31 = .ok (.iconst 5, 1) := by decide +kernel
theorem dX9_init_32 : decode cX9_init 32 = .ok (.iconst 3, 1) := by decide +kernel
theorem dX9_init_33 : decode cX9_init 33 = .ok (.iastore, 1) := by decide +kernel
theorem dX9_init_34 : decode cX9_init 34 = .ok (.dup, 1) := by decide +kernel
theorem dX9_init_35 : decode cX9_init 35 = .ok (.bipush 6, 2) := by decide +kernel
theorem dX9_init_37 : decode cX9_init 37 = .ok (.bipush 15, 2) := by decide +kernel
theorem dX9_init_39 : decode cX9_init 39 = .ok (.iastore, 1) := by decide +kernel
theorem dX9_init_40 : decode cX9_init 40 = .ok (.dup, 1) := by decide +kernel
theorem dX9_init_41 : decode cX9_init 41 = .ok (.bipush 7, 2) := by decide +kernel
theorem dX9_init_43 : decode cX9_init 43 = .ok (.iconst 1, 1) := by decide +kernel
theorem dX9_init_44 : decode cX9_init 44 = .ok (.iastore, 1) := by decide +kernel
theorem dX9_init_45 : decode cX9_init 45 = .ok (.dup, 1) := by decide +kernel
theorem dX9_init_46 : decode cX9_init 46 = .ok (.bipush 8, 2) := by decide +kernel
theorem dX9_init_48 : decode cX9_init 48 = .ok (.iconst 1, 1) := by decide +kernel
theorem dX9_init_49 : decode cX9_init 49 = .ok (.iastore, 1) := by decide +kernel
theorem dX9_init_50 : decode cX9_init 50 = .ok (.putfield 7, 3) := by decide +kernel
theorem dX9_init_53 : decode cX9_init 53 = .ok (.aload_n 0, 1) := by decide +kernel
theorem dX9_init_54 : decode cX9_init 54 = .ok (.bipush 40, 2) := by decide +kernel
theorem dX9_init_56 : decode cX9_init 56 = .ok (.newarray .int, 2) := by decide +kernel
theorem dX9_init_58 : decode cX9_init 58 = .ok (.putfield 13, 3) := by decide +kernel
theorem dX9_init_61 : decode cX9_init 61 = .ok (.aload_n 0, 1) := by decide +kernel
theorem dX9_init_62 : decode cX9_init 62 = .ok (.bipush 40, 2) := by decide +kernel
theorem dX9_init_64 : decode cX9_init 64 = .ok (.newarray .int, 2) := by decide +kernel
theorem dX9_init_66 : decode cX9_init 66 = .ok (.putfield 16, 3) := by decide +kernel
theorem dX9_init_69 : decode cX9_init 69 = .ok (.aload_n 0, 1) := by decide +kernel
theorem dX9_init_70 : decode cX9_init 70 = .ok (.bipush 40, 2) := by decide +kernel
theorem dX9_init_72 : decode cX9_init 72 = .ok (.newarray .int, 2) := by decide +kernel
theorem dX9_init_74 : decode cX9_init 74 = .ok (.putfield 19, 3) := by decide +kernel
theorem dX9_init_77 : decode cX9_init 77 = .ok (.aload_n 0, 1) := by decide +kernel
theorem dX9_init_78 : decode cX9_init 78 = .ok (.bipush 40, 2) := by decide +kernel
theorem dX9_init_80 : decode cX9_init 80 = .ok (.newarray .int, 2) := by decide +kernel
theorem dX9_init_82 : decode cX9_init 82 = .ok (.putfield 22, 3) := by decide +kernel
theorem dX9_init_85 : decode cX9_init 85 = .ok (.aload_n 0, 1) := by decide +kernel
theorem dX9_init_86 : decode cX9_init 86 = .ok (.bipush 40, 2) := by decide +kernel
theorem dX9_init_88 : decode cX9_init 88 = .ok (.newarray .long, 2) := by decide +kernel
theorem dX9_init_90 : decode cX9_init 90 = .ok (.putfield 25, 3) := by decide +kernel
theorem dX9_init_93 : decode cX9_init 93 = .ok (.aload_n 0, 1) := by decide +kernel
theorem dX9_init_94 : decode cX9_init 94 = .ok (.bipush 40, 2) := by decide +kernel
theorem dX9_init_96 : decode cX9_init 96 = .ok (.newarray .long, 2) := by decide +kernel
theorem dX9_init_98 : decode cX9_init 98 = .ok (.putfield 29, 3) := by decide +kernel
theorem dX9_init_101 : decode cX9_init 101 = .ok (.aload_n 0, 1) := by decide +kernel
theorem dX9_init_102 : decode cX9_init 102 = .ok (.bipush 40, 2) := by decide +kernel
theorem dX9_init_104 : decode cX9_init 104 = .ok (.newarray .boolean, 2) := by decide +kernel
theorem dX9_init_106 : decode cX9_init 106 = .ok (.putfield 32, 3) := by decide +kernel
theorem dX9_init_109 : decode cX9_init 109 = .ok (.aload_n 0, 1) := by decide +kernel
theorem dX9_init_110 : decode cX9_init 110 = .ok (.bipush 41, 2) := by decide +kernel
theorem dX9_init_112 : decode cX9_init 112 = .ok (.newarray .int, 2) := by decide +kernel
theorem dX9_init_114 : decode cX9_init 114 = .ok (.putfield 36, 3) := by decide +kernel
theorem dX9_init_117 : decode cX9_init 117 = .ok (.aload_n 0, 1) := by decide +kernel
theorem dX9_init_118 : decode cX9_init 118 = .ok (.bipush 41, 2) := by decide +kernel
theorem dX9_init_120 : decode cX9_init 120 = .ok (.newarray .int, 2) := by decide +kernel
theorem dX9_init_122 : decode cX9_init 122 = .ok (.putfield 39, 3) := by decide +kernel
theorem dX9_init_125 : decode cX9_init 125 = .ok (.aload_n 0, 1) := by decide +kernel
theorem dX9_init_126 : decode cX9_init 126 = .ok (.bipush 40, 2) := by decide +kernel
theorem dX9_init_128 : decode cX9_init 128 = .ok (.newarray .int, 2) := by decide +kernel
theorem dX9_init_130 : decode cX9_init 130 = .ok (.putfield 42, 3) := by decide +kernel
theorem dX9_init_133 : decode cX9_init 133 = .ok (.aload_n 0, 1) := by decide +kernel
theorem dX9_init_134 : decode cX9_init 134 = .ok (.bipush 41, 2) := by decide +kernel
theorem dX9_init_136 : decode cX9_init 136 = .ok (.newarray .int, 2) := by decide +kernel
theorem dX9_init_138 : decode cX9_init 138 = .ok (.putfield 45, 3) := by decide +kernel
theorem dX9_init_141 : decode cX9_init 141 = .ok (.aload_n 0, 1) := by decide +kernel
theorem dX9_init_142 : decode cX9_init 142 = .ok (.bipush 40, 2) := by decide +kernel
theorem dX9_init_144 : decode cX9_init 144 = .ok (.newarray .int, 2) := by decide +kernel
theorem dX9_init_146 : decode cX9_init 146 = .ok (.putfield 48, 3) := by decide +kernel
theorem dX9_init_149 : decode cX9_init 149 = .ok (.aload_n 0, 1) := by decide +kernel
theorem dX9_init_150 : decode cX9_init 150 = .ok (.bipush 41, 2) := by decide +kernel
theorem dX9_init_152 : decode cX9_init 152 = .ok (.newarray .int, 2) := by decide +kernel
theorem dX9_init_154 : decode cX9_init 154 = .ok (.putfield 51, 3) := by decide +kernel
theorem dX9_init_157 : decode cX9_init 157 = .ok (.return_, 1) := by decide +kernel
theorem dX9_thrown_0 : decode cX9_thrown 0 = .ok (.aload_n 0, 1) := by decide +kernel
theorem dX9_thrown_1 : decode cX9_thrown 1 = .ok (.getfield 54, 3) := by decide +kernel
theorem dX9_thrown_4 : decode cX9_thrown 4 = .ok (.ireturn, 1) := by decide +kernel
theorem dX9_fail_0 : decode cX9_fail 0 = .ok (.aload_n 0, 1) := by decide +kernel
theorem dX9_fail_1 : decode cX9_fail 1 = .ok (.iload_n 1, 1) := by decide +kernel
theorem dX9_fail_2 : decode cX9_fail 2 = .ok (.putfield 54, 3) := by decide +kernel
theorem dX9_fail_5 : decode cX9_fail 5 = .ok (.iconst 0, 1) := by decide +kernel
theorem dX9_fail_6 : decode cX9_fail 6 = .ok (.ireturn, 1) := by decide +kernel
theorem dX9_field_0 : decode cX9_field 0 = .ok (.aload_n 0, 1) := by decide +kernel
theorem dX9_field_1 : decode cX9_field 1 = .ok (.getfield 58, 3) := by decide +kernel
theorem dX9_field_4 : decode cX9_field 4 = .ok (.iload_n 1, 1) := by decide +kernel
theorem dX9_field_5 : decode cX9_field 5 = .ok (.iushr, 1) := by decide +kernel
theorem dX9_field_6 : decode cX9_field 6 = .ok (.bipush 31, 2) := by decide +kernel
theorem dX9_field_8 : decode cX9_field 8 = .ok (.iand, 1) := by decide +kernel
theorem dX9_field_9 : decode cX9_field 9 = .ok (.ireturn, 1) := by decide +kernel
theorem dX9_register_0 : decode cX9_register 0 = .ok (.iload_n 0, 1) := by decide +kernel
theorem dX9_register_1 : decode cX9_register 1 = .ok (.ifCond .ne 7, 3) := by decide +kernel
theorem dX9_register_4 : decode cX9_register 4 = .ok (.lconst 0, 1) := by decide +kernel
theorem dX9_register_5 : decode cX9_register 5 = .ok (.goto 6, 3) := by decide +kernel
theorem dX9_register_8 : decode cX9_register 8 = .ok (.lconst 1, 1) := by decide +kernel
theorem dX9_register_9 : decode cX9_register 9 = .ok (.iload_n 0, 1) := by decide +kernel
theorem dX9_register_10 : decode cX9_register 10 = .ok (.lshl, 1) := by decide +kernel
theorem dX9_register_11 : decode cX9_register 11 = .ok (.lreturn, 1) := by decide +kernel
set_option maxRecDepth 20000 in
theorem ggX9_s_X9_field : GoodIn wsX9_s wsX9_field := goodIn_r _ [5, 6, 10, 11, 12, 13, 14, 15, 16, 17, 18, 19, 20, 21, 22, 23, 24, 25, 26, 27, 28, 29, 30, 31, 32, 33, 34, 35] (by decide +kernel) (by decide +kernel)
set_option maxRecDepth 20000 in
theorem gX9_s_X9_field : GoodIn wsX9_s (wsV RX9 61 RX9 yX9_field wsX9_field) := goodIn_app (goodIn_of _ (by decide +kernel)) ggX9_s_X9_field
set_option maxRecDepth 20000 in
theorem ggX9_s_X9_register : GoodIn wsX9_s wsX9_register := goodIn_r _ [9] (by decide +kernel) (by decide +kernel)
set_option maxRecDepth 20000 in
theorem gX9_s_X9_register : GoodIn wsX9_s (va_wsS RX9 65 yX9_register wsX9_register) := goodIn_app (goodIn_of _ (by decide +kernel)) ggX9_s_X9_register
theorem dX9_s_0 : decode cX9_s 0 = .ok (.aload_n 0, 1) := by decide +kernel
theorem dX9_s_1 : decode cX9_s 1 = .ok (.bipush 21, 2) := by decide +kernel
theorem dX9_s_3 : decode cX9_s 3 = .ok (.invokevirtual 61, 3) := by decide +kernel
theorem dX9_s_6 : decode cX9_s 6 = .ok (.invokestatic 65, 3) := by decide +kernel
theorem dX9_s_9 : decode cX9_s 9 = .ok (.lreturn, 1) := by decide +kernel
set_option maxRecDepth 20000 in
theorem ggX9_t_X9_field : GoodIn wsX9_t wsX9_field := goodIn_r _ [5, 6, 10, 11, 12, 13, 14, 15, 16, 17, 18, 19, 20, 21, 22, 23, 24, 25, 26, 27, 28, 29, 30, 31, 32, 33, 34, 35] (by decide +kernel) (by decide +kernel)
set_option maxRecDepth 20000 in
theorem gX9_t_X9_field : GoodIn wsX9_t (wsV RX9 61 RX9 yX9_field wsX9_field) := goodIn_app (goodIn_of _ (by decide +kernel)) ggX9_t_X9_field
set_option maxRecDepth 20000 in
theorem ggX9_t_X9_register : GoodIn wsX9_t wsX9_register := goodIn_r _ [9] (by decide +kernel) (by decide +kernel)
set_option maxRecDepth 20000 in
theorem gX9_t_X9_register : GoodIn wsX9_t (va_wsS RX9 65 yX9_register wsX9_register) := goodIn_app (goodIn_of _ (by decide +kernel)) ggX9_t_X9_register
theorem dX9_t_0 : decode cX9_t 0 = .ok (.aload_n 0, 1) := by decide +kernel
theorem dX9_t_1 : decode cX9_t 1 = .ok (.bipush 16, 2) := by decide +kernel
theorem dX9_t_3 : decode cX9_t 3 = .ok (.invokevirtual 61, 3) := by decide +kernel
theorem dX9_t_6 : decode cX9_t 6 = .ok (.invokestatic 65, 3) := by decide +kernel
theorem dX9_t_9 : decode cX9_t 9 = .ok (.lreturn, 1) := by decide +kernel
set_option maxRecDepth 20000 in
theorem ggX9_d_X9_field : GoodIn wsX9_d wsX9_field := goodIn_r _ [5, 6, 10, 11, 12, 13, 14, 15, 16, 17, 18, 19, 20, 21, 22, 23, 24, 25, 26, 27, 28, 29, 30, 31, 32, 33, 34, 35] (by decide +kernel) (by decide +kernel)
set_option maxRecDepth 20000 in
theorem gX9_d_X9_field : GoodIn wsX9_d (wsV RX9 61 RX9 yX9_field wsX9_field) := goodIn_app (goodIn_of _ (by decide +kernel)) ggX9_d_X9_field
set_option maxRecDepth 20000 in
theorem ggX9_d_X9_register : GoodIn wsX9_d wsX9_register := goodIn_r _ [9] (by decide +kernel) (by decide +kernel)
set_option maxRecDepth 20000 in
theorem gX9_d_X9_register : GoodIn wsX9_d (va_wsS RX9 65 yX9_register wsX9_register) := goodIn_app (goodIn_of _ (by decide +kernel)) ggX9_d_X9_register
theorem dX9_d_0 : decode cX9_d 0 = .ok (.aload_n 0, 1) := by decide +kernel
theorem dX9_d_1 : decode cX9_d 1 = .ok (.bipush 11, 2) := by decide +kernel
theorem dX9_d_3 : decode cX9_d 3 = .ok (.invokevirtual 61, 3) := by decide +kernel
theorem dX9_d_6 : decode cX9_d 6 = .ok (.invokestatic 65, 3) := by decide +kernel
theorem dX9_d_9 : decode cX9_d 9 = .ok (.lreturn, 1) := by decide +kernel
theorem dX9_is_0 : decode cX9_is 0 = .ok (.aload_n 0, 1) := by decide +kernel
theorem dX9_is_1 : decode cX9_is 1 = .ok (.iload_n 1, 1) := by decide +kernel
theorem dX9_is_2 : decode cX9_is 2 = .ok (.putfield 69, 3) := by decide +kernel
theorem dX9_is_5 : decode cX9_is 5 = .ok (.aload_n 0, 1) := by decide +kernel
theorem dX9_is_6 : decode cX9_is 6 = .ok (.lload_n 2, 1) := by decide +kernel
theorem dX9_is_7 : decode cX9_is 7 = .ok (.putfield 72, 3) := by decide +kernel
theorem dX9_is_10 : decode cX9_is 10 = .ok (.aload_n 0, 1) := by decide +kernel
theorem dX9_is_11 : decode cX9_is 11 = .ok (.lload 4, 2) := by decide +kernel
theorem dX9_is_13 : decode cX9_is 13 = .ok (.putfield 76, 3) := by decide +kernel
theorem dX9_is_16 : decode cX9_is 16 = .ok (.return_, 1) := by decide +kernel
theorem dX9_also_0 : decode cX9_also 0 = .ok (.aload_n 0, 1) := by decide +kernel
theorem dX9_also_1 : decode cX9_also 1 = .ok (.iload_n 1, 1) := by decide +kernel
theorem dX9_also_2 : decode cX9_also 2 = .ok (.putfield 79, 3) := by decide +kernel
theorem dX9_also_5 : decode cX9_also 5 = .ok (.aload_n 0, 1) := by decide +kernel
theorem dX9_also_6 : decode cX9_also 6 = .ok (.iload_n 2, 1) := by decide +kernel
theorem dX9_also_7 : decode cX9_also 7 = .ok (.putfield 82, 3) := by decide +kernel
theorem dX9_also_10 : decode cX9_also 10 = .ok (.return_, 1) := by decide +kernel
theorem dX9_fraction_0 : decode cX9_fraction 0 = .ok (.iload_n 2, 1) := by decide +kernel
theorem dX9_fraction_1 : decode cX9_fraction 1 = .ok (.ifCond .eq 15, 3) := by decide +kernel
theorem dX9_fraction_4 : decode cX9_fraction 4 = .ok (.iload_n 1, 1) := by decide +kernel
theorem dX9_fraction_5 : decode cX9_fraction 5 = .ok (.iconst 1, 1) := by decide +kernel
theorem dX9_fraction_6 : decode cX9_fraction 6 = .ok (.iand, 1) := by decide +kernel
theorem dX9_fraction_7 : decode cX9_fraction 7 = .ok (.iconst 1, 1) := by decide +kernel
theorem dX9_fraction_8 : decode cX9_fraction 8 = .ok (.if_icmp .ne 8, 3) := by decide +kernel
theorem dX9_fraction_11 : decode cX9_fraction 11 = .ok (.aload_n 0, 1) := by decide +kernel
theorem dX9_fraction_12 : decode cX9_fraction 12 = .ok (.iconst (-1), 1) := by decide +kernel
theorem dX9_fraction_13 : decode cX9_fraction 13 = .ok (.putfield 69, 3) := by decide +kernel
theorem dX9_fraction_16 : decode cX9_fraction 16 = .ok (.iload_n 2, 1) := by decide +kernel
theorem dX9_fraction_17 : decode cX9_fraction 17 = .ok (.ifCond .eq 9, 3) := by decide +kernel
theorem dX9_fraction_20 : decode cX9_fraction 20 = .ok (.ldc2_w 85, 3) := by decide +kernel
theorem dX9_fraction_23 : decode cX9_fraction 23 = .ok (.goto 4, 3) := by decide +kernel
theorem dX9_fraction_26 : decode cX9_fraction 26 = .ok (.lconst 1, 1) := by decide +kernel
theorem dX9_fraction_27 : decode cX9_fraction 27 = .ok (.bipush 32, 2) := by decide +kernel
theorem dX9_fraction_29 : decode cX9_fraction 29 = .ok (.iload_n 1, 1) := by decide +kernel
theorem dX9_fraction_30 : decode cX9_fraction 30 = .ok (.iadd, 1) := by decide +kernel
theorem dX9_fraction_31 : decode cX9_fraction 31 = .ok (.lshl, 1) := by decide +kernel
theorem dX9_fraction_32 : decode cX9_fraction 32 = .ok (.lreturn, 1) := by decide +kernel
set_option maxRecDepth 20000 in
theorem ggX9_look_X9_also : GoodIn wsX9_look wsX9_also := goodIn_r _ [10, 11, 12, 73, 74, 75, 76, 77, 78, 79, 80, 81, 82, 83, 84, 85, 86, 87, 88, 89, 90, 91, 92, 93, 94, 95, 96, 97, 98] (by decide +kernel) (by decide +kernel)
set_option maxRecDepth 20000 in
theorem gX9_look_X9_also : GoodIn wsX9_look (wsV RX9 91 RX9 yX9_also wsX9_also) := goodIn_app (goodIn_of _ (by decide +kernel)) ggX9_look_X9_also
set_option maxRecDepth 20000 in
theorem ggX9_look_X9_special : GoodIn wsX9_look wsX9_special := goodIn_r _ [16, 17, 18, 19, 9, 20, 21, 22, 23, 24, 1, 25, 26, 27, 28, 29, 30, 31, 32, 33, 34, 35, 2, 3, 4, 36, 37, 38, 39, 6, 7, 8, 10, 11, 12, 73, 74, 75, 76, 77, 78, 79, 80, 81, 82, 83, 84, 85, 86, 87, 88, 89, 90, 91, 92, 93, 94, 95, 96, 97, 98] (by decide +kernel) (by decide +kernel)
set_option maxRecDepth 20000 in
theorem gX9_look_X9_special : GoodIn wsX9_look (wsV RX9 95 RX9 yX9_special wsX9_special) := goodIn_app (goodIn_of _ (by decide +kernel)) ggX9_look_X9_special
set_option maxRecDepth 20000 in
theorem ggX9_look_X9_field : GoodIn wsX9_look wsX9_field := goodIn_r _ [24, 1, 73, 74, 75, 76, 77, 78, 79, 80, 81, 82, 83, 84, 85, 86, 87, 88, 89, 90, 91, 92, 93, 94, 95, 96, 97, 98] (by decide +kernel) (by decide +kernel)
set_option maxRecDepth 20000 in
theorem gX9_look_X9_field : GoodIn wsX9_look (wsV RX9 61 RX9 yX9_field wsX9_field) := goodIn_app (goodIn_of _ (by decide +kernel)) ggX9_look_X9_field
set_option maxRecDepth 20000 in
theorem ggX9_look_X9_immediate : GoodIn wsX9_look wsX9_immediate := goodIn_r _ [43, 5, 36, 37, 38, 9, 39, 21, 22, 23, 24, 1, 25, 26, 27, 32, 33, 34, 35, 2, 3, 4, 73, 74, 75, 76, 77, 78, 79, 80, 81, 82, 83, 84, 85, 86, 87, 88, 89, 90, 91, 92, 93, 94, 95, 96, 97, 98] (by decide +kernel) (by decide +kernel)
set_option maxRecDepth 20000 in
theorem gX9_look_X9_immediate : GoodIn wsX9_look (wsV RX9 99 RX9 yX9_immediate wsX9_immediate) := goodIn_app (goodIn_of _ (by decide +kernel)) ggX9_look_X9_immediate
set_option maxRecDepth 20000 in
theorem ggX9_look_X9_branch : GoodIn wsX9_look wsX9_branch := goodIn_r _ [47, 5, 25, 26, 9, 27, 32, 33, 34, 35, 2, 3, 4, 36, 37, 38, 39, 21, 22, 23, 24, 1, 17, 18, 19, 20, 73, 74, 75, 76, 77, 78, 79, 80, 81, 82, 83, 84, 85, 86, 87, 88, 89, 90, 91, 92, 93, 94, 95, 96, 97, 98] (by decide +kernel) (by decide +kernel)
set_option maxRecDepth 20000 in
theorem gX9_look_X9_branch : GoodIn wsX9_look (wsV RX9 102 RX9 yX9_branch wsX9_branch) := goodIn_app (goodIn_of _ (by decide +kernel)) ggX9_look_X9_branch
set_option maxRecDepth 20000 in
theorem ggX9_look_X9_number : GoodIn wsX9_look wsX9_number := goodIn_r _ [51, 32, 33, 34, 9, 35, 2, 3, 4, 36, 37, 38, 39, 21, 22, 23, 24, 1, 25, 26, 27, 17, 18, 19, 20, 73, 74, 75, 76, 77, 78, 79, 80, 81, 82, 83, 84, 85, 86, 87, 88, 89, 90, 91, 92, 93, 94, 95, 96, 97, 98] (by decide +kernel) (by decide +kernel)
set_option maxRecDepth 20000 in
theorem gX9_look_X9_number : GoodIn wsX9_look (wsV RX9 105 RX9 yX9_number wsX9_number) := goodIn_app (goodIn_of _ (by decide +kernel)) ggX9_look_X9_number
set_option maxRecDepth 20000 in
theorem ggX9_look_X9_fractions : GoodIn wsX9_look wsX9_fractions := goodIn_r _ [55, 1, 5, 4, 21, 22, 23, 9, 24, 17, 18, 19, 20, 25, 26, 27, 32, 33, 34, 35, 2, 3, 6, 7, 8, 10, 11, 12, 56, 57, 58, 59, 60, 61, 62, 63, 64, 73, 74, 75, 76, 77, 78, 79, 80, 81, 82, 83, 84, 85, 86, 87, 88, 89, 90, 91, 92, 93, 94, 95, 96, 97, 98] (by decide +kernel) (by decide +kernel)
set_option maxRecDepth 20000 in
theorem gX9_look_X9_fractions : GoodIn wsX9_look (wsV RX9 108 RX9 yX9_fractions wsX9_fractions) := goodIn_app (goodIn_of _ (by decide +kernel)) ggX9_look_X9_fractions
set_option maxRecDepth 20000 in
theorem ggX9_look_X9_second : GoodIn wsX9_look wsX9_second := goodIn_r _ [68, 36, 37, 38, 9, 39, 21, 22, 23, 24, 1, 25, 26, 27, 28, 29, 30, 31, 32, 33, 34, 35, 2, 3, 4, 17, 18, 19, 20, 6, 7, 8, 10, 11, 12, 73, 74, 75, 76, 77, 78, 79, 80, 81, 82, 83, 84, 85, 86, 87, 88, 89, 90, 91, 92, 93, 94, 95, 96, 97, 98] (by decide +kernel) (by decide +kernel)
set_option maxRecDepth 20000 in
theorem gX9_look_X9_second : GoodIn wsX9_look (wsV RX9 111 RX9 yX9_second wsX9_second) := goodIn_app (goodIn_of _ (by decide +kernel)) ggX9_look_X9_second
set_option maxRecDepth 20000 in
theorem ggX9_look_X9_memory : GoodIn wsX9_look wsX9_memory := goodIn_r _ [72, 4, 3, 21, 22, 23, 9, 24, 1, 36, 37, 38, 39, 25, 26, 27, 17, 18, 19, 20, 32, 33, 34, 35, 2, 60, 61, 62, 63, 64, 73, 74, 75, 76, 77, 78, 79, 80, 81, 82, 83, 84, 85, 86, 87, 88, 89, 90, 91, 92, 93, 94, 95, 96, 97, 98] (by decide +kernel) (by decide +kernel)
set_option maxRecDepth 20000 in
theorem gX9_look_X9_memory : GoodIn wsX9_look (wsV RX9 114 RX9 yX9_memory wsX9_memory) := goodIn_app (goodIn_of _ (by decide +kernel)) ggX9_look_X9_memory
theorem dX9_look_0 : decode cX9_look 0 = .ok (.aload_n 0, 1) := by decide +kernel
theorem dX9_look_1 : decode cX9_look 1 = .ok (.iload_n 1, 1) := by decide +kernel
theorem dX9_look_2 : decode cX9_look 2 = .ok (.putfield 58, 3) := by decide +kernel
theorem dX9_look_5 : decode cX9_look 5 = .ok (.aload_n 0, 1) := by decide +kernel
theorem dX9_look_6 : decode cX9_look 6 = .ok (.iconst (-1), 1) := by decide +kernel
theorem dX9_look_7 : decode cX9_look 7 = .ok (.putfield 69, 3) := by decide +kernel
theorem dX9_look_10 : decode cX9_look 10 = .ok (.aload_n 0, 1) := by decide +kernel
theorem dX9_look_11 : decode cX9_look 11 = .ok (.lconst 0, 1) := by decide +kernel
theorem dX9_look_12 : decode cX9_look 12 = .ok (.putfield 72, 3) := by decide +kernel
theorem dX9_look_15 : decode cX9_look 15 = .ok (.aload_n 0, 1) := by decide +kernel
theorem dX9_look_16 : decode cX9_look 16 = .ok (.lconst 0, 1) := by decide +kernel
theorem dX9_look_17 : decode cX9_look 17 = .ok (.putfield 76, 3) := by decide +kernel
theorem dX9_look_20 : decode cX9_look 20 = .ok (.aload_n 0, 1) := by decide +kernel
theorem dX9_look_21 : decode cX9_look 21 = .ok (.iconst 0, 1) := by decide +kernel
theorem dX9_look_22 : decode cX9_look 22 = .ok (.putfield 87, 3) := by decide +kernel
theorem dX9_look_25 : decode cX9_look 25 = .ok (.aload_n 0, 1) := by decide +kernel
theorem dX9_look_26 : decode cX9_look 26 = .ok (.iconst 0, 1) := by decide +kernel
theorem dX9_look_27 : decode cX9_look 27 = .ok (.iconst 0, 1) := by decide +kernel
theorem dX9_look_28 : decode cX9_look 28 = .ok (.invokevirtual 91, 3) := by decide +kernel
theorem dX9_look_31 : decode cX9_look 31 = .ok (.aload_n 0, 1) := by decide +kernel
theorem dX9_look_32 : decode cX9_look 32 = .ok (.getfield 58, 3) := by decide +kernel
theorem dX9_look_35 : decode cX9_look 35 = .ok (.bipush 26, 2) := by decide +kernel
theorem dX9_look_37 : decode cX9_look 37 = .ok (.iushr, 1) := by decide +kernel
theorem dX9_look_38 : decode cX9_look 38 = .ok (.istore_n 2, 1) := by decide +kernel
theorem dX9_look_39 : decode cX9_look 39 = .ok (.iload_n 2, 1) := by decide +kernel
theorem dX9_look_40 : decode cX9_look 40 = .ok (.ifCond .ne 17, 3) := by decide +kernel
theorem dX9_look_43 : decode cX9_look 43 = .ok (.aload_n 0, 1) := by decide +kernel
theorem dX9_look_44 : decode cX9_look 44 = .ok (.aload_n 0, 1) := by decide +kernel
theorem dX9_look_45 : decode cX9_look 45 = .ok (.getfield 58, 3) := by decide +kernel
theorem dX9_look_48 : decode cX9_look 48 = .ok (.bipush 63, 2) := by decide +kernel
theorem dX9_look_50 : decode cX9_look 50 = .ok (.iand, 1) := by decide +kernel
theorem dX9_look_51 : decode cX9_look 51 = .ok (.invokevirtual 95, 3) := by decide +kernel
theorem dX9_look_54 : decode cX9_look 54 = .ok (.goto 105, 3) := by decide +kernel
theorem dX9_look_57 : decode cX9_look 57 = .ok (.iload_n 2, 1) := by decide +kernel
theorem dX9_look_58 : decode cX9_look 58 = .ok (.iconst 1, 1) := by decide +kernel
theorem dX9_look_59 : decode cX9_look 59 = .ok (.if_icmp .ne 16, 3) := by decide +kernel
theorem dX9_look_62 : decode cX9_look 62 = .ok (.aload_n 0, 1) := by decide +kernel
theorem dX9_look_63 : decode cX9_look 63 = .ok (.aload_n 0, 1) := by decide +kernel
theorem dX9_look_64 : decode cX9_look 64 = .ok (.bipush 16, 2) := by decide +kernel
theorem dX9_look_66 : decode cX9_look 66 = .ok (.invokevirtual 61, 3) := by decide +kernel
theorem dX9_look_69 : decode cX9_look 69 = .ok (.invokevirtual 99, 3) := by decide +kernel
theorem dX9_look_72 : decode cX9_look 72 = .ok (.goto 87, 3) := by decide +kernel
theorem dX9_look_75 : decode cX9_look 75 = .ok (.iload_n 2, 1) := by decide +kernel
theorem dX9_look_76 : decode cX9_look 76 = .ok (.bipush 8, 2) := by decide +kernel
theorem dX9_look_78 : decode cX9_look 78 = .ok (.if_icmp .lt 15, 3) := by decide +kernel
theorem dX9_look_81 : decode cX9_look 81 = .ok (.iload_n 2, 1) := by decide +kernel
theorem dX9_look_82 : decode cX9_look 82 = .ok (.bipush 20, 2) := by decide +kernel
theorem dX9_look_84 : decode cX9_look 84 = .ok (.if_icmp .lt 17, 3) := by decide +kernel
theorem dX9_look_87 : decode cX9_look 87 = .ok (.iload_n 2, 1) := by decide +kernel
theorem dX9_look_88 : decode cX9_look 88 = .ok (.bipush 24, 2) := by decide +kernel
theorem dX9_look_90 : decode cX9_look 90 = .ok (.if_icmp .ge 11, 3) := by decide +kernel
theorem dX9_look_93 : decode cX9_look 93 = .ok (.aload_n 0, 1) := by decide +kernel
theorem dX9_look_94 : decode cX9_look 94 = .ok (.iload_n 2, 1) := by decide +kernel
theorem dX9_look_95 : decode cX9_look 95 = .ok (.invokevirtual 102, 3) := by decide +kernel
theorem dX9_look_98 : decode cX9_look 98 = .ok (.goto 61, 3) := by decide +kernel
theorem dX9_look_101 : decode cX9_look 101 = .ok (.iload_n 2, 1) := by decide +kernel
theorem dX9_look_102 : decode cX9_look 102 = .ok (.bipush 16, 2) := by decide +kernel
theorem dX9_look_104 : decode cX9_look 104 = .ok (.if_icmp .ge 11, 3) := by decide +kernel
theorem dX9_look_107 : decode cX9_look 107 = .ok (.aload_n 0, 1) := by decide +kernel
theorem dX9_look_108 : decode cX9_look 108 = .ok (.iload_n 2, 1) := by decide +kernel
theorem dX9_look_109 : decode cX9_look 109 = .ok (.invokevirtual 105, 3) := by decide +kernel
theorem dX9_look_112 : decode cX9_look 112 = .ok (.goto 47, 3) := by decide +kernel
theorem dX9_look_115 : decode cX9_look 115 = .ok (.iload_n 2, 1) := by decide +kernel
theorem dX9_look_116 : decode cX9_look 116 = .ok (.bipush 17, 2) := by decide +kernel
theorem dX9_look_118 : decode cX9_look 118 = .ok (.if_icmp .ne 10, 3) := by decide +kernel
theorem dX9_look_121 : decode cX9_look 121 = .ok (.aload_n 0, 1) := by decide +kernel
theorem dX9_look_122 : decode cX9_look 122 = .ok (.invokevirtual 108, 3) := by decide +kernel
theorem dX9_look_125 : decode cX9_look 125 = .ok (.goto 34, 3) := by decide +kernel
theorem dX9_look_128 : decode cX9_look 128 = .ok (.iload_n 2, 1) := by decide +kernel
theorem dX9_look_129 : decode cX9_look 129 = .ok (.bipush 28, 2) := by decide +kernel
theorem dX9_look_131 : decode cX9_look 131 = .ok (.if_icmp .ne 17, 3) := by decide +kernel
theorem dX9_look_134 : decode cX9_look 134 = .ok (.aload_n 0, 1) := by decide +kernel
theorem dX9_look_135 : decode cX9_look 135 = .ok (.aload_n 0, 1) := by decide +kernel
theorem dX9_look_136 : decode cX9_look 136 = .ok (.getfield 58, 3) := by decide +kernel
theorem dX9_look_139 : decode cX9_look 139 = .ok (.bipush 63, 2) := by decide +kernel
theorem dX9_look_141 : decode cX9_look 141 = .ok (.iand, 1) := by decide +kernel
theorem dX9_look_142 : decode cX9_look 142 = .ok (.invokevirtual 111, 3) := by decide +kernel
theorem dX9_look_145 : decode cX9_look 145 = .ok (.goto 14, 3) := by decide +kernel
theorem dX9_look_148 : decode cX9_look 148 = .ok (.iload_n 2, 1) := by decide +kernel
theorem dX9_look_149 : decode cX9_look 149 = .ok (.bipush 32, 2) := by decide +kernel
theorem dX9_look_151 : decode cX9_look 151 = .ok (.if_icmp .lt 8, 3) := by decide +kernel
theorem dX9_look_154 : decode cX9_look 154 = .ok (.aload_n 0, 1) := by decide +kernel
theorem dX9_look_155 : decode cX9_look 155 = .ok (.iload_n 2, 1) := by decide +kernel
theorem dX9_look_156 : decode cX9_look 156 = .ok (.invokevirtual 114, 3) := by decide +kernel
theorem dX9_look_159 : decode cX9_look 159 = .ok (.return_, 1) := by decide +kernel
set_option maxRecDepth 20000 in
theorem ggX9_special_X9_t : GoodIn wsX9_special wsX9_t := goodIn_r _ [5, 6, 7, 8, 4, 9, 10, 11, 12, 13, 35, 36, 37, 38, 39, 40, 41, 42, 43, 44, 45, 46, 47, 48, 49, 50, 51, 52, 53, 54, 55, 56, 57, 58, 59, 60] (by decide +kernel) (by decide +kernel)
set_option maxRecDepth 20000 in
theorem gX9_special_X9_t : GoodIn wsX9_special (wsV RX9 117 RX9 yX9_t wsX9_t) := goodIn_app (goodIn_of _ (by decide +kernel)) ggX9_special_X9_t
set_option maxRecDepth 20000 in
theorem ggX9_special_X9_d : GoodIn wsX9_special wsX9_d := goodIn_r _ [17, 6, 7, 8, 4, 9, 10, 11, 12, 13, 35, 36, 37, 38, 39, 40, 41, 42, 43, 44, 45, 46, 47, 48, 49, 50, 51, 52, 53, 54, 55, 56, 57, 58, 59, 60] (by decide +kernel) (by decide +kernel)
set_option maxRecDepth 20000 in
theorem gX9_special_X9_d : GoodIn wsX9_special (wsV RX9 121 RX9 yX9_d wsX9_d) := goodIn_app (goodIn_of _ (by decide +kernel)) ggX9_special_X9_d
set_option maxRecDepth 20000 in
theorem ggX9_special_X9_is : GoodIn wsX9_special wsX9_is := goodIn_r _ [21, 22, 23, 24, 35, 36, 37, 38, 39, 40, 41, 42, 43, 44, 45, 46, 47, 48, 49, 50, 51, 52, 53, 54, 55, 56, 57, 58, 59, 60] (by decide +kernel) (by decide +kernel)
set_option maxRecDepth 20000 in
theorem gX9_special_X9_is : GoodIn wsX9_special (wsV RX9 124 RX9 yX9_is wsX9_is) := goodIn_app (goodIn_of _ (by decide +kernel)) ggX9_special_X9_is
set_option maxRecDepth 20000 in
theorem ggX9_special_X9_s : GoodIn wsX9_special wsX9_s := goodIn_r _ [28, 6, 7, 8, 4, 9, 10, 11, 12, 13, 35, 36, 37, 38, 39, 40, 41, 42, 43, 44, 45, 46, 47, 48, 49, 50, 51, 52, 53, 54, 55, 56, 57, 58, 59, 60] (by decide +kernel) (by decide +kernel)
set_option maxRecDepth 20000 in
theorem gX9_special_X9_s : GoodIn wsX9_special (wsV RX9 128 RX9 yX9_s wsX9_s) := goodIn_app (goodIn_of _ (by decide +kernel)) ggX9_special_X9_s
set_option maxRecDepth 20000 in
theorem ggX9_special_X9_also : GoodIn wsX9_special wsX9_also := goodIn_r _ [32, 33, 34, 35, 36, 37, 38, 39, 40, 41, 42, 43, 44, 45, 46, 47, 48, 49, 50, 51, 52, 53, 54, 55, 56, 57, 58, 59, 60] (by decide +kernel) (by decide +kernel)
set_option maxRecDepth 20000 in
theorem gX9_special_X9_also : GoodIn wsX9_special (wsV RX9 91 RX9 yX9_also wsX9_also) := goodIn_app (goodIn_of _ (by decide +kernel)) ggX9_special_X9_also
theorem dX9_special_0 : decode cX9_special 0 = .ok (.iload_n 1, 1) := by decide +kernel
theorem dX9_special_1 : decode cX9_special 1 = .ok (.ifCond .eq 13, 3) := by decide +kernel
theorem dX9_special_4 : decode cX9_special 4 = .ok (.iload_n 1, 1) := by decide +kernel
theorem dX9_special_5 : decode cX9_special 5 = .ok (.iconst 2, 1) := by decide +kernel
theorem dX9_special_6 : decode cX9_special 6 = .ok (.if_icmp .eq 8, 3) := by decide +kernel
theorem dX9_special_9 : decode cX9_special 9 = .ok (.iload_n 1, 1) := by decide +kernel
theorem dX9_special_10 : decode cX9_special 10 = .ok (.iconst 3, 1) := by decide +kernel
theorem dX9_special_11 : decode cX9_special 11 = .ok (.if_icmp .ne 19, 3) := by decide +kernel
theorem dX9_special_14 : decode cX9_special 14 = .ok (.aload_n 0, 1) := by decide +kernel
theorem dX9_special_15 : decode cX9_special 15 = .ok (.iconst 0, 1) := by decide +kernel
theorem dX9_special_16 : decode cX9_special 16 = .ok (.aload_n 0, 1) := by decide +kernel
theorem dX9_special_17 : decode cX9_special 17 = .ok (.invokevirtual 117, 3) := by decide +kernel
theorem dX9_special_20 : decode cX9_special 20 = .ok (.aload_n 0, 1) := by decide +kernel
theorem dX9_special_21 : decode cX9_special 21 = .ok (.invokevirtual 121, 3) := by decide +kernel
theorem dX9_special_24 : decode cX9_special 24 = .ok (.invokevirtual 124, 3) := by decide +kernel
theorem dX9_special_27 : decode cX9_special 27 = .ok (.goto 348, 3) := by decide +kernel
theorem dX9_special_30 : decode cX9_special 30 = .ok (.iload_n 1, 1) := by decide +kernel
theorem dX9_special_31 : decode cX9_special 31 = .ok (.iconst 1, 1) := by decide +kernel
theorem dX9_special_32 : decode cX9_special 32 = .ok (.if_icmp .ne 30, 3) := by decide +kernel
theorem dX9_special_35 : decode cX9_special 35 = .ok (.aload_n 0, 1) := by decide +kernel
theorem dX9_special_36 : decode cX9_special 36 = .ok (.iconst 0, 1) := by decide +kernel
theorem dX9_special_37 : decode cX9_special 37 = .ok (.aload_n 0, 1) := by decide +kernel
theorem dX9_special_38 : decode cX9_special 38 = .ok (.invokevirtual 128, 3) := by decide +kernel
theorem dX9_special_41 : decode cX9_special 41 = .ok (.aload_n 0, 1) := by decide +kernel
theorem dX9_special_42 : decode cX9_special 42 = .ok (.invokevirtual 121, 3) := by decide +kernel
theorem dX9_special_45 : decode cX9_special 45 = .ok (.lor, 1) := by decide +kernel
theorem dX9_special_46 : decode cX9_special 46 = .ok (.aload_n 0, 1) := by decide +kernel
theorem dX9_special_47 : decode cX9_special 47 = .ok (.invokevirtual 121, 3) := by decide +kernel
theorem dX9_special_50 : decode cX9_special 50 = .ok (.invokevirtual 124, 3) := by decide +kernel
theorem dX9_special_53 : decode cX9_special 53 = .ok (.aload_n 0, 1) := by decide +kernel
theorem dX9_special_54 : decode cX9_special 54 = .ok (.iconst 1, 1) := by decide +kernel
theorem dX9_special_55 : decode cX9_special 55 = .ok (.iconst 0, 1) := by decide +kernel
theorem dX9_special_56 : decode cX9_special 56 = .ok (.invokevirtual 91, 3) := by decide +kernel
theorem dX9_special_59 : decode cX9_special 59 = .ok (.goto 316, 3) := by decide +kernel
theorem dX9_special_62 : decode cX9_special 62 = .ok (.iload_n 1, 1) := by decide +kernel
theorem dX9_special_63 : decode cX9_special 63 = .ok (.iconst 4, 1) := by decide +kernel
theorem dX9_special_64 : decode cX9_special 64 = .ok (.if_icmp .eq 45, 3) := by decide +kernel
theorem dX9_special_67 : decode cX9_special 67 = .ok (.iload_n 1, 1) := by decide +kernel
theorem dX9_special_68 : decode cX9_special 68 = .ok (.bipush 6, 2) := by decide +kernel
theorem dX9_special_70 : decode cX9_special 70 = .ok (.if_icmp .eq 39, 3) := by decide +kernel
theorem dX9_special_73 : decode cX9_special 73 = .ok (.iload_n 1, 1) := by decide +kernel
theorem dX9_special_74 : decode cX9_special 74 = .ok (.bipush 7, 2) := by decide +kernel
theorem dX9_special_76 : decode cX9_special 76 = .ok (.if_icmp .eq 33, 3) := by decide +kernel
theorem dX9_special_79 : decode cX9_special 79 = .ok (.iload_n 1, 1) := by decide +kernel
theorem dX9_special_80 : decode cX9_special 80 = .ok (.bipush 33, 2) := by decide +kernel
theorem dX9_special_82 : decode cX9_special 82 = .ok (.if_icmp .eq 27, 3) := by decide +kernel
theorem dX9_special_85 : decode cX9_special 85 = .ok (.iload_n 1, 1) := by decide +kernel
theorem dX9_special_86 : decode cX9_special 86 = .ok (.bipush 35, 2) := by decide +kernel
theorem dX9_special_88 : decode cX9_special 88 = .ok (.if_icmp .lt 9, 3) := by decide +kernel
theorem dX9_special_91 : decode cX9_special 91 = .ok (.iload_n 1, 1) := by decide +kernel
theorem dX9_special_92 : decode cX9_special 92 = .ok (.bipush 40, 2) := by decide +kernel
theorem dX9_special_94 : decode cX9_special 94 = .ok (.if_icmp .lt 15, 3) := by decide +kernel
theorem dX9_special_97 : decode cX9_special 97 = .ok (.iload_n 1, 1) := by decide +kernel
theorem dX9_special_98 : decode cX9_special 98 = .ok (.bipush 42, 2) := by decide +kernel
theorem dX9_special_100 : decode cX9_special 100 = .ok (.if_icmp .eq 9, 3) := by decide +kernel
theorem dX9_special_103 : decode cX9_special 103 = .ok (.iload_n 1, 1) := by decide +kernel
theorem dX9_special_104 : decode cX9_special 104 = .ok (.bipush 43, 2) := by decide +kernel
theorem dX9_special_106 : decode cX9_special 106 = .ok (.if_icmp .ne 24, 3) := by decide +kernel
theorem dX9_special_109 : decode cX9_special 109 = .ok (.aload_n 0, 1) := by decide +kernel
theorem dX9_special_110 : decode cX9_special 110 = .ok (.iconst 0, 1) := by decide +kernel
theorem dX9_special_111 : decode cX9_special 111 = .ok (.aload_n 0, 1) := by decide +kernel
theorem dX9_special_112 : decode cX9_special 112 = .ok (.invokevirtual 128, 3) := by decide +kernel
theorem dX9_special_115 : decode cX9_special 115 = .ok (.aload_n 0, 1) := by decide +kernel
theorem dX9_special_116 : decode cX9_special 116 = .ok (.invokevirtual 117, 3) := by decide +kernel
theorem dX9_special_119 : decode cX9_special 119 = .ok (.lor, 1) := by decide +kernel
theorem dX9_special_120 : decode cX9_special 120 = .ok (.aload_n 0, 1) := by decide +kernel
theorem dX9_special_121 : decode cX9_special 121 = .ok (.invokevirtual 121, 3) := by decide +kernel
theorem dX9_special_124 : decode cX9_special 124 = .ok (.invokevirtual 124, 3) := by decide +kernel
theorem dX9_special_127 : decode cX9_special 127 = .ok (.goto 248, 3) := by decide +kernel
theorem dX9_special_130 : decode cX9_special 130 = .ok (.iload_n 1, 1) := by decide +kernel
theorem dX9_special_131 : decode cX9_special 131 = .ok (.bipush 8, 2) := by decide +kernel
theorem dX9_special_133 : decode cX9_special 133 = .ok (.if_icmp .ne 17, 3) := by decide +kernel
theorem dX9_special_136 : decode cX9_special 136 = .ok (.aload_n 0, 1) := by decide +kernel
theorem dX9_special_137 : decode cX9_special 137 = .ok (.bipush 7, 2) := by decide +kernel
theorem dX9_special_139 : decode cX9_special 139 = .ok (.aload_n 0, 1) := by decide +kernel
theorem dX9_special_140 : decode cX9_special 140 = .ok (.invokevirtual 128, 3) := by decide +kernel
theorem dX9_special_143 : decode cX9_special 143 = .ok (.lconst 0, 1) := by decide +kernel
theorem dX9_special_144 : decode cX9_special 144 = .ok (.invokevirtual 124, 3) := by decide +kernel
theorem dX9_special_147 : decode cX9_special 147 = .ok (.goto 228, 3) := by decide +kernel
theorem dX9_special_150 : decode cX9_special 150 = .ok (.iload_n 1, 1) := by decide +kernel
theorem dX9_special_151 : decode cX9_special 151 = .ok (.bipush 9, 2) := by decide +kernel
theorem dX9_special_153 : decode cX9_special 153 = .ok (.if_icmp .ne 20, 3) := by decide +kernel
theorem dX9_special_156 : decode cX9_special 156 = .ok (.aload_n 0, 1) := by decide +kernel
theorem dX9_special_157 : decode cX9_special 157 = .ok (.bipush 7, 2) := by decide +kernel
theorem dX9_special_159 : decode cX9_special 159 = .ok (.aload_n 0, 1) := by decide +kernel
theorem dX9_special_160 : decode cX9_special 160 = .ok (.invokevirtual 128, 3) := by decide +kernel
theorem dX9_special_163 : decode cX9_special 163 = .ok (.aload_n 0, 1) := by decide +kernel
theorem dX9_special_164 : decode cX9_special 164 = .ok (.invokevirtual 121, 3) := by decide +kernel
theorem dX9_special_167 : decode cX9_special 167 = .ok (.invokevirtual 124, 3) := by decide +kernel
theorem dX9_special_170 : decode cX9_special 170 = .ok (.goto 205, 3) := by decide +kernel
theorem dX9_special_173 : decode cX9_special 173 = .ok (.iload_n 1, 1) := by decide +kernel
theorem dX9_special_174 : decode cX9_special 174 = .ok (.bipush 10, 2) := by decide +kernel
theorem dX9_special_176 : decode cX9_special 176 = .ok (.if_icmp .eq 9, 3) := by decide +kernel
theorem dX9_special_179 : decode cX9_special 179 = .ok (.iload_n 1, 1) := by decide +kernel
theorem dX9_special_180 : decode cX9_special 180 = .ok (.bipush 11, 2) := by decide +kernel
theorem dX9_special_182 : decode cX9_special 182 = .ok (.if_icmp .ne 29, 3) := by decide +kernel
theorem dX9_special_185 : decode cX9_special 185 = .ok (.aload_n 0, 1) := by decide +kernel
theorem dX9_special_186 : decode cX9_special 186 = .ok (.iconst 0, 1) := by decide +kernel
theorem dX9_special_187 : decode cX9_special 187 = .ok (.aload_n 0, 1) := by decide +kernel
theorem dX9_special_188 : decode cX9_special 188 = .ok (.invokevirtual 128, 3) := by decide +kernel
theorem dX9_special_191 : decode cX9_special 191 = .ok (.aload_n 0, 1) := by decide +kernel
end
section
theorem dX9_special_192 : decode cX9_special 192 = .ok (.invokevirtual 117, 3) := by decide +kernel
theorem dX9_special_195 : decode cX9_special 195 = .ok (.lor, 1) := by decide +kernel
theorem dX9_special_196 : decode cX9_special 196 = .ok (.aload_n 0, 1) := by decide +kernel
theorem dX9_special_197 : decode cX9_special 197 = .ok (.invokevirtual 121, 3) := by decide +kernel
theorem dX9_special_200 : decode cX9_special 200 = .ok (.lor, 1) := by decide +kernel
theorem dX9_special_201 : decode cX9_special 201 = .ok (.aload_n 0, 1) := by decide +kernel
theorem dX9_special_202 : decode cX9_special 202 = .ok (.invokevirtual 121, 3) := by decide +kernel
theorem dX9_special_205 : decode cX9_special 205 = .ok (.invokevirtual 124, 3) := by decide +kernel
theorem dX9_special_208 : decode cX9_special 208 = .ok (.goto 167, 3) := by decide +kernel
theorem dX9_special_211 : decode cX9_special 211 = .ok (.iload_n 1, 1) := by decide +kernel
theorem dX9_special_212 : decode cX9_special 212 = .ok (.bipush 12, 2) := by decide +kernel
theorem dX9_special_214 : decode cX9_special 214 = .ok (.if_icmp .eq 45, 3) := by decide +kernel
theorem dX9_special_217 : decode cX9_special 217 = .ok (.iload_n 1, 1) := by decide +kernel
theorem dX9_special_218 : decode cX9_special 218 = .ok (.bipush 13, 2) := by decide +kernel
theorem dX9_special_220 : decode cX9_special 220 = .ok (.if_icmp .eq 39, 3) := by decide +kernel
theorem dX9_special_223 : decode cX9_special 223 = .ok (.iload_n 1, 1) := by decide +kernel
theorem dX9_special_224 : decode cX9_special 224 = .ok (.bipush 15, 2) := by decide +kernel
theorem dX9_special_226 : decode cX9_special 226 = .ok (.if_icmp .eq 33, 3) := by decide +kernel
theorem dX9_special_229 : decode cX9_special 229 = .ok (.iload_n 1, 1) := by decide +kernel
theorem dX9_special_230 : decode cX9_special 230 = .ok (.bipush 32, 2) := by decide +kernel
theorem dX9_special_232 : decode cX9_special 232 = .ok (.if_icmp .eq 27, 3) := by decide +kernel
theorem dX9_special_235 : decode cX9_special 235 = .ok (.iload_n 1, 1) := by decide +kernel
theorem dX9_special_236 : decode cX9_special 236 = .ok (.bipush 34, 2) := by decide +kernel
theorem dX9_special_238 : decode cX9_special 238 = .ok (.if_icmp .eq 21, 3) := by decide +kernel
theorem dX9_special_241 : decode cX9_special 241 = .ok (.iload_n 1, 1) := by decide +kernel
theorem dX9_special_242 : decode cX9_special 242 = .ok (.bipush 48, 2) := by decide +kernel
theorem dX9_special_244 : decode cX9_special 244 = .ok (.if_icmp .lt 26, 3) := by decide +kernel
theorem dX9_special_247 : decode cX9_special 247 = .ok (.iload_n 1, 1) := by decide +kernel
theorem dX9_special_248 : decode cX9_special 248 = .ok (.bipush 55, 2) := by decide +kernel
theorem dX9_special_250 : decode cX9_special 250 = .ok (.if_icmp .ge 20, 3) := by decide +kernel
theorem dX9_special_253 : decode cX9_special 253 = .ok (.iload_n 1, 1) := by decide +kernel
theorem dX9_special_254 : decode cX9_special 254 = .ok (.bipush 53, 2) := by decide +kernel
theorem dX9_special_256 : decode cX9_special 256 = .ok (.if_icmp .eq 14, 3) := by decide +kernel
theorem dX9_special_259 : decode cX9_special 259 = .ok (.aload_n 0, 1) := by decide +kernel
theorem dX9_special_260 : decode cX9_special 260 = .ok (.bipush 8, 2) := by decide +kernel
theorem dX9_special_262 : decode cX9_special 262 = .ok (.lconst 0, 1) := by decide +kernel
theorem dX9_special_263 : decode cX9_special 263 = .ok (.lconst 0, 1) := by decide +kernel
theorem dX9_special_264 : decode cX9_special 264 = .ok (.invokevirtual 124, 3) := by decide +kernel
theorem dX9_special_267 : decode cX9_special 267 = .ok (.goto 108, 3) := by decide +kernel
theorem dX9_special_270 : decode cX9_special 270 = .ok (.iload_n 1, 1) := by decide +kernel
theorem dX9_special_271 : decode cX9_special 271 = .ok (.bipush 16, 2) := by decide +kernel
theorem dX9_special_273 : decode cX9_special 273 = .ok (.if_icmp .eq 9, 3) := by decide +kernel
theorem dX9_special_276 : decode cX9_special 276 = .ok (.iload_n 1, 1) := by decide +kernel
theorem dX9_special_277 : decode cX9_special 277 = .ok (.bipush 18, 2) := by decide +kernel
theorem dX9_special_279 : decode cX9_special 279 = .ok (.if_icmp .ne 22, 3) := by decide +kernel
theorem dX9_special_282 : decode cX9_special 282 = .ok (.aload_n 0, 1) := by decide +kernel
theorem dX9_special_283 : decode cX9_special 283 = .ok (.iconst 0, 1) := by decide +kernel
theorem dX9_special_284 : decode cX9_special 284 = .ok (.lconst 0, 1) := by decide +kernel
theorem dX9_special_285 : decode cX9_special 285 = .ok (.aload_n 0, 1) := by decide +kernel
theorem dX9_special_286 : decode cX9_special 286 = .ok (.invokevirtual 121, 3) := by decide +kernel
theorem dX9_special_289 : decode cX9_special 289 = .ok (.invokevirtual 124, 3) := by decide +kernel
theorem dX9_special_292 : decode cX9_special 292 = .ok (.aload_n 0, 1) := by decide +kernel
theorem dX9_special_293 : decode cX9_special 293 = .ok (.iconst 2, 1) := by decide +kernel
theorem dX9_special_294 : decode cX9_special 294 = .ok (.iconst 0, 1) := by decide +kernel
theorem dX9_special_295 : decode cX9_special 295 = .ok (.invokevirtual 91, 3) := by decide +kernel
theorem dX9_special_298 : decode cX9_special 298 = .ok (.goto 77, 3) := by decide +kernel
theorem dX9_special_301 : decode cX9_special 301 = .ok (.iload_n 1, 1) := by decide +kernel
theorem dX9_special_302 : decode cX9_special 302 = .ok (.bipush 17, 2) := by decide +kernel
theorem dX9_special_304 : decode cX9_special 304 = .ok (.if_icmp .eq 9, 3) := by decide +kernel
theorem dX9_special_307 : decode cX9_special 307 = .ok (.iload_n 1, 1) := by decide +kernel
theorem dX9_special_308 : decode cX9_special 308 = .ok (.bipush 19, 2) := by decide +kernel
theorem dX9_special_310 : decode cX9_special 310 = .ok (.if_icmp .ne 22, 3) := by decide +kernel
theorem dX9_special_313 : decode cX9_special 313 = .ok (.aload_n 0, 1) := by decide +kernel
theorem dX9_special_314 : decode cX9_special 314 = .ok (.iconst 0, 1) := by decide +kernel
theorem dX9_special_315 : decode cX9_special 315 = .ok (.aload_n 0, 1) := by decide +kernel
theorem dX9_special_316 : decode cX9_special 316 = .ok (.invokevirtual 128, 3) := by decide +kernel
theorem dX9_special_319 : decode cX9_special 319 = .ok (.lconst 0, 1) := by decide +kernel
theorem dX9_special_320 : decode cX9_special 320 = .ok (.invokevirtual 124, 3) := by decide +kernel
theorem dX9_special_323 : decode cX9_special 323 = .ok (.aload_n 0, 1) := by decide +kernel
theorem dX9_special_324 : decode cX9_special 324 = .ok (.iconst 2, 1) := by decide +kernel
theorem dX9_special_325 : decode cX9_special 325 = .ok (.iconst 2, 1) := by decide +kernel
theorem dX9_special_326 : decode cX9_special 326 = .ok (.invokevirtual 91, 3) := by decide +kernel
theorem dX9_special_329 : decode cX9_special 329 = .ok (.goto 46, 3) := by decide +kernel
theorem dX9_special_332 : decode cX9_special 332 = .ok (.iload_n 1, 1) := by decide +kernel
theorem dX9_special_333 : decode cX9_special 333 = .ok (.bipush 24, 2) := by decide +kernel
theorem dX9_special_335 : decode cX9_special 335 = .ok (.if_icmp .lt 40, 3) := by decide +kernel
theorem dX9_special_338 : decode cX9_special 338 = .ok (.iload_n 1, 1) := by decide +kernel
theorem dX9_special_339 : decode cX9_special 339 = .ok (.bipush 28, 2) := by decide +kernel
theorem dX9_special_341 : decode cX9_special 341 = .ok (.if_icmp .ge 34, 3) := by decide +kernel
theorem dX9_special_344 : decode cX9_special 344 = .ok (.aload_n 0, 1) := by decide +kernel
theorem dX9_special_345 : decode cX9_special 345 = .ok (.iload_n 1, 1) := by decide +kernel
theorem dX9_special_346 : decode cX9_special 346 = .ok (.bipush 26, 2) := by decide +kernel
theorem dX9_special_348 : decode cX9_special 348 = .ok (.if_icmp .ge 7, 3) := by decide +kernel
theorem dX9_special_351 : decode cX9_special 351 = .ok (.iconst 3, 1) := by decide +kernel
theorem dX9_special_352 : decode cX9_special 352 = .ok (.goto 4, 3) := by decide +kernel
theorem dX9_special_355 : decode cX9_special 355 = .ok (.iconst 4, 1) := by decide +kernel
theorem dX9_special_356 : decode cX9_special 356 = .ok (.aload_n 0, 1) := by decide +kernel
theorem dX9_special_357 : decode cX9_special 357 = .ok (.invokevirtual 128, 3) := by decide +kernel
theorem dX9_special_360 : decode cX9_special 360 = .ok (.aload_n 0, 1) := by decide +kernel
theorem dX9_special_361 : decode cX9_special 361 = .ok (.invokevirtual 117, 3) := by decide +kernel
theorem dX9_special_364 : decode cX9_special 364 = .ok (.lor, 1) := by decide +kernel
theorem dX9_special_365 : decode cX9_special 365 = .ok (.lconst 0, 1) := by decide +kernel
theorem dX9_special_366 : decode cX9_special 366 = .ok (.invokevirtual 124, 3) := by decide +kernel
theorem dX9_special_369 : decode cX9_special 369 = .ok (.aload_n 0, 1) := by decide +kernel
theorem dX9_special_370 : decode cX9_special 370 = .ok (.iconst 0, 1) := by decide +kernel
theorem dX9_special_371 : decode cX9_special 371 = .ok (.iconst 2, 1) := by decide +kernel
theorem dX9_special_372 : decode cX9_special 372 = .ok (.invokevirtual 91, 3) := by decide +kernel
theorem dX9_special_375 : decode cX9_special 375 = .ok (.return_, 1) := by decide +kernel
set_option maxRecDepth 20000 in
theorem ggX9_immediate_X9_s : GoodIn wsX9_immediate wsX9_s := goodIn_r _ [6, 7, 8, 9, 5, 10, 11, 12, 13, 14, 22, 23, 24, 25, 26, 27, 28, 29, 30, 31, 32, 33, 34, 35, 36, 37, 38, 39, 40, 41, 42, 43, 44, 45, 46, 47] (by decide +kernel) (by decide +kernel)
set_option maxRecDepth 20000 in
theorem gX9_immediate_X9_s : GoodIn wsX9_immediate (wsV RX9 128 RX9 yX9_s wsX9_s) := goodIn_app (goodIn_of _ (by decide +kernel)) ggX9_immediate_X9_s
set_option maxRecDepth 20000 in
theorem ggX9_immediate_X9_is : GoodIn wsX9_immediate wsX9_is := goodIn_r _ [18, 19, 20, 21, 22, 23, 24, 25, 26, 27, 28, 29, 30, 31, 32, 33, 34, 35, 36, 37, 38, 39, 40, 41, 42, 43, 44, 45, 46, 47] (by decide +kernel) (by decide +kernel)
set_option maxRecDepth 20000 in
theorem gX9_immediate_X9_is : GoodIn wsX9_immediate (wsV RX9 124 RX9 yX9_is wsX9_is) := goodIn_app (goodIn_of _ (by decide +kernel)) ggX9_immediate_X9_is
set_option maxRecDepth 20000 in
theorem ggX9_immediate_X9_register : GoodIn wsX9_immediate wsX9_register := goodIn_r _ [14] (by decide +kernel) (by decide +kernel)
set_option maxRecDepth 20000 in
theorem gX9_immediate_X9_register : GoodIn wsX9_immediate (va_wsS RX9 65 yX9_register wsX9_register) := goodIn_app (goodIn_of _ (by decide +kernel)) ggX9_immediate_X9_register
theorem dX9_immediate_0 : decode cX9_immediate 0 = .ok (.iload_n 1, 1) := by decide +kernel
theorem dX9_immediate_1 : decode cX9_immediate 1 = .ok (.iconst 4, 1) := by decide +kernel
theorem dX9_immediate_2 : decode cX9_immediate 2 = .ok (.if_icmp .ge 31, 3) := by decide +kernel
theorem dX9_immediate_5 : decode cX9_immediate 5 = .ok (.aload_n 0, 1) := by decide +kernel
theorem dX9_immediate_6 : decode cX9_immediate 6 = .ok (.bipush 7, 2) := by decide +kernel
theorem dX9_immediate_8 : decode cX9_immediate 8 = .ok (.aload_n 0, 1) := by decide +kernel
theorem dX9_immediate_9 : decode cX9_immediate 9 = .ok (.invokevirtual 128, 3) := by decide +kernel
theorem dX9_immediate_12 : decode cX9_immediate 12 = .ok (.lconst 0, 1) := by decide +kernel
theorem dX9_immediate_13 : decode cX9_immediate 13 = .ok (.invokevirtual 124, 3) := by decide +kernel
theorem dX9_immediate_16 : decode cX9_immediate 16 = .ok (.aload_n 0, 1) := by decide +kernel
theorem dX9_immediate_17 : decode cX9_immediate 17 = .ok (.iload_n 1, 1) := by decide +kernel
theorem dX9_immediate_18 : decode cX9_immediate 18 = .ok (.iconst 1, 1) := by decide +kernel
theorem dX9_immediate_19 : decode cX9_immediate 19 = .ok (.if_icmp .le 7, 3) := by decide +kernel
theorem dX9_immediate_22 : decode cX9_immediate 22 = .ok (.iconst 1, 1) := by decide +kernel
theorem dX9_immediate_23 : decode cX9_immediate 23 = .ok (.goto 4, 3) := by decide +kernel
theorem dX9_immediate_26 : decode cX9_immediate 26 = .ok (.iconst 0, 1) := by decide +kernel
theorem dX9_immediate_27 : decode cX9_immediate 27 = .ok (.putfield 87, 3) := by decide +kernel
theorem dX9_immediate_30 : decode cX9_immediate 30 = .ok (.goto 59, 3) := by decide +kernel
theorem dX9_immediate_33 : decode cX9_immediate 33 = .ok (.iload_n 1, 1) := by decide +kernel
theorem dX9_immediate_34 : decode cX9_immediate 34 = .ok (.bipush 16, 2) := by decide +kernel
theorem dX9_immediate_36 : decode cX9_immediate 36 = .ok (.if_icmp .eq 9, 3) := by decide +kernel
theorem dX9_immediate_39 : decode cX9_immediate 39 = .ok (.iload_n 1, 1) := by decide +kernel
theorem dX9_immediate_40 : decode cX9_immediate 40 = .ok (.bipush 17, 2) := by decide +kernel
theorem dX9_immediate_42 : decode cX9_immediate 42 = .ok (.if_icmp .ne 21, 3) := by decide +kernel
theorem dX9_immediate_45 : decode cX9_immediate 45 = .ok (.aload_n 0, 1) := by decide +kernel
theorem dX9_immediate_46 : decode cX9_immediate 46 = .ok (.bipush 7, 2) := by decide +kernel
theorem dX9_immediate_48 : decode cX9_immediate 48 = .ok (.aload_n 0, 1) := by decide +kernel
theorem dX9_immediate_49 : decode cX9_immediate 49 = .ok (.invokevirtual 128, 3) := by decide +kernel
theorem dX9_immediate_52 : decode cX9_immediate 52 = .ok (.bipush 31, 2) := by decide +kernel
theorem dX9_immediate_54 : decode cX9_immediate 54 = .ok (.invokestatic 65, 3) := by decide +kernel
theorem dX9_immediate_57 : decode cX9_immediate 57 = .ok (.invokevirtual 124, 3) := by decide +kernel
theorem dX9_immediate_60 : decode cX9_immediate 60 = .ok (.goto 29, 3) := by decide +kernel
theorem dX9_immediate_63 : decode cX9_immediate 63 = .ok (.iload_n 1, 1) := by decide +kernel
theorem dX9_immediate_64 : decode cX9_immediate 64 = .ok (.bipush 8, 2) := by decide +kernel
theorem dX9_immediate_66 : decode cX9_immediate 66 = .ok (.if_icmp .lt 23, 3) := by decide +kernel
theorem dX9_immediate_69 : decode cX9_immediate 69 = .ok (.iload_n 1, 1) := by decide +kernel
theorem dX9_immediate_70 : decode cX9_immediate 70 = .ok (.bipush 15, 2) := by decide +kernel
theorem dX9_immediate_72 : decode cX9_immediate 72 = .ok (.if_icmp .ge 17, 3) := by decide +kernel
theorem dX9_immediate_75 : decode cX9_immediate 75 = .ok (.iload_n 1, 1) := by decide +kernel
theorem dX9_immediate_76 : decode cX9_immediate 76 = .ok (.bipush 13, 2) := by decide +kernel
theorem dX9_immediate_78 : decode cX9_immediate 78 = .ok (.if_icmp .eq 11, 3) := by decide +kernel
theorem dX9_immediate_81 : decode cX9_immediate 81 = .ok (.aload_n 0, 1) := by decide +kernel
theorem dX9_immediate_82 : decode cX9_immediate 82 = .ok (.bipush 8, 2) := by decide +kernel
theorem dX9_immediate_84 : decode cX9_immediate 84 = .ok (.lconst 0, 1) := by decide +kernel
theorem dX9_immediate_85 : decode cX9_immediate 85 = .ok (.lconst 0, 1) := by decide +kernel
theorem dX9_immediate_86 : decode cX9_immediate 86 = .ok (.invokevirtual 124, 3) := by decide +kernel
theorem dX9_immediate_89 : decode cX9_immediate 89 = .ok (.return_, 1) := by decide +kernel
set_option maxRecDepth 20000 in
theorem ggX9_branch_X9_register : GoodIn wsX9_branch wsX9_register := goodIn_r _ [5] (by decide +kernel) (by decide +kernel)
set_option maxRecDepth 20000 in
theorem gX9_branch_X9_register : GoodIn wsX9_branch (va_wsS RX9 65 yX9_register wsX9_register) := goodIn_app (goodIn_of _ (by decide +kernel)) ggX9_branch_X9_register
set_option maxRecDepth 20000 in
theorem ggX9_branch_X9_is : GoodIn wsX9_branch wsX9_is := goodIn_r _ [9, 10, 11, 12, 26, 27, 28, 29, 30, 31, 32, 33, 34, 35, 36, 37, 38, 39, 40, 41, 42, 43, 44, 45, 46, 47, 48, 49, 50, 51] (by decide +kernel) (by decide +kernel)
set_option maxRecDepth 20000 in
theorem gX9_branch_X9_is : GoodIn wsX9_branch (wsV RX9 124 RX9 yX9_is wsX9_is) := goodIn_app (goodIn_of _ (by decide +kernel)) ggX9_branch_X9_is
set_option maxRecDepth 20000 in
theorem ggX9_branch_X9_s : GoodIn wsX9_branch wsX9_s := goodIn_r _ [16, 17, 18, 19, 4, 20, 21, 2, 3, 5, 26, 27, 28, 29, 30, 31, 32, 33, 34, 35, 36, 37, 38, 39, 40, 41, 42, 43, 44, 45, 46, 47, 48, 49, 50, 51] (by decide +kernel) (by decide +kernel)
set_option maxRecDepth 20000 in
theorem gX9_branch_X9_s : GoodIn wsX9_branch (wsV RX9 128 RX9 yX9_s wsX9_s) := goodIn_app (goodIn_of _ (by decide +kernel)) ggX9_branch_X9_s
set_option maxRecDepth 20000 in
theorem ggX9_branch_X9_t : GoodIn wsX9_branch wsX9_t := goodIn_r _ [25, 17, 18, 19, 4, 20, 21, 2, 3, 5, 26, 27, 28, 29, 30, 31, 32, 33, 34, 35, 36, 37, 38, 39, 40, 41, 42, 43, 44, 45, 46, 47, 48, 49, 50, 51] (by decide +kernel) (by decide +kernel)
set_option maxRecDepth 20000 in
theorem gX9_branch_X9_t : GoodIn wsX9_branch (wsV RX9 117 RX9 yX9_t wsX9_t) := goodIn_app (goodIn_of _ (by decide +kernel)) ggX9_branch_X9_t
theorem dX9_branch_0 : decode cX9_branch 0 = .ok (.aload_n 0, 1) := by decide +kernel
theorem dX9_branch_1 : decode cX9_branch 1 = .ok (.iload_n 1, 1) := by decide +kernel
theorem dX9_branch_2 : decode cX9_branch 2 = .ok (.bipush 7, 2) := by decide +kernel
theorem dX9_branch_4 : decode cX9_branch 4 = .ok (.if_icmp .le 7, 3) := by decide +kernel
theorem dX9_branch_7 : decode cX9_branch 7 = .ok (.iconst 1, 1) := by decide +kernel
theorem dX9_branch_8 : decode cX9_branch 8 = .ok (.goto 4, 3) := by decide +kernel
theorem dX9_branch_11 : decode cX9_branch 11 = .ok (.iconst 0, 1) := by decide +kernel
theorem dX9_branch_12 : decode cX9_branch 12 = .ok (.putfield 87, 3) := by decide +kernel
theorem dX9_branch_15 : decode cX9_branch 15 = .ok (.iload_n 1, 1) := by decide +kernel
theorem dX9_branch_16 : decode cX9_branch 16 = .ok (.iconst 4, 1) := by decide +kernel
theorem dX9_branch_17 : decode cX9_branch 17 = .ok (.if_icmp .ge 27, 3) := by decide +kernel
theorem dX9_branch_20 : decode cX9_branch 20 = .ok (.aload_n 0, 1) := by decide +kernel
theorem dX9_branch_21 : decode cX9_branch 21 = .ok (.bipush 7, 2) := by decide +kernel
theorem dX9_branch_23 : decode cX9_branch 23 = .ok (.lconst 0, 1) := by decide +kernel
theorem dX9_branch_24 : decode cX9_branch 24 = .ok (.iload_n 1, 1) := by decide +kernel
theorem dX9_branch_25 : decode cX9_branch 25 = .ok (.iconst 3, 1) := by decide +kernel
theorem dX9_branch_26 : decode cX9_branch 26 = .ok (.if_icmp .ne 11, 3) := by decide +kernel
theorem dX9_branch_29 : decode cX9_branch 29 = .ok (.bipush 31, 2) := by decide +kernel
theorem dX9_branch_31 : decode cX9_branch 31 = .ok (.invokestatic 65, 3) := by decide +kernel
theorem dX9_branch_34 : decode cX9_branch 34 = .ok (.goto 4, 3) := by decide +kernel
theorem dX9_branch_37 : decode cX9_branch 37 = .ok (.lconst 0, 1) := by decide +kernel
theorem dX9_branch_38 : decode cX9_branch 38 = .ok (.invokevirtual 124, 3) := by decide +kernel
theorem dX9_branch_41 : decode cX9_branch 41 = .ok (.goto 33, 3) := by decide +kernel
theorem dX9_branch_44 : decode cX9_branch 44 = .ok (.aload_n 0, 1) := by decide +kernel
theorem dX9_branch_45 : decode cX9_branch 45 = .ok (.bipush 7, 2) := by decide +kernel
theorem dX9_branch_47 : decode cX9_branch 47 = .ok (.iload_n 1, 1) := by decide +kernel
theorem dX9_branch_48 : decode cX9_branch 48 = .ok (.iconst 3, 1) := by decide +kernel
theorem dX9_branch_49 : decode cX9_branch 49 = .ok (.iand, 1) := by decide +kernel
theorem dX9_branch_50 : decode cX9_branch 50 = .ok (.iconst 2, 1) := by decide +kernel
theorem dX9_branch_51 : decode cX9_branch 51 = .ok (.if_icmp .ge 15, 3) := by decide +kernel
theorem dX9_branch_54 : decode cX9_branch 54 = .ok (.aload_n 0, 1) := by decide +kernel
theorem dX9_branch_55 : decode cX9_branch 55 = .ok (.invokevirtual 128, 3) := by decide +kernel
theorem dX9_branch_58 : decode cX9_branch 58 = .ok (.aload_n 0, 1) := by decide +kernel
theorem dX9_branch_59 : decode cX9_branch 59 = .ok (.invokevirtual 117, 3) := by decide +kernel
theorem dX9_branch_62 : decode cX9_branch 62 = .ok (.lor, 1) := by decide +kernel
theorem dX9_branch_63 : decode cX9_branch 63 = .ok (.goto 7, 3) := by decide +kernel
theorem dX9_branch_66 : decode cX9_branch 66 = .ok (.aload_n 0, 1) := by decide +kernel
theorem dX9_branch_67 : decode cX9_branch 67 = .ok (.invokevirtual 128, 3) := by decide +kernel
theorem dX9_branch_70 : decode cX9_branch 70 = .ok (.lconst 0, 1) := by decide +kernel
theorem dX9_branch_71 : decode cX9_branch 71 = .ok (.invokevirtual 124, 3) := by decide +kernel
theorem dX9_branch_74 : decode cX9_branch 74 = .ok (.return_, 1) := by decide +kernel
set_option maxRecDepth 20000 in
theorem ggX9_number_X9_is : GoodIn wsX9_number wsX9_is := goodIn_r _ [5, 6, 7, 8, 25, 26, 27, 28, 29, 30, 31, 32, 33, 34, 35, 36, 37, 38, 39, 40, 41, 42, 43, 44, 45, 46, 47, 48, 49, 50] (by decide +kernel) (by decide +kernel)
set_option maxRecDepth 20000 in
theorem gX9_number_X9_is : GoodIn wsX9_number (wsV RX9 124 RX9 yX9_is wsX9_is) := goodIn_app (goodIn_of _ (by decide +kernel)) ggX9_number_X9_is
set_option maxRecDepth 20000 in
theorem ggX9_number_X9_s : GoodIn wsX9_number wsX9_s := goodIn_r _ [12, 13, 14, 15, 4, 16, 17, 18, 19, 20, 25, 26, 27, 28, 29, 30, 31, 32, 33, 34, 35, 36, 37, 38, 39, 40, 41, 42, 43, 44, 45, 46, 47, 48, 49, 50] (by decide +kernel) (by decide +kernel)
set_option maxRecDepth 20000 in
theorem gX9_number_X9_s : GoodIn wsX9_number (wsV RX9 128 RX9 yX9_s wsX9_s) := goodIn_app (goodIn_of _ (by decide +kernel)) ggX9_number_X9_s
set_option maxRecDepth 20000 in
theorem ggX9_number_X9_t : GoodIn wsX9_number wsX9_t := goodIn_r _ [24, 13, 14, 15, 4, 16, 17, 18, 19, 20, 25, 26, 27, 28, 29, 30, 31, 32, 33, 34, 35, 36, 37, 38, 39, 40, 41, 42, 43, 44, 45, 46, 47, 48, 49, 50] (by decide +kernel) (by decide +kernel)
set_option maxRecDepth 20000 in
theorem gX9_number_X9_t : GoodIn wsX9_number (wsV RX9 117 RX9 yX9_t wsX9_t) := goodIn_app (goodIn_of _ (by decide +kernel)) ggX9_number_X9_t
theorem dX9_number_0 : decode cX9_number 0 = .ok (.iload_n 1, 1) := by decide +kernel
theorem dX9_number_1 : decode cX9_number 1 = .ok (.bipush 8, 2) := by decide +kernel
theorem dX9_number_3 : decode cX9_number 3 = .ok (.if_icmp .ne 14, 3) := by decide +kernel
theorem dX9_number_6 : decode cX9_number 6 = .ok (.aload_n 0, 1) := by decide +kernel
theorem dX9_number_7 : decode cX9_number 7 = .ok (.bipush 8, 2) := by decide +kernel
theorem dX9_number_9 : decode cX9_number 9 = .ok (.lconst 0, 1) := by decide +kernel
theorem dX9_number_10 : decode cX9_number 10 = .ok (.lconst 0, 1) := by decide +kernel
theorem dX9_number_11 : decode cX9_number 11 = .ok (.invokevirtual 124, 3) := by decide +kernel
theorem dX9_number_14 : decode cX9_number 14 = .ok (.goto 26, 3) := by decide +kernel
theorem dX9_number_17 : decode cX9_number 17 = .ok (.aload_n 0, 1) := by decide +kernel
theorem dX9_number_18 : decode cX9_number 18 = .ok (.iconst 0, 1) := by decide +kernel
theorem dX9_number_19 : decode cX9_number 19 = .ok (.iload_n 1, 1) := by decide +kernel
theorem dX9_number_20 : decode cX9_number 20 = .ok (.bipush 15, 2) := by decide +kernel
theorem dX9_number_22 : decode cX9_number 22 = .ok (.if_icmp .ne 7, 3) := by decide +kernel
theorem dX9_number_25 : decode cX9_number 25 = .ok (.lconst 0, 1) := by decide +kernel
theorem dX9_number_26 : decode cX9_number 26 = .ok (.goto 7, 3) := by decide +kernel
theorem dX9_number_29 : decode cX9_number 29 = .ok (.aload_n 0, 1) := by decide +kernel
theorem dX9_number_30 : decode cX9_number 30 = .ok (.invokevirtual 128, 3) := by decide +kernel
theorem dX9_number_33 : decode cX9_number 33 = .ok (.aload_n 0, 1) := by decide +kernel
theorem dX9_number_34 : decode cX9_number 34 = .ok (.invokevirtual 117, 3) := by decide +kernel
theorem dX9_number_37 : decode cX9_number 37 = .ok (.invokevirtual 124, 3) := by decide +kernel
theorem dX9_number_40 : decode cX9_number 40 = .ok (.return_, 1) := by decide +kernel
set_option maxRecDepth 20000 in
theorem ggX9_second_X9_s : GoodIn wsX9_second wsX9_s := goodIn_r _ [5, 6, 7, 8, 4, 9, 10, 11, 12, 13, 35, 36, 37, 38, 39, 40, 41, 42, 43, 44, 45, 46, 47, 48, 49, 50, 51, 52, 53, 54, 55, 56, 57, 58, 59, 60] (by decide +kernel) (by decide +kernel)
set_option maxRecDepth 20000 in
theorem gX9_second_X9_s : GoodIn wsX9_second (wsV RX9 128 RX9 yX9_s wsX9_s) := goodIn_app (goodIn_of _ (by decide +kernel)) ggX9_second_X9_s
set_option maxRecDepth 20000 in
theorem ggX9_second_X9_d : GoodIn wsX9_second wsX9_d := goodIn_r _ [17, 6, 7, 8, 4, 9, 10, 11, 12, 13, 35, 36, 37, 38, 39, 40, 41, 42, 43, 44, 45, 46, 47, 48, 49, 50, 51, 52, 53, 54, 55, 56, 57, 58, 59, 60] (by decide +kernel) (by decide +kernel)
set_option maxRecDepth 20000 in
theorem gX9_second_X9_d : GoodIn wsX9_second (wsV RX9 121 RX9 yX9_d wsX9_d) := goodIn_app (goodIn_of _ (by decide +kernel)) ggX9_second_X9_d
set_option maxRecDepth 20000 in
theorem ggX9_second_X9_is : GoodIn wsX9_second wsX9_is := goodIn_r _ [21, 22, 23, 24, 35, 36, 37, 38, 39, 40, 41, 42, 43, 44, 45, 46, 47, 48, 49, 50, 51, 52, 53, 54, 55, 56, 57, 58, 59, 60] (by decide +kernel) (by decide +kernel)
set_option maxRecDepth 20000 in
theorem gX9_second_X9_is : GoodIn wsX9_second (wsV RX9 124 RX9 yX9_is wsX9_is) := goodIn_app (goodIn_of _ (by decide +kernel)) ggX9_second_X9_is
set_option maxRecDepth 20000 in
theorem ggX9_second_X9_t : GoodIn wsX9_second wsX9_t := goodIn_r _ [28, 6, 7, 8, 4, 9, 10, 11, 12, 13, 35, 36, 37, 38, 39, 40, 41, 42, 43, 44, 45, 46, 47, 48, 49, 50, 51, 52, 53, 54, 55, 56, 57, 58, 59, 60] (by decide +kernel) (by decide +kernel)
set_option maxRecDepth 20000 in
theorem gX9_second_X9_t : GoodIn wsX9_second (wsV RX9 117 RX9 yX9_t wsX9_t) := goodIn_app (goodIn_of _ (by decide +kernel)) ggX9_second_X9_t
set_option maxRecDepth 20000 in
theorem ggX9_second_X9_also : GoodIn wsX9_second wsX9_also := goodIn_r _ [32, 33, 34, 35, 36, 37, 38, 39, 40, 41, 42, 43, 44, 45, 46, 47, 48, 49, 50, 51, 52, 53, 54, 55, 56, 57, 58, 59, 60] (by decide +kernel) (by decide +kernel)
set_option maxRecDepth 20000 in
theorem gX9_second_X9_also : GoodIn wsX9_second (wsV RX9 91 RX9 yX9_also wsX9_also) := goodIn_app (goodIn_of _ (by decide +kernel)) ggX9_second_X9_also
theorem dX9_second_0 : decode cX9_second 0 = .ok (.iload_n 1, 1) := by decide +kernel
theorem dX9_second_1 : decode cX9_second 1 = .ok (.bipush 32, 2) := by decide +kernel
theorem dX9_second_3 : decode cX9_second 3 = .ok (.if_icmp .eq 9, 3) := by decide +kernel
theorem dX9_second_6 : decode cX9_second 6 = .ok (.iload_n 1, 1) := by decide +kernel
theorem dX9_second_7 : decode cX9_second 7 = .ok (.bipush 33, 2) := by decide +kernel
theorem dX9_second_9 : decode cX9_second 9 = .ok (.if_icmp .ne 19, 3) := by decide +kernel
theorem dX9_second_12 : decode cX9_second 12 = .ok (.aload_n 0, 1) := by decide +kernel
theorem dX9_second_13 : decode cX9_second 13 = .ok (.iconst 0, 1) := by decide +kernel
theorem dX9_second_14 : decode cX9_second 14 = .ok (.aload_n 0, 1) := by decide +kernel
theorem dX9_second_15 : decode cX9_second 15 = .ok (.invokevirtual 128, 3) := by decide +kernel
theorem dX9_second_18 : decode cX9_second 18 = .ok (.aload_n 0, 1) := by decide +kernel
theorem dX9_second_19 : decode cX9_second 19 = .ok (.invokevirtual 121, 3) := by decide +kernel
theorem dX9_second_22 : decode cX9_second 22 = .ok (.invokevirtual 124, 3) := by decide +kernel
theorem dX9_second_25 : decode cX9_second 25 = .ok (.goto 71, 3) := by decide +kernel
theorem dX9_second_28 : decode cX9_second 28 = .ok (.iload_n 1, 1) := by decide +kernel
theorem dX9_second_29 : decode cX9_second 29 = .ok (.iconst 2, 1) := by decide +kernel
theorem dX9_second_30 : decode cX9_second 30 = .ok (.if_icmp .lt 13, 3) := by decide +kernel
theorem dX9_second_33 : decode cX9_second 33 = .ok (.iload_n 1, 1) := by decide +kernel
theorem dX9_second_34 : decode cX9_second 34 = .ok (.iconst 4, 1) := by decide +kernel
theorem dX9_second_35 : decode cX9_second 35 = .ok (.if_icmp .eq 8, 3) := by decide +kernel
theorem dX9_second_38 : decode cX9_second 38 = .ok (.iload_n 1, 1) := by decide +kernel
theorem dX9_second_39 : decode cX9_second 39 = .ok (.iconst 5, 1) := by decide +kernel
theorem dX9_second_40 : decode cX9_second 40 = .ok (.if_icmp .ne 27, 3) := by decide +kernel
theorem dX9_second_43 : decode cX9_second 43 = .ok (.aload_n 0, 1) := by decide +kernel
theorem dX9_second_44 : decode cX9_second 44 = .ok (.iconst 3, 1) := by decide +kernel
theorem dX9_second_45 : decode cX9_second 45 = .ok (.aload_n 0, 1) := by decide +kernel
theorem dX9_second_46 : decode cX9_second 46 = .ok (.invokevirtual 128, 3) := by decide +kernel
theorem dX9_second_49 : decode cX9_second 49 = .ok (.aload_n 0, 1) := by decide +kernel
theorem dX9_second_50 : decode cX9_second 50 = .ok (.invokevirtual 117, 3) := by decide +kernel
theorem dX9_second_53 : decode cX9_second 53 = .ok (.lor, 1) := by decide +kernel
theorem dX9_second_54 : decode cX9_second 54 = .ok (.lconst 0, 1) := by decide +kernel
theorem dX9_second_55 : decode cX9_second 55 = .ok (.invokevirtual 124, 3) := by decide +kernel
theorem dX9_second_58 : decode cX9_second 58 = .ok (.aload_n 0, 1) := by decide +kernel
theorem dX9_second_59 : decode cX9_second 59 = .ok (.iconst 2, 1) := by decide +kernel
theorem dX9_second_60 : decode cX9_second 60 = .ok (.iconst 2, 1) := by decide +kernel
theorem dX9_second_61 : decode cX9_second 61 = .ok (.invokevirtual 91, 3) := by decide +kernel
theorem dX9_second_64 : decode cX9_second 64 = .ok (.goto 32, 3) := by decide +kernel
theorem dX9_second_67 : decode cX9_second 67 = .ok (.iload_n 1, 1) := by decide +kernel
theorem dX9_second_68 : decode cX9_second 68 = .ok (.iconst 2, 1) := by decide +kernel
theorem dX9_second_69 : decode cX9_second 69 = .ok (.if_icmp .ne 27, 3) := by decide +kernel
theorem dX9_second_72 : decode cX9_second 72 = .ok (.aload_n 0, 1) := by decide +kernel
theorem dX9_second_73 : decode cX9_second 73 = .ok (.iconst 3, 1) := by decide +kernel
theorem dX9_second_74 : decode cX9_second 74 = .ok (.aload_n 0, 1) := by decide +kernel
theorem dX9_second_75 : decode cX9_second 75 = .ok (.invokevirtual 128, 3) := by decide +kernel
theorem dX9_second_78 : decode cX9_second 78 = .ok (.aload_n 0, 1) := by decide +kernel
theorem dX9_second_79 : decode cX9_second 79 = .ok (.invokevirtual 117, 3) := by decide +kernel
theorem dX9_second_82 : decode cX9_second 82 = .ok (.lor, 1) := by decide +kernel
theorem dX9_second_83 : decode cX9_second 83 = .ok (.aload_n 0, 1) := by decide +kernel
theorem dX9_second_84 : decode cX9_second 84 = .ok (.invokevirtual 121, 3) := by decide +kernel
theorem dX9_second_87 : decode cX9_second 87 = .ok (.invokevirtual 124, 3) := by decide +kernel
theorem dX9_second_90 : decode cX9_second 90 = .ok (.aload_n 0, 1) := by decide +kernel
theorem dX9_second_91 : decode cX9_second 91 = .ok (.iconst 0, 1) := by decide +kernel
theorem dX9_second_92 : decode cX9_second 92 = .ok (.iconst 2, 1) := by decide +kernel
theorem dX9_second_93 : decode cX9_second 93 = .ok (.invokevirtual 91, 3) := by decide +kernel
theorem dX9_second_96 : decode cX9_second 96 = .ok (.return_, 1) := by decide +kernel
set_option maxRecDepth 20000 in
theorem ggX9_memory_X9_field : GoodIn wsX9_memory wsX9_field := goodIn_r _ [7, 8, 30, 31, 32, 33, 34, 35, 36, 37, 38, 39, 40, 41, 42, 43, 44, 45, 46, 47, 48, 49, 50, 51, 52, 53, 54, 55] (by decide +kernel) (by decide +kernel)
set_option maxRecDepth 20000 in
theorem gX9_memory_X9_field : GoodIn wsX9_memory (wsV RX9 61 RX9 yX9_field wsX9_field) := goodIn_app (goodIn_of _ (by decide +kernel)) ggX9_memory_X9_field
set_option maxRecDepth 20000 in
theorem ggX9_memory_X9_s : GoodIn wsX9_memory wsX9_s := goodIn_r _ [12, 3, 4, 5, 6, 7, 8, 13, 14, 15, 30, 31, 32, 33, 34, 35, 36, 37, 38, 39, 40, 41, 42, 43, 44, 45, 46, 47, 48, 49, 50, 51, 52, 53, 54, 55] (by decide +kernel) (by decide +kernel)
set_option maxRecDepth 20000 in
theorem gX9_memory_X9_s : GoodIn wsX9_memory (wsV RX9 128 RX9 yX9_s wsX9_s) := goodIn_app (goodIn_of _ (by decide +kernel)) ggX9_memory_X9_s
set_option maxRecDepth 20000 in
theorem ggX9_memory_X9_t : GoodIn wsX9_memory wsX9_t := goodIn_r _ [19, 3, 4, 5, 6, 7, 8, 13, 14, 15, 30, 31, 32, 33, 34, 35, 36, 37, 38, 39, 40, 41, 42, 43, 44, 45, 46, 47, 48, 49, 50, 51, 52, 53, 54, 55] (by decide +kernel) (by decide +kernel)
set_option maxRecDepth 20000 in
theorem gX9_memory_X9_t : GoodIn wsX9_memory (wsV RX9 117 RX9 yX9_t wsX9_t) := goodIn_app (goodIn_of _ (by decide +kernel)) ggX9_memory_X9_t
set_option maxRecDepth 20000 in
theorem ggX9_memory_X9_is : GoodIn wsX9_memory wsX9_is := goodIn_r _ [23, 24, 2, 1, 30, 31, 32, 33, 34, 35, 36, 37, 38, 39, 40, 41, 42, 43, 44, 45, 46, 47, 48, 49, 50, 51, 52, 53, 54, 55] (by decide +kernel) (by decide +kernel)
set_option maxRecDepth 20000 in
theorem gX9_memory_X9_is : GoodIn wsX9_memory (wsV RX9 124 RX9 yX9_is wsX9_is) := goodIn_app (goodIn_of _ (by decide +kernel)) ggX9_memory_X9_is
set_option maxRecDepth 20000 in
theorem ggX9_memory_X9_fraction : GoodIn wsX9_memory wsX9_fraction := goodIn_r _ [28, 24, 29, 30, 31, 32, 33, 34, 35, 36, 37, 38, 39, 40, 41, 42, 43, 44, 45, 46, 47, 48, 49, 50, 51, 52, 53, 54, 55] (by decide +kernel) (by decide +kernel)
set_option maxRecDepth 20000 in
theorem gX9_memory_X9_fraction : GoodIn wsX9_memory (wsV RX9 131 RX9 yX9_fraction wsX9_fraction) := goodIn_app (goodIn_of _ (by decide +kernel)) ggX9_memory_X9_fraction
theorem dX9_memory_0 : decode cX9_memory 0 = .ok (.aload_n 0, 1) := by decide +kernel
theorem dX9_memory_1 : decode cX9_memory 1 = .ok (.bipush 16, 2) := by decide +kernel
theorem dX9_memory_3 : decode cX9_memory 3 = .ok (.invokevirtual 61, 3) := by decide +kernel
theorem dX9_memory_6 : decode cX9_memory 6 = .ok (.istore_n 2, 1) := by decide +kernel
theorem dX9_memory_7 : decode cX9_memory 7 = .ok (.iload_n 1, 1) := by decide +kernel
theorem dX9_memory_8 : decode cX9_memory 8 = .ok (.bipush 34, 2) := by decide +kernel
theorem dX9_memory_10 : decode cX9_memory 10 = .ok (.if_icmp .eq 9, 3) := by decide +kernel
theorem dX9_memory_13 : decode cX9_memory 13 = .ok (.iload_n 1, 1) := by decide +kernel
theorem dX9_memory_14 : decode cX9_memory 14 = .ok (.bipush 38, 2) := by decide +kernel
theorem dX9_memory_16 : decode cX9_memory 16 = .ok (.if_icmp .ne 24, 3) := by decide +kernel
theorem dX9_memory_19 : decode cX9_memory 19 = .ok (.aload_n 0, 1) := by decide +kernel
theorem dX9_memory_20 : decode cX9_memory 20 = .ok (.iconst 1, 1) := by decide +kernel
theorem dX9_memory_21 : decode cX9_memory 21 = .ok (.aload_n 0, 1) := by decide +kernel
theorem dX9_memory_22 : decode cX9_memory 22 = .ok (.invokevirtual 128, 3) := by decide +kernel
theorem dX9_memory_25 : decode cX9_memory 25 = .ok (.aload_n 0, 1) := by decide +kernel
theorem dX9_memory_26 : decode cX9_memory 26 = .ok (.invokevirtual 117, 3) := by decide +kernel
theorem dX9_memory_29 : decode cX9_memory 29 = .ok (.lor, 1) := by decide +kernel
theorem dX9_memory_30 : decode cX9_memory 30 = .ok (.aload_n 0, 1) := by decide +kernel
theorem dX9_memory_31 : decode cX9_memory 31 = .ok (.invokevirtual 117, 3) := by decide +kernel
theorem dX9_memory_34 : decode cX9_memory 34 = .ok (.invokevirtual 124, 3) := by decide +kernel
theorem dX9_memory_37 : decode cX9_memory 37 = .ok (.goto 195, 3) := by decide +kernel
theorem dX9_memory_40 : decode cX9_memory 40 = .ok (.iload_n 1, 1) := by decide +kernel
theorem dX9_memory_41 : decode cX9_memory 41 = .ok (.bipush 38, 2) := by decide +kernel
theorem dX9_memory_43 : decode cX9_memory 43 = .ok (.if_icmp .ge 19, 3) := by decide +kernel
theorem dX9_memory_46 : decode cX9_memory 46 = .ok (.aload_n 0, 1) := by decide +kernel
theorem dX9_memory_47 : decode cX9_memory 47 = .ok (.iconst 1, 1) := by decide +kernel
theorem dX9_memory_48 : decode cX9_memory 48 = .ok (.aload_n 0, 1) := by decide +kernel
theorem dX9_memory_49 : decode cX9_memory 49 = .ok (.invokevirtual 128, 3) := by decide +kernel
theorem dX9_memory_52 : decode cX9_memory 52 = .ok (.aload_n 0, 1) := by decide +kernel
theorem dX9_memory_53 : decode cX9_memory 53 = .ok (.invokevirtual 117, 3) := by decide +kernel
theorem dX9_memory_56 : decode cX9_memory 56 = .ok (.invokevirtual 124, 3) := by decide +kernel
theorem dX9_memory_59 : decode cX9_memory 59 = .ok (.goto 173, 3) := by decide +kernel
theorem dX9_memory_62 : decode cX9_memory 62 = .ok (.iload_n 1, 1) := by decide +kernel
theorem dX9_memory_63 : decode cX9_memory 63 = .ok (.bipush 44, 2) := by decide +kernel
theorem dX9_memory_65 : decode cX9_memory 65 = .ok (.if_icmp .ge 9, 3) := by decide +kernel
theorem dX9_memory_68 : decode cX9_memory 68 = .ok (.iload_n 1, 1) := by decide +kernel
theorem dX9_memory_69 : decode cX9_memory 69 = .ok (.bipush 39, 2) := by decide +kernel
theorem dX9_memory_71 : decode cX9_memory 71 = .ok (.if_icmp .gt 9, 3) := by decide +kernel
theorem dX9_memory_74 : decode cX9_memory 74 = .ok (.iload_n 1, 1) := by decide +kernel
theorem dX9_memory_75 : decode cX9_memory 75 = .ok (.bipush 46, 2) := by decide +kernel
theorem dX9_memory_77 : decode cX9_memory 77 = .ok (.if_icmp .ne 21, 3) := by decide +kernel
theorem dX9_memory_80 : decode cX9_memory 80 = .ok (.aload_n 0, 1) := by decide +kernel
theorem dX9_memory_81 : decode cX9_memory 81 = .ok (.iconst 2, 1) := by decide +kernel
theorem dX9_memory_82 : decode cX9_memory 82 = .ok (.aload_n 0, 1) := by decide +kernel
theorem dX9_memory_83 : decode cX9_memory 83 = .ok (.invokevirtual 128, 3) := by decide +kernel
theorem dX9_memory_86 : decode cX9_memory 86 = .ok (.aload_n 0, 1) := by decide +kernel
theorem dX9_memory_87 : decode cX9_memory 87 = .ok (.invokevirtual 117, 3) := by decide +kernel
theorem dX9_memory_90 : decode cX9_memory 90 = .ok (.lor, 1) := by decide +kernel
theorem dX9_memory_91 : decode cX9_memory 91 = .ok (.lconst 0, 1) := by decide +kernel
theorem dX9_memory_92 : decode cX9_memory 92 = .ok (.invokevirtual 124, 3) := by decide +kernel
theorem dX9_memory_95 : decode cX9_memory 95 = .ok (.goto 137, 3) := by decide +kernel
theorem dX9_memory_98 : decode cX9_memory 98 = .ok (.iload_n 1, 1) := by decide +kernel
theorem dX9_memory_99 : decode cX9_memory 99 = .ok (.bipush 48, 2) := by decide +kernel
theorem dX9_memory_101 : decode cX9_memory 101 = .ok (.if_icmp .eq 9, 3) := by decide +kernel
theorem dX9_memory_104 : decode cX9_memory 104 = .ok (.iload_n 1, 1) := by decide +kernel
theorem dX9_memory_105 : decode cX9_memory 105 = .ok (.bipush 56, 2) := by decide +kernel
theorem dX9_memory_107 : decode cX9_memory 107 = .ok (.if_icmp .ne 14, 3) := by decide +kernel
theorem dX9_memory_110 : decode cX9_memory 110 = .ok (.aload_n 0, 1) := by decide +kernel
theorem dX9_memory_111 : decode cX9_memory 111 = .ok (.bipush 8, 2) := by decide +kernel
theorem dX9_memory_113 : decode cX9_memory 113 = .ok (.lconst 0, 1) := by decide +kernel
theorem dX9_memory_114 : decode cX9_memory 114 = .ok (.lconst 0, 1) := by decide +kernel
theorem dX9_memory_115 : decode cX9_memory 115 = .ok (.invokevirtual 124, 3) := by decide +kernel
theorem dX9_memory_118 : decode cX9_memory 118 = .ok (.goto 114, 3) := by decide +kernel
theorem dX9_memory_121 : decode cX9_memory 121 = .ok (.iload_n 1, 1) := by decide +kernel
theorem dX9_memory_122 : decode cX9_memory 122 = .ok (.bipush 51, 2) := by decide +kernel
theorem dX9_memory_124 : decode cX9_memory 124 = .ok (.if_icmp .ne 16, 3) := by decide +kernel
theorem dX9_memory_127 : decode cX9_memory 127 = .ok (.aload_n 0, 1) := by decide +kernel
theorem dX9_memory_128 : decode cX9_memory 128 = .ok (.iconst 0, 1) := by decide +kernel
theorem dX9_memory_129 : decode cX9_memory 129 = .ok (.aload_n 0, 1) := by decide +kernel
theorem dX9_memory_130 : decode cX9_memory 130 = .ok (.invokevirtual 128, 3) := by decide +kernel
theorem dX9_memory_133 : decode cX9_memory 133 = .ok (.lconst 0, 1) := by decide +kernel
theorem dX9_memory_134 : decode cX9_memory 134 = .ok (.invokevirtual 124, 3) := by decide +kernel
theorem dX9_memory_137 : decode cX9_memory 137 = .ok (.goto 95, 3) := by decide +kernel
theorem dX9_memory_140 : decode cX9_memory 140 = .ok (.iload_n 1, 1) := by decide +kernel
theorem dX9_memory_141 : decode cX9_memory 141 = .ok (.bipush 49, 2) := by decide +kernel
theorem dX9_memory_143 : decode cX9_memory 143 = .ok (.if_icmp .eq 9, 3) := by decide +kernel
theorem dX9_memory_146 : decode cX9_memory 146 = .ok (.iload_n 1, 1) := by decide +kernel
theorem dX9_memory_147 : decode cX9_memory 147 = .ok (.bipush 53, 2) := by decide +kernel
theorem dX9_memory_149 : decode cX9_memory 149 = .ok (.if_icmp .ne 36, 3) := by decide +kernel
theorem dX9_memory_152 : decode cX9_memory 152 = .ok (.aload_n 0, 1) := by decide +kernel
theorem dX9_memory_153 : decode cX9_memory 153 = .ok (.iconst 1, 1) := by decide +kernel
theorem dX9_memory_154 : decode cX9_memory 154 = .ok (.aload_n 0, 1) := by decide +kernel
theorem dX9_memory_155 : decode cX9_memory 155 = .ok (.invokevirtual 128, 3) := by decide +kernel
theorem dX9_memory_158 : decode cX9_memory 158 = .ok (.lconst 0, 1) := by decide +kernel
theorem dX9_memory_159 : decode cX9_memory 159 = .ok (.invokevirtual 124, 3) := by decide +kernel
theorem dX9_memory_162 : decode cX9_memory 162 = .ok (.aload_n 0, 1) := by decide +kernel
theorem dX9_memory_163 : decode cX9_memory 163 = .ok (.aload_n 0, 1) := by decide +kernel
theorem dX9_memory_164 : decode cX9_memory 164 = .ok (.iload_n 2, 1) := by decide +kernel
theorem dX9_memory_165 : decode cX9_memory 165 = .ok (.iload_n 1, 1) := by decide +kernel
theorem dX9_memory_166 : decode cX9_memory 166 = .ok (.bipush 53, 2) := by decide +kernel
theorem dX9_memory_168 : decode cX9_memory 168 = .ok (.if_icmp .ne 7, 3) := by decide +kernel
theorem dX9_memory_171 : decode cX9_memory 171 = .ok (.iconst 1, 1) := by decide +kernel
theorem dX9_memory_172 : decode cX9_memory 172 = .ok (.goto 4, 3) := by decide +kernel
theorem dX9_memory_175 : decode cX9_memory 175 = .ok (.iconst 0, 1) := by decide +kernel
theorem dX9_memory_176 : decode cX9_memory 176 = .ok (.invokevirtual 131, 3) := by decide +kernel
theorem dX9_memory_179 : decode cX9_memory 179 = .ok (.putfield 76, 3) := by decide +kernel
theorem dX9_memory_182 : decode cX9_memory 182 = .ok (.goto 50, 3) := by decide +kernel
theorem dX9_memory_185 : decode cX9_memory 185 = .ok (.iload_n 1, 1) := by decide +kernel
theorem dX9_memory_186 : decode cX9_memory 186 = .ok (.bipush 57, 2) := by decide +kernel
theorem dX9_memory_188 : decode cX9_memory 188 = .ok (.if_icmp .eq 9, 3) := by decide +kernel
theorem dX9_memory_191 : decode cX9_memory 191 = .ok (.iload_n 1, 1) := by decide +kernel
theorem dX9_memory_192 : decode cX9_memory 192 = .ok (.bipush 61, 2) := by decide +kernel
theorem dX9_memory_194 : decode cX9_memory 194 = .ok (.if_icmp .ne 38, 3) := by decide +kernel
theorem dX9_memory_197 : decode cX9_memory 197 = .ok (.aload_n 0, 1) := by decide +kernel
theorem dX9_memory_198 : decode cX9_memory 198 = .ok (.iconst 2, 1) := by decide +kernel
theorem dX9_memory_199 : decode cX9_memory 199 = .ok (.aload_n 0, 1) := by decide +kernel
theorem dX9_memory_200 : decode cX9_memory 200 = .ok (.invokevirtual 128, 3) := by decide +kernel
theorem dX9_memory_203 : decode cX9_memory 203 = .ok (.lconst 0, 1) := by decide +kernel
theorem dX9_memory_204 : decode cX9_memory 204 = .ok (.invokevirtual 124, 3) := by decide +kernel
theorem dX9_memory_207 : decode cX9_memory 207 = .ok (.aload_n 0, 1) := by decide +kernel
theorem dX9_memory_208 : decode cX9_memory 208 = .ok (.dup, 1) := by decide +kernel
theorem dX9_memory_209 : decode cX9_memory 209 = .ok (.getfield 72, 3) := by decide +kernel
theorem dX9_memory_212 : decode cX9_memory 212 = .ok (.aload_n 0, 1) := by decide +kernel
theorem dX9_memory_213 : decode cX9_memory 213 = .ok (.iload_n 2, 1) := by decide +kernel
theorem dX9_memory_214 : decode cX9_memory 214 = .ok (.iload_n 1, 1) := by decide +kernel
theorem dX9_memory_215 : decode cX9_memory 215 = .ok (.bipush 61, 2) := by decide +kernel
theorem dX9_memory_217 : decode cX9_memory 217 = .ok (.if_icmp .ne 7, 3) := by decide +kernel
theorem dX9_memory_220 : decode cX9_memory 220 = .ok (.iconst 1, 1) := by decide +kernel
theorem dX9_memory_221 : decode cX9_memory 221 = .ok (.goto 4, 3) := by decide +kernel
theorem dX9_memory_224 : decode cX9_memory 224 = .ok (.iconst 0, 1) := by decide +kernel
theorem dX9_memory_225 : decode cX9_memory 225 = .ok (.invokevirtual 131, 3) := by decide +kernel
theorem dX9_memory_228 : decode cX9_memory 228 = .ok (.lor, 1) := by decide +kernel
theorem dX9_memory_229 : decode cX9_memory 229 = .ok (.putfield 72, 3) := by decide +kernel
theorem dX9_memory_232 : decode cX9_memory 232 = .ok (.return_, 1) := by decide +kernel
set_option maxRecDepth 20000 in
theorem ggX9_fractions_X9_field : GoodIn wsX9_fractions wsX9_field := goodIn_r _ [8, 1, 37, 38, 39, 40, 41, 42, 43, 44, 45, 46, 47, 48, 49, 50, 51, 52, 53, 54, 55, 56, 57, 58, 59, 60, 61, 62] (by decide +kernel) (by decide +kernel)
set_option maxRecDepth 20000 in
theorem gX9_fractions_X9_field : GoodIn wsX9_fractions (wsV RX9 61 RX9 yX9_field wsX9_field) := goodIn_app (goodIn_of _ (by decide +kernel)) ggX9_fractions_X9_field
set_option maxRecDepth 20000 in
theorem ggX9_fractions_X9_t : GoodIn wsX9_fractions wsX9_t := goodIn_r _ [12, 4, 5, 6, 7, 8, 1, 13, 14, 15, 37, 38, 39, 40, 41, 42, 43, 44, 45, 46, 47, 48, 49, 50, 51, 52, 53, 54, 55, 56, 57, 58, 59, 60, 61, 62] (by decide +kernel) (by decide +kernel)
set_option maxRecDepth 20000 in
theorem gX9_fractions_X9_t : GoodIn wsX9_fractions (wsV RX9 117 RX9 yX9_t wsX9_t) := goodIn_app (goodIn_of _ (by decide +kernel)) ggX9_fractions_X9_t
set_option maxRecDepth 20000 in
theorem ggX9_fractions_X9_is : GoodIn wsX9_fractions wsX9_is := goodIn_r _ [19, 20, 21, 3, 37, 38, 39, 40, 41, 42, 43, 44, 45, 46, 47, 48, 49, 50, 51, 52, 53, 54, 55, 56, 57, 58, 59, 60, 61, 62] (by decide +kernel) (by decide +kernel)
set_option maxRecDepth 20000 in
theorem gX9_fractions_X9_is : GoodIn wsX9_fractions (wsV RX9 124 RX9 yX9_is wsX9_is) := goodIn_app (goodIn_of _ (by decide +kernel)) ggX9_fractions_X9_is
set_option maxRecDepth 20000 in
theorem ggX9_fractions_X9_also : GoodIn wsX9_fractions wsX9_also := goodIn_r _ [25, 26, 27, 37, 38, 39, 40, 41, 42, 43, 44, 45, 46, 47, 48, 49, 50, 51, 52, 53, 54, 55, 56, 57, 58, 59, 60, 61, 62] (by decide +kernel) (by decide +kernel)
set_option maxRecDepth 20000 in
theorem gX9_fractions_X9_also : GoodIn wsX9_fractions (wsV RX9 91 RX9 yX9_also wsX9_also) := goodIn_app (goodIn_of _ (by decide +kernel)) ggX9_fractions_X9_also
set_option maxRecDepth 20000 in
theorem ggX9_fractions_X9_reckons : GoodIn wsX9_fractions wsX9_reckons := goodIn_r _ [31, 20, 21, 3, 32, 33, 34, 7, 35, 36, 9, 10, 11, 12, 4, 5, 6, 8, 1, 13, 14, 15, 22, 23, 24, 25, 26, 27, 37, 38, 39, 40, 41, 42, 43, 44, 45, 46, 47, 48, 49, 50, 51, 52, 53, 54, 55, 56, 57, 58, 59, 60, 61, 62] (by decide +kernel) (by decide +kernel)
set_option maxRecDepth 20000 in
theorem gX9_fractions_X9_reckons : GoodIn wsX9_fractions (wsV RX9 135 RX9 yX9_reckons wsX9_reckons) := goodIn_app (goodIn_of _ (by decide +kernel)) ggX9_fractions_X9_reckons
set_option maxRecDepth 20000 in
theorem ggX9_fractions_X9_fraction : GoodIn wsX9_fractions wsX9_fraction := goodIn_r _ [35, 20, 36, 37, 38, 39, 40, 41, 42, 43, 44, 45, 46, 47, 48, 49, 50, 51, 52, 53, 54, 55, 56, 57, 58, 59, 60, 61, 62] (by decide +kernel) (by decide +kernel)
set_option maxRecDepth 20000 in
theorem gX9_fractions_X9_fraction : GoodIn wsX9_fractions (wsV RX9 131 RX9 yX9_fraction wsX9_fraction) := goodIn_app (goodIn_of _ (by decide +kernel)) ggX9_fractions_X9_fraction
theorem dX9_fractions_0 : decode cX9_fractions 0 = .ok (.aload_n 0, 1) := by decide +kernel
theorem dX9_fractions_1 : decode cX9_fractions 1 = .ok (.bipush 21, 2) := by decide +kernel
theorem dX9_fractions_3 : decode cX9_fractions 3 = .ok (.invokevirtual 61, 3) := by decide +kernel
theorem dX9_fractions_6 : decode cX9_fractions 6 = .ok (.istore_n 1, 1) := by decide +kernel
theorem dX9_fractions_7 : decode cX9_fractions 7 = .ok (.aload_n 0, 1) := by decide +kernel
theorem dX9_fractions_8 : decode cX9_fractions 8 = .ok (.bipush 11, 2) := by decide +kernel
theorem dX9_fractions_10 : decode cX9_fractions 10 = .ok (.invokevirtual 61, 3) := by decide +kernel
theorem dX9_fractions_13 : decode cX9_fractions 13 = .ok (.istore_n 2, 1) := by decide +kernel
theorem dX9_fractions_14 : decode cX9_fractions 14 = .ok (.iload_n 1, 1) := by decide +kernel
theorem dX9_fractions_15 : decode cX9_fractions 15 = .ok (.ifCond .ne 21, 3) := by decide +kernel
theorem dX9_fractions_18 : decode cX9_fractions 18 = .ok (.aload_n 0, 1) := by decide +kernel
theorem dX9_fractions_19 : decode cX9_fractions 19 = .ok (.iconst 0, 1) := by decide +kernel
theorem dX9_fractions_20 : decode cX9_fractions 20 = .ok (.lconst 1, 1) := by decide +kernel
theorem dX9_fractions_21 : decode cX9_fractions 21 = .ok (.bipush 32, 2) := by decide +kernel
theorem dX9_fractions_23 : decode cX9_fractions 23 = .ok (.iload_n 2, 1) := by decide +kernel
theorem dX9_fractions_24 : decode cX9_fractions 24 = .ok (.iadd, 1) := by decide +kernel
theorem dX9_fractions_25 : decode cX9_fractions 25 = .ok (.lshl, 1) := by decide +kernel
theorem dX9_fractions_26 : decode cX9_fractions 26 = .ok (.aload_n 0, 1) := by decide +kernel
theorem dX9_fractions_27 : decode cX9_fractions 27 = .ok (.invokevirtual 117, 3) := by decide +kernel
theorem dX9_fractions_30 : decode cX9_fractions 30 = .ok (.invokevirtual 124, 3) := by decide +kernel
theorem dX9_fractions_33 : decode cX9_fractions 33 = .ok (.goto 194, 3) := by decide +kernel
theorem dX9_fractions_36 : decode cX9_fractions 36 = .ok (.iload_n 1, 1) := by decide +kernel
theorem dX9_fractions_37 : decode cX9_fractions 37 = .ok (.iconst 4, 1) := by decide +kernel
theorem dX9_fractions_38 : decode cX9_fractions 38 = .ok (.if_icmp .ne 21, 3) := by decide +kernel
theorem dX9_fractions_41 : decode cX9_fractions 41 = .ok (.aload_n 0, 1) := by decide +kernel
theorem dX9_fractions_42 : decode cX9_fractions 42 = .ok (.iconst 0, 1) := by decide +kernel
theorem dX9_fractions_43 : decode cX9_fractions 43 = .ok (.aload_n 0, 1) := by decide +kernel
theorem dX9_fractions_44 : decode cX9_fractions 44 = .ok (.invokevirtual 117, 3) := by decide +kernel
theorem dX9_fractions_47 : decode cX9_fractions 47 = .ok (.lconst 1, 1) := by decide +kernel
theorem dX9_fractions_48 : decode cX9_fractions 48 = .ok (.bipush 32, 2) := by decide +kernel
theorem dX9_fractions_50 : decode cX9_fractions 50 = .ok (.iload_n 2, 1) := by decide +kernel
theorem dX9_fractions_51 : decode cX9_fractions 51 = .ok (.iadd, 1) := by decide +kernel
theorem dX9_fractions_52 : decode cX9_fractions 52 = .ok (.lshl, 1) := by decide +kernel
theorem dX9_fractions_53 : decode cX9_fractions 53 = .ok (.invokevirtual 124, 3) := by decide +kernel
theorem dX9_fractions_56 : decode cX9_fractions 56 = .ok (.goto 171, 3) := by decide +kernel
theorem dX9_fractions_59 : decode cX9_fractions 59 = .ok (.iload_n 1, 1) := by decide +kernel
theorem dX9_fractions_60 : decode cX9_fractions 60 = .ok (.bipush 8, 2) := by decide +kernel
theorem dX9_fractions_62 : decode cX9_fractions 62 = .ok (.if_icmp .ne 42, 3) := by decide +kernel
theorem dX9_fractions_65 : decode cX9_fractions 65 = .ok (.aload_n 0, 1) := by decide +kernel
theorem dX9_fractions_66 : decode cX9_fractions 66 = .ok (.bipush 7, 2) := by decide +kernel
theorem dX9_fractions_68 : decode cX9_fractions 68 = .ok (.lconst 0, 1) := by decide +kernel
theorem dX9_fractions_69 : decode cX9_fractions 69 = .ok (.lconst 0, 1) := by decide +kernel
theorem dX9_fractions_70 : decode cX9_fractions 70 = .ok (.invokevirtual 124, 3) := by decide +kernel
theorem dX9_fractions_73 : decode cX9_fractions 73 = .ok (.aload_n 0, 1) := by decide +kernel
theorem dX9_fractions_74 : decode cX9_fractions 74 = .ok (.aload_n 0, 1) := by decide +kernel
theorem dX9_fractions_75 : decode cX9_fractions 75 = .ok (.getfield 58, 3) := by decide +kernel
theorem dX9_fractions_78 : decode cX9_fractions 78 = .ok (.bipush 17, 2) := by decide +kernel
theorem dX9_fractions_80 : decode cX9_fractions 80 = .ok (.iushr, 1) := by decide +kernel
theorem dX9_fractions_81 : decode cX9_fractions 81 = .ok (.iconst 1, 1) := by decide +kernel
theorem dX9_fractions_82 : decode cX9_fractions 82 = .ok (.iand, 1) := by decide +kernel
theorem dX9_fractions_83 : decode cX9_fractions 83 = .ok (.iconst 1, 1) := by decide +kernel
theorem dX9_fractions_84 : decode cX9_fractions 84 = .ok (.if_icmp .ne 7, 3) := by decide +kernel
theorem dX9_fractions_87 : decode cX9_fractions 87 = .ok (.iconst 1, 1) := by decide +kernel
theorem dX9_fractions_88 : decode cX9_fractions 88 = .ok (.goto 4, 3) := by decide +kernel
theorem dX9_fractions_91 : decode cX9_fractions 91 = .ok (.iconst 0, 1) := by decide +kernel
theorem dX9_fractions_92 : decode cX9_fractions 92 = .ok (.putfield 87, 3) := by decide +kernel
theorem dX9_fractions_95 : decode cX9_fractions 95 = .ok (.aload_n 0, 1) := by decide +kernel
theorem dX9_fractions_96 : decode cX9_fractions 96 = .ok (.iconst 1, 1) := by decide +kernel
theorem dX9_fractions_97 : decode cX9_fractions 97 = .ok (.iconst 0, 1) := by decide +kernel
theorem dX9_fractions_98 : decode cX9_fractions 98 = .ok (.invokevirtual 91, 3) := by decide +kernel
theorem dX9_fractions_101 : decode cX9_fractions 101 = .ok (.goto 126, 3) := by decide +kernel
theorem dX9_fractions_104 : decode cX9_fractions 104 = .ok (.iload_n 1, 1) := by decide +kernel
theorem dX9_fractions_105 : decode cX9_fractions 105 = .ok (.bipush 16, 2) := by decide +kernel
theorem dX9_fractions_107 : decode cX9_fractions 107 = .ok (.if_icmp .eq 9, 3) := by decide +kernel
theorem dX9_fractions_110 : decode cX9_fractions 110 = .ok (.iload_n 1, 1) := by decide +kernel
theorem dX9_fractions_111 : decode cX9_fractions 111 = .ok (.bipush 17, 2) := by decide +kernel
theorem dX9_fractions_113 : decode cX9_fractions 113 = .ok (.if_icmp .ne 41, 3) := by decide +kernel
theorem dX9_fractions_116 : decode cX9_fractions 116 = .ok (.aload_n 0, 1) := by decide +kernel
theorem dX9_fractions_117 : decode cX9_fractions 117 = .ok (.aload_n 0, 1) := by decide +kernel
theorem dX9_fractions_118 : decode cX9_fractions 118 = .ok (.getfield 58, 3) := by decide +kernel
theorem dX9_fractions_121 : decode cX9_fractions 121 = .ok (.bipush 63, 2) := by decide +kernel
theorem dX9_fractions_123 : decode cX9_fractions 123 = .ok (.iand, 1) := by decide +kernel
theorem dX9_fractions_124 : decode cX9_fractions 124 = .ok (.iload_n 1, 1) := by decide +kernel
theorem dX9_fractions_125 : decode cX9_fractions 125 = .ok (.bipush 17, 2) := by decide +kernel
theorem dX9_fractions_127 : decode cX9_fractions 127 = .ok (.if_icmp .ne 7, 3) := by decide +kernel
theorem dX9_fractions_130 : decode cX9_fractions 130 = .ok (.iconst 1, 1) := by decide +kernel
theorem dX9_fractions_131 : decode cX9_fractions 131 = .ok (.goto 4, 3) := by decide +kernel
theorem dX9_fractions_134 : decode cX9_fractions 134 = .ok (.iconst 0, 1) := by decide +kernel
theorem dX9_fractions_135 : decode cX9_fractions 135 = .ok (.iload_n 2, 1) := by decide +kernel
theorem dX9_fractions_136 : decode cX9_fractions 136 = .ok (.aload_n 0, 1) := by decide +kernel
theorem dX9_fractions_137 : decode cX9_fractions 137 = .ok (.bipush 16, 2) := by decide +kernel
theorem dX9_fractions_139 : decode cX9_fractions 139 = .ok (.invokevirtual 61, 3) := by decide +kernel
theorem dX9_fractions_142 : decode cX9_fractions 142 = .ok (.aload_n 0, 1) := by decide +kernel
theorem dX9_fractions_143 : decode cX9_fractions 143 = .ok (.bipush 6, 2) := by decide +kernel
theorem dX9_fractions_145 : decode cX9_fractions 145 = .ok (.invokevirtual 61, 3) := by decide +kernel
theorem dX9_fractions_148 : decode cX9_fractions 148 = .ok (.invokevirtual 135, 3) := by decide +kernel
theorem dX9_fractions_151 : decode cX9_fractions 151 = .ok (.goto 76, 3) := by decide +kernel
theorem dX9_fractions_154 : decode cX9_fractions 154 = .ok (.iload_n 1, 1) := by decide +kernel
theorem dX9_fractions_155 : decode cX9_fractions 155 = .ok (.bipush 20, 2) := by decide +kernel
theorem dX9_fractions_157 : decode cX9_fractions 157 = .ok (.if_icmp .ne 70, 3) := by decide +kernel
theorem dX9_fractions_160 : decode cX9_fractions 160 = .ok (.aload_n 0, 1) := by decide +kernel
theorem dX9_fractions_161 : decode cX9_fractions 161 = .ok (.getfield 58, 3) := by decide +kernel
theorem dX9_fractions_164 : decode cX9_fractions 164 = .ok (.bipush 63, 2) := by decide +kernel
theorem dX9_fractions_166 : decode cX9_fractions 166 = .ok (.iand, 1) := by decide +kernel
theorem dX9_fractions_167 : decode cX9_fractions 167 = .ok (.bipush 32, 2) := by decide +kernel
theorem dX9_fractions_169 : decode cX9_fractions 169 = .ok (.if_icmp .eq 15, 3) := by decide +kernel
theorem dX9_fractions_172 : decode cX9_fractions 172 = .ok (.aload_n 0, 1) := by decide +kernel
theorem dX9_fractions_173 : decode cX9_fractions 173 = .ok (.getfield 58, 3) := by decide +kernel
theorem dX9_fractions_176 : decode cX9_fractions 176 = .ok (.bipush 63, 2) := by decide +kernel
theorem dX9_fractions_178 : decode cX9_fractions 178 = .ok (.iand, 1) := by decide +kernel
theorem dX9_fractions_179 : decode cX9_fractions 179 = .ok (.bipush 33, 2) := by decide +kernel
theorem dX9_fractions_181 : decode cX9_fractions 181 = .ok (.if_icmp .ne 46, 3) := by decide +kernel
theorem dX9_fractions_184 : decode cX9_fractions 184 = .ok (.aload_n 0, 1) := by decide +kernel
theorem dX9_fractions_185 : decode cX9_fractions 185 = .ok (.iconst 5, 1) := by decide +kernel
theorem dX9_fractions_186 : decode cX9_fractions 186 = .ok (.lconst 1, 1) := by decide +kernel
theorem dX9_fractions_187 : decode cX9_fractions 187 = .ok (.bipush 32, 2) := by decide +kernel
theorem dX9_fractions_189 : decode cX9_fractions 189 = .ok (.iload_n 2, 1) := by decide +kernel
theorem dX9_fractions_190 : decode cX9_fractions 190 = .ok (.iadd, 1) := by decide +kernel
theorem dX9_fractions_191 : decode cX9_fractions 191 = .ok (.lshl, 1) := by decide +kernel
theorem dX9_fractions_192 : decode cX9_fractions 192 = .ok (.lconst 0, 1) := by decide +kernel
theorem dX9_fractions_193 : decode cX9_fractions 193 = .ok (.invokevirtual 124, 3) := by decide +kernel
theorem dX9_fractions_196 : decode cX9_fractions 196 = .ok (.aload_n 0, 1) := by decide +kernel
theorem dX9_fractions_197 : decode cX9_fractions 197 = .ok (.aload_n 0, 1) := by decide +kernel
theorem dX9_fractions_198 : decode cX9_fractions 198 = .ok (.aload_n 0, 1) := by decide +kernel
theorem dX9_fractions_199 : decode cX9_fractions 199 = .ok (.bipush 6, 2) := by decide +kernel
theorem dX9_fractions_201 : decode cX9_fractions 201 = .ok (.invokevirtual 61, 3) := by decide +kernel
theorem dX9_fractions_204 : decode cX9_fractions 204 = .ok (.aload_n 0, 1) := by decide +kernel
theorem dX9_fractions_205 : decode cX9_fractions 205 = .ok (.getfield 58, 3) := by decide +kernel
theorem dX9_fractions_208 : decode cX9_fractions 208 = .ok (.bipush 63, 2) := by decide +kernel
theorem dX9_fractions_210 : decode cX9_fractions 210 = .ok (.iand, 1) := by decide +kernel
theorem dX9_fractions_211 : decode cX9_fractions 211 = .ok (.bipush 33, 2) := by decide +kernel
theorem dX9_fractions_213 : decode cX9_fractions 213 = .ok (.if_icmp .ne 7, 3) := by decide +kernel
theorem dX9_fractions_216 : decode cX9_fractions 216 = .ok (.iconst 1, 1) := by decide +kernel
theorem dX9_fractions_217 : decode cX9_fractions 217 = .ok (.goto 4, 3) := by decide +kernel
theorem dX9_fractions_220 : decode cX9_fractions 220 = .ok (.iconst 0, 1) := by decide +kernel
theorem dX9_fractions_221 : decode cX9_fractions 221 = .ok (.invokevirtual 131, 3) := by decide +kernel
theorem dX9_fractions_224 : decode cX9_fractions 224 = .ok (.putfield 76, 3) := by decide +kernel
theorem dX9_fractions_227 : decode cX9_fractions 227 = .ok (.return_, 1) := by decide +kernel
set_option maxRecDepth 20000 in
theorem ggX9_reckons_X9_fraction : GoodIn wsX9_reckons wsX9_fraction := goodIn_r _ [8, 1, 9, 28, 29, 30, 31, 32, 33, 34, 35, 36, 37, 38, 39, 40, 41, 42, 43, 44, 45, 46, 47, 48, 49, 50, 51, 52, 53] (by decide +kernel) (by decide +kernel)
set_option maxRecDepth 20000 in
theorem gX9_reckons_X9_fraction : GoodIn wsX9_reckons (wsV RX9 131 RX9 yX9_fraction wsX9_fraction) := goodIn_app (goodIn_of _ (by decide +kernel)) ggX9_reckons_X9_fraction
set_option maxRecDepth 20000 in
theorem ggX9_reckons_X9_t : GoodIn wsX9_reckons wsX9_t := goodIn_r _ [13, 14, 15, 16, 7, 17, 18, 19, 20, 21, 28, 29, 30, 31, 32, 33, 34, 35, 36, 37, 38, 39, 40, 41, 42, 43, 44, 45, 46, 47, 48, 49, 50, 51, 52, 53] (by decide +kernel) (by decide +kernel)
set_option maxRecDepth 20000 in
theorem gX9_reckons_X9_t : GoodIn wsX9_reckons (wsV RX9 117 RX9 yX9_t wsX9_t) := goodIn_app (goodIn_of _ (by decide +kernel)) ggX9_reckons_X9_t
set_option maxRecDepth 20000 in
theorem ggX9_reckons_X9_also : GoodIn wsX9_reckons wsX9_also := goodIn_r _ [25, 26, 27, 28, 29, 30, 31, 32, 33, 34, 35, 36, 37, 38, 39, 40, 41, 42, 43, 44, 45, 46, 47, 48, 49, 50, 51, 52, 53] (by decide +kernel) (by decide +kernel)
set_option maxRecDepth 20000 in
theorem gX9_reckons_X9_also : GoodIn wsX9_reckons (wsV RX9 91 RX9 yX9_also wsX9_also) := goodIn_app (goodIn_of _ (by decide +kernel)) ggX9_reckons_X9_also
theorem dX9_reckons_0 : decode cX9_reckons 0 = .ok (.iload_n 1, 1) := by decide +kernel
theorem dX9_reckons_1 : decode cX9_reckons 1 = .ok (.iconst 4, 1) := by decide +kernel
theorem dX9_reckons_2 : decode cX9_reckons 2 = .ok (.if_icmp .ge 50, 3) := by decide +kernel
theorem dX9_reckons_5 : decode cX9_reckons 5 = .ok (.aload_n 0, 1) := by decide +kernel
theorem dX9_reckons_6 : decode cX9_reckons 6 = .ok (.iload_n 1, 1) := by decide +kernel
theorem dX9_reckons_7 : decode cX9_reckons 7 = .ok (.iconst 3, 1) := by decide +kernel
theorem dX9_reckons_8 : decode cX9_reckons 8 = .ok (.if_icmp .ne 8, 3) := by decide +kernel
theorem dX9_reckons_11 : decode cX9_reckons 11 = .ok (.bipush 6, 2) := by decide +kernel
theorem dX9_reckons_13 : decode cX9_reckons 13 = .ok (.goto 4, 3) := by decide +kernel
theorem dX9_reckons_16 : decode cX9_reckons 16 = .ok (.iconst 5, 1) := by decide +kernel
theorem dX9_reckons_17 : decode cX9_reckons 17 = .ok (.putfield 69, 3) := by decide +kernel
theorem dX9_reckons_20 : decode cX9_reckons 20 = .ok (.aload_n 0, 1) := by decide +kernel
theorem dX9_reckons_21 : decode cX9_reckons 21 = .ok (.aload_n 0, 1) := by decide +kernel
theorem dX9_reckons_22 : decode cX9_reckons 22 = .ok (.iload_n 3, 1) := by decide +kernel
theorem dX9_reckons_23 : decode cX9_reckons 23 = .ok (.iload_n 2, 1) := by decide +kernel
theorem dX9_reckons_24 : decode cX9_reckons 24 = .ok (.invokevirtual 131, 3) := by decide +kernel
theorem dX9_reckons_27 : decode cX9_reckons 27 = .ok (.aload_n 0, 1) := by decide +kernel
theorem dX9_reckons_28 : decode cX9_reckons 28 = .ok (.iload 4, 2) := by decide +kernel
theorem dX9_reckons_30 : decode cX9_reckons 30 = .ok (.iload_n 2, 1) := by decide +kernel
theorem dX9_reckons_31 : decode cX9_reckons 31 = .ok (.invokevirtual 131, 3) := by decide +kernel
theorem dX9_reckons_34 : decode cX9_reckons 34 = .ok (.lor, 1) := by decide +kernel
theorem dX9_reckons_35 : decode cX9_reckons 35 = .ok (.putfield 72, 3) := by decide +kernel
theorem dX9_reckons_38 : decode cX9_reckons 38 = .ok (.aload_n 0, 1) := by decide +kernel
theorem dX9_reckons_39 : decode cX9_reckons 39 = .ok (.aload_n 0, 1) := by decide +kernel
theorem dX9_reckons_40 : decode cX9_reckons 40 = .ok (.iload 5, 2) := by decide +kernel
theorem dX9_reckons_42 : decode cX9_reckons 42 = .ok (.iload_n 2, 1) := by decide +kernel
theorem dX9_reckons_43 : decode cX9_reckons 43 = .ok (.invokevirtual 131, 3) := by decide +kernel
theorem dX9_reckons_46 : decode cX9_reckons 46 = .ok (.putfield 76, 3) := by decide +kernel
theorem dX9_reckons_49 : decode cX9_reckons 49 = .ok (.goto 217, 3) := by decide +kernel
theorem dX9_reckons_52 : decode cX9_reckons 52 = .ok (.iload_n 1, 1) := by decide +kernel
theorem dX9_reckons_53 : decode cX9_reckons 53 = .ok (.bipush 8, 2) := by decide +kernel
theorem dX9_reckons_55 : decode cX9_reckons 55 = .ok (.if_icmp .lt 41, 3) := by decide +kernel
theorem dX9_reckons_58 : decode cX9_reckons 58 = .ok (.iload_n 1, 1) := by decide +kernel
theorem dX9_reckons_59 : decode cX9_reckons 59 = .ok (.bipush 12, 2) := by decide +kernel
theorem dX9_reckons_61 : decode cX9_reckons 61 = .ok (.if_icmp .lt 9, 3) := by decide +kernel
theorem dX9_reckons_64 : decode cX9_reckons 64 = .ok (.iload_n 1, 1) := by decide +kernel
theorem dX9_reckons_65 : decode cX9_reckons 65 = .ok (.bipush 16, 2) := by decide +kernel
theorem dX9_reckons_67 : decode cX9_reckons 67 = .ok (.if_icmp .lt 29, 3) := by decide +kernel
theorem dX9_reckons_70 : decode cX9_reckons 70 = .ok (.iload_n 1, 1) := by decide +kernel
theorem dX9_reckons_71 : decode cX9_reckons 71 = .ok (.bipush 36, 2) := by decide +kernel
theorem dX9_reckons_73 : decode cX9_reckons 73 = .ok (.if_icmp .eq 23, 3) := by decide +kernel
theorem dX9_reckons_76 : decode cX9_reckons 76 = .ok (.iload_n 1, 1) := by decide +kernel
theorem dX9_reckons_77 : decode cX9_reckons 77 = .ok (.bipush 32, 2) := by decide +kernel
theorem dX9_reckons_79 : decode cX9_reckons 79 = .ok (.if_icmp .ne 7, 3) := by decide +kernel
theorem dX9_reckons_82 : decode cX9_reckons 82 = .ok (.iload_n 2, 1) := by decide +kernel
theorem dX9_reckons_83 : decode cX9_reckons 83 = .ok (.ifCond .ne 13, 3) := by decide +kernel
theorem dX9_reckons_86 : decode cX9_reckons 86 = .ok (.iload_n 1, 1) := by decide +kernel
theorem dX9_reckons_87 : decode cX9_reckons 87 = .ok (.bipush 33, 2) := by decide +kernel
theorem dX9_reckons_89 : decode cX9_reckons 89 = .ok (.if_icmp .ne 66, 3) := by decide +kernel
theorem dX9_reckons_92 : decode cX9_reckons 92 = .ok (.iload_n 2, 1) := by decide +kernel
theorem dX9_reckons_93 : decode cX9_reckons 93 = .ok (.ifCond .ne 62, 3) := by decide +kernel
theorem dX9_reckons_96 : decode cX9_reckons 96 = .ok (.aload_n 0, 1) := by decide +kernel
theorem dX9_reckons_97 : decode cX9_reckons 97 = .ok (.iload_n 1, 1) := by decide +kernel
theorem dX9_reckons_98 : decode cX9_reckons 98 = .ok (.iconst 4, 1) := by decide +kernel
theorem dX9_reckons_99 : decode cX9_reckons 99 = .ok (.if_icmp .ne 8, 3) := by decide +kernel
theorem dX9_reckons_102 : decode cX9_reckons 102 = .ok (.bipush 6, 2) := by decide +kernel
theorem dX9_reckons_104 : decode cX9_reckons 104 = .ok (.goto 4, 3) := by decide +kernel
theorem dX9_reckons_107 : decode cX9_reckons 107 = .ok (.iconst 5, 1) := by decide +kernel
theorem dX9_reckons_108 : decode cX9_reckons 108 = .ok (.putfield 69, 3) := by decide +kernel
theorem dX9_reckons_111 : decode cX9_reckons 111 = .ok (.aload_n 0, 1) := by decide +kernel
theorem dX9_reckons_112 : decode cX9_reckons 112 = .ok (.aload_n 0, 1) := by decide +kernel
theorem dX9_reckons_113 : decode cX9_reckons 113 = .ok (.iload_n 3, 1) := by decide +kernel
theorem dX9_reckons_114 : decode cX9_reckons 114 = .ok (.iload_n 2, 1) := by decide +kernel
theorem dX9_reckons_115 : decode cX9_reckons 115 = .ok (.invokevirtual 131, 3) := by decide +kernel
theorem dX9_reckons_118 : decode cX9_reckons 118 = .ok (.putfield 72, 3) := by decide +kernel
theorem dX9_reckons_121 : decode cX9_reckons 121 = .ok (.aload_n 0, 1) := by decide +kernel
theorem dX9_reckons_122 : decode cX9_reckons 122 = .ok (.aload_n 0, 1) := by decide +kernel
theorem dX9_reckons_123 : decode cX9_reckons 123 = .ok (.iload 5, 2) := by decide +kernel
theorem dX9_reckons_125 : decode cX9_reckons 125 = .ok (.iload_n 1, 1) := by decide +kernel
theorem dX9_reckons_126 : decode cX9_reckons 126 = .ok (.bipush 8, 2) := by decide +kernel
theorem dX9_reckons_128 : decode cX9_reckons 128 = .ok (.if_icmp .ge 7, 3) := by decide +kernel
theorem dX9_reckons_131 : decode cX9_reckons 131 = .ok (.iload_n 2, 1) := by decide +kernel
theorem dX9_reckons_132 : decode cX9_reckons 132 = .ok (.ifCond .ne 9, 3) := by decide +kernel
theorem dX9_reckons_135 : decode cX9_reckons 135 = .ok (.iload_n 1, 1) := by decide +kernel
theorem dX9_reckons_136 : decode cX9_reckons 136 = .ok (.bipush 33, 2) := by decide +kernel
theorem dX9_reckons_138 : decode cX9_reckons 138 = .ok (.if_icmp .ne 7, 3) := by decide +kernel
theorem dX9_reckons_141 : decode cX9_reckons 141 = .ok (.iconst 1, 1) := by decide +kernel
theorem dX9_reckons_142 : decode cX9_reckons 142 = .ok (.goto 4, 3) := by decide +kernel
theorem dX9_reckons_145 : decode cX9_reckons 145 = .ok (.iconst 0, 1) := by decide +kernel
theorem dX9_reckons_146 : decode cX9_reckons 146 = .ok (.invokevirtual 131, 3) := by decide +kernel
theorem dX9_reckons_149 : decode cX9_reckons 149 = .ok (.putfield 76, 3) := by decide +kernel
theorem dX9_reckons_152 : decode cX9_reckons 152 = .ok (.goto 114, 3) := by decide +kernel
theorem dX9_reckons_155 : decode cX9_reckons 155 = .ok (.iload_n 1, 1) := by decide +kernel
theorem dX9_reckons_156 : decode cX9_reckons 156 = .ok (.bipush 17, 2) := by decide +kernel
theorem dX9_reckons_158 : decode cX9_reckons 158 = .ok (.if_icmp .lt 73, 3) := by decide +kernel
theorem dX9_reckons_161 : decode cX9_reckons 161 = .ok (.iload_n 1, 1) := by decide +kernel
theorem dX9_reckons_162 : decode cX9_reckons 162 = .ok (.bipush 20, 2) := by decide +kernel
theorem dX9_reckons_164 : decode cX9_reckons 164 = .ok (.if_icmp .ge 67, 3) := by decide +kernel
theorem dX9_reckons_167 : decode cX9_reckons 167 = .ok (.aload_n 0, 1) := by decide +kernel
theorem dX9_reckons_168 : decode cX9_reckons 168 = .ok (.iconst 5, 1) := by decide +kernel
theorem dX9_reckons_169 : decode cX9_reckons 169 = .ok (.putfield 69, 3) := by decide +kernel
theorem dX9_reckons_172 : decode cX9_reckons 172 = .ok (.aload_n 0, 1) := by decide +kernel
theorem dX9_reckons_173 : decode cX9_reckons 173 = .ok (.aload_n 0, 1) := by decide +kernel
theorem dX9_reckons_174 : decode cX9_reckons 174 = .ok (.iload_n 3, 1) := by decide +kernel
theorem dX9_reckons_175 : decode cX9_reckons 175 = .ok (.iload_n 2, 1) := by decide +kernel
theorem dX9_reckons_176 : decode cX9_reckons 176 = .ok (.invokevirtual 131, 3) := by decide +kernel
theorem dX9_reckons_179 : decode cX9_reckons 179 = .ok (.aload_n 0, 1) := by decide +kernel
theorem dX9_reckons_180 : decode cX9_reckons 180 = .ok (.iload 5, 2) := by decide +kernel
theorem dX9_reckons_182 : decode cX9_reckons 182 = .ok (.iload_n 2, 1) := by decide +kernel
theorem dX9_reckons_183 : decode cX9_reckons 183 = .ok (.invokevirtual 131, 3) := by decide +kernel
theorem dX9_reckons_186 : decode cX9_reckons 186 = .ok (.lor, 1) := by decide +kernel
theorem dX9_reckons_187 : decode cX9_reckons 187 = .ok (.iload_n 1, 1) := by decide +kernel
theorem dX9_reckons_188 : decode cX9_reckons 188 = .ok (.bipush 17, 2) := by decide +kernel
theorem dX9_reckons_190 : decode cX9_reckons 190 = .ok (.if_icmp .le 10, 3) := by decide +kernel
theorem dX9_reckons_193 : decode cX9_reckons 193 = .ok (.aload_n 0, 1) := by decide +kernel
theorem dX9_reckons_194 : decode cX9_reckons 194 = .ok (.invokevirtual 117, 3) := by decide +kernel
theorem dX9_reckons_197 : decode cX9_reckons 197 = .ok (.goto 4, 3) := by decide +kernel
theorem dX9_reckons_200 : decode cX9_reckons 200 = .ok (.lconst 0, 1) := by decide +kernel
theorem dX9_reckons_201 : decode cX9_reckons 201 = .ok (.lor, 1) := by decide +kernel
theorem dX9_reckons_202 : decode cX9_reckons 202 = .ok (.putfield 72, 3) := by decide +kernel
theorem dX9_reckons_205 : decode cX9_reckons 205 = .ok (.aload_n 0, 1) := by decide +kernel
theorem dX9_reckons_206 : decode cX9_reckons 206 = .ok (.aload_n 0, 1) := by decide +kernel
theorem dX9_reckons_207 : decode cX9_reckons 207 = .ok (.iload 5, 2) := by decide +kernel
theorem dX9_reckons_209 : decode cX9_reckons 209 = .ok (.iload_n 2, 1) := by decide +kernel
theorem dX9_reckons_210 : decode cX9_reckons 210 = .ok (.invokevirtual 131, 3) := by decide +kernel
theorem dX9_reckons_213 : decode cX9_reckons 213 = .ok (.putfield 76, 3) := by decide +kernel
theorem dX9_reckons_216 : decode cX9_reckons 216 = .ok (.iload_n 1, 1) := by decide +kernel
theorem dX9_reckons_217 : decode cX9_reckons 217 = .ok (.bipush 17, 2) := by decide +kernel
theorem dX9_reckons_219 : decode cX9_reckons 219 = .ok (.if_icmp .ne 47, 3) := by decide +kernel
theorem dX9_reckons_222 : decode cX9_reckons 222 = .ok (.aload_n 0, 1) := by decide +kernel
theorem dX9_reckons_223 : decode cX9_reckons 223 = .ok (.iconst 1, 1) := by decide +kernel
theorem dX9_reckons_224 : decode cX9_reckons 224 = .ok (.iconst 0, 1) := by decide +kernel
theorem dX9_reckons_225 : decode cX9_reckons 225 = .ok (.invokevirtual 91, 3) := by decide +kernel
theorem dX9_reckons_228 : decode cX9_reckons 228 = .ok (.goto 38, 3) := by decide +kernel
theorem dX9_reckons_231 : decode cX9_reckons 231 = .ok (.iload_n 1, 1) := by decide +kernel
theorem dX9_reckons_232 : decode cX9_reckons 232 = .ok (.bipush 48, 2) := by decide +kernel
theorem dX9_reckons_234 : decode cX9_reckons 234 = .ok (.if_icmp .lt 32, 3) := by decide +kernel
theorem dX9_reckons_237 : decode cX9_reckons 237 = .ok (.aload_n 0, 1) := by decide +kernel
theorem dX9_reckons_238 : decode cX9_reckons 238 = .ok (.iconst 5, 1) := by decide +kernel
theorem dX9_reckons_239 : decode cX9_reckons 239 = .ok (.putfield 69, 3) := by decide +kernel
theorem dX9_reckons_242 : decode cX9_reckons 242 = .ok (.aload_n 0, 1) := by decide +kernel
theorem dX9_reckons_243 : decode cX9_reckons 243 = .ok (.aload_n 0, 1) := by decide +kernel
theorem dX9_reckons_244 : decode cX9_reckons 244 = .ok (.iload_n 3, 1) := by decide +kernel
theorem dX9_reckons_245 : decode cX9_reckons 245 = .ok (.iload_n 2, 1) := by decide +kernel
theorem dX9_reckons_246 : decode cX9_reckons 246 = .ok (.invokevirtual 131, 3) := by decide +kernel
theorem dX9_reckons_249 : decode cX9_reckons 249 = .ok (.aload_n 0, 1) := by decide +kernel
theorem dX9_reckons_250 : decode cX9_reckons 250 = .ok (.iload 4, 2) := by decide +kernel
theorem dX9_reckons_252 : decode cX9_reckons 252 = .ok (.iload_n 2, 1) := by decide +kernel
theorem dX9_reckons_253 : decode cX9_reckons 253 = .ok (.invokevirtual 131, 3) := by decide +kernel
theorem dX9_reckons_256 : decode cX9_reckons 256 = .ok (.lor, 1) := by decide +kernel
theorem dX9_reckons_257 : decode cX9_reckons 257 = .ok (.putfield 72, 3) := by decide +kernel
theorem dX9_reckons_260 : decode cX9_reckons 260 = .ok (.aload_n 0, 1) := by decide +kernel
theorem dX9_reckons_261 : decode cX9_reckons 261 = .ok (.iconst 1, 1) := by decide +kernel
theorem dX9_reckons_262 : decode cX9_reckons 262 = .ok (.iconst 1, 1) := by decide +kernel
theorem dX9_reckons_263 : decode cX9_reckons 263 = .ok (.invokevirtual 91, 3) := by decide +kernel
theorem dX9_reckons_266 : decode cX9_reckons 266 = .ok (.return_, 1) := by decide +kernel
set_option maxRecDepth 20000 in
theorem ggX9_latency_X9_fail : GoodIn wsX9_latency wsX9_fail := goodIn_r _ [7, 1, 8, 9, 10, 11, 12, 13, 14, 15, 16, 17, 18, 19, 20, 21, 22, 23, 24, 25, 26, 27, 28, 29, 30, 31, 32, 33] (by decide +kernel) (by decide +kernel)
set_option maxRecDepth 20000 in
theorem gX9_latency_X9_fail : GoodIn wsX9_latency (wsV RX9 139 RX9 yX9_fail wsX9_fail) := goodIn_app (goodIn_of _ (by decide +kernel)) ggX9_latency_X9_fail
theorem dX9_latency_0 : decode cX9_latency 0 = .ok (.aload_n 0, 1) := by decide +kernel
theorem dX9_latency_1 : decode cX9_latency 1 = .ok (.iconst 0, 1) := by decide +kernel
theorem dX9_latency_2 : decode cX9_latency 2 = .ok (.putfield 54, 3) := by decide +kernel
theorem dX9_latency_5 : decode cX9_latency 5 = .ok (.iload_n 1, 1) := by decide +kernel
theorem dX9_latency_6 : decode cX9_latency 6 = .ok (.ifCond .lt 20, 3) := by decide +kernel
theorem dX9_latency_9 : decode cX9_latency 9 = .ok (.iload_n 1, 1) := by decide +kernel
theorem dX9_latency_10 : decode cX9_latency 10 = .ok (.bipush 6, 2) := by decide +kernel
theorem dX9_latency_12 : decode cX9_latency 12 = .ok (.if_icmp .gt 14, 3) := by decide +kernel
theorem dX9_latency_15 : decode cX9_latency 15 = .ok (.iload_n 2, 1) := by decide +kernel
theorem dX9_latency_16 : decode cX9_latency 16 = .ok (.iconst 1, 1) := by decide +kernel
theorem dX9_latency_17 : decode cX9_latency 17 = .ok (.if_icmp .lt 9, 3) := by decide +kernel
theorem dX9_latency_20 : decode cX9_latency 20 = .ok (.iload_n 2, 1) := by decide +kernel
theorem dX9_latency_21 : decode cX9_latency 21 = .ok (.bipush 40, 2) := by decide +kernel
theorem dX9_latency_23 : decode cX9_latency 23 = .ok (.if_icmp .le 9, 3) := by decide +kernel
theorem dX9_latency_26 : decode cX9_latency 26 = .ok (.aload_n 0, 1) := by decide +kernel
theorem dX9_latency_27 : decode cX9_latency 27 = .ok (.iconst 1, 1) := by decide +kernel
theorem dX9_latency_28 : decode cX9_latency 28 = .ok (.invokevirtual 139, 3) := by decide +kernel
theorem dX9_latency_31 : decode cX9_latency 31 = .ok (.ireturn, 1) := by decide +kernel
theorem dX9_latency_32 : decode cX9_latency 32 = .ok (.aload_n 0, 1) := by decide +kernel
theorem dX9_latency_33 : decode cX9_latency 33 = .ok (.getfield 7, 3) := by decide +kernel
theorem dX9_latency_36 : decode cX9_latency 36 = .ok (.iload_n 1, 1) := by decide +kernel
theorem dX9_latency_37 : decode cX9_latency 37 = .ok (.iaload, 1) := by decide +kernel
theorem dX9_latency_38 : decode cX9_latency 38 = .ok (.istore_n 3, 1) := by decide +kernel
theorem dX9_latency_39 : decode cX9_latency 39 = .ok (.aload_n 0, 1) := by decide +kernel
theorem dX9_latency_40 : decode cX9_latency 40 = .ok (.getfield 7, 3) := by decide +kernel
theorem dX9_latency_43 : decode cX9_latency 43 = .ok (.iload_n 1, 1) := by decide +kernel
theorem dX9_latency_44 : decode cX9_latency 44 = .ok (.iload_n 2, 1) := by decide +kernel
theorem dX9_latency_45 : decode cX9_latency 45 = .ok (.iastore, 1) := by decide +kernel
theorem dX9_latency_46 : decode cX9_latency 46 = .ok (.iload_n 3, 1) := by decide +kernel
theorem dX9_latency_47 : decode cX9_latency 47 = .ok (.ireturn, 1) := by decide +kernel
set_option maxRecDepth 20000 in
theorem ggX9_add_X9_look : GoodIn wsX9_add wsX9_look := goodIn_r _ [21, 22, 2, 8, 10, 16, 23, 24, 25, 20, 26, 12, 14, 27, 28, 29, 30, 31, 32, 33, 34, 35, 36, 37, 38, 39, 40, 41, 42, 43, 44, 45, 46, 47, 48, 49, 50, 51, 52, 53, 54, 55, 56, 57, 58, 59, 60, 61, 62, 63, 64, 65, 66, 67, 68, 69, 70, 71, 72, 73, 74, 75, 76, 77, 78, 79, 80, 81, 82, 83, 84, 85, 86, 91, 92, 93, 94, 95, 96, 97, 98, 99, 100, 101, 102, 103, 104, 105, 106, 107, 108, 109, 110, 111, 112, 113, 114, 115, 116] (by decide +kernel) (by decide +kernel)
set_option maxRecDepth 20000 in
theorem gX9_add_X9_look : GoodIn wsX9_add (wsV RX9 142 RX9 yX9_look wsX9_look) := goodIn_app (goodIn_of _ (by decide +kernel)) ggX9_add_X9_look
set_option maxRecDepth 20000 in
theorem ggX9_add_X9_fail : GoodIn wsX9_add wsX9_fail := goodIn_r _ [90, 1, 91, 92, 93, 94, 95, 96, 97, 98, 99, 100, 101, 102, 103, 104, 105, 106, 107, 108, 109, 110, 111, 112, 113, 114, 115, 116] (by decide +kernel) (by decide +kernel)
set_option maxRecDepth 20000 in
theorem gX9_add_X9_fail : GoodIn wsX9_add (wsV RX9 139 RX9 yX9_fail wsX9_fail) := goodIn_app (goodIn_of _ (by decide +kernel)) ggX9_add_X9_fail
theorem dX9_add_0 : decode cX9_add 0 = .ok (.aload_n 0, 1) := by decide +kernel
theorem dX9_add_1 : decode cX9_add 1 = .ok (.iconst 0, 1) := by decide +kernel
theorem dX9_add_2 : decode cX9_add 2 = .ok (.putfield 54, 3) := by decide +kernel
theorem dX9_add_5 : decode cX9_add 5 = .ok (.aload_n 0, 1) := by decide +kernel
theorem dX9_add_6 : decode cX9_add 6 = .ok (.iload_n 1, 1) := by decide +kernel
theorem dX9_add_7 : decode cX9_add 7 = .ok (.invokevirtual 142, 3) := by decide +kernel
theorem dX9_add_10 : decode cX9_add 10 = .ok (.aload_n 0, 1) := by decide +kernel
theorem dX9_add_11 : decode cX9_add 11 = .ok (.getfield 69, 3) := by decide +kernel
theorem dX9_add_14 : decode cX9_add 14 = .ok (.iconst (-1), 1) := by decide +kernel
theorem dX9_add_15 : decode cX9_add 15 = .ok (.if_icmp .ne 9, 3) := by decide +kernel
theorem dX9_add_18 : decode cX9_add 18 = .ok (.aload_n 0, 1) := by decide +kernel
theorem dX9_add_19 : decode cX9_add 19 = .ok (.iconst 1, 1) := by decide +kernel
theorem dX9_add_20 : decode cX9_add 20 = .ok (.invokevirtual 139, 3) := by decide +kernel
theorem dX9_add_23 : decode cX9_add 23 = .ok (.ireturn, 1) := by decide +kernel
theorem dX9_add_24 : decode cX9_add 24 = .ok (.aload_n 0, 1) := by decide +kernel
theorem dX9_add_25 : decode cX9_add 25 = .ok (.getfield 145, 3) := by decide +kernel
theorem dX9_add_28 : decode cX9_add 28 = .ok (.ifCond .eq 7, 3) := by decide +kernel
theorem dX9_add_31 : decode cX9_add 31 = .ok (.iconst 0, 1) := by decide +kernel
theorem dX9_add_32 : decode cX9_add 32 = .ok (.goto 7, 3) := by decide +kernel
theorem dX9_add_35 : decode cX9_add 35 = .ok (.aload_n 0, 1) := by decide +kernel
theorem dX9_add_36 : decode cX9_add 36 = .ok (.getfield 148, 3) := by decide +kernel
theorem dX9_add_39 : decode cX9_add 39 = .ok (.istore_n 2, 1) := by decide +kernel
theorem dX9_add_40 : decode cX9_add 40 = .ok (.iload_n 2, 1) := by decide +kernel
theorem dX9_add_41 : decode cX9_add 41 = .ok (.bipush 40, 2) := by decide +kernel
theorem dX9_add_43 : decode cX9_add 43 = .ok (.if_icmp .eq 20, 3) := by decide +kernel
theorem dX9_add_46 : decode cX9_add 46 = .ok (.iload_n 2, 1) := by decide +kernel
theorem dX9_add_47 : decode cX9_add 47 = .ok (.ifCond .le 22, 3) := by decide +kernel
theorem dX9_add_50 : decode cX9_add 50 = .ok (.aload_n 0, 1) := by decide +kernel
theorem dX9_add_51 : decode cX9_add 51 = .ok (.getfield 16, 3) := by decide +kernel
theorem dX9_add_54 : decode cX9_add 54 = .ok (.iload_n 2, 1) := by decide +kernel
theorem dX9_add_55 : decode cX9_add 55 = .ok (.iconst 1, 1) := by decide +kernel
theorem dX9_add_56 : decode cX9_add 56 = .ok (.isub, 1) := by decide +kernel
theorem dX9_add_57 : decode cX9_add 57 = .ok (.iaload, 1) := by decide +kernel
theorem dX9_add_58 : decode cX9_add 58 = .ok (.bipush 7, 2) := by decide +kernel
theorem dX9_add_60 : decode cX9_add 60 = .ok (.if_icmp .ne 9, 3) := by decide +kernel
theorem dX9_add_63 : decode cX9_add 63 = .ok (.aload_n 0, 1) := by decide +kernel
theorem dX9_add_64 : decode cX9_add 64 = .ok (.iconst 2, 1) := by decide +kernel
theorem dX9_add_65 : decode cX9_add 65 = .ok (.invokevirtual 139, 3) := by decide +kernel
theorem dX9_add_68 : decode cX9_add 68 = .ok (.ireturn, 1) := by decide +kernel
theorem dX9_add_69 : decode cX9_add 69 = .ok (.aload_n 0, 1) := by decide +kernel
theorem dX9_add_70 : decode cX9_add 70 = .ok (.iconst 0, 1) := by decide +kernel
theorem dX9_add_71 : decode cX9_add 71 = .ok (.putfield 145, 3) := by decide +kernel
theorem dX9_add_74 : decode cX9_add 74 = .ok (.aload_n 0, 1) := by decide +kernel
theorem dX9_add_75 : decode cX9_add 75 = .ok (.getfield 13, 3) := by decide +kernel
theorem dX9_add_78 : decode cX9_add 78 = .ok (.iload_n 2, 1) := by decide +kernel
theorem dX9_add_79 : decode cX9_add 79 = .ok (.iload_n 1, 1) := by decide +kernel
theorem dX9_add_80 : decode cX9_add 80 = .ok (.iastore, 1) := by decide +kernel
theorem dX9_add_81 : decode cX9_add 81 = .ok (.aload_n 0, 1) := by decide +kernel
theorem dX9_add_82 : decode cX9_add 82 = .ok (.getfield 16, 3) := by decide +kernel
theorem dX9_add_85 : decode cX9_add 85 = .ok (.iload_n 2, 1) := by decide +kernel
theorem dX9_add_86 : decode cX9_add 86 = .ok (.aload_n 0, 1) := by decide +kernel
theorem dX9_add_87 : decode cX9_add 87 = .ok (.getfield 69, 3) := by decide +kernel
theorem dX9_add_90 : decode cX9_add 90 = .ok (.iastore, 1) := by decide +kernel
theorem dX9_add_91 : decode cX9_add 91 = .ok (.aload_n 0, 1) := by decide +kernel
theorem dX9_add_92 : decode cX9_add 92 = .ok (.getfield 25, 3) := by decide +kernel
theorem dX9_add_95 : decode cX9_add 95 = .ok (.iload_n 2, 1) := by decide +kernel
theorem dX9_add_96 : decode cX9_add 96 = .ok (.aload_n 0, 1) := by decide +kernel
theorem dX9_add_97 : decode cX9_add 97 = .ok (.getfield 72, 3) := by decide +kernel
theorem dX9_add_100 : decode cX9_add 100 = .ok (.lastore, 1) := by decide +kernel
theorem dX9_add_101 : decode cX9_add 101 = .ok (.aload_n 0, 1) := by decide +kernel
theorem dX9_add_102 : decode cX9_add 102 = .ok (.getfield 29, 3) := by decide +kernel
theorem dX9_add_105 : decode cX9_add 105 = .ok (.iload_n 2, 1) := by decide +kernel
theorem dX9_add_106 : decode cX9_add 106 = .ok (.aload_n 0, 1) := by decide +kernel
theorem dX9_add_107 : decode cX9_add 107 = .ok (.getfield 76, 3) := by decide +kernel
theorem dX9_add_110 : decode cX9_add 110 = .ok (.lastore, 1) := by decide +kernel
theorem dX9_add_111 : decode cX9_add 111 = .ok (.aload_n 0, 1) := by decide +kernel
theorem dX9_add_112 : decode cX9_add 112 = .ok (.getfield 19, 3) := by decide +kernel
theorem dX9_add_115 : decode cX9_add 115 = .ok (.iload_n 2, 1) := by decide +kernel
theorem dX9_add_116 : decode cX9_add 116 = .ok (.aload_n 0, 1) := by decide +kernel
theorem dX9_add_117 : decode cX9_add 117 = .ok (.getfield 79, 3) := by decide +kernel
theorem dX9_add_120 : decode cX9_add 120 = .ok (.iastore, 1) := by decide +kernel
theorem dX9_add_121 : decode cX9_add 121 = .ok (.aload_n 0, 1) := by decide +kernel
theorem dX9_add_122 : decode cX9_add 122 = .ok (.getfield 22, 3) := by decide +kernel
theorem dX9_add_125 : decode cX9_add 125 = .ok (.iload_n 2, 1) := by decide +kernel
theorem dX9_add_126 : decode cX9_add 126 = .ok (.aload_n 0, 1) := by decide +kernel
theorem dX9_add_127 : decode cX9_add 127 = .ok (.getfield 82, 3) := by decide +kernel
theorem dX9_add_130 : decode cX9_add 130 = .ok (.iastore, 1) := by decide +kernel
theorem dX9_add_131 : decode cX9_add 131 = .ok (.aload_n 0, 1) := by decide +kernel
theorem dX9_add_132 : decode cX9_add 132 = .ok (.getfield 32, 3) := by decide +kernel
theorem dX9_add_135 : decode cX9_add 135 = .ok (.iload_n 2, 1) := by decide +kernel
theorem dX9_add_136 : decode cX9_add 136 = .ok (.aload_n 0, 1) := by decide +kernel
end
section
theorem dX9_add_137 : decode cX9_add 137 = .ok (.getfield 87, 3) := by decide +kernel
theorem dX9_add_140 : decode cX9_add 140 = .ok (.bastore, 1) := by decide +kernel
theorem dX9_add_141 : decode cX9_add 141 = .ok (.aload_n 0, 1) := by decide +kernel
theorem dX9_add_142 : decode cX9_add 142 = .ok (.iload_n 2, 1) := by decide +kernel
theorem dX9_add_143 : decode cX9_add 143 = .ok (.iconst 1, 1) := by decide +kernel
theorem dX9_add_144 : decode cX9_add 144 = .ok (.iadd, 1) := by decide +kernel
theorem dX9_add_145 : decode cX9_add 145 = .ok (.putfield 148, 3) := by decide +kernel
theorem dX9_add_148 : decode cX9_add 148 = .ok (.aload_n 0, 1) := by decide +kernel
theorem dX9_add_149 : decode cX9_add 149 = .ok (.getfield 69, 3) := by decide +kernel
theorem dX9_add_152 : decode cX9_add 152 = .ok (.ireturn, 1) := by decide +kernel
set_option maxRecDepth 20000 in
theorem ggX9_firstByte_X9_isPart : GoodIn wsX9_firstByte wsX9_isPart := goodIn_r _ [6, 1, 7, 8, 9, 10, 11, 12, 13, 14, 15, 16, 17, 18, 19, 20, 21, 22, 23, 24, 25, 26, 27, 28, 29, 30, 31, 32] (by decide +kernel) (by decide +kernel)
set_option maxRecDepth 20000 in
theorem gX9_firstByte_X9_isPart : GoodIn wsX9_firstByte (wsV RX9 151 RX9 yX9_isPart wsX9_isPart) := goodIn_app (goodIn_of _ (by decide +kernel)) ggX9_firstByte_X9_isPart
theorem dX9_firstByte_0 : decode cX9_firstByte 0 = .ok (.aload_n 0, 1) := by decide +kernel
theorem dX9_firstByte_1 : decode cX9_firstByte 1 = .ok (.getfield 13, 3) := by decide +kernel
theorem dX9_firstByte_4 : decode cX9_firstByte 4 = .ok (.iload_n 1, 1) := by decide +kernel
theorem dX9_firstByte_5 : decode cX9_firstByte 5 = .ok (.iaload, 1) := by decide +kernel
theorem dX9_firstByte_6 : decode cX9_firstByte 6 = .ok (.bipush 16, 2) := by decide +kernel
theorem dX9_firstByte_8 : decode cX9_firstByte 8 = .ok (.ishl, 1) := by decide +kernel
theorem dX9_firstByte_9 : decode cX9_firstByte 9 = .ok (.bipush 16, 2) := by decide +kernel
theorem dX9_firstByte_11 : decode cX9_firstByte 11 = .ok (.ishr, 1) := by decide +kernel
theorem dX9_firstByte_12 : decode cX9_firstByte 12 = .ok (.istore_n 2, 1) := by decide +kernel
theorem dX9_firstByte_13 : decode cX9_firstByte 13 = .ok (.aload_n 0, 1) := by decide +kernel
theorem dX9_firstByte_14 : decode cX9_firstByte 14 = .ok (.iload_n 1, 1) := by decide +kernel
theorem dX9_firstByte_15 : decode cX9_firstByte 15 = .ok (.invokevirtual 151, 3) := by decide +kernel
theorem dX9_firstByte_18 : decode cX9_firstByte 18 = .ok (.ifCond .eq 10, 3) := by decide +kernel
theorem dX9_firstByte_21 : decode cX9_firstByte 21 = .ok (.iload_n 2, 1) := by decide +kernel
theorem dX9_firstByte_22 : decode cX9_firstByte 22 = .ok (.bipush (-4), 2) := by decide +kernel
theorem dX9_firstByte_24 : decode cX9_firstByte 24 = .ok (.iand, 1) := by decide +kernel
theorem dX9_firstByte_25 : decode cX9_firstByte 25 = .ok (.goto 4, 3) := by decide +kernel
theorem dX9_firstByte_28 : decode cX9_firstByte 28 = .ok (.iload_n 2, 1) := by decide +kernel
theorem dX9_firstByte_29 : decode cX9_firstByte 29 = .ok (.ireturn, 1) := by decide +kernel
theorem dX9_isPart_0 : decode cX9_isPart 0 = .ok (.aload_n 0, 1) := by decide +kernel
theorem dX9_isPart_1 : decode cX9_isPart 1 = .ok (.getfield 13, 3) := by decide +kernel
theorem dX9_isPart_4 : decode cX9_isPart 4 = .ok (.iload_n 1, 1) := by decide +kernel
theorem dX9_isPart_5 : decode cX9_isPart 5 = .ok (.iaload, 1) := by decide +kernel
theorem dX9_isPart_6 : decode cX9_isPart 6 = .ok (.bipush 26, 2) := by decide +kernel
theorem dX9_isPart_8 : decode cX9_isPart 8 = .ok (.iushr, 1) := by decide +kernel
theorem dX9_isPart_9 : decode cX9_isPart 9 = .ok (.istore_n 2, 1) := by decide +kernel
theorem dX9_isPart_10 : decode cX9_isPart 10 = .ok (.iload_n 2, 1) := by decide +kernel
theorem dX9_isPart_11 : decode cX9_isPart 11 = .ok (.bipush 34, 2) := by decide +kernel
theorem dX9_isPart_13 : decode cX9_isPart 13 = .ok (.if_icmp .eq 21, 3) := by decide +kernel
theorem dX9_isPart_16 : decode cX9_isPart 16 = .ok (.iload_n 2, 1) := by decide +kernel
theorem dX9_isPart_17 : decode cX9_isPart 17 = .ok (.bipush 38, 2) := by decide +kernel
theorem dX9_isPart_19 : decode cX9_isPart 19 = .ok (.if_icmp .eq 15, 3) := by decide +kernel
theorem dX9_isPart_22 : decode cX9_isPart 22 = .ok (.iload_n 2, 1) := by decide +kernel
theorem dX9_isPart_23 : decode cX9_isPart 23 = .ok (.bipush 42, 2) := by decide +kernel
theorem dX9_isPart_25 : decode cX9_isPart 25 = .ok (.if_icmp .eq 9, 3) := by decide +kernel
theorem dX9_isPart_28 : decode cX9_isPart 28 = .ok (.iload_n 2, 1) := by decide +kernel
theorem dX9_isPart_29 : decode cX9_isPart 29 = .ok (.bipush 46, 2) := by decide +kernel
theorem dX9_isPart_31 : decode cX9_isPart 31 = .ok (.if_icmp .ne 7, 3) := by decide +kernel
theorem dX9_isPart_34 : decode cX9_isPart 34 = .ok (.iconst 1, 1) := by decide +kernel
theorem dX9_isPart_35 : decode cX9_isPart 35 = .ok (.goto 4, 3) := by decide +kernel
theorem dX9_isPart_38 : decode cX9_isPart 38 = .ok (.iconst 0, 1) := by decide +kernel
theorem dX9_isPart_39 : decode cX9_isPart 39 = .ok (.ireturn, 1) := by decide +kernel
theorem dX9_bytes_0 : decode cX9_bytes 0 = .ok (.aload_n 0, 1) := by decide +kernel
theorem dX9_bytes_1 : decode cX9_bytes 1 = .ok (.getfield 13, 3) := by decide +kernel
theorem dX9_bytes_4 : decode cX9_bytes 4 = .ok (.iload_n 1, 1) := by decide +kernel
theorem dX9_bytes_5 : decode cX9_bytes 5 = .ok (.iaload, 1) := by decide +kernel
theorem dX9_bytes_6 : decode cX9_bytes 6 = .ok (.bipush 26, 2) := by decide +kernel
theorem dX9_bytes_8 : decode cX9_bytes 8 = .ok (.iushr, 1) := by decide +kernel
theorem dX9_bytes_9 : decode cX9_bytes 9 = .ok (.istore_n 2, 1) := by decide +kernel
theorem dX9_bytes_10 : decode cX9_bytes 10 = .ok (.iload_n 2, 1) := by decide +kernel
theorem dX9_bytes_11 : decode cX9_bytes 11 = .ok (.bipush 32, 2) := by decide +kernel
theorem dX9_bytes_13 : decode cX9_bytes 13 = .ok (.if_icmp .eq 15, 3) := by decide +kernel
theorem dX9_bytes_16 : decode cX9_bytes 16 = .ok (.iload_n 2, 1) := by decide +kernel
theorem dX9_bytes_17 : decode cX9_bytes 17 = .ok (.bipush 36, 2) := by decide +kernel
theorem dX9_bytes_19 : decode cX9_bytes 19 = .ok (.if_icmp .eq 9, 3) := by decide +kernel
theorem dX9_bytes_22 : decode cX9_bytes 22 = .ok (.iload_n 2, 1) := by decide +kernel
theorem dX9_bytes_23 : decode cX9_bytes 23 = .ok (.bipush 40, 2) := by decide +kernel
theorem dX9_bytes_25 : decode cX9_bytes 25 = .ok (.if_icmp .ne 7, 3) := by decide +kernel
theorem dX9_bytes_28 : decode cX9_bytes 28 = .ok (.iconst 1, 1) := by decide +kernel
theorem dX9_bytes_29 : decode cX9_bytes 29 = .ok (.goto 43, 3) := by decide +kernel
theorem dX9_bytes_32 : decode cX9_bytes 32 = .ok (.iload_n 2, 1) := by decide +kernel
theorem dX9_bytes_33 : decode cX9_bytes 33 = .ok (.bipush 33, 2) := by decide +kernel
theorem dX9_bytes_35 : decode cX9_bytes 35 = .ok (.if_icmp .eq 15, 3) := by decide +kernel
theorem dX9_bytes_38 : decode cX9_bytes 38 = .ok (.iload_n 2, 1) := by decide +kernel
theorem dX9_bytes_39 : decode cX9_bytes 39 = .ok (.bipush 37, 2) := by decide +kernel
theorem dX9_bytes_41 : decode cX9_bytes 41 = .ok (.if_icmp .eq 9, 3) := by decide +kernel
theorem dX9_bytes_44 : decode cX9_bytes 44 = .ok (.iload_n 2, 1) := by decide +kernel
theorem dX9_bytes_45 : decode cX9_bytes 45 = .ok (.bipush 41, 2) := by decide +kernel
theorem dX9_bytes_47 : decode cX9_bytes 47 = .ok (.if_icmp .ne 7, 3) := by decide +kernel
theorem dX9_bytes_50 : decode cX9_bytes 50 = .ok (.iconst 2, 1) := by decide +kernel
theorem dX9_bytes_51 : decode cX9_bytes 51 = .ok (.goto 21, 3) := by decide +kernel
theorem dX9_bytes_54 : decode cX9_bytes 54 = .ok (.iload_n 2, 1) := by decide +kernel
theorem dX9_bytes_55 : decode cX9_bytes 55 = .ok (.bipush 53, 2) := by decide +kernel
theorem dX9_bytes_57 : decode cX9_bytes 57 = .ok (.if_icmp .eq 9, 3) := by decide +kernel
theorem dX9_bytes_60 : decode cX9_bytes 60 = .ok (.iload_n 2, 1) := by decide +kernel
theorem dX9_bytes_61 : decode cX9_bytes 61 = .ok (.bipush 61, 2) := by decide +kernel
theorem dX9_bytes_63 : decode cX9_bytes 63 = .ok (.if_icmp .ne 8, 3) := by decide +kernel
theorem dX9_bytes_66 : decode cX9_bytes 66 = .ok (.bipush 8, 2) := by decide +kernel
theorem dX9_bytes_68 : decode cX9_bytes 68 = .ok (.goto 4, 3) := by decide +kernel
theorem dX9_bytes_71 : decode cX9_bytes 71 = .ok (.iconst 4, 1) := by decide +kernel
theorem dX9_bytes_72 : decode cX9_bytes 72 = .ok (.ireturn, 1) := by decide +kernel
set_option maxRecDepth 20000 in
theorem ggX9_apart_X9_register : GoodIn wsX9_apart wsX9_register := goodIn_r _ [6] (by decide +kernel) (by decide +kernel)
set_option maxRecDepth 20000 in
theorem gX9_apart_X9_register : GoodIn wsX9_apart (va_wsS RX9 65 yX9_register wsX9_register) := goodIn_app (goodIn_of _ (by decide +kernel)) ggX9_apart_X9_register
set_option maxRecDepth 20000 in
theorem ggX9_apart_X9_firstByte : GoodIn wsX9_apart wsX9_firstByte := goodIn_r _ [10, 1, 11, 12, 13, 5, 14, 19, 20, 21, 22, 23, 24, 25, 26, 27, 28, 29, 30, 31, 32, 33, 34, 35, 36, 37, 38, 39, 40, 41, 42, 43, 44] (by decide +kernel) (by decide +kernel)
set_option maxRecDepth 20000 in
theorem gX9_apart_X9_firstByte : GoodIn wsX9_apart (wsV RX9 155 RX9 yX9_firstByte wsX9_firstByte) := goodIn_app (goodIn_of _ (by decide +kernel)) ggX9_apart_X9_firstByte
set_option maxRecDepth 20000 in
theorem ggX9_apart_X9_bytes : GoodIn wsX9_apart wsX9_bytes := goodIn_r _ [18, 1, 19, 20, 21, 22, 23, 24, 25, 26, 27, 28, 29, 30, 31, 32, 33, 34, 35, 36, 37, 38, 39, 40, 41, 42, 43, 44] (by decide +kernel) (by decide +kernel)
set_option maxRecDepth 20000 in
theorem gX9_apart_X9_bytes : GoodIn wsX9_apart (wsV RX9 158 RX9 yX9_bytes wsX9_bytes) := goodIn_app (goodIn_of _ (by decide +kernel)) ggX9_apart_X9_bytes
theorem dX9_apart_0 : decode cX9_apart 0 = .ok (.aload_n 0, 1) := by decide +kernel
theorem dX9_apart_1 : decode cX9_apart 1 = .ok (.getfield 13, 3) := by decide +kernel
theorem dX9_apart_4 : decode cX9_apart 4 = .ok (.iload_n 1, 1) := by decide +kernel
theorem dX9_apart_5 : decode cX9_apart 5 = .ok (.iaload, 1) := by decide +kernel
theorem dX9_apart_6 : decode cX9_apart 6 = .ok (.bipush 21, 2) := by decide +kernel
theorem dX9_apart_8 : decode cX9_apart 8 = .ok (.iushr, 1) := by decide +kernel
theorem dX9_apart_9 : decode cX9_apart 9 = .ok (.bipush 31, 2) := by decide +kernel
theorem dX9_apart_11 : decode cX9_apart 11 = .ok (.iand, 1) := by decide +kernel
theorem dX9_apart_12 : decode cX9_apart 12 = .ok (.istore_n 3, 1) := by decide +kernel
theorem dX9_apart_13 : decode cX9_apart 13 = .ok (.iload_n 3, 1) := by decide +kernel
theorem dX9_apart_14 : decode cX9_apart 14 = .ok (.aload_n 0, 1) := by decide +kernel
theorem dX9_apart_15 : decode cX9_apart 15 = .ok (.getfield 13, 3) := by decide +kernel
theorem dX9_apart_18 : decode cX9_apart 18 = .ok (.iload_n 2, 1) := by decide +kernel
theorem dX9_apart_19 : decode cX9_apart 19 = .ok (.iaload, 1) := by decide +kernel
theorem dX9_apart_20 : decode cX9_apart 20 = .ok (.bipush 21, 2) := by decide +kernel
theorem dX9_apart_22 : decode cX9_apart 22 = .ok (.iushr, 1) := by decide +kernel
theorem dX9_apart_23 : decode cX9_apart 23 = .ok (.bipush 31, 2) := by decide +kernel
theorem dX9_apart_25 : decode cX9_apart 25 = .ok (.iand, 1) := by decide +kernel
theorem dX9_apart_26 : decode cX9_apart 26 = .ok (.if_icmp .eq 5, 3) := by decide +kernel
theorem dX9_apart_29 : decode cX9_apart 29 = .ok (.iconst 0, 1) := by decide +kernel
theorem dX9_apart_30 : decode cX9_apart 30 = .ok (.ireturn, 1) := by decide +kernel
theorem dX9_apart_31 : decode cX9_apart 31 = .ok (.iload_n 1, 1) := by decide +kernel
theorem dX9_apart_32 : decode cX9_apart 32 = .ok (.istore 4, 2) := by decide +kernel
theorem dX9_apart_34 : decode cX9_apart 34 = .ok (.iload 4, 2) := by decide +kernel
theorem dX9_apart_36 : decode cX9_apart 36 = .ok (.iload_n 2, 1) := by decide +kernel
theorem dX9_apart_37 : decode cX9_apart 37 = .ok (.if_icmp .ge 28, 3) := by decide +kernel
theorem dX9_apart_40 : decode cX9_apart 40 = .ok (.aload_n 0, 1) := by decide +kernel
theorem dX9_apart_41 : decode cX9_apart 41 = .ok (.getfield 29, 3) := by decide +kernel
theorem dX9_apart_44 : decode cX9_apart 44 = .ok (.iload 4, 2) := by decide +kernel
theorem dX9_apart_46 : decode cX9_apart 46 = .ok (.laload, 1) := by decide +kernel
theorem dX9_apart_47 : decode cX9_apart 47 = .ok (.iload_n 3, 1) := by decide +kernel
theorem dX9_apart_48 : decode cX9_apart 48 = .ok (.invokestatic 65, 3) := by decide +kernel
theorem dX9_apart_51 : decode cX9_apart 51 = .ok (.land, 1) := by decide +kernel
theorem dX9_apart_52 : decode cX9_apart 52 = .ok (.lconst 0, 1) := by decide +kernel
theorem dX9_apart_53 : decode cX9_apart 53 = .ok (.lcmp, 1) := by decide +kernel
theorem dX9_apart_54 : decode cX9_apart 54 = .ok (.ifCond .eq 5, 3) := by decide +kernel
theorem dX9_apart_57 : decode cX9_apart 57 = .ok (.iconst 0, 1) := by decide +kernel
theorem dX9_apart_58 : decode cX9_apart 58 = .ok (.ireturn, 1) := by decide +kernel
theorem dX9_apart_59 : decode cX9_apart 59 = .ok (.iinc 4 1, 3) := by decide +kernel
theorem dX9_apart_62 : decode cX9_apart 62 = .ok (.goto (-28), 3) := by decide +kernel
theorem dX9_apart_65 : decode cX9_apart 65 = .ok (.aload_n 0, 1) := by decide +kernel
theorem dX9_apart_66 : decode cX9_apart 66 = .ok (.iload_n 1, 1) := by decide +kernel
theorem dX9_apart_67 : decode cX9_apart 67 = .ok (.invokevirtual 155, 3) := by decide +kernel
theorem dX9_apart_70 : decode cX9_apart 70 = .ok (.aload_n 0, 1) := by decide +kernel
theorem dX9_apart_71 : decode cX9_apart 71 = .ok (.iload_n 1, 1) := by decide +kernel
theorem dX9_apart_72 : decode cX9_apart 72 = .ok (.invokevirtual 158, 3) := by decide +kernel
theorem dX9_apart_75 : decode cX9_apart 75 = .ok (.iadd, 1) := by decide +kernel
theorem dX9_apart_76 : decode cX9_apart 76 = .ok (.aload_n 0, 1) := by decide +kernel
theorem dX9_apart_77 : decode cX9_apart 77 = .ok (.iload_n 2, 1) := by decide +kernel
theorem dX9_apart_78 : decode cX9_apart 78 = .ok (.invokevirtual 155, 3) := by decide +kernel
theorem dX9_apart_81 : decode cX9_apart 81 = .ok (.if_icmp .le 22, 3) := by decide +kernel
theorem dX9_apart_84 : decode cX9_apart 84 = .ok (.aload_n 0, 1) := by decide +kernel
theorem dX9_apart_85 : decode cX9_apart 85 = .ok (.iload_n 2, 1) := by decide +kernel
theorem dX9_apart_86 : decode cX9_apart 86 = .ok (.invokevirtual 155, 3) := by decide +kernel
theorem dX9_apart_89 : decode cX9_apart 89 = .ok (.aload_n 0, 1) := by decide +kernel
theorem dX9_apart_90 : decode cX9_apart 90 = .ok (.iload_n 2, 1) := by decide +kernel
theorem dX9_apart_91 : decode cX9_apart 91 = .ok (.invokevirtual 158, 3) := by decide +kernel
theorem dX9_apart_94 : decode cX9_apart 94 = .ok (.iadd, 1) := by decide +kernel
theorem dX9_apart_95 : decode cX9_apart 95 = .ok (.aload_n 0, 1) := by decide +kernel
theorem dX9_apart_96 : decode cX9_apart 96 = .ok (.iload_n 1, 1) := by decide +kernel
theorem dX9_apart_97 : decode cX9_apart 97 = .ok (.invokevirtual 155, 3) := by decide +kernel
theorem dX9_apart_100 : decode cX9_apart 100 = .ok (.if_icmp .gt 7, 3) := by decide +kernel
theorem dX9_apart_103 : decode cX9_apart 103 = .ok (.iconst 1, 1) := by decide +kernel
theorem dX9_apart_104 : decode cX9_apart 104 = .ok (.goto 4, 3) := by decide +kernel
theorem dX9_apart_107 : decode cX9_apart 107 = .ok (.iconst 0, 1) := by decide +kernel
theorem dX9_apart_108 : decode cX9_apart 108 = .ok (.ireturn, 1) := by decide +kernel
set_option maxRecDepth 20000 in
theorem ggX9_after_X9_apart : GoodIn wsX9_after wsX9_apart := goodIn_r _ [11, 12, 2, 13, 14, 10, 15, 16, 17, 18, 19, 20, 21, 22, 23, 24, 25, 26, 27, 28, 29, 30, 31, 32, 33, 34, 35, 36, 37, 38, 39, 40, 41, 42, 43, 44, 45, 46, 47, 48, 49, 50, 51, 52, 53] (by decide +kernel) (by decide +kernel)
set_option maxRecDepth 20000 in
theorem gX9_after_X9_apart : GoodIn wsX9_after (wsV RX9 161 RX9 yX9_apart wsX9_apart) := goodIn_app (goodIn_of _ (by decide +kernel)) ggX9_after_X9_apart
theorem dX9_after_0 : decode cX9_after 0 = .ok (.iconst (-1), 1) := by decide +kernel
theorem dX9_after_1 : decode cX9_after 1 = .ok (.istore_n 3, 1) := by decide +kernel
theorem dX9_after_2 : decode cX9_after 2 = .ok (.aload_n 0, 1) := by decide +kernel
theorem dX9_after_3 : decode cX9_after 3 = .ok (.getfield 25, 3) := by decide +kernel
theorem dX9_after_6 : decode cX9_after 6 = .ok (.iload_n 1, 1) := by decide +kernel
theorem dX9_after_7 : decode cX9_after 7 = .ok (.laload, 1) := by decide +kernel
theorem dX9_after_8 : decode cX9_after 8 = .ok (.aload_n 0, 1) := by decide +kernel
theorem dX9_after_9 : decode cX9_after 9 = .ok (.getfield 29, 3) := by decide +kernel
theorem dX9_after_12 : decode cX9_after 12 = .ok (.iload_n 2, 1) := by decide +kernel
theorem dX9_after_13 : decode cX9_after 13 = .ok (.laload, 1) := by decide +kernel
theorem dX9_after_14 : decode cX9_after 14 = .ok (.land, 1) := by decide +kernel
theorem dX9_after_15 : decode cX9_after 15 = .ok (.lconst 0, 1) := by decide +kernel
theorem dX9_after_16 : decode cX9_after 16 = .ok (.lcmp, 1) := by decide +kernel
theorem dX9_after_17 : decode cX9_after 17 = .ok (.ifCond .ne 19, 3) := by decide +kernel
theorem dX9_after_20 : decode cX9_after 20 = .ok (.aload_n 0, 1) := by decide +kernel
theorem dX9_after_21 : decode cX9_after 21 = .ok (.getfield 19, 3) := by decide +kernel
theorem dX9_after_24 : decode cX9_after 24 = .ok (.iload_n 1, 1) := by decide +kernel
theorem dX9_after_25 : decode cX9_after 25 = .ok (.iaload, 1) := by decide +kernel
theorem dX9_after_26 : decode cX9_after 26 = .ok (.aload_n 0, 1) := by decide +kernel
theorem dX9_after_27 : decode cX9_after 27 = .ok (.getfield 22, 3) := by decide +kernel
theorem dX9_after_30 : decode cX9_after 30 = .ok (.iload_n 2, 1) := by decide +kernel
theorem dX9_after_31 : decode cX9_after 31 = .ok (.iaload, 1) := by decide +kernel
theorem dX9_after_32 : decode cX9_after 32 = .ok (.iand, 1) := by decide +kernel
theorem dX9_after_33 : decode cX9_after 33 = .ok (.ifCond .eq 7, 3) := by decide +kernel
theorem dX9_after_36 : decode cX9_after 36 = .ok (.iconst 1, 1) := by decide +kernel
theorem dX9_after_37 : decode cX9_after 37 = .ok (.goto 4, 3) := by decide +kernel
theorem dX9_after_40 : decode cX9_after 40 = .ok (.iconst 0, 1) := by decide +kernel
theorem dX9_after_41 : decode cX9_after 41 = .ok (.istore 4, 2) := by decide +kernel
theorem dX9_after_43 : decode cX9_after 43 = .ok (.aload_n 0, 1) := by decide +kernel
theorem dX9_after_44 : decode cX9_after 44 = .ok (.getfield 29, 3) := by decide +kernel
theorem dX9_after_47 : decode cX9_after 47 = .ok (.iload_n 1, 1) := by decide +kernel
theorem dX9_after_48 : decode cX9_after 48 = .ok (.laload, 1) := by decide +kernel
theorem dX9_after_49 : decode cX9_after 49 = .ok (.aload_n 0, 1) := by decide +kernel
theorem dX9_after_50 : decode cX9_after 50 = .ok (.getfield 25, 3) := by decide +kernel
theorem dX9_after_53 : decode cX9_after 53 = .ok (.iload_n 2, 1) := by decide +kernel
theorem dX9_after_54 : decode cX9_after 54 = .ok (.laload, 1) := by decide +kernel
theorem dX9_after_55 : decode cX9_after 55 = .ok (.land, 1) := by decide +kernel
theorem dX9_after_56 : decode cX9_after 56 = .ok (.lconst 0, 1) := by decide +kernel
theorem dX9_after_57 : decode cX9_after 57 = .ok (.lcmp, 1) := by decide +kernel
theorem dX9_after_58 : decode cX9_after 58 = .ok (.ifCond .ne 19, 3) := by decide +kernel
theorem dX9_after_61 : decode cX9_after 61 = .ok (.aload_n 0, 1) := by decide +kernel
theorem dX9_after_62 : decode cX9_after 62 = .ok (.getfield 22, 3) := by decide +kernel
theorem dX9_after_65 : decode cX9_after 65 = .ok (.iload_n 1, 1) := by decide +kernel
theorem dX9_after_66 : decode cX9_after 66 = .ok (.iaload, 1) := by decide +kernel
theorem dX9_after_67 : decode cX9_after 67 = .ok (.aload_n 0, 1) := by decide +kernel
theorem dX9_after_68 : decode cX9_after 68 = .ok (.getfield 19, 3) := by decide +kernel
theorem dX9_after_71 : decode cX9_after 71 = .ok (.iload_n 2, 1) := by decide +kernel
theorem dX9_after_72 : decode cX9_after 72 = .ok (.iaload, 1) := by decide +kernel
theorem dX9_after_73 : decode cX9_after 73 = .ok (.iand, 1) := by decide +kernel
theorem dX9_after_74 : decode cX9_after 74 = .ok (.ifCond .eq 7, 3) := by decide +kernel
theorem dX9_after_77 : decode cX9_after 77 = .ok (.iconst 1, 1) := by decide +kernel
theorem dX9_after_78 : decode cX9_after 78 = .ok (.goto 4, 3) := by decide +kernel
theorem dX9_after_81 : decode cX9_after 81 = .ok (.iconst 0, 1) := by decide +kernel
theorem dX9_after_82 : decode cX9_after 82 = .ok (.istore 5, 2) := by decide +kernel
theorem dX9_after_84 : decode cX9_after 84 = .ok (.aload_n 0, 1) := by decide +kernel
theorem dX9_after_85 : decode cX9_after 85 = .ok (.getfield 29, 3) := by decide +kernel
theorem dX9_after_88 : decode cX9_after 88 = .ok (.iload_n 1, 1) := by decide +kernel
theorem dX9_after_89 : decode cX9_after 89 = .ok (.laload, 1) := by decide +kernel
theorem dX9_after_90 : decode cX9_after 90 = .ok (.aload_n 0, 1) := by decide +kernel
theorem dX9_after_91 : decode cX9_after 91 = .ok (.getfield 29, 3) := by decide +kernel
theorem dX9_after_94 : decode cX9_after 94 = .ok (.iload_n 2, 1) := by decide +kernel
theorem dX9_after_95 : decode cX9_after 95 = .ok (.laload, 1) := by decide +kernel
theorem dX9_after_96 : decode cX9_after 96 = .ok (.land, 1) := by decide +kernel
theorem dX9_after_97 : decode cX9_after 97 = .ok (.lconst 0, 1) := by decide +kernel
theorem dX9_after_98 : decode cX9_after 98 = .ok (.lcmp, 1) := by decide +kernel
theorem dX9_after_99 : decode cX9_after 99 = .ok (.ifCond .ne 19, 3) := by decide +kernel
theorem dX9_after_102 : decode cX9_after 102 = .ok (.aload_n 0, 1) := by decide +kernel
theorem dX9_after_103 : decode cX9_after 103 = .ok (.getfield 22, 3) := by decide +kernel
theorem dX9_after_106 : decode cX9_after 106 = .ok (.iload_n 1, 1) := by decide +kernel
theorem dX9_after_107 : decode cX9_after 107 = .ok (.iaload, 1) := by decide +kernel
theorem dX9_after_108 : decode cX9_after 108 = .ok (.aload_n 0, 1) := by decide +kernel
theorem dX9_after_109 : decode cX9_after 109 = .ok (.getfield 22, 3) := by decide +kernel
theorem dX9_after_112 : decode cX9_after 112 = .ok (.iload_n 2, 1) := by decide +kernel
theorem dX9_after_113 : decode cX9_after 113 = .ok (.iaload, 1) := by decide +kernel
theorem dX9_after_114 : decode cX9_after 114 = .ok (.iand, 1) := by decide +kernel
theorem dX9_after_115 : decode cX9_after 115 = .ok (.ifCond .eq 7, 3) := by decide +kernel
theorem dX9_after_118 : decode cX9_after 118 = .ok (.iconst 1, 1) := by decide +kernel
theorem dX9_after_119 : decode cX9_after 119 = .ok (.goto 4, 3) := by decide +kernel
theorem dX9_after_122 : decode cX9_after 122 = .ok (.iconst 0, 1) := by decide +kernel
theorem dX9_after_123 : decode cX9_after 123 = .ok (.istore 6, 2) := by decide +kernel
theorem dX9_after_125 : decode cX9_after 125 = .ok (.aload_n 0, 1) := by decide +kernel
theorem dX9_after_126 : decode cX9_after 126 = .ok (.getfield 7, 3) := by decide +kernel
theorem dX9_after_129 : decode cX9_after 129 = .ok (.aload_n 0, 1) := by decide +kernel
theorem dX9_after_130 : decode cX9_after 130 = .ok (.getfield 16, 3) := by decide +kernel
theorem dX9_after_133 : decode cX9_after 133 = .ok (.iload_n 2, 1) := by decide +kernel
theorem dX9_after_134 : decode cX9_after 134 = .ok (.iaload, 1) := by decide +kernel
theorem dX9_after_135 : decode cX9_after 135 = .ok (.iaload, 1) := by decide +kernel
theorem dX9_after_136 : decode cX9_after 136 = .ok (.istore 7, 2) := by decide +kernel
theorem dX9_after_138 : decode cX9_after 138 = .ok (.aload_n 0, 1) := by decide +kernel
theorem dX9_after_139 : decode cX9_after 139 = .ok (.getfield 7, 3) := by decide +kernel
theorem dX9_after_142 : decode cX9_after 142 = .ok (.aload_n 0, 1) := by decide +kernel
theorem dX9_after_143 : decode cX9_after 143 = .ok (.getfield 16, 3) := by decide +kernel
theorem dX9_after_146 : decode cX9_after 146 = .ok (.iload_n 1, 1) := by decide +kernel
theorem dX9_after_147 : decode cX9_after 147 = .ok (.iaload, 1) := by decide +kernel
theorem dX9_after_148 : decode cX9_after 148 = .ok (.iaload, 1) := by decide +kernel
theorem dX9_after_149 : decode cX9_after 149 = .ok (.istore 8, 2) := by decide +kernel
theorem dX9_after_151 : decode cX9_after 151 = .ok (.aload_n 0, 1) := by decide +kernel
theorem dX9_after_152 : decode cX9_after 152 = .ok (.getfield 16, 3) := by decide +kernel
theorem dX9_after_155 : decode cX9_after 155 = .ok (.iload_n 2, 1) := by decide +kernel
theorem dX9_after_156 : decode cX9_after 156 = .ok (.iaload, 1) := by decide +kernel
theorem dX9_after_157 : decode cX9_after 157 = .ok (.iconst 2, 1) := by decide +kernel
theorem dX9_after_158 : decode cX9_after 158 = .ok (.if_icmp .ne 23, 3) := by decide +kernel
theorem dX9_after_161 : decode cX9_after 161 = .ok (.aload_n 0, 1) := by decide +kernel
theorem dX9_after_162 : decode cX9_after 162 = .ok (.getfield 16, 3) := by decide +kernel
theorem dX9_after_165 : decode cX9_after 165 = .ok (.iload_n 1, 1) := by decide +kernel
theorem dX9_after_166 : decode cX9_after 166 = .ok (.iaload, 1) := by decide +kernel
theorem dX9_after_167 : decode cX9_after 167 = .ok (.iconst 2, 1) := by decide +kernel
theorem dX9_after_168 : decode cX9_after 168 = .ok (.if_icmp .eq 33, 3) := by decide +kernel
theorem dX9_after_171 : decode cX9_after 171 = .ok (.aload_n 0, 1) := by decide +kernel
theorem dX9_after_172 : decode cX9_after 172 = .ok (.getfield 16, 3) := by decide +kernel
theorem dX9_after_175 : decode cX9_after 175 = .ok (.iload_n 1, 1) := by decide +kernel
theorem dX9_after_176 : decode cX9_after 176 = .ok (.iaload, 1) := by decide +kernel
theorem dX9_after_177 : decode cX9_after 177 = .ok (.iconst 1, 1) := by decide +kernel
theorem dX9_after_178 : decode cX9_after 178 = .ok (.if_icmp .eq 23, 3) := by decide +kernel
theorem dX9_after_181 : decode cX9_after 181 = .ok (.aload_n 0, 1) := by decide +kernel
theorem dX9_after_182 : decode cX9_after 182 = .ok (.getfield 16, 3) := by decide +kernel
theorem dX9_after_185 : decode cX9_after 185 = .ok (.iload_n 1, 1) := by decide +kernel
theorem dX9_after_186 : decode cX9_after 186 = .ok (.iaload, 1) := by decide +kernel
theorem dX9_after_187 : decode cX9_after 187 = .ok (.iconst 2, 1) := by decide +kernel
theorem dX9_after_188 : decode cX9_after 188 = .ok (.if_icmp .ne 17, 3) := by decide +kernel
theorem dX9_after_191 : decode cX9_after 191 = .ok (.aload_n 0, 1) := by decide +kernel
theorem dX9_after_192 : decode cX9_after 192 = .ok (.getfield 16, 3) := by decide +kernel
theorem dX9_after_195 : decode cX9_after 195 = .ok (.iload_n 2, 1) := by decide +kernel
theorem dX9_after_196 : decode cX9_after 196 = .ok (.iaload, 1) := by decide +kernel
theorem dX9_after_197 : decode cX9_after 197 = .ok (.iconst 1, 1) := by decide +kernel
theorem dX9_after_198 : decode cX9_after 198 = .ok (.if_icmp .ne 7, 3) := by decide +kernel
theorem dX9_after_201 : decode cX9_after 201 = .ok (.iconst 1, 1) := by decide +kernel
theorem dX9_after_202 : decode cX9_after 202 = .ok (.goto 4, 3) := by decide +kernel
theorem dX9_after_205 : decode cX9_after 205 = .ok (.iconst 0, 1) := by decide +kernel
theorem dX9_after_206 : decode cX9_after 206 = .ok (.istore 9, 2) := by decide +kernel
theorem dX9_after_208 : decode cX9_after 208 = .ok (.iload 5, 2) := by decide +kernel
theorem dX9_after_210 : decode cX9_after 210 = .ok (.ifCond .ne 39, 3) := by decide +kernel
theorem dX9_after_213 : decode cX9_after 213 = .ok (.aload_n 0, 1) := by decide +kernel
theorem dX9_after_214 : decode cX9_after 214 = .ok (.getfield 16, 3) := by decide +kernel
theorem dX9_after_217 : decode cX9_after 217 = .ok (.iload_n 2, 1) := by decide +kernel
theorem dX9_after_218 : decode cX9_after 218 = .ok (.iaload, 1) := by decide +kernel
theorem dX9_after_219 : decode cX9_after 219 = .ok (.bipush 8, 2) := by decide +kernel
theorem dX9_after_221 : decode cX9_after 221 = .ok (.if_icmp .eq 28, 3) := by decide +kernel
theorem dX9_after_224 : decode cX9_after 224 = .ok (.aload_n 0, 1) := by decide +kernel
theorem dX9_after_225 : decode cX9_after 225 = .ok (.getfield 16, 3) := by decide +kernel
theorem dX9_after_228 : decode cX9_after 228 = .ok (.iload_n 1, 1) := by decide +kernel
theorem dX9_after_229 : decode cX9_after 229 = .ok (.iaload, 1) := by decide +kernel
theorem dX9_after_230 : decode cX9_after 230 = .ok (.bipush 8, 2) := by decide +kernel
theorem dX9_after_232 : decode cX9_after 232 = .ok (.if_icmp .eq 17, 3) := by decide +kernel
theorem dX9_after_235 : decode cX9_after 235 = .ok (.iload 9, 2) := by decide +kernel
theorem dX9_after_237 : decode cX9_after 237 = .ok (.ifCond .eq 14, 3) := by decide +kernel
theorem dX9_after_240 : decode cX9_after 240 = .ok (.aload_n 0, 1) := by decide +kernel
theorem dX9_after_241 : decode cX9_after 241 = .ok (.iload_n 2, 1) := by decide +kernel
theorem dX9_after_242 : decode cX9_after 242 = .ok (.iload_n 1, 1) := by decide +kernel
theorem dX9_after_243 : decode cX9_after 243 = .ok (.invokevirtual 161, 3) := by decide +kernel
theorem dX9_after_246 : decode cX9_after 246 = .ok (.ifCond .ne 5, 3) := by decide +kernel
theorem dX9_after_249 : decode cX9_after 249 = .ok (.iconst 1, 1) := by decide +kernel
theorem dX9_after_250 : decode cX9_after 250 = .ok (.istore_n 3, 1) := by decide +kernel
theorem dX9_after_251 : decode cX9_after 251 = .ok (.iload 7, 2) := by decide +kernel
theorem dX9_after_253 : decode cX9_after 253 = .ok (.iload 8, 2) := by decide +kernel
theorem dX9_after_255 : decode cX9_after 255 = .ok (.isub, 1) := by decide +kernel
theorem dX9_after_256 : decode cX9_after 256 = .ok (.iconst 1, 1) := by decide +kernel
theorem dX9_after_257 : decode cX9_after 257 = .ok (.iadd, 1) := by decide +kernel
theorem dX9_after_258 : decode cX9_after 258 = .ok (.iconst 1, 1) := by decide +kernel
theorem dX9_after_259 : decode cX9_after 259 = .ok (.if_icmp .le 13, 3) := by decide +kernel
theorem dX9_after_262 : decode cX9_after 262 = .ok (.iload 7, 2) := by decide +kernel
theorem dX9_after_264 : decode cX9_after 264 = .ok (.iload 8, 2) := by decide +kernel
theorem dX9_after_266 : decode cX9_after 266 = .ok (.isub, 1) := by decide +kernel
theorem dX9_after_267 : decode cX9_after 267 = .ok (.iconst 1, 1) := by decide +kernel
theorem dX9_after_268 : decode cX9_after 268 = .ok (.iadd, 1) := by decide +kernel
theorem dX9_after_269 : decode cX9_after 269 = .ok (.goto 4, 3) := by decide +kernel
theorem dX9_after_272 : decode cX9_after 272 = .ok (.iconst 1, 1) := by decide +kernel
theorem dX9_after_273 : decode cX9_after 273 = .ok (.istore 10, 2) := by decide +kernel
theorem dX9_after_275 : decode cX9_after 275 = .ok (.iload 6, 2) := by decide +kernel
theorem dX9_after_277 : decode cX9_after 277 = .ok (.ifCond .eq 12, 3) := by decide +kernel
theorem dX9_after_280 : decode cX9_after 280 = .ok (.iload 10, 2) := by decide +kernel
theorem dX9_after_282 : decode cX9_after 282 = .ok (.iload_n 3, 1) := by decide +kernel
theorem dX9_after_283 : decode cX9_after 283 = .ok (.if_icmp .le 6, 3) := by decide +kernel
theorem dX9_after_286 : decode cX9_after 286 = .ok (.iload 10, 2) := by decide +kernel
theorem dX9_after_288 : decode cX9_after 288 = .ok (.istore_n 3, 1) := by decide +kernel
theorem dX9_after_289 : decode cX9_after 289 = .ok (.iload 4, 2) := by decide +kernel
theorem dX9_after_291 : decode cX9_after 291 = .ok (.ifCond .eq 14, 3) := by decide +kernel
theorem dX9_after_294 : decode cX9_after 294 = .ok (.iload 7, 2) := by decide +kernel
theorem dX9_after_296 : decode cX9_after 296 = .ok (.iload_n 3, 1) := by decide +kernel
theorem dX9_after_297 : decode cX9_after 297 = .ok (.if_icmp .le 8, 3) := by decide +kernel
theorem dX9_after_300 : decode cX9_after 300 = .ok (.iload 7, 2) := by decide +kernel
theorem dX9_after_302 : decode cX9_after 302 = .ok (.goto 4, 3) := by decide +kernel
theorem dX9_after_305 : decode cX9_after 305 = .ok (.iload_n 3, 1) := by decide +kernel
theorem dX9_after_306 : decode cX9_after 306 = .ok (.ireturn, 1) := by decide +kernel
set_option maxRecDepth 20000 in
theorem ggX9_findHeights_X9_after : GoodIn wsX9_findHeights wsX9_after := goodIn_r _ [9, 10, 11, 12, 13, 3, 4, 14, 15, 16, 8, 17, 18, 19, 20, 21, 22, 23, 24, 25, 26, 27, 28, 29, 30, 31, 32, 33, 34, 35, 36, 37, 38, 39, 40, 41, 42, 43, 44, 45, 46, 47, 48, 49, 50, 51, 52, 53, 54, 55, 56, 57, 58, 59] (by decide +kernel) (by decide +kernel)
set_option maxRecDepth 20000 in
theorem gX9_findHeights_X9_after : GoodIn wsX9_findHeights (wsV RX9 165 RX9 yX9_after wsX9_after) := goodIn_app (goodIn_of _ (by decide +kernel)) ggX9_findHeights_X9_after
theorem dX9_findHeights_0 : decode cX9_findHeights 0 = .ok (.aload_n 0, 1) := by decide +kernel
theorem dX9_findHeights_1 : decode cX9_findHeights 1 = .ok (.getfield 148, 3) := by decide +kernel
theorem dX9_findHeights_4 : decode cX9_findHeights 4 = .ok (.iconst 1, 1) := by decide +kernel
theorem dX9_findHeights_5 : decode cX9_findHeights 5 = .ok (.isub, 1) := by decide +kernel
theorem dX9_findHeights_6 : decode cX9_findHeights 6 = .ok (.istore_n 1, 1) := by decide +kernel
theorem dX9_findHeights_7 : decode cX9_findHeights 7 = .ok (.iload_n 1, 1) := by decide +kernel
theorem dX9_findHeights_8 : decode cX9_findHeights 8 = .ok (.ifCond .lt 92, 3) := by decide +kernel
theorem dX9_findHeights_11 : decode cX9_findHeights 11 = .ok (.iconst (-1), 1) := by decide +kernel
theorem dX9_findHeights_12 : decode cX9_findHeights 12 = .ok (.istore_n 2, 1) := by decide +kernel
theorem dX9_findHeights_13 : decode cX9_findHeights 13 = .ok (.iload_n 1, 1) := by decide +kernel
theorem dX9_findHeights_14 : decode cX9_findHeights 14 = .ok (.iconst 1, 1) := by decide +kernel
theorem dX9_findHeights_15 : decode cX9_findHeights 15 = .ok (.iadd, 1) := by decide +kernel
theorem dX9_findHeights_16 : decode cX9_findHeights 16 = .ok (.istore_n 3, 1) := by decide +kernel
theorem dX9_findHeights_17 : decode cX9_findHeights 17 = .ok (.iload_n 3, 1) := by decide +kernel
theorem dX9_findHeights_18 : decode cX9_findHeights 18 = .ok (.aload_n 0, 1) := by decide +kernel
theorem dX9_findHeights_19 : decode cX9_findHeights 19 = .ok (.getfield 148, 3) := by decide +kernel
theorem dX9_findHeights_22 : decode cX9_findHeights 22 = .ok (.if_icmp .ge 46, 3) := by decide +kernel
theorem dX9_findHeights_25 : decode cX9_findHeights 25 = .ok (.aload_n 0, 1) := by decide +kernel
theorem dX9_findHeights_26 : decode cX9_findHeights 26 = .ok (.iload_n 3, 1) := by decide +kernel
theorem dX9_findHeights_27 : decode cX9_findHeights 27 = .ok (.iload_n 1, 1) := by decide +kernel
theorem dX9_findHeights_28 : decode cX9_findHeights 28 = .ok (.invokevirtual 165, 3) := by decide +kernel
theorem dX9_findHeights_31 : decode cX9_findHeights 31 = .ok (.istore 4, 2) := by decide +kernel
theorem dX9_findHeights_33 : decode cX9_findHeights 33 = .ok (.iload 4, 2) := by decide +kernel
theorem dX9_findHeights_35 : decode cX9_findHeights 35 = .ok (.iconst (-1), 1) := by decide +kernel
theorem dX9_findHeights_36 : decode cX9_findHeights 36 = .ok (.if_icmp .eq 26, 3) := by decide +kernel
theorem dX9_findHeights_39 : decode cX9_findHeights 39 = .ok (.aload_n 0, 1) := by decide +kernel
theorem dX9_findHeights_40 : decode cX9_findHeights 40 = .ok (.getfield 42, 3) := by decide +kernel
theorem dX9_findHeights_43 : decode cX9_findHeights 43 = .ok (.iload_n 3, 1) := by decide +kernel
theorem dX9_findHeights_44 : decode cX9_findHeights 44 = .ok (.iaload, 1) := by decide +kernel
theorem dX9_findHeights_45 : decode cX9_findHeights 45 = .ok (.iload 4, 2) := by decide +kernel
theorem dX9_findHeights_47 : decode cX9_findHeights 47 = .ok (.iadd, 1) := by decide +kernel
theorem dX9_findHeights_48 : decode cX9_findHeights 48 = .ok (.iload_n 2, 1) := by decide +kernel
theorem dX9_findHeights_49 : decode cX9_findHeights 49 = .ok (.if_icmp .le 13, 3) := by decide +kernel
theorem dX9_findHeights_52 : decode cX9_findHeights 52 = .ok (.aload_n 0, 1) := by decide +kernel
theorem dX9_findHeights_53 : decode cX9_findHeights 53 = .ok (.getfield 42, 3) := by decide +kernel
theorem dX9_findHeights_56 : decode cX9_findHeights 56 = .ok (.iload_n 3, 1) := by decide +kernel
theorem dX9_findHeights_57 : decode cX9_findHeights 57 = .ok (.iaload, 1) := by decide +kernel
theorem dX9_findHeights_58 : decode cX9_findHeights 58 = .ok (.iload 4, 2) := by decide +kernel
theorem dX9_findHeights_60 : decode cX9_findHeights 60 = .ok (.iadd, 1) := by decide +kernel
theorem dX9_findHeights_61 : decode cX9_findHeights 61 = .ok (.istore_n 2, 1) := by decide +kernel
theorem dX9_findHeights_62 : decode cX9_findHeights 62 = .ok (.iinc 3 1, 3) := by decide +kernel
theorem dX9_findHeights_65 : decode cX9_findHeights 65 = .ok (.goto (-48), 3) := by decide +kernel
theorem dX9_findHeights_68 : decode cX9_findHeights 68 = .ok (.aload_n 0, 1) := by decide +kernel
theorem dX9_findHeights_69 : decode cX9_findHeights 69 = .ok (.getfield 42, 3) := by decide +kernel
theorem dX9_findHeights_72 : decode cX9_findHeights 72 = .ok (.iload_n 1, 1) := by decide +kernel
theorem dX9_findHeights_73 : decode cX9_findHeights 73 = .ok (.iload_n 2, 1) := by decide +kernel
theorem dX9_findHeights_74 : decode cX9_findHeights 74 = .ok (.iconst (-1), 1) := by decide +kernel
theorem dX9_findHeights_75 : decode cX9_findHeights 75 = .ok (.if_icmp .ne 17, 3) := by decide +kernel
theorem dX9_findHeights_78 : decode cX9_findHeights 78 = .ok (.aload_n 0, 1) := by decide +kernel
theorem dX9_findHeights_79 : decode cX9_findHeights 79 = .ok (.getfield 7, 3) := by decide +kernel
theorem dX9_findHeights_82 : decode cX9_findHeights 82 = .ok (.aload_n 0, 1) := by decide +kernel
theorem dX9_findHeights_83 : decode cX9_findHeights 83 = .ok (.getfield 16, 3) := by decide +kernel
theorem dX9_findHeights_86 : decode cX9_findHeights 86 = .ok (.iload_n 1, 1) := by decide +kernel
theorem dX9_findHeights_87 : decode cX9_findHeights 87 = .ok (.iaload, 1) := by decide +kernel
theorem dX9_findHeights_88 : decode cX9_findHeights 88 = .ok (.iaload, 1) := by decide +kernel
theorem dX9_findHeights_89 : decode cX9_findHeights 89 = .ok (.goto 4, 3) := by decide +kernel
theorem dX9_findHeights_92 : decode cX9_findHeights 92 = .ok (.iload_n 2, 1) := by decide +kernel
theorem dX9_findHeights_93 : decode cX9_findHeights 93 = .ok (.iastore, 1) := by decide +kernel
theorem dX9_findHeights_94 : decode cX9_findHeights 94 = .ok (.iinc 1 (-1), 3) := by decide +kernel
theorem dX9_findHeights_97 : decode cX9_findHeights 97 = .ok (.goto (-90), 3) := by decide +kernel
theorem dX9_findHeights_100 : decode cX9_findHeights 100 = .ok (.return_, 1) := by decide +kernel
set_option maxRecDepth 20000 in
theorem ggX9_canCome_X9_after : GoodIn wsX9_canCome wsX9_after := goodIn_r _ [6, 7, 8, 9, 10, 11, 12, 13, 14, 15, 5, 16, 17, 18, 19, 20, 21, 22, 23, 24, 25, 26, 27, 28, 29, 30, 31, 32, 33, 34, 35, 36, 37, 38, 39, 40, 41, 42, 43, 44, 45, 46, 47, 48, 49, 50, 51, 52, 53, 54, 55, 56, 57, 58] (by decide +kernel) (by decide +kernel)
set_option maxRecDepth 20000 in
theorem gX9_canCome_X9_after : GoodIn wsX9_canCome (wsV RX9 165 RX9 yX9_after wsX9_after) := goodIn_app (goodIn_of _ (by decide +kernel)) ggX9_canCome_X9_after
theorem dX9_canCome_0 : decode cX9_canCome 0 = .ok (.iconst 0, 1) := by decide +kernel
theorem dX9_canCome_1 : decode cX9_canCome 1 = .ok (.istore_n 3, 1) := by decide +kernel
theorem dX9_canCome_2 : decode cX9_canCome 2 = .ok (.iload_n 3, 1) := by decide +kernel
theorem dX9_canCome_3 : decode cX9_canCome 3 = .ok (.iload_n 1, 1) := by decide +kernel
theorem dX9_canCome_4 : decode cX9_canCome 4 = .ok (.if_icmp .ge 48, 3) := by decide +kernel
theorem dX9_canCome_7 : decode cX9_canCome 7 = .ok (.aload_n 0, 1) := by decide +kernel
theorem dX9_canCome_8 : decode cX9_canCome 8 = .ok (.iload_n 1, 1) := by decide +kernel
theorem dX9_canCome_9 : decode cX9_canCome 9 = .ok (.iload_n 3, 1) := by decide +kernel
theorem dX9_canCome_10 : decode cX9_canCome 10 = .ok (.invokevirtual 165, 3) := by decide +kernel
theorem dX9_canCome_13 : decode cX9_canCome 13 = .ok (.istore 4, 2) := by decide +kernel
theorem dX9_canCome_15 : decode cX9_canCome 15 = .ok (.iload 4, 2) := by decide +kernel
theorem dX9_canCome_17 : decode cX9_canCome 17 = .ok (.iconst (-1), 1) := by decide +kernel
theorem dX9_canCome_18 : decode cX9_canCome 18 = .ok (.if_icmp .eq 28, 3) := by decide +kernel
theorem dX9_canCome_21 : decode cX9_canCome 21 = .ok (.aload_n 0, 1) := by decide +kernel
theorem dX9_canCome_22 : decode cX9_canCome 22 = .ok (.getfield 48, 3) := by decide +kernel
theorem dX9_canCome_25 : decode cX9_canCome 25 = .ok (.iload_n 3, 1) := by decide +kernel
theorem dX9_canCome_26 : decode cX9_canCome 26 = .ok (.iaload, 1) := by decide +kernel
theorem dX9_canCome_27 : decode cX9_canCome 27 = .ok (.iconst (-1), 1) := by decide +kernel
theorem dX9_canCome_28 : decode cX9_canCome 28 = .ok (.if_icmp .eq 16, 3) := by decide +kernel
theorem dX9_canCome_31 : decode cX9_canCome 31 = .ok (.iload_n 2, 1) := by decide +kernel
theorem dX9_canCome_32 : decode cX9_canCome 32 = .ok (.aload_n 0, 1) := by decide +kernel
theorem dX9_canCome_33 : decode cX9_canCome 33 = .ok (.getfield 48, 3) := by decide +kernel
theorem dX9_canCome_36 : decode cX9_canCome 36 = .ok (.iload_n 3, 1) := by decide +kernel
theorem dX9_canCome_37 : decode cX9_canCome 37 = .ok (.iaload, 1) := by decide +kernel
theorem dX9_canCome_38 : decode cX9_canCome 38 = .ok (.isub, 1) := by decide +kernel
theorem dX9_canCome_39 : decode cX9_canCome 39 = .ok (.iload 4, 2) := by decide +kernel
theorem dX9_canCome_41 : decode cX9_canCome 41 = .ok (.if_icmp .ge 5, 3) := by decide +kernel
theorem dX9_canCome_44 : decode cX9_canCome 44 = .ok (.iconst 0, 1) := by decide +kernel
theorem dX9_canCome_45 : decode cX9_canCome 45 = .ok (.ireturn, 1) := by decide +kernel
theorem dX9_canCome_46 : decode cX9_canCome 46 = .ok (.iinc 3 1, 3) := by decide +kernel
theorem dX9_canCome_49 : decode cX9_canCome 49 = .ok (.goto (-47), 3) := by decide +kernel
theorem dX9_canCome_52 : decode cX9_canCome 52 = .ok (.iconst 1, 1) := by decide +kernel
theorem dX9_canCome_53 : decode cX9_canCome 53 = .ok (.ireturn, 1) := by decide +kernel
set_option maxRecDepth 20000 in
theorem ggX9_place_X9_findHeights : GoodIn wsX9_place wsX9_findHeights := goodIn_r _ [8, 9, 2, 10, 11, 12, 13, 14, 7, 15, 16, 17, 18, 19, 20, 21, 22, 23, 24, 25, 26, 27, 28, 29, 30, 31, 32, 33, 34, 35, 36, 37, 38, 39, 44, 45, 46, 47, 48, 49, 50, 51, 52, 53, 54, 55, 56, 57, 58, 59, 60, 61, 62, 63, 64, 65, 66, 67, 68, 69] (by decide +kernel) (by decide +kernel)
set_option maxRecDepth 20000 in
theorem gX9_place_X9_findHeights : GoodIn wsX9_place (wsV RX9 169 RX9 yX9_findHeights wsX9_findHeights) := goodIn_app (goodIn_of _ (by decide +kernel)) ggX9_place_X9_findHeights
set_option maxRecDepth 20000 in
theorem ggX9_place_X9_canCome : GoodIn wsX9_place wsX9_canCome := goodIn_r _ [43, 1, 12, 13, 14, 7, 15, 16, 17, 18, 19, 10, 11, 20, 21, 22, 23, 24, 25, 26, 27, 28, 29, 30, 31, 32, 33, 34, 35, 36, 37, 38, 39, 44, 45, 46, 47, 48, 49, 50, 51, 52, 53, 54, 55, 56, 57, 58, 59, 60, 61, 62, 63, 64, 65, 66, 67, 68, 69] (by decide +kernel) (by decide +kernel)
set_option maxRecDepth 20000 in
theorem gX9_place_X9_canCome : GoodIn wsX9_place (wsV RX9 172 RX9 yX9_canCome wsX9_canCome) := goodIn_app (goodIn_of _ (by decide +kernel)) ggX9_place_X9_canCome
theorem dX9_place_0 : decode cX9_place 0 = .ok (.aload_n 0, 1) := by decide +kernel
theorem dX9_place_1 : decode cX9_place 1 = .ok (.invokevirtual 169, 3) := by decide +kernel
theorem dX9_place_4 : decode cX9_place 4 = .ok (.iconst 0, 1) := by decide +kernel
theorem dX9_place_5 : decode cX9_place 5 = .ok (.istore_n 2, 1) := by decide +kernel
theorem dX9_place_6 : decode cX9_place 6 = .ok (.iload_n 2, 1) := by decide +kernel
theorem dX9_place_7 : decode cX9_place 7 = .ok (.iload_n 1, 1) := by decide +kernel
theorem dX9_place_8 : decode cX9_place 8 = .ok (.if_icmp .ge 16, 3) := by decide +kernel
theorem dX9_place_11 : decode cX9_place 11 = .ok (.aload_n 0, 1) := by decide +kernel
theorem dX9_place_12 : decode cX9_place 12 = .ok (.getfield 48, 3) := by decide +kernel
theorem dX9_place_15 : decode cX9_place 15 = .ok (.iload_n 2, 1) := by decide +kernel
theorem dX9_place_16 : decode cX9_place 16 = .ok (.iconst (-1), 1) := by decide +kernel
theorem dX9_place_17 : decode cX9_place 17 = .ok (.iastore, 1) := by decide +kernel
theorem dX9_place_18 : decode cX9_place 18 = .ok (.iinc 2 1, 3) := by decide +kernel
theorem dX9_place_21 : decode cX9_place 21 = .ok (.goto (-15), 3) := by decide +kernel
theorem dX9_place_24 : decode cX9_place 24 = .ok (.iconst 0, 1) := by decide +kernel
theorem dX9_place_25 : decode cX9_place 25 = .ok (.istore_n 2, 1) := by decide +kernel
theorem dX9_place_26 : decode cX9_place 26 = .ok (.iconst 0, 1) := by decide +kernel
theorem dX9_place_27 : decode cX9_place 27 = .ok (.istore_n 3, 1) := by decide +kernel
theorem dX9_place_28 : decode cX9_place 28 = .ok (.iload_n 2, 1) := by decide +kernel
theorem dX9_place_29 : decode cX9_place 29 = .ok (.iload_n 1, 1) := by decide +kernel
theorem dX9_place_30 : decode cX9_place 30 = .ok (.if_icmp .ge 103, 3) := by decide +kernel
theorem dX9_place_33 : decode cX9_place 33 = .ok (.iconst (-1), 1) := by decide +kernel
theorem dX9_place_34 : decode cX9_place 34 = .ok (.istore 4, 2) := by decide +kernel
theorem dX9_place_36 : decode cX9_place 36 = .ok (.iconst 0, 1) := by decide +kernel
theorem dX9_place_37 : decode cX9_place 37 = .ok (.istore 5, 2) := by decide +kernel
theorem dX9_place_39 : decode cX9_place 39 = .ok (.iload 5, 2) := by decide +kernel
theorem dX9_place_41 : decode cX9_place 41 = .ok (.iload_n 1, 1) := by decide +kernel
theorem dX9_place_42 : decode cX9_place 42 = .ok (.if_icmp .ge 57, 3) := by decide +kernel
theorem dX9_place_45 : decode cX9_place 45 = .ok (.aload_n 0, 1) := by decide +kernel
theorem dX9_place_46 : decode cX9_place 46 = .ok (.getfield 48, 3) := by decide +kernel
theorem dX9_place_49 : decode cX9_place 49 = .ok (.iload 5, 2) := by decide +kernel
theorem dX9_place_51 : decode cX9_place 51 = .ok (.iaload, 1) := by decide +kernel
theorem dX9_place_52 : decode cX9_place 52 = .ok (.iconst (-1), 1) := by decide +kernel
theorem dX9_place_53 : decode cX9_place 53 = .ok (.if_icmp .ne 40, 3) := by decide +kernel
theorem dX9_place_56 : decode cX9_place 56 = .ok (.iload 4, 2) := by decide +kernel
theorem dX9_place_58 : decode cX9_place 58 = .ok (.iconst (-1), 1) := by decide +kernel
theorem dX9_place_59 : decode cX9_place 59 = .ok (.if_icmp .eq 20, 3) := by decide +kernel
theorem dX9_place_62 : decode cX9_place 62 = .ok (.aload_n 0, 1) := by decide +kernel
theorem dX9_place_63 : decode cX9_place 63 = .ok (.getfield 42, 3) := by decide +kernel
theorem dX9_place_66 : decode cX9_place 66 = .ok (.iload 5, 2) := by decide +kernel
theorem dX9_place_68 : decode cX9_place 68 = .ok (.iaload, 1) := by decide +kernel
theorem dX9_place_69 : decode cX9_place 69 = .ok (.aload_n 0, 1) := by decide +kernel
theorem dX9_place_70 : decode cX9_place 70 = .ok (.getfield 42, 3) := by decide +kernel
theorem dX9_place_73 : decode cX9_place 73 = .ok (.iload 4, 2) := by decide +kernel
theorem dX9_place_75 : decode cX9_place 75 = .ok (.iaload, 1) := by decide +kernel
theorem dX9_place_76 : decode cX9_place 76 = .ok (.if_icmp .le 17, 3) := by decide +kernel
theorem dX9_place_79 : decode cX9_place 79 = .ok (.aload_n 0, 1) := by decide +kernel
theorem dX9_place_80 : decode cX9_place 80 = .ok (.iload 5, 2) := by decide +kernel
theorem dX9_place_82 : decode cX9_place 82 = .ok (.iload_n 3, 1) := by decide +kernel
theorem dX9_place_83 : decode cX9_place 83 = .ok (.invokevirtual 172, 3) := by decide +kernel
theorem dX9_place_86 : decode cX9_place 86 = .ok (.ifCond .eq 7, 3) := by decide +kernel
theorem dX9_place_89 : decode cX9_place 89 = .ok (.iload 5, 2) := by decide +kernel
theorem dX9_place_91 : decode cX9_place 91 = .ok (.istore 4, 2) := by decide +kernel
theorem dX9_place_93 : decode cX9_place 93 = .ok (.iinc 5 1, 3) := by decide +kernel
theorem dX9_place_96 : decode cX9_place 96 = .ok (.goto (-57), 3) := by decide +kernel
theorem dX9_place_99 : decode cX9_place 99 = .ok (.iload 4, 2) := by decide +kernel
theorem dX9_place_101 : decode cX9_place 101 = .ok (.iconst (-1), 1) := by decide +kernel
theorem dX9_place_102 : decode cX9_place 102 = .ok (.if_icmp .ne 6, 3) := by decide +kernel
theorem dX9_place_105 : decode cX9_place 105 = .ok (.goto 22, 3) := by decide +kernel
theorem dX9_place_108 : decode cX9_place 108 = .ok (.aload_n 0, 1) := by decide +kernel
theorem dX9_place_109 : decode cX9_place 109 = .ok (.getfield 48, 3) := by decide +kernel
theorem dX9_place_112 : decode cX9_place 112 = .ok (.iload 4, 2) := by decide +kernel
theorem dX9_place_114 : decode cX9_place 114 = .ok (.iload_n 3, 1) := by decide +kernel
theorem dX9_place_115 : decode cX9_place 115 = .ok (.iastore, 1) := by decide +kernel
theorem dX9_place_116 : decode cX9_place 116 = .ok (.aload_n 0, 1) := by decide +kernel
theorem dX9_place_117 : decode cX9_place 117 = .ok (.getfield 45, 3) := by decide +kernel
theorem dX9_place_120 : decode cX9_place 120 = .ok (.iload_n 2, 1) := by decide +kernel
theorem dX9_place_121 : decode cX9_place 121 = .ok (.iload 4, 2) := by decide +kernel
theorem dX9_place_123 : decode cX9_place 123 = .ok (.iastore, 1) := by decide +kernel
theorem dX9_place_124 : decode cX9_place 124 = .ok (.iinc 2 1, 3) := by decide +kernel
theorem dX9_place_127 : decode cX9_place 127 = .ok (.iinc 3 1, 3) := by decide +kernel
theorem dX9_place_130 : decode cX9_place 130 = .ok (.goto (-102), 3) := by decide +kernel
theorem dX9_place_133 : decode cX9_place 133 = .ok (.return_, 1) := by decide +kernel
set_option maxRecDepth 20000 in
theorem ggX9_filler_X9_after : GoodIn wsX9_filler wsX9_after := goodIn_r _ [8, 9, 10, 11, 12, 13, 2, 14, 15, 16, 7, 17, 18, 19, 20, 21, 22, 23, 24, 25, 26, 27, 28, 29, 30, 31, 32, 33, 34, 35, 36, 37, 38, 39, 40, 41, 42, 43, 44, 45, 46, 47, 48, 49, 50, 51, 52, 53, 54, 55, 56, 57, 58, 59] (by decide +kernel) (by decide +kernel)
set_option maxRecDepth 20000 in
theorem gX9_filler_X9_after : GoodIn wsX9_filler (wsV RX9 165 RX9 yX9_after wsX9_after) := goodIn_app (goodIn_of _ (by decide +kernel)) ggX9_filler_X9_after
theorem dX9_filler_0 : decode cX9_filler 0 = .ok (.iload_n 1, 1) := by decide +kernel
theorem dX9_filler_1 : decode cX9_filler 1 = .ok (.iconst 1, 1) := by decide +kernel
theorem dX9_filler_2 : decode cX9_filler 2 = .ok (.isub, 1) := by decide +kernel
theorem dX9_filler_3 : decode cX9_filler 3 = .ok (.istore_n 2, 1) := by decide +kernel
theorem dX9_filler_4 : decode cX9_filler 4 = .ok (.iload_n 2, 1) := by decide +kernel
theorem dX9_filler_5 : decode cX9_filler 5 = .ok (.ifCond .lt 84, 3) := by decide +kernel
theorem dX9_filler_8 : decode cX9_filler 8 = .ok (.aload_n 0, 1) := by decide +kernel
theorem dX9_filler_9 : decode cX9_filler 9 = .ok (.getfield 45, 3) := by decide +kernel
theorem dX9_filler_12 : decode cX9_filler 12 = .ok (.iload_n 2, 1) := by decide +kernel
theorem dX9_filler_13 : decode cX9_filler 13 = .ok (.iaload, 1) := by decide +kernel
theorem dX9_filler_14 : decode cX9_filler 14 = .ok (.istore_n 3, 1) := by decide +kernel
theorem dX9_filler_15 : decode cX9_filler 15 = .ok (.aload_n 0, 1) := by decide +kernel
theorem dX9_filler_16 : decode cX9_filler 16 = .ok (.getfield 16, 3) := by decide +kernel
theorem dX9_filler_19 : decode cX9_filler 19 = .ok (.iload_n 3, 1) := by decide +kernel
theorem dX9_filler_20 : decode cX9_filler 20 = .ok (.iaload, 1) := by decide +kernel
theorem dX9_filler_21 : decode cX9_filler 21 = .ok (.bipush 8, 2) := by decide +kernel
theorem dX9_filler_23 : decode cX9_filler 23 = .ok (.if_icmp .eq 7, 3) := by decide +kernel
theorem dX9_filler_26 : decode cX9_filler 26 = .ok (.iconst 1, 1) := by decide +kernel
theorem dX9_filler_27 : decode cX9_filler 27 = .ok (.goto 4, 3) := by decide +kernel
theorem dX9_filler_30 : decode cX9_filler 30 = .ok (.iconst 0, 1) := by decide +kernel
theorem dX9_filler_31 : decode cX9_filler 31 = .ok (.istore 4, 2) := by decide +kernel
theorem dX9_filler_33 : decode cX9_filler 33 = .ok (.iload_n 3, 1) := by decide +kernel
theorem dX9_filler_34 : decode cX9_filler 34 = .ok (.iconst 1, 1) := by decide +kernel
theorem dX9_filler_35 : decode cX9_filler 35 = .ok (.iadd, 1) := by decide +kernel
theorem dX9_filler_36 : decode cX9_filler 36 = .ok (.istore 5, 2) := by decide +kernel
theorem dX9_filler_38 : decode cX9_filler 38 = .ok (.iload 5, 2) := by decide +kernel
theorem dX9_filler_40 : decode cX9_filler 40 = .ok (.aload_n 0, 1) := by decide +kernel
theorem dX9_filler_41 : decode cX9_filler 41 = .ok (.getfield 148, 3) := by decide +kernel
theorem dX9_filler_44 : decode cX9_filler 44 = .ok (.if_icmp .ge 32, 3) := by decide +kernel
theorem dX9_filler_47 : decode cX9_filler 47 = .ok (.iload 4, 2) := by decide +kernel
theorem dX9_filler_49 : decode cX9_filler 49 = .ok (.ifCond .eq 27, 3) := by decide +kernel
theorem dX9_filler_52 : decode cX9_filler 52 = .ok (.aload_n 0, 1) := by decide +kernel
theorem dX9_filler_53 : decode cX9_filler 53 = .ok (.iload 5, 2) := by decide +kernel
theorem dX9_filler_55 : decode cX9_filler 55 = .ok (.iload_n 3, 1) := by decide +kernel
theorem dX9_filler_56 : decode cX9_filler 56 = .ok (.invokevirtual 165, 3) := by decide +kernel
theorem dX9_filler_59 : decode cX9_filler 59 = .ok (.iconst (-1), 1) := by decide +kernel
theorem dX9_filler_60 : decode cX9_filler 60 = .ok (.if_icmp .ne 7, 3) := by decide +kernel
theorem dX9_filler_63 : decode cX9_filler 63 = .ok (.iconst 1, 1) := by decide +kernel
theorem dX9_filler_64 : decode cX9_filler 64 = .ok (.goto 4, 3) := by decide +kernel
theorem dX9_filler_67 : decode cX9_filler 67 = .ok (.iconst 0, 1) := by decide +kernel
theorem dX9_filler_68 : decode cX9_filler 68 = .ok (.istore 4, 2) := by decide +kernel
theorem dX9_filler_70 : decode cX9_filler 70 = .ok (.iinc 5 1, 3) := by decide +kernel
theorem dX9_filler_73 : decode cX9_filler 73 = .ok (.goto (-35), 3) := by decide +kernel
theorem dX9_filler_76 : decode cX9_filler 76 = .ok (.iload 4, 2) := by decide +kernel
theorem dX9_filler_78 : decode cX9_filler 78 = .ok (.ifCond .eq 5, 3) := by decide +kernel
theorem dX9_filler_81 : decode cX9_filler 81 = .ok (.iload_n 2, 1) := by decide +kernel
theorem dX9_filler_82 : decode cX9_filler 82 = .ok (.ireturn, 1) := by decide +kernel
theorem dX9_filler_83 : decode cX9_filler 83 = .ok (.iinc 2 (-1), 3) := by decide +kernel
theorem dX9_filler_86 : decode cX9_filler 86 = .ok (.goto (-82), 3) := by decide +kernel
theorem dX9_filler_89 : decode cX9_filler 89 = .ok (.iconst (-1), 1) := by decide +kernel
theorem dX9_filler_90 : decode cX9_filler 90 = .ok (.ireturn, 1) := by decide +kernel
set_option maxRecDepth 20000 in
theorem ggX9_schedule_X9_place : GoodIn wsX9_schedule wsX9_place := goodIn_r _ [12, 13, 14, 5, 15, 16, 17, 11, 18, 3, 19, 4, 20, 21, 22, 23, 24, 25, 26, 27, 28, 29, 30, 31, 32, 33, 34, 35, 36, 37, 38, 39, 40, 41, 42, 43, 44, 45, 46, 47, 48, 49, 50, 51, 68, 69, 70, 71, 72, 73, 74, 75, 76, 77, 78, 79, 80, 81, 82, 83, 84, 85, 86, 87, 88, 89, 90, 91, 92, 93] (by decide +kernel) (by decide +kernel)
set_option maxRecDepth 20000 in
theorem gX9_schedule_X9_place : GoodIn wsX9_schedule (wsV RX9 175 RX9 yX9_place wsX9_place) := goodIn_app (goodIn_of _ (by decide +kernel)) ggX9_schedule_X9_place
set_option maxRecDepth 20000 in
theorem ggX9_schedule_X9_filler : GoodIn wsX9_schedule wsX9_filler := goodIn_r _ [55, 5, 4, 3, 20, 21, 22, 11, 23, 24, 25, 26, 27, 19, 28, 29, 30, 31, 32, 33, 34, 35, 36, 37, 38, 39, 40, 41, 42, 43, 44, 45, 46, 47, 68, 69, 70, 71, 72, 73, 74, 75, 76, 77, 78, 79, 80, 81, 82, 83, 84, 85, 86, 87, 88, 89, 90, 91, 92, 93] (by decide +kernel) (by decide +kernel)
set_option maxRecDepth 20000 in
theorem gX9_schedule_X9_filler : GoodIn wsX9_schedule (wsV RX9 178 RX9 yX9_filler wsX9_filler) := goodIn_app (goodIn_of _ (by decide +kernel)) ggX9_schedule_X9_filler
set_option maxRecDepth 20000 in
theorem ggX9_schedule_X9_comes : GoodIn wsX9_schedule wsX9_comes := goodIn_r _ [59, 60, 7, 32, 61, 68, 69, 70, 71, 72, 73, 74, 75, 76, 77, 78, 79, 80, 81, 82, 83, 84, 85, 86, 87, 88, 89, 90, 91, 92, 93] (by decide +kernel) (by decide +kernel)
set_option maxRecDepth 20000 in
theorem gX9_schedule_X9_comes : GoodIn wsX9_schedule (wsV RX9 184 RX9 yX9_comes wsX9_comes) := goodIn_app (goodIn_of _ (by decide +kernel)) ggX9_schedule_X9_comes
set_option maxRecDepth 20000 in
theorem ggX9_schedule_X9_findCycles : GoodIn wsX9_schedule wsX9_findCycles := goodIn_r _ [65, 66, 7, 67, 61, 20, 21, 22, 11, 23, 24, 25, 26, 27, 19, 4, 28, 29, 30, 31, 32, 33, 34, 35, 36, 37, 38, 39, 40, 41, 42, 43, 44, 45, 46, 47, 68, 69, 70, 71, 72, 73, 74, 75, 76, 77, 78, 79, 80, 81, 82, 83, 84, 85, 86, 87, 88, 89, 90, 91, 92, 93] (by decide +kernel) (by decide +kernel)
set_option maxRecDepth 20000 in
theorem gX9_schedule_X9_findCycles : GoodIn wsX9_schedule (wsV RX9 187 RX9 yX9_findCycles wsX9_findCycles) := goodIn_app (goodIn_of _ (by decide +kernel)) ggX9_schedule_X9_findCycles
theorem dX9_schedule_0 : decode cX9_schedule 0 = .ok (.aload_n 0, 1) := by decide +kernel
theorem dX9_schedule_1 : decode cX9_schedule 1 = .ok (.iconst 0, 1) := by decide +kernel
theorem dX9_schedule_2 : decode cX9_schedule 2 = .ok (.putfield 54, 3) := by decide +kernel
theorem dX9_schedule_5 : decode cX9_schedule 5 = .ok (.aload_n 0, 1) := by decide +kernel
theorem dX9_schedule_6 : decode cX9_schedule 6 = .ok (.iconst 1, 1) := by decide +kernel
theorem dX9_schedule_7 : decode cX9_schedule 7 = .ok (.putfield 145, 3) := by decide +kernel
theorem dX9_schedule_10 : decode cX9_schedule 10 = .ok (.aload_n 0, 1) := by decide +kernel
theorem dX9_schedule_11 : decode cX9_schedule 11 = .ok (.getfield 148, 3) := by decide +kernel
theorem dX9_schedule_14 : decode cX9_schedule 14 = .ok (.ifCond .le 23, 3) := by decide +kernel
theorem dX9_schedule_17 : decode cX9_schedule 17 = .ok (.aload_n 0, 1) := by decide +kernel
theorem dX9_schedule_18 : decode cX9_schedule 18 = .ok (.getfield 16, 3) := by decide +kernel
theorem dX9_schedule_21 : decode cX9_schedule 21 = .ok (.aload_n 0, 1) := by decide +kernel
theorem dX9_schedule_22 : decode cX9_schedule 22 = .ok (.getfield 148, 3) := by decide +kernel
theorem dX9_schedule_25 : decode cX9_schedule 25 = .ok (.iconst 1, 1) := by decide +kernel
theorem dX9_schedule_26 : decode cX9_schedule 26 = .ok (.isub, 1) := by decide +kernel
theorem dX9_schedule_27 : decode cX9_schedule 27 = .ok (.iaload, 1) := by decide +kernel
theorem dX9_schedule_28 : decode cX9_schedule 28 = .ok (.bipush 7, 2) := by decide +kernel
theorem dX9_schedule_30 : decode cX9_schedule 30 = .ok (.if_icmp .ne 7, 3) := by decide +kernel
theorem dX9_schedule_33 : decode cX9_schedule 33 = .ok (.iconst 1, 1) := by decide +kernel
theorem dX9_schedule_34 : decode cX9_schedule 34 = .ok (.goto 4, 3) := by decide +kernel
theorem dX9_schedule_37 : decode cX9_schedule 37 = .ok (.iconst 0, 1) := by decide +kernel
theorem dX9_schedule_38 : decode cX9_schedule 38 = .ok (.istore_n 3, 1) := by decide +kernel
theorem dX9_schedule_39 : decode cX9_schedule 39 = .ok (.iload_n 3, 1) := by decide +kernel
theorem dX9_schedule_40 : decode cX9_schedule 40 = .ok (.ifCond .eq 12, 3) := by decide +kernel
theorem dX9_schedule_43 : decode cX9_schedule 43 = .ok (.aload_n 0, 1) := by decide +kernel
theorem dX9_schedule_44 : decode cX9_schedule 44 = .ok (.getfield 148, 3) := by decide +kernel
theorem dX9_schedule_47 : decode cX9_schedule 47 = .ok (.iconst 1, 1) := by decide +kernel
theorem dX9_schedule_48 : decode cX9_schedule 48 = .ok (.isub, 1) := by decide +kernel
theorem dX9_schedule_49 : decode cX9_schedule 49 = .ok (.goto 7, 3) := by decide +kernel
theorem dX9_schedule_52 : decode cX9_schedule 52 = .ok (.aload_n 0, 1) := by decide +kernel
theorem dX9_schedule_53 : decode cX9_schedule 53 = .ok (.getfield 148, 3) := by decide +kernel
theorem dX9_schedule_56 : decode cX9_schedule 56 = .ok (.istore 4, 2) := by decide +kernel
theorem dX9_schedule_58 : decode cX9_schedule 58 = .ok (.iconst 0, 1) := by decide +kernel
theorem dX9_schedule_59 : decode cX9_schedule 59 = .ok (.istore 5, 2) := by decide +kernel
theorem dX9_schedule_61 : decode cX9_schedule 61 = .ok (.iload 5, 2) := by decide +kernel
theorem dX9_schedule_63 : decode cX9_schedule 63 = .ok (.iload 4, 2) := by decide +kernel
theorem dX9_schedule_65 : decode cX9_schedule 65 = .ok (.if_icmp .ge 18, 3) := by decide +kernel
theorem dX9_schedule_68 : decode cX9_schedule 68 = .ok (.aload_n 0, 1) := by decide +kernel
theorem dX9_schedule_69 : decode cX9_schedule 69 = .ok (.getfield 45, 3) := by decide +kernel
theorem dX9_schedule_72 : decode cX9_schedule 72 = .ok (.iload 5, 2) := by decide +kernel
theorem dX9_schedule_74 : decode cX9_schedule 74 = .ok (.iload 5, 2) := by decide +kernel
theorem dX9_schedule_76 : decode cX9_schedule 76 = .ok (.iastore, 1) := by decide +kernel
theorem dX9_schedule_77 : decode cX9_schedule 77 = .ok (.iinc 5 1, 3) := by decide +kernel
theorem dX9_schedule_80 : decode cX9_schedule 80 = .ok (.goto (-19), 3) := by decide +kernel
theorem dX9_schedule_83 : decode cX9_schedule 83 = .ok (.iload_n 1, 1) := by decide +kernel
theorem dX9_schedule_84 : decode cX9_schedule 84 = .ok (.ifCond .eq 9, 3) := by decide +kernel
theorem dX9_schedule_87 : decode cX9_schedule 87 = .ok (.aload_n 0, 1) := by decide +kernel
theorem dX9_schedule_88 : decode cX9_schedule 88 = .ok (.iload 4, 2) := by decide +kernel
theorem dX9_schedule_90 : decode cX9_schedule 90 = .ok (.invokevirtual 175, 3) := by decide +kernel
theorem dX9_schedule_93 : decode cX9_schedule 93 = .ok (.iload_n 3, 1) := by decide +kernel
theorem dX9_schedule_94 : decode cX9_schedule 94 = .ok (.ifCond .eq 30, 3) := by decide +kernel
theorem dX9_schedule_97 : decode cX9_schedule 97 = .ok (.iload_n 2, 1) := by decide +kernel
theorem dX9_schedule_98 : decode cX9_schedule 98 = .ok (.ifCond .eq 26, 3) := by decide +kernel
theorem dX9_schedule_101 : decode cX9_schedule 101 = .ok (.aload_n 0, 1) := by decide +kernel
theorem dX9_schedule_102 : decode cX9_schedule 102 = .ok (.getfield 32, 3) := by decide +kernel
theorem dX9_schedule_105 : decode cX9_schedule 105 = .ok (.aload_n 0, 1) := by decide +kernel
theorem dX9_schedule_106 : decode cX9_schedule 106 = .ok (.getfield 148, 3) := by decide +kernel
theorem dX9_schedule_109 : decode cX9_schedule 109 = .ok (.iconst 1, 1) := by decide +kernel
theorem dX9_schedule_110 : decode cX9_schedule 110 = .ok (.isub, 1) := by decide +kernel
theorem dX9_schedule_111 : decode cX9_schedule 111 = .ok (.baload, 1) := by decide +kernel
theorem dX9_schedule_112 : decode cX9_schedule 112 = .ok (.ifCond .ne 12, 3) := by decide +kernel
theorem dX9_schedule_115 : decode cX9_schedule 115 = .ok (.aload_n 0, 1) := by decide +kernel
theorem dX9_schedule_116 : decode cX9_schedule 116 = .ok (.iload 4, 2) := by decide +kernel
theorem dX9_schedule_118 : decode cX9_schedule 118 = .ok (.invokevirtual 178, 3) := by decide +kernel
theorem dX9_schedule_121 : decode cX9_schedule 121 = .ok (.goto 4, 3) := by decide +kernel
theorem dX9_schedule_124 : decode cX9_schedule 124 = .ok (.iconst (-1), 1) := by decide +kernel
theorem dX9_schedule_125 : decode cX9_schedule 125 = .ok (.istore 5, 2) := by decide +kernel
theorem dX9_schedule_127 : decode cX9_schedule 127 = .ok (.aload_n 0, 1) := by decide +kernel
theorem dX9_schedule_128 : decode cX9_schedule 128 = .ok (.iconst 0, 1) := by decide +kernel
theorem dX9_schedule_129 : decode cX9_schedule 129 = .ok (.putfield 181, 3) := by decide +kernel
theorem dX9_schedule_132 : decode cX9_schedule 132 = .ok (.iconst 0, 1) := by decide +kernel
theorem dX9_schedule_133 : decode cX9_schedule 133 = .ok (.istore 6, 2) := by decide +kernel
theorem dX9_schedule_135 : decode cX9_schedule 135 = .ok (.iload 6, 2) := by decide +kernel
theorem dX9_schedule_137 : decode cX9_schedule 137 = .ok (.iload 4, 2) := by decide +kernel
theorem dX9_schedule_139 : decode cX9_schedule 139 = .ok (.if_icmp .ge 27, 3) := by decide +kernel
theorem dX9_schedule_142 : decode cX9_schedule 142 = .ok (.iload 6, 2) := by decide +kernel
theorem dX9_schedule_144 : decode cX9_schedule 144 = .ok (.iload 5, 2) := by decide +kernel
theorem dX9_schedule_146 : decode cX9_schedule 146 = .ok (.if_icmp .eq 14, 3) := by decide +kernel
theorem dX9_schedule_149 : decode cX9_schedule 149 = .ok (.aload_n 0, 1) := by decide +kernel
theorem dX9_schedule_150 : decode cX9_schedule 150 = .ok (.aload_n 0, 1) := by decide +kernel
theorem dX9_schedule_151 : decode cX9_schedule 151 = .ok (.getfield 45, 3) := by decide +kernel
theorem dX9_schedule_154 : decode cX9_schedule 154 = .ok (.iload 6, 2) := by decide +kernel
theorem dX9_schedule_156 : decode cX9_schedule 156 = .ok (.iaload, 1) := by decide +kernel
theorem dX9_schedule_157 : decode cX9_schedule 157 = .ok (.invokevirtual 184, 3) := by decide +kernel
theorem dX9_schedule_160 : decode cX9_schedule 160 = .ok (.iinc 6 1, 3) := by decide +kernel
theorem dX9_schedule_163 : decode cX9_schedule 163 = .ok (.goto (-28), 3) := by decide +kernel
theorem dX9_schedule_166 : decode cX9_schedule 166 = .ok (.iload_n 3, 1) := by decide +kernel
theorem dX9_schedule_167 : decode cX9_schedule 167 = .ok (.ifCond .eq 34, 3) := by decide +kernel
theorem dX9_schedule_170 : decode cX9_schedule 170 = .ok (.aload_n 0, 1) := by decide +kernel
theorem dX9_schedule_171 : decode cX9_schedule 171 = .ok (.aload_n 0, 1) := by decide +kernel
theorem dX9_schedule_172 : decode cX9_schedule 172 = .ok (.getfield 148, 3) := by decide +kernel
theorem dX9_schedule_175 : decode cX9_schedule 175 = .ok (.iconst 1, 1) := by decide +kernel
theorem dX9_schedule_176 : decode cX9_schedule 176 = .ok (.isub, 1) := by decide +kernel
theorem dX9_schedule_177 : decode cX9_schedule 177 = .ok (.invokevirtual 184, 3) := by decide +kernel
theorem dX9_schedule_180 : decode cX9_schedule 180 = .ok (.aload_n 0, 1) := by decide +kernel
theorem dX9_schedule_181 : decode cX9_schedule 181 = .ok (.iload 5, 2) := by decide +kernel
theorem dX9_schedule_183 : decode cX9_schedule 183 = .ok (.iconst (-1), 1) := by decide +kernel
theorem dX9_schedule_184 : decode cX9_schedule 184 = .ok (.if_icmp .ne 7, 3) := by decide +kernel
theorem dX9_schedule_187 : decode cX9_schedule 187 = .ok (.iconst (-1), 1) := by decide +kernel
theorem dX9_schedule_188 : decode cX9_schedule 188 = .ok (.goto 10, 3) := by decide +kernel
theorem dX9_schedule_191 : decode cX9_schedule 191 = .ok (.aload_n 0, 1) := by decide +kernel
theorem dX9_schedule_192 : decode cX9_schedule 192 = .ok (.getfield 45, 3) := by decide +kernel
theorem dX9_schedule_195 : decode cX9_schedule 195 = .ok (.iload 5, 2) := by decide +kernel
theorem dX9_schedule_197 : decode cX9_schedule 197 = .ok (.iaload, 1) := by decide +kernel
theorem dX9_schedule_198 : decode cX9_schedule 198 = .ok (.invokevirtual 184, 3) := by decide +kernel
theorem dX9_schedule_201 : decode cX9_schedule 201 = .ok (.aload_n 0, 1) := by decide +kernel
theorem dX9_schedule_202 : decode cX9_schedule 202 = .ok (.invokevirtual 187, 3) := by decide +kernel
theorem dX9_schedule_205 : decode cX9_schedule 205 = .ok (.aload_n 0, 1) := by decide +kernel
theorem dX9_schedule_206 : decode cX9_schedule 206 = .ok (.getfield 181, 3) := by decide +kernel
theorem dX9_schedule_209 : decode cX9_schedule 209 = .ok (.ireturn, 1) := by decide +kernel
theorem dX9_comes_0 : decode cX9_comes 0 = .ok (.aload_n 0, 1) := by decide +kernel
theorem dX9_comes_1 : decode cX9_comes 1 = .ok (.getfield 36, 3) := by decide +kernel
theorem dX9_comes_4 : decode cX9_comes 4 = .ok (.aload_n 0, 1) := by decide +kernel
theorem dX9_comes_5 : decode cX9_comes 5 = .ok (.getfield 181, 3) := by decide +kernel
theorem dX9_comes_8 : decode cX9_comes 8 = .ok (.iload_n 1, 1) := by decide +kernel
theorem dX9_comes_9 : decode cX9_comes 9 = .ok (.iconst (-1), 1) := by decide +kernel
theorem dX9_comes_10 : decode cX9_comes 10 = .ok (.if_icmp .ne 7, 3) := by decide +kernel
theorem dX9_comes_13 : decode cX9_comes 13 = .ok (.iconst 0, 1) := by decide +kernel
theorem dX9_comes_14 : decode cX9_comes 14 = .ok (.goto 9, 3) := by decide +kernel
theorem dX9_comes_17 : decode cX9_comes 17 = .ok (.aload_n 0, 1) := by decide +kernel
theorem dX9_comes_18 : decode cX9_comes 18 = .ok (.getfield 13, 3) := by decide +kernel
theorem dX9_comes_21 : decode cX9_comes 21 = .ok (.iload_n 1, 1) := by decide +kernel
theorem dX9_comes_22 : decode cX9_comes 22 = .ok (.iaload, 1) := by decide +kernel
theorem dX9_comes_23 : decode cX9_comes 23 = .ok (.iastore, 1) := by decide +kernel
theorem dX9_comes_24 : decode cX9_comes 24 = .ok (.aload_n 0, 1) := by decide +kernel
theorem dX9_comes_25 : decode cX9_comes 25 = .ok (.getfield 39, 3) := by decide +kernel
theorem dX9_comes_28 : decode cX9_comes 28 = .ok (.aload_n 0, 1) := by decide +kernel
theorem dX9_comes_29 : decode cX9_comes 29 = .ok (.getfield 181, 3) := by decide +kernel
theorem dX9_comes_32 : decode cX9_comes 32 = .ok (.iload_n 1, 1) := by decide +kernel
theorem dX9_comes_33 : decode cX9_comes 33 = .ok (.iastore, 1) := by decide +kernel
theorem dX9_comes_34 : decode cX9_comes 34 = .ok (.aload_n 0, 1) := by decide +kernel
theorem dX9_comes_35 : decode cX9_comes 35 = .ok (.dup, 1) := by decide +kernel
theorem dX9_comes_36 : decode cX9_comes 36 = .ok (.getfield 181, 3) := by decide +kernel
theorem dX9_comes_39 : decode cX9_comes 39 = .ok (.iconst 1, 1) := by decide +kernel
theorem dX9_comes_40 : decode cX9_comes 40 = .ok (.iadd, 1) := by decide +kernel
theorem dX9_comes_41 : decode cX9_comes 41 = .ok (.putfield 181, 3) := by decide +kernel
theorem dX9_comes_44 : decode cX9_comes 44 = .ok (.return_, 1) := by decide +kernel
set_option maxRecDepth 20000 in
theorem ggX9_findCycles_X9_after : GoodIn wsX9_findCycles wsX9_after := goodIn_r _ [9, 10, 11, 12, 13, 14, 15, 16, 17, 18, 8, 19, 20, 21, 22, 23, 24, 25, 26, 27, 28, 29, 30, 31, 32, 33, 34, 35, 36, 37, 38, 39, 40, 41, 42, 43, 44, 45, 46, 47, 48, 49, 50, 51, 52, 53, 54, 55, 56, 57, 58, 59, 60, 61] (by decide +kernel) (by decide +kernel)
set_option maxRecDepth 20000 in
theorem gX9_findCycles_X9_after : GoodIn wsX9_findCycles (wsV RX9 165 RX9 yX9_after wsX9_after) := goodIn_app (goodIn_of _ (by decide +kernel)) ggX9_findCycles_X9_after
theorem dX9_findCycles_0 : decode cX9_findCycles 0 = .ok (.aload_n 0, 1) := by decide +kernel
theorem dX9_findCycles_1 : decode cX9_findCycles 1 = .ok (.iconst 0, 1) := by decide +kernel
theorem dX9_findCycles_2 : decode cX9_findCycles 2 = .ok (.putfield 190, 3) := by decide +kernel
theorem dX9_findCycles_5 : decode cX9_findCycles 5 = .ok (.iconst 0, 1) := by decide +kernel
theorem dX9_findCycles_6 : decode cX9_findCycles 6 = .ok (.istore_n 1, 1) := by decide +kernel
theorem dX9_findCycles_7 : decode cX9_findCycles 7 = .ok (.iload_n 1, 1) := by decide +kernel
theorem dX9_findCycles_8 : decode cX9_findCycles 8 = .ok (.aload_n 0, 1) := by decide +kernel
theorem dX9_findCycles_9 : decode cX9_findCycles 9 = .ok (.getfield 181, 3) := by decide +kernel
theorem dX9_findCycles_12 : decode cX9_findCycles 12 = .ok (.if_icmp .ge 133, 3) := by decide +kernel
theorem dX9_findCycles_15 : decode cX9_findCycles 15 = .ok (.iload_n 1, 1) := by decide +kernel
theorem dX9_findCycles_16 : decode cX9_findCycles 16 = .ok (.ifCond .ne 7, 3) := by decide +kernel
theorem dX9_findCycles_19 : decode cX9_findCycles 19 = .ok (.iconst 0, 1) := by decide +kernel
theorem dX9_findCycles_20 : decode cX9_findCycles 20 = .ok (.goto 13, 3) := by decide +kernel
theorem dX9_findCycles_23 : decode cX9_findCycles 23 = .ok (.aload_n 0, 1) := by decide +kernel
theorem dX9_findCycles_24 : decode cX9_findCycles 24 = .ok (.getfield 51, 3) := by decide +kernel
theorem dX9_findCycles_27 : decode cX9_findCycles 27 = .ok (.iload_n 1, 1) := by decide +kernel
theorem dX9_findCycles_28 : decode cX9_findCycles 28 = .ok (.iconst 1, 1) := by decide +kernel
theorem dX9_findCycles_29 : decode cX9_findCycles 29 = .ok (.isub, 1) := by decide +kernel
theorem dX9_findCycles_30 : decode cX9_findCycles 30 = .ok (.iaload, 1) := by decide +kernel
theorem dX9_findCycles_31 : decode cX9_findCycles 31 = .ok (.iconst 1, 1) := by decide +kernel
theorem dX9_findCycles_32 : decode cX9_findCycles 32 = .ok (.iadd, 1) := by decide +kernel
theorem dX9_findCycles_33 : decode cX9_findCycles 33 = .ok (.istore_n 2, 1) := by decide +kernel
theorem dX9_findCycles_34 : decode cX9_findCycles 34 = .ok (.iconst 0, 1) := by decide +kernel
theorem dX9_findCycles_35 : decode cX9_findCycles 35 = .ok (.istore_n 3, 1) := by decide +kernel
theorem dX9_findCycles_36 : decode cX9_findCycles 36 = .ok (.iload_n 3, 1) := by decide +kernel
theorem dX9_findCycles_37 : decode cX9_findCycles 37 = .ok (.iload_n 1, 1) := by decide +kernel
theorem dX9_findCycles_38 : decode cX9_findCycles 38 = .ok (.if_icmp .ge 87, 3) := by decide +kernel
theorem dX9_findCycles_41 : decode cX9_findCycles 41 = .ok (.aload_n 0, 1) := by decide +kernel
theorem dX9_findCycles_42 : decode cX9_findCycles 42 = .ok (.getfield 39, 3) := by decide +kernel
theorem dX9_findCycles_45 : decode cX9_findCycles 45 = .ok (.iload_n 3, 1) := by decide +kernel
theorem dX9_findCycles_46 : decode cX9_findCycles 46 = .ok (.iaload, 1) := by decide +kernel
theorem dX9_findCycles_47 : decode cX9_findCycles 47 = .ok (.istore 4, 2) := by decide +kernel
theorem dX9_findCycles_49 : decode cX9_findCycles 49 = .ok (.aload_n 0, 1) := by decide +kernel
theorem dX9_findCycles_50 : decode cX9_findCycles 50 = .ok (.getfield 39, 3) := by decide +kernel
theorem dX9_findCycles_53 : decode cX9_findCycles 53 = .ok (.iload_n 1, 1) := by decide +kernel
theorem dX9_findCycles_54 : decode cX9_findCycles 54 = .ok (.iaload, 1) := by decide +kernel
theorem dX9_findCycles_55 : decode cX9_findCycles 55 = .ok (.istore 5, 2) := by decide +kernel
theorem dX9_findCycles_57 : decode cX9_findCycles 57 = .ok (.iload 4, 2) := by decide +kernel
theorem dX9_findCycles_59 : decode cX9_findCycles 59 = .ok (.iconst (-1), 1) := by decide +kernel
theorem dX9_findCycles_60 : decode cX9_findCycles 60 = .ok (.if_icmp .eq 16, 3) := by decide +kernel
theorem dX9_findCycles_63 : decode cX9_findCycles 63 = .ok (.iload 5, 2) := by decide +kernel
theorem dX9_findCycles_65 : decode cX9_findCycles 65 = .ok (.iconst (-1), 1) := by decide +kernel
theorem dX9_findCycles_66 : decode cX9_findCycles 66 = .ok (.if_icmp .eq 10, 3) := by decide +kernel
theorem dX9_findCycles_69 : decode cX9_findCycles 69 = .ok (.iload 4, 2) := by decide +kernel
theorem dX9_findCycles_71 : decode cX9_findCycles 71 = .ok (.iload 5, 2) := by decide +kernel
theorem dX9_findCycles_73 : decode cX9_findCycles 73 = .ok (.if_icmp .le 7, 3) := by decide +kernel
theorem dX9_findCycles_76 : decode cX9_findCycles 76 = .ok (.iconst (-1), 1) := by decide +kernel
theorem dX9_findCycles_77 : decode cX9_findCycles 77 = .ok (.goto 11, 3) := by decide +kernel
theorem dX9_findCycles_80 : decode cX9_findCycles 80 = .ok (.aload_n 0, 1) := by decide +kernel
theorem dX9_findCycles_81 : decode cX9_findCycles 81 = .ok (.iload 5, 2) := by decide +kernel
theorem dX9_findCycles_83 : decode cX9_findCycles 83 = .ok (.iload 4, 2) := by decide +kernel
theorem dX9_findCycles_85 : decode cX9_findCycles 85 = .ok (.invokevirtual 165, 3) := by decide +kernel
theorem dX9_findCycles_88 : decode cX9_findCycles 88 = .ok (.istore 6, 2) := by decide +kernel
theorem dX9_findCycles_90 : decode cX9_findCycles 90 = .ok (.iload 6, 2) := by decide +kernel
theorem dX9_findCycles_92 : decode cX9_findCycles 92 = .ok (.iconst (-1), 1) := by decide +kernel
theorem dX9_findCycles_93 : decode cX9_findCycles 93 = .ok (.if_icmp .eq 26, 3) := by decide +kernel
theorem dX9_findCycles_96 : decode cX9_findCycles 96 = .ok (.aload_n 0, 1) := by decide +kernel
theorem dX9_findCycles_97 : decode cX9_findCycles 97 = .ok (.getfield 51, 3) := by decide +kernel
theorem dX9_findCycles_100 : decode cX9_findCycles 100 = .ok (.iload_n 3, 1) := by decide +kernel
theorem dX9_findCycles_101 : decode cX9_findCycles 101 = .ok (.iaload, 1) := by decide +kernel
theorem dX9_findCycles_102 : decode cX9_findCycles 102 = .ok (.iload 6, 2) := by decide +kernel
theorem dX9_findCycles_104 : decode cX9_findCycles 104 = .ok (.iadd, 1) := by decide +kernel
theorem dX9_findCycles_105 : decode cX9_findCycles 105 = .ok (.iload_n 2, 1) := by decide +kernel
theorem dX9_findCycles_106 : decode cX9_findCycles 106 = .ok (.if_icmp .le 13, 3) := by decide +kernel
theorem dX9_findCycles_109 : decode cX9_findCycles 109 = .ok (.aload_n 0, 1) := by decide +kernel
theorem dX9_findCycles_110 : decode cX9_findCycles 110 = .ok (.getfield 51, 3) := by decide +kernel
theorem dX9_findCycles_113 : decode cX9_findCycles 113 = .ok (.iload_n 3, 1) := by decide +kernel
theorem dX9_findCycles_114 : decode cX9_findCycles 114 = .ok (.iaload, 1) := by decide +kernel
theorem dX9_findCycles_115 : decode cX9_findCycles 115 = .ok (.iload 6, 2) := by decide +kernel
theorem dX9_findCycles_117 : decode cX9_findCycles 117 = .ok (.iadd, 1) := by decide +kernel
theorem dX9_findCycles_118 : decode cX9_findCycles 118 = .ok (.istore_n 2, 1) := by decide +kernel
theorem dX9_findCycles_119 : decode cX9_findCycles 119 = .ok (.iinc 3 1, 3) := by decide +kernel
theorem dX9_findCycles_122 : decode cX9_findCycles 122 = .ok (.goto (-86), 3) := by decide +kernel
theorem dX9_findCycles_125 : decode cX9_findCycles 125 = .ok (.aload_n 0, 1) := by decide +kernel
theorem dX9_findCycles_126 : decode cX9_findCycles 126 = .ok (.getfield 51, 3) := by decide +kernel
theorem dX9_findCycles_129 : decode cX9_findCycles 129 = .ok (.iload_n 1, 1) := by decide +kernel
theorem dX9_findCycles_130 : decode cX9_findCycles 130 = .ok (.iload_n 2, 1) := by decide +kernel
theorem dX9_findCycles_131 : decode cX9_findCycles 131 = .ok (.iastore, 1) := by decide +kernel
theorem dX9_findCycles_132 : decode cX9_findCycles 132 = .ok (.aload_n 0, 1) := by decide +kernel
theorem dX9_findCycles_133 : decode cX9_findCycles 133 = .ok (.iload_n 2, 1) := by decide +kernel
theorem dX9_findCycles_134 : decode cX9_findCycles 134 = .ok (.iconst 1, 1) := by decide +kernel
theorem dX9_findCycles_135 : decode cX9_findCycles 135 = .ok (.iadd, 1) := by decide +kernel
theorem dX9_findCycles_136 : decode cX9_findCycles 136 = .ok (.putfield 190, 3) := by decide +kernel
theorem dX9_findCycles_139 : decode cX9_findCycles 139 = .ok (.iinc 1 1, 3) := by decide +kernel
theorem dX9_findCycles_142 : decode cX9_findCycles 142 = .ok (.goto (-135), 3) := by decide +kernel
theorem dX9_findCycles_145 : decode cX9_findCycles 145 = .ok (.return_, 1) := by decide +kernel
set_option maxRecDepth 20000 in
theorem ggX9_word_X9_fail : GoodIn wsX9_word wsX9_fail := goodIn_r _ [8, 1, 9, 10, 11, 12, 13, 14, 15, 16, 17, 18, 19, 20, 21, 22, 23, 24, 25, 26, 27, 28, 29, 30, 31, 32, 33, 34] (by decide +kernel) (by decide +kernel)
set_option maxRecDepth 20000 in
theorem gX9_word_X9_fail : GoodIn wsX9_word (wsV RX9 139 RX9 yX9_fail wsX9_fail) := goodIn_app (goodIn_of _ (by decide +kernel)) ggX9_word_X9_fail
theorem dX9_word_0 : decode cX9_word 0 = .ok (.aload_n 0, 1) := by decide +kernel
theorem dX9_word_1 : decode cX9_word 1 = .ok (.iconst 0, 1) := by decide +kernel
theorem dX9_word_2 : decode cX9_word 2 = .ok (.putfield 54, 3) := by decide +kernel
theorem dX9_word_5 : decode cX9_word 5 = .ok (.iload_n 1, 1) := by decide +kernel
theorem dX9_word_6 : decode cX9_word 6 = .ok (.ifCond .lt 11, 3) := by decide +kernel
theorem dX9_word_9 : decode cX9_word 9 = .ok (.iload_n 1, 1) := by decide +kernel
theorem dX9_word_10 : decode cX9_word 10 = .ok (.aload_n 0, 1) := by decide +kernel
theorem dX9_word_11 : decode cX9_word 11 = .ok (.getfield 181, 3) := by decide +kernel
theorem dX9_word_14 : decode cX9_word 14 = .ok (.if_icmp .lt 11, 3) := by decide +kernel
theorem dX9_word_17 : decode cX9_word 17 = .ok (.aload_n 0, 1) := by decide +kernel
theorem dX9_word_18 : decode cX9_word 18 = .ok (.iconst 1, 1) := by decide +kernel
theorem dX9_word_19 : decode cX9_word 19 = .ok (.invokevirtual 139, 3) := by decide +kernel
theorem dX9_word_22 : decode cX9_word 22 = .ok (.goto 9, 3) := by decide +kernel
theorem dX9_word_25 : decode cX9_word 25 = .ok (.aload_n 0, 1) := by decide +kernel
theorem dX9_word_26 : decode cX9_word 26 = .ok (.getfield 36, 3) := by decide +kernel
theorem dX9_word_29 : decode cX9_word 29 = .ok (.iload_n 1, 1) := by decide +kernel
theorem dX9_word_30 : decode cX9_word 30 = .ok (.iaload, 1) := by decide +kernel
theorem dX9_word_31 : decode cX9_word 31 = .ok (.ireturn, 1) := by decide +kernel
set_option maxRecDepth 20000 in
theorem ggX9_from_X9_fail : GoodIn wsX9_from wsX9_fail := goodIn_r _ [8, 1, 9, 10, 11, 12, 13, 14, 15, 16, 17, 18, 19, 20, 21, 22, 23, 24, 25, 26, 27, 28, 29, 30, 31, 32, 33, 34] (by decide +kernel) (by decide +kernel)
set_option maxRecDepth 20000 in
theorem gX9_from_X9_fail : GoodIn wsX9_from (wsV RX9 139 RX9 yX9_fail wsX9_fail) := goodIn_app (goodIn_of _ (by decide +kernel)) ggX9_from_X9_fail
theorem dX9_from_0 : decode cX9_from 0 = .ok (.aload_n 0, 1) := by decide +kernel
theorem dX9_from_1 : decode cX9_from 1 = .ok (.iconst 0, 1) := by decide +kernel
theorem dX9_from_2 : decode cX9_from 2 = .ok (.putfield 54, 3) := by decide +kernel
theorem dX9_from_5 : decode cX9_from 5 = .ok (.iload_n 1, 1) := by decide +kernel
theorem dX9_from_6 : decode cX9_from 6 = .ok (.ifCond .lt 11, 3) := by decide +kernel
theorem dX9_from_9 : decode cX9_from 9 = .ok (.iload_n 1, 1) := by decide +kernel
theorem dX9_from_10 : decode cX9_from 10 = .ok (.aload_n 0, 1) := by decide +kernel
theorem dX9_from_11 : decode cX9_from 11 = .ok (.getfield 181, 3) := by decide +kernel
theorem dX9_from_14 : decode cX9_from 14 = .ok (.if_icmp .lt 11, 3) := by decide +kernel
theorem dX9_from_17 : decode cX9_from 17 = .ok (.aload_n 0, 1) := by decide +kernel
theorem dX9_from_18 : decode cX9_from 18 = .ok (.iconst 1, 1) := by decide +kernel
theorem dX9_from_19 : decode cX9_from 19 = .ok (.invokevirtual 139, 3) := by decide +kernel
theorem dX9_from_22 : decode cX9_from 22 = .ok (.goto 9, 3) := by decide +kernel
theorem dX9_from_25 : decode cX9_from 25 = .ok (.aload_n 0, 1) := by decide +kernel
theorem dX9_from_26 : decode cX9_from 26 = .ok (.getfield 39, 3) := by decide +kernel
theorem dX9_from_29 : decode cX9_from 29 = .ok (.iload_n 1, 1) := by decide +kernel
theorem dX9_from_30 : decode cX9_from 30 = .ok (.iaload, 1) := by decide +kernel
theorem dX9_from_31 : decode cX9_from 31 = .ok (.ireturn, 1) := by decide +kernel
set_option maxRecDepth 20000 in
theorem ggX9_depends_X9_fail : GoodIn wsX9_depends wsX9_fail := goodIn_r _ [7, 1, 38, 39, 40, 41, 42, 43, 44, 45, 46, 47, 48, 49, 50, 51, 52, 53, 54, 55, 56, 57, 58, 59, 60, 61, 62, 63] (by decide +kernel) (by decide +kernel)
set_option maxRecDepth 20000 in
theorem gX9_depends_X9_fail : GoodIn wsX9_depends (wsV RX9 139 RX9 yX9_fail wsX9_fail) := goodIn_app (goodIn_of _ (by decide +kernel)) ggX9_depends_X9_fail
set_option maxRecDepth 20000 in
theorem ggX9_depends_X9_after : GoodIn wsX9_depends wsX9_after := goodIn_r _ [11, 12, 13, 14, 15, 16, 17, 18, 19, 20, 6, 21, 22, 23, 24, 25, 26, 27, 28, 29, 30, 31, 32, 33, 34, 35, 36, 37, 38, 39, 40, 41, 42, 43, 44, 45, 46, 47, 48, 49, 50, 51, 52, 53, 54, 55, 56, 57, 58, 59, 60, 61, 62, 63] (by decide +kernel) (by decide +kernel)
set_option maxRecDepth 20000 in
theorem gX9_depends_X9_after : GoodIn wsX9_depends (wsV RX9 165 RX9 yX9_after wsX9_after) := goodIn_app (goodIn_of _ (by decide +kernel)) ggX9_depends_X9_after
theorem dX9_depends_0 : decode cX9_depends 0 = .ok (.aload_n 0, 1) := by decide +kernel
theorem dX9_depends_1 : decode cX9_depends 1 = .ok (.iconst 0, 1) := by decide +kernel
theorem dX9_depends_2 : decode cX9_depends 2 = .ok (.putfield 54, 3) := by decide +kernel
theorem dX9_depends_5 : decode cX9_depends 5 = .ok (.iload_n 1, 1) := by decide +kernel
theorem dX9_depends_6 : decode cX9_depends 6 = .ok (.ifCond .lt 23, 3) := by decide +kernel
theorem dX9_depends_9 : decode cX9_depends 9 = .ok (.iload_n 1, 1) := by decide +kernel
end
section
theorem dX9_depends_10 : decode cX9_depends 10 = .ok (.aload_n 0, 1) := by decide +kernel
theorem dX9_depends_11 : decode cX9_depends 11 = .ok (.getfield 148, 3) := by decide +kernel
theorem dX9_depends_14 : decode cX9_depends 14 = .ok (.if_icmp .ge 15, 3) := by decide +kernel
theorem dX9_depends_17 : decode cX9_depends 17 = .ok (.iload_n 2, 1) := by decide +kernel
theorem dX9_depends_18 : decode cX9_depends 18 = .ok (.ifCond .lt 11, 3) := by decide +kernel
theorem dX9_depends_21 : decode cX9_depends 21 = .ok (.iload_n 2, 1) := by decide +kernel
theorem dX9_depends_22 : decode cX9_depends 22 = .ok (.aload_n 0, 1) := by decide +kernel
theorem dX9_depends_23 : decode cX9_depends 23 = .ok (.getfield 148, 3) := by decide +kernel
theorem dX9_depends_26 : decode cX9_depends 26 = .ok (.if_icmp .lt 9, 3) := by decide +kernel
theorem dX9_depends_29 : decode cX9_depends 29 = .ok (.aload_n 0, 1) := by decide +kernel
theorem dX9_depends_30 : decode cX9_depends 30 = .ok (.iconst 1, 1) := by decide +kernel
theorem dX9_depends_31 : decode cX9_depends 31 = .ok (.invokevirtual 139, 3) := by decide +kernel
theorem dX9_depends_34 : decode cX9_depends 34 = .ok (.ireturn, 1) := by decide +kernel
theorem dX9_depends_35 : decode cX9_depends 35 = .ok (.iload_n 2, 1) := by decide +kernel
theorem dX9_depends_36 : decode cX9_depends 36 = .ok (.iload_n 1, 1) := by decide +kernel
theorem dX9_depends_37 : decode cX9_depends 37 = .ok (.if_icmp .ge 12, 3) := by decide +kernel
theorem dX9_depends_40 : decode cX9_depends 40 = .ok (.aload_n 0, 1) := by decide +kernel
theorem dX9_depends_41 : decode cX9_depends 41 = .ok (.iload_n 1, 1) := by decide +kernel
theorem dX9_depends_42 : decode cX9_depends 42 = .ok (.iload_n 2, 1) := by decide +kernel
theorem dX9_depends_43 : decode cX9_depends 43 = .ok (.invokevirtual 165, 3) := by decide +kernel
theorem dX9_depends_46 : decode cX9_depends 46 = .ok (.goto 4, 3) := by decide +kernel
theorem dX9_depends_49 : decode cX9_depends 49 = .ok (.iconst (-1), 1) := by decide +kernel
theorem dX9_depends_50 : decode cX9_depends 50 = .ok (.ireturn, 1) := by decide +kernel
set_option maxRecDepth 20000 in
theorem ggX9_height_X9_fail : GoodIn wsX9_height wsX9_fail := goodIn_r _ [8, 1, 43, 44, 45, 46, 47, 48, 49, 50, 51, 52, 53, 54, 55, 56, 57, 58, 59, 60, 61, 62, 63, 64, 65, 66, 67, 68] (by decide +kernel) (by decide +kernel)
set_option maxRecDepth 20000 in
theorem gX9_height_X9_fail : GoodIn wsX9_height (wsV RX9 139 RX9 yX9_fail wsX9_fail) := goodIn_app (goodIn_of _ (by decide +kernel)) ggX9_height_X9_fail
set_option maxRecDepth 20000 in
theorem ggX9_height_X9_findHeights : GoodIn wsX9_height wsX9_findHeights := goodIn_r _ [12, 2, 3, 13, 14, 15, 16, 17, 7, 18, 19, 20, 21, 22, 23, 24, 25, 26, 27, 28, 29, 30, 31, 32, 33, 34, 35, 36, 37, 38, 39, 40, 41, 42, 43, 44, 45, 46, 47, 48, 49, 50, 51, 52, 53, 54, 55, 56, 57, 58, 59, 60, 61, 62, 63, 64, 65, 66, 67, 68] (by decide +kernel) (by decide +kernel)
set_option maxRecDepth 20000 in
theorem gX9_height_X9_findHeights : GoodIn wsX9_height (wsV RX9 169 RX9 yX9_findHeights wsX9_findHeights) := goodIn_app (goodIn_of _ (by decide +kernel)) ggX9_height_X9_findHeights
theorem dX9_height_0 : decode cX9_height 0 = .ok (.aload_n 0, 1) := by decide +kernel
theorem dX9_height_1 : decode cX9_height 1 = .ok (.iconst 0, 1) := by decide +kernel
theorem dX9_height_2 : decode cX9_height 2 = .ok (.putfield 54, 3) := by decide +kernel
theorem dX9_height_5 : decode cX9_height 5 = .ok (.iload_n 1, 1) := by decide +kernel
theorem dX9_height_6 : decode cX9_height 6 = .ok (.ifCond .lt 11, 3) := by decide +kernel
theorem dX9_height_9 : decode cX9_height 9 = .ok (.iload_n 1, 1) := by decide +kernel
theorem dX9_height_10 : decode cX9_height 10 = .ok (.aload_n 0, 1) := by decide +kernel
theorem dX9_height_11 : decode cX9_height 11 = .ok (.getfield 148, 3) := by decide +kernel
theorem dX9_height_14 : decode cX9_height 14 = .ok (.if_icmp .lt 9, 3) := by decide +kernel
theorem dX9_height_17 : decode cX9_height 17 = .ok (.aload_n 0, 1) := by decide +kernel
theorem dX9_height_18 : decode cX9_height 18 = .ok (.iconst 1, 1) := by decide +kernel
theorem dX9_height_19 : decode cX9_height 19 = .ok (.invokevirtual 139, 3) := by decide +kernel
theorem dX9_height_22 : decode cX9_height 22 = .ok (.ireturn, 1) := by decide +kernel
theorem dX9_height_23 : decode cX9_height 23 = .ok (.aload_n 0, 1) := by decide +kernel
theorem dX9_height_24 : decode cX9_height 24 = .ok (.invokevirtual 169, 3) := by decide +kernel
theorem dX9_height_27 : decode cX9_height 27 = .ok (.aload_n 0, 1) := by decide +kernel
theorem dX9_height_28 : decode cX9_height 28 = .ok (.getfield 42, 3) := by decide +kernel
theorem dX9_height_31 : decode cX9_height 31 = .ok (.iload_n 1, 1) := by decide +kernel
theorem dX9_height_32 : decode cX9_height 32 = .ok (.iaload, 1) := by decide +kernel
theorem dX9_height_33 : decode cX9_height 33 = .ok (.ireturn, 1) := by decide +kernel
theorem dX9_cycles_0 : decode cX9_cycles 0 = .ok (.aload_n 0, 1) := by decide +kernel
theorem dX9_cycles_1 : decode cX9_cycles 1 = .ok (.iconst 0, 1) := by decide +kernel
theorem dX9_cycles_2 : decode cX9_cycles 2 = .ok (.putfield 54, 3) := by decide +kernel
theorem dX9_cycles_5 : decode cX9_cycles 5 = .ok (.aload_n 0, 1) := by decide +kernel
theorem dX9_cycles_6 : decode cX9_cycles 6 = .ok (.getfield 190, 3) := by decide +kernel
theorem dX9_cycles_9 : decode cX9_cycles 9 = .ok (.ireturn, 1) := by decide +kernel
set_option maxRecDepth 20000 in
theorem ggX9_count_X9_isBranch : GoodIn wsX9_count wsX9_isBranch := goodIn_r _ [10, 11, 12, 13, 14, 9, 15, 16, 17, 18, 19, 20, 21, 22, 23, 24, 25, 26, 27, 28, 29, 30, 31, 32, 33, 34, 35, 36, 37, 38, 39, 40, 41, 42, 43, 44, 45, 46, 47, 48, 49, 50, 51, 52, 53, 54, 55, 56, 57, 58, 59, 60, 61, 62, 63, 64, 65, 66, 67, 68, 69, 70, 71, 72, 73, 74, 75, 76, 77, 78, 79, 80, 81, 82, 83, 84, 85, 86, 87, 88, 89, 90, 91, 92, 93, 94, 95, 96, 97, 98, 99, 100, 101, 102, 103, 104, 105, 106, 107, 108, 109, 110, 111] (by decide +kernel) (by decide +kernel)
set_option maxRecDepth 20000 in
theorem gX9_count_X9_isBranch : GoodIn wsX9_count (wsV RX9 193 RX9 yX9_isBranch wsX9_isBranch) := goodIn_app (goodIn_of _ (by decide +kernel)) ggX9_count_X9_isBranch
theorem dX9_count_0 : decode cX9_count 0 = .ok (.aload_n 0, 1) := by decide +kernel
theorem dX9_count_1 : decode cX9_count 1 = .ok (.iconst 0, 1) := by decide +kernel
theorem dX9_count_2 : decode cX9_count 2 = .ok (.putfield 54, 3) := by decide +kernel
theorem dX9_count_5 : decode cX9_count 5 = .ok (.iload_n 1, 1) := by decide +kernel
theorem dX9_count_6 : decode cX9_count 6 = .ok (.ifCond .lt 8, 3) := by decide +kernel
theorem dX9_count_9 : decode cX9_count 9 = .ok (.iload_n 1, 1) := by decide +kernel
theorem dX9_count_10 : decode cX9_count 10 = .ok (.iconst 3, 1) := by decide +kernel
theorem dX9_count_11 : decode cX9_count 11 = .ok (.if_icmp .le 5, 3) := by decide +kernel
theorem dX9_count_14 : decode cX9_count 14 = .ok (.iconst (-1), 1) := by decide +kernel
theorem dX9_count_15 : decode cX9_count 15 = .ok (.ireturn, 1) := by decide +kernel
theorem dX9_count_16 : decode cX9_count 16 = .ok (.iconst 0, 1) := by decide +kernel
theorem dX9_count_17 : decode cX9_count 17 = .ok (.istore_n 2, 1) := by decide +kernel
theorem dX9_count_18 : decode cX9_count 18 = .ok (.iconst 0, 1) := by decide +kernel
theorem dX9_count_19 : decode cX9_count 19 = .ok (.istore_n 3, 1) := by decide +kernel
theorem dX9_count_20 : decode cX9_count 20 = .ok (.iload_n 3, 1) := by decide +kernel
theorem dX9_count_21 : decode cX9_count 21 = .ok (.aload_n 0, 1) := by decide +kernel
theorem dX9_count_22 : decode cX9_count 22 = .ok (.getfield 181, 3) := by decide +kernel
theorem dX9_count_25 : decode cX9_count 25 = .ok (.if_icmp .ge 27, 3) := by decide +kernel
theorem dX9_count_28 : decode cX9_count 28 = .ok (.iload_n 2, 1) := by decide +kernel
theorem dX9_count_29 : decode cX9_count 29 = .ok (.aload_n 0, 1) := by decide +kernel
theorem dX9_count_30 : decode cX9_count 30 = .ok (.getfield 39, 3) := by decide +kernel
theorem dX9_count_33 : decode cX9_count 33 = .ok (.iload_n 3, 1) := by decide +kernel
theorem dX9_count_34 : decode cX9_count 34 = .ok (.iaload, 1) := by decide +kernel
theorem dX9_count_35 : decode cX9_count 35 = .ok (.iconst (-1), 1) := by decide +kernel
theorem dX9_count_36 : decode cX9_count 36 = .ok (.if_icmp .ne 7, 3) := by decide +kernel
theorem dX9_count_39 : decode cX9_count 39 = .ok (.iconst 1, 1) := by decide +kernel
theorem dX9_count_40 : decode cX9_count 40 = .ok (.goto 4, 3) := by decide +kernel
theorem dX9_count_43 : decode cX9_count 43 = .ok (.iconst 0, 1) := by decide +kernel
theorem dX9_count_44 : decode cX9_count 44 = .ok (.iadd, 1) := by decide +kernel
theorem dX9_count_45 : decode cX9_count 45 = .ok (.istore_n 2, 1) := by decide +kernel
theorem dX9_count_46 : decode cX9_count 46 = .ok (.iinc 3 1, 3) := by decide +kernel
theorem dX9_count_49 : decode cX9_count 49 = .ok (.goto (-29), 3) := by decide +kernel
theorem dX9_count_52 : decode cX9_count 52 = .ok (.aload_n 0, 1) := by decide +kernel
theorem dX9_count_53 : decode cX9_count 53 = .ok (.getfield 181, 3) := by decide +kernel
theorem dX9_count_56 : decode cX9_count 56 = .ok (.iconst 1, 1) := by decide +kernel
theorem dX9_count_57 : decode cX9_count 57 = .ok (.if_icmp .le 40, 3) := by decide +kernel
theorem dX9_count_60 : decode cX9_count 60 = .ok (.aload_n 0, 1) := by decide +kernel
theorem dX9_count_61 : decode cX9_count 61 = .ok (.getfield 39, 3) := by decide +kernel
theorem dX9_count_64 : decode cX9_count 64 = .ok (.aload_n 0, 1) := by decide +kernel
theorem dX9_count_65 : decode cX9_count 65 = .ok (.getfield 181, 3) := by decide +kernel
theorem dX9_count_68 : decode cX9_count 68 = .ok (.iconst 1, 1) := by decide +kernel
theorem dX9_count_69 : decode cX9_count 69 = .ok (.isub, 1) := by decide +kernel
theorem dX9_count_70 : decode cX9_count 70 = .ok (.iaload, 1) := by decide +kernel
theorem dX9_count_71 : decode cX9_count 71 = .ok (.iconst (-1), 1) := by decide +kernel
theorem dX9_count_72 : decode cX9_count 72 = .ok (.if_icmp .eq 25, 3) := by decide +kernel
theorem dX9_count_75 : decode cX9_count 75 = .ok (.aload_n 0, 1) := by decide +kernel
theorem dX9_count_76 : decode cX9_count 76 = .ok (.aload_n 0, 1) := by decide +kernel
theorem dX9_count_77 : decode cX9_count 77 = .ok (.getfield 36, 3) := by decide +kernel
theorem dX9_count_80 : decode cX9_count 80 = .ok (.aload_n 0, 1) := by decide +kernel
theorem dX9_count_81 : decode cX9_count 81 = .ok (.getfield 181, 3) := by decide +kernel
theorem dX9_count_84 : decode cX9_count 84 = .ok (.iconst 2, 1) := by decide +kernel
theorem dX9_count_85 : decode cX9_count 85 = .ok (.isub, 1) := by decide +kernel
theorem dX9_count_86 : decode cX9_count 86 = .ok (.iaload, 1) := by decide +kernel
theorem dX9_count_87 : decode cX9_count 87 = .ok (.invokevirtual 193, 3) := by decide +kernel
theorem dX9_count_90 : decode cX9_count 90 = .ok (.ifCond .eq 7, 3) := by decide +kernel
theorem dX9_count_93 : decode cX9_count 93 = .ok (.iconst 1, 1) := by decide +kernel
theorem dX9_count_94 : decode cX9_count 94 = .ok (.goto 4, 3) := by decide +kernel
theorem dX9_count_97 : decode cX9_count 97 = .ok (.iconst 0, 1) := by decide +kernel
theorem dX9_count_98 : decode cX9_count 98 = .ok (.istore_n 3, 1) := by decide +kernel
theorem dX9_count_99 : decode cX9_count 99 = .ok (.iload_n 1, 1) := by decide +kernel
theorem dX9_count_100 : decode cX9_count 100 = .ok (.ifCond .ne 10, 3) := by decide +kernel
theorem dX9_count_103 : decode cX9_count 103 = .ok (.aload_n 0, 1) := by decide +kernel
theorem dX9_count_104 : decode cX9_count 104 = .ok (.getfield 148, 3) := by decide +kernel
theorem dX9_count_107 : decode cX9_count 107 = .ok (.goto 33, 3) := by decide +kernel
theorem dX9_count_110 : decode cX9_count 110 = .ok (.iload_n 1, 1) := by decide +kernel
theorem dX9_count_111 : decode cX9_count 111 = .ok (.iconst 1, 1) := by decide +kernel
theorem dX9_count_112 : decode cX9_count 112 = .ok (.if_icmp .ne 10, 3) := by decide +kernel
theorem dX9_count_115 : decode cX9_count 115 = .ok (.aload_n 0, 1) := by decide +kernel
theorem dX9_count_116 : decode cX9_count 116 = .ok (.getfield 181, 3) := by decide +kernel
theorem dX9_count_119 : decode cX9_count 119 = .ok (.goto 21, 3) := by decide +kernel
theorem dX9_count_122 : decode cX9_count 122 = .ok (.iload_n 1, 1) := by decide +kernel
theorem dX9_count_123 : decode cX9_count 123 = .ok (.iconst 2, 1) := by decide +kernel
theorem dX9_count_124 : decode cX9_count 124 = .ok (.if_icmp .ne 7, 3) := by decide +kernel
theorem dX9_count_127 : decode cX9_count 127 = .ok (.iload_n 2, 1) := by decide +kernel
theorem dX9_count_128 : decode cX9_count 128 = .ok (.goto 12, 3) := by decide +kernel
theorem dX9_count_131 : decode cX9_count 131 = .ok (.iload_n 3, 1) := by decide +kernel
theorem dX9_count_132 : decode cX9_count 132 = .ok (.ifCond .eq 7, 3) := by decide +kernel
theorem dX9_count_135 : decode cX9_count 135 = .ok (.iconst 1, 1) := by decide +kernel
theorem dX9_count_136 : decode cX9_count 136 = .ok (.goto 4, 3) := by decide +kernel
theorem dX9_count_139 : decode cX9_count 139 = .ok (.iconst 0, 1) := by decide +kernel
theorem dX9_count_140 : decode cX9_count 140 = .ok (.ireturn, 1) := by decide +kernel
set_option maxRecDepth 20000 in
theorem ggX9_isBranch_X9_look : GoodIn wsX9_isBranch wsX9_look := goodIn_r _ [6, 7, 1, 8, 9, 10, 11, 12, 13, 5, 14, 15, 16, 17, 18, 19, 20, 21, 22, 23, 24, 25, 26, 27, 28, 29, 30, 31, 32, 33, 34, 35, 36, 37, 38, 39, 40, 41, 42, 43, 44, 45, 46, 47, 48, 49, 50, 51, 52, 53, 54, 55, 56, 57, 58, 59, 60, 61, 62, 63, 64, 65, 66, 67, 68, 69, 70, 71, 72, 73, 74, 75, 76, 77, 78, 79, 80, 81, 82, 83, 84, 85, 86, 87, 88, 89, 90, 91, 92, 93, 94, 95, 96, 97, 98, 99, 100, 101, 102] (by decide +kernel) (by decide +kernel)
set_option maxRecDepth 20000 in
theorem gX9_isBranch_X9_look : GoodIn wsX9_isBranch (wsV RX9 142 RX9 yX9_look wsX9_look) := goodIn_app (goodIn_of _ (by decide +kernel)) ggX9_isBranch_X9_look
theorem dX9_isBranch_0 : decode cX9_isBranch 0 = .ok (.aload_n 0, 1) := by decide +kernel
theorem dX9_isBranch_1 : decode cX9_isBranch 1 = .ok (.iload_n 1, 1) := by decide +kernel
theorem dX9_isBranch_2 : decode cX9_isBranch 2 = .ok (.invokevirtual 142, 3) := by decide +kernel
theorem dX9_isBranch_5 : decode cX9_isBranch 5 = .ok (.aload_n 0, 1) := by decide +kernel
theorem dX9_isBranch_6 : decode cX9_isBranch 6 = .ok (.getfield 69, 3) := by decide +kernel
theorem dX9_isBranch_9 : decode cX9_isBranch 9 = .ok (.bipush 7, 2) := by decide +kernel
theorem dX9_isBranch_11 : decode cX9_isBranch 11 = .ok (.if_icmp .ne 7, 3) := by decide +kernel
theorem dX9_isBranch_14 : decode cX9_isBranch 14 = .ok (.iconst 1, 1) := by decide +kernel
theorem dX9_isBranch_15 : decode cX9_isBranch 15 = .ok (.goto 4, 3) := by decide +kernel
theorem dX9_isBranch_18 : decode cX9_isBranch 18 = .ok (.iconst 0, 1) := by decide +kernel
theorem dX9_isBranch_19 : decode cX9_isBranch 19 = .ok (.ireturn, 1) := by decide +kernel
theorem dJ9_max_7cf53_0 : decode cJ9_max_7cf53 0 = .ok (.iload_n 0, 1) := by decide +kernel
theorem dJ9_max_7cf53_1 : decode cJ9_max_7cf53 1 = .ok (.iload_n 1, 1) := by decide +kernel
theorem dJ9_max_7cf53_2 : decode cJ9_max_7cf53 2 = .ok (.if_icmp .lt 7, 3) := by decide +kernel
theorem dJ9_max_7cf53_5 : decode cJ9_max_7cf53 5 = .ok (.iload_n 0, 1) := by decide +kernel
theorem dJ9_max_7cf53_6 : decode cJ9_max_7cf53 6 = .ok (.goto 4, 3) := by decide +kernel
theorem dJ9_max_7cf53_9 : decode cJ9_max_7cf53 9 = .ok (.iload_n 1, 1) := by decide +kernel
theorem dJ9_max_7cf53_10 : decode cJ9_max_7cf53 10 = .ok (.ireturn, 1) := by decide +kernel
set_option maxRecDepth 20000 in
theorem ggL_latency_X8_latency : GoodIn wsL_latency wsX8_latency := goodIn_ca (goodIn_r _ [6, 7, 8, 9, 10, 11, 12, 13, 14, 15, 16, 17, 18, 19, 20, 21, 22, 23, 24, 25, 26, 27, 28, 29] (by decide +kernel) (by decide +kernel)) (goodIn_sub (fun _ h => List.mem_cons_of_mem _ (List.mem_append_right _ h)) (by decide +kernel))
set_option maxRecDepth 20000 in
theorem gL_latency_X8_latency : GoodIn wsL_latency (wsV RL 7 RX8 yX8_latency wsX8_latency) := goodIn_app (goodIn_of _ (by decide +kernel)) ggL_latency_X8_latency
theorem dL_latency_0 : decode cL_latency 0 = .ok (.aload_n 3, 1) := by decide +kernel
theorem dL_latency_1 : decode cL_latency 1 = .ok (.iconst 0, 1) := by decide +kernel
theorem dL_latency_2 : decode cL_latency 2 = .ok (.aload_n 0, 1) := by decide +kernel
theorem dL_latency_3 : decode cL_latency 3 = .ok (.iload_n 1, 1) := by decide +kernel
theorem dL_latency_4 : decode cL_latency 4 = .ok (.iload_n 2, 1) := by decide +kernel
theorem dL_latency_5 : decode cL_latency 5 = .ok (.invokevirtual 7, 3) := by decide +kernel
theorem dL_latency_8 : decode cL_latency 8 = .ok (.i2l, 1) := by decide +kernel
theorem dL_latency_9 : decode cL_latency 9 = .ok (.lastore, 1) := by decide +kernel
theorem dL_latency_10 : decode cL_latency 10 = .ok (.goto 7, 3) := by decide +kernel
theorem dL_latency_13 : decode cL_latency 13 = .ok (.astore 4, 2) := by decide +kernel
theorem dL_latency_15 : decode cL_latency 15 = .ok (.iconst 1, 1) := by decide +kernel
theorem dL_latency_16 : decode cL_latency 16 = .ok (.ireturn, 1) := by decide +kernel
theorem dL_latency_17 : decode cL_latency 17 = .ok (.iconst 0, 1) := by decide +kernel
theorem dL_latency_18 : decode cL_latency 18 = .ok (.ireturn, 1) := by decide +kernel
set_option maxRecDepth 20000 in
theorem ggL_add_X8_add : GoodIn wsL_add wsX8_add := goodIn_ca (goodIn_ca (goodIn_r _ [7, 8, 9, 10, 11, 12, 13, 14, 15, 16, 17, 18, 19, 20, 21, 22, 23, 24, 25, 26, 27, 28, 29, 30, 31, 32, 33, 34, 35, 36, 37, 38, 39, 40, 41, 42, 43, 44, 45, 46, 47, 48, 49, 50, 51, 52, 53, 54, 55, 56, 57, 58, 59, 60, 61, 62, 63, 64, 65, 66, 67, 68, 69, 70, 71, 72, 73, 74, 75, 76, 77, 78, 79, 80, 81, 82, 83, 84, 85, 86, 87, 88, 89, 90, 91, 92, 93, 94, 95, 96, 97, 98, 99, 100, 101, 102, 103, 104, 105, 106, 107, 108, 109, 110, 111, 112, 113, 114, 115, 116, 117, 118, 119, 120, 121, 122, 123, 124, 125, 126, 127, 128, 129, 130, 131, 132, 133, 134, 135, 136, 137, 138, 139, 140, 141, 142, 143, 144, 145, 146, 147, 148, 149, 150, 151, 152, 153, 154, 155, 156, 157, 158, 159, 160, 161, 162, 163, 164, 165, 166, 167, 168, 169, 170, 171, 172, 173, 174, 175, 176, 177, 178, 179, 180, 181, 182, 183, 184, 185, 186, 187, 188, 189, 190, 191, 192, 193, 194, 195, 196, 197, 198, 199, 200, 201, 202, 203, 204, 205, 206, 207, 208, 209, 210, 211, 212, 213, 214, 215, 216, 217, 218, 219, 220, 221, 222, 223, 224, 225, 226, 227] (by decide +kernel) (by decide +kernel)) (goodIn_sub (fun _ h => List.mem_cons_of_mem _ (List.mem_append_left _ (List.mem_append_right _ h))) (by decide +kernel))) (goodIn_sub (fun _ h => List.mem_cons_of_mem _ (List.mem_append_right _ h)) (by decide +kernel))
set_option maxRecDepth 20000 in
theorem gL_add_X8_add : GoodIn wsL_add (wsV RL 15 RX8 yX8_add wsX8_add) := goodIn_app (goodIn_of _ (by decide +kernel)) ggL_add_X8_add
theorem dL_add_0 : decode cL_add 0 = .ok (.aload_n 2, 1) := by decide +kernel
theorem dL_add_1 : decode cL_add 1 = .ok (.iconst 0, 1) := by decide +kernel
theorem dL_add_2 : decode cL_add 2 = .ok (.aload_n 0, 1) := by decide +kernel
theorem dL_add_3 : decode cL_add 3 = .ok (.iload_n 1, 1) := by decide +kernel
theorem dL_add_4 : decode cL_add 4 = .ok (.invokevirtual 15, 3) := by decide +kernel
theorem dL_add_7 : decode cL_add 7 = .ok (.i2l, 1) := by decide +kernel
theorem dL_add_8 : decode cL_add 8 = .ok (.lastore, 1) := by decide +kernel
theorem dL_add_9 : decode cL_add 9 = .ok (.goto 9, 3) := by decide +kernel
theorem dL_add_12 : decode cL_add 12 = .ok (.astore_n 3, 1) := by decide +kernel
theorem dL_add_13 : decode cL_add 13 = .ok (.iconst 1, 1) := by decide +kernel
theorem dL_add_14 : decode cL_add 14 = .ok (.ireturn, 1) := by decide +kernel
theorem dL_add_15 : decode cL_add 15 = .ok (.astore_n 3, 1) := by decide +kernel
theorem dL_add_16 : decode cL_add 16 = .ok (.iconst 2, 1) := by decide +kernel
theorem dL_add_17 : decode cL_add 17 = .ok (.ireturn, 1) := by decide +kernel
theorem dL_add_18 : decode cL_add 18 = .ok (.iconst 0, 1) := by decide +kernel
theorem dL_add_19 : decode cL_add 19 = .ok (.ireturn, 1) := by decide +kernel
set_option maxRecDepth 20000 in
theorem ggL_word_X8_word : GoodIn wsL_word wsX8_word := goodIn_ca (goodIn_r _ [6, 7, 8, 9, 10, 11, 12, 13, 14, 15, 16, 17, 18, 19, 20, 21, 22] (by decide +kernel) (by decide +kernel)) (goodIn_sub (fun _ h => List.mem_cons_of_mem _ (List.mem_append_right _ h)) (by decide +kernel))
set_option maxRecDepth 20000 in
theorem gL_word_X8_word : GoodIn wsL_word (wsV RL 21 RX8 yX8_word wsX8_word) := goodIn_app (goodIn_of _ (by decide +kernel)) ggL_word_X8_word
theorem dL_word_0 : decode cL_word 0 = .ok (.aload_n 2, 1) := by decide +kernel
theorem dL_word_1 : decode cL_word 1 = .ok (.iconst 0, 1) := by decide +kernel
theorem dL_word_2 : decode cL_word 2 = .ok (.aload_n 0, 1) := by decide +kernel
theorem dL_word_3 : decode cL_word 3 = .ok (.iload_n 1, 1) := by decide +kernel
theorem dL_word_4 : decode cL_word 4 = .ok (.invokevirtual 21, 3) := by decide +kernel
theorem dL_word_7 : decode cL_word 7 = .ok (.i2l, 1) := by decide +kernel
theorem dL_word_8 : decode cL_word 8 = .ok (.lastore, 1) := by decide +kernel
theorem dL_word_9 : decode cL_word 9 = .ok (.goto 6, 3) := by decide +kernel
theorem dL_word_12 : decode cL_word 12 = .ok (.astore_n 3, 1) := by decide +kernel
theorem dL_word_13 : decode cL_word 13 = .ok (.iconst 1, 1) := by decide +kernel
theorem dL_word_14 : decode cL_word 14 = .ok (.ireturn, 1) := by decide +kernel
theorem dL_word_15 : decode cL_word 15 = .ok (.iconst 0, 1) := by decide +kernel
theorem dL_word_16 : decode cL_word 16 = .ok (.ireturn, 1) := by decide +kernel
set_option maxRecDepth 20000 in
theorem ggL_from_X8_from : GoodIn wsL_from wsX8_from := goodIn_ca (goodIn_r _ [6, 7, 8, 9, 10, 11, 12, 13, 14, 15, 16, 17, 18, 19, 20, 21, 22] (by decide +kernel) (by decide +kernel)) (goodIn_sub (fun _ h => List.mem_cons_of_mem _ (List.mem_append_right _ h)) (by decide +kernel))
set_option maxRecDepth 20000 in
theorem gL_from_X8_from : GoodIn wsL_from (wsV RL 26 RX8 yX8_from wsX8_from) := goodIn_app (goodIn_of _ (by decide +kernel)) ggL_from_X8_from
theorem dL_from_0 : decode cL_from 0 = .ok (.aload_n 2, 1) := by decide +kernel
theorem dL_from_1 : decode cL_from 1 = .ok (.iconst 0, 1) := by decide +kernel
theorem dL_from_2 : decode cL_from 2 = .ok (.aload_n 0, 1) := by decide +kernel
theorem dL_from_3 : decode cL_from 3 = .ok (.iload_n 1, 1) := by decide +kernel
theorem dL_from_4 : decode cL_from 4 = .ok (.invokevirtual 26, 3) := by decide +kernel
theorem dL_from_7 : decode cL_from 7 = .ok (.i2l, 1) := by decide +kernel
theorem dL_from_8 : decode cL_from 8 = .ok (.lastore, 1) := by decide +kernel
theorem dL_from_9 : decode cL_from 9 = .ok (.goto 6, 3) := by decide +kernel
theorem dL_from_12 : decode cL_from 12 = .ok (.astore_n 3, 1) := by decide +kernel
theorem dL_from_13 : decode cL_from 13 = .ok (.iconst 1, 1) := by decide +kernel
theorem dL_from_14 : decode cL_from 14 = .ok (.ireturn, 1) := by decide +kernel
theorem dL_from_15 : decode cL_from 15 = .ok (.iconst 0, 1) := by decide +kernel
theorem dL_from_16 : decode cL_from 16 = .ok (.ireturn, 1) := by decide +kernel
set_option maxRecDepth 20000 in
theorem ggL_depends_X8_depends : GoodIn wsL_depends wsX8_depends := goodIn_ca (goodIn_r _ [6, 7, 8, 9, 10, 11, 12, 13, 14, 15, 16, 17, 18, 19, 20, 21, 22, 23, 24, 25, 26, 27, 28, 29, 30, 31, 32, 33, 34, 35, 36, 37, 38, 39, 40, 41, 42, 43, 44, 45, 46, 47, 48, 49, 50, 51, 52, 53, 54, 55, 56, 57, 58, 59, 60, 61, 62, 63, 64, 65, 66, 67, 68, 69, 70, 71] (by decide +kernel) (by decide +kernel)) (goodIn_sub (fun _ h => List.mem_cons_of_mem _ (List.mem_append_right _ h)) (by decide +kernel))
set_option maxRecDepth 20000 in
theorem gL_depends_X8_depends : GoodIn wsL_depends (wsV RL 29 RX8 yX8_depends wsX8_depends) := goodIn_app (goodIn_of _ (by decide +kernel)) ggL_depends_X8_depends
theorem dL_depends_0 : decode cL_depends 0 = .ok (.aload_n 3, 1) := by decide +kernel
theorem dL_depends_1 : decode cL_depends 1 = .ok (.iconst 0, 1) := by decide +kernel
theorem dL_depends_2 : decode cL_depends 2 = .ok (.aload_n 0, 1) := by decide +kernel
theorem dL_depends_3 : decode cL_depends 3 = .ok (.iload_n 1, 1) := by decide +kernel
theorem dL_depends_4 : decode cL_depends 4 = .ok (.iload_n 2, 1) := by decide +kernel
theorem dL_depends_5 : decode cL_depends 5 = .ok (.invokevirtual 29, 3) := by decide +kernel
theorem dL_depends_8 : decode cL_depends 8 = .ok (.i2l, 1) := by decide +kernel
theorem dL_depends_9 : decode cL_depends 9 = .ok (.lastore, 1) := by decide +kernel
theorem dL_depends_10 : decode cL_depends 10 = .ok (.goto 7, 3) := by decide +kernel
theorem dL_depends_13 : decode cL_depends 13 = .ok (.astore 4, 2) := by decide +kernel
theorem dL_depends_15 : decode cL_depends 15 = .ok (.iconst 1, 1) := by decide +kernel
theorem dL_depends_16 : decode cL_depends 16 = .ok (.ireturn, 1) := by decide +kernel
theorem dL_depends_17 : decode cL_depends 17 = .ok (.iconst 0, 1) := by decide +kernel
theorem dL_depends_18 : decode cL_depends 18 = .ok (.ireturn, 1) := by decide +kernel
set_option maxRecDepth 20000 in
theorem ggL_height_X8_height : GoodIn wsL_height wsX8_height := goodIn_ca (goodIn_r _ [6, 7, 8, 9, 10, 11, 12, 13, 14, 15, 16, 17, 18, 19, 20, 21, 22, 23, 24, 25, 26, 27, 28, 29, 30, 31, 32, 33, 34, 35, 36, 37, 38, 39, 40, 41, 42, 43, 44, 45, 46, 47, 48, 49, 50, 51, 52, 53, 54, 55, 56, 57, 58, 59, 60, 61, 62, 63, 64, 65, 66, 67, 68, 69, 70, 71, 72, 73, 74, 75, 76, 77, 78] (by decide +kernel) (by decide +kernel)) (goodIn_sub (fun _ h => List.mem_cons_of_mem _ (List.mem_append_right _ h)) (by decide +kernel))
set_option maxRecDepth 20000 in
theorem gL_height_X8_height : GoodIn wsL_height (wsV RL 32 RX8 yX8_height wsX8_height) := goodIn_app (goodIn_of _ (by decide +kernel)) ggL_height_X8_height
theorem dL_height_0 : decode cL_height 0 = .ok (.aload_n 2, 1) := by decide +kernel
theorem dL_height_1 : decode cL_height 1 = .ok (.iconst 0, 1) := by decide +kernel
theorem dL_height_2 : decode cL_height 2 = .ok (.aload_n 0, 1) := by decide +kernel
theorem dL_height_3 : decode cL_height 3 = .ok (.iload_n 1, 1) := by decide +kernel
theorem dL_height_4 : decode cL_height 4 = .ok (.invokevirtual 32, 3) := by decide +kernel
theorem dL_height_7 : decode cL_height 7 = .ok (.i2l, 1) := by decide +kernel
theorem dL_height_8 : decode cL_height 8 = .ok (.lastore, 1) := by decide +kernel
theorem dL_height_9 : decode cL_height 9 = .ok (.goto 6, 3) := by decide +kernel
theorem dL_height_12 : decode cL_height 12 = .ok (.astore_n 3, 1) := by decide +kernel
theorem dL_height_13 : decode cL_height 13 = .ok (.iconst 1, 1) := by decide +kernel
theorem dL_height_14 : decode cL_height 14 = .ok (.ireturn, 1) := by decide +kernel
theorem dL_height_15 : decode cL_height 15 = .ok (.iconst 0, 1) := by decide +kernel
theorem dL_height_16 : decode cL_height 16 = .ok (.ireturn, 1) := by decide +kernel
theorem dL_law_0 : decode cL_law 0 = .ok (.new 8, 3) := by decide +kernel
theorem dL_law_3 : decode cL_law 3 = .ok (.dup, 1) := by decide +kernel
theorem dL_law_4 : decode cL_law 4 = .ok (.invokespecial 35, 3) := by decide +kernel
theorem dL_law_7 : decode cL_law 7 = .ok (.astore_n 1, 1) := by decide +kernel
theorem dL_law_8 : decode cL_law 8 = .ok (.new 36, 3) := by decide +kernel
theorem dL_law_11 : decode cL_law 11 = .ok (.dup, 1) := by decide +kernel
theorem dL_law_12 : decode cL_law 12 = .ok (.invokespecial 38, 3) := by decide +kernel
theorem dL_law_15 : decode cL_law 15 = .ok (.astore_n 2, 1) := by decide +kernel
theorem dL_law_16 : decode cL_law 16 = .ok (.iconst 1, 1) := by decide +kernel
theorem dL_law_17 : decode cL_law 17 = .ok (.newarray .long, 2) := by decide +kernel
theorem dL_law_19 : decode cL_law 19 = .ok (.astore_n 3, 1) := by decide +kernel
theorem dL_law_20 : decode cL_law 20 = .ok (.iconst 0, 1) := by decide +kernel
theorem dL_law_21 : decode cL_law 21 = .ok (.istore 4, 2) := by decide +kernel
theorem dL_law_23 : decode cL_law 23 = .ok (.iload 4, 2) := by decide +kernel
theorem dL_law_25 : decode cL_law 25 = .ok (.aload_n 0, 1) := by decide +kernel
theorem dL_law_26 : decode cL_law 26 = .ok (.arraylength, 1) := by decide +kernel
theorem dL_law_27 : decode cL_law 27 = .ok (.iconst 3, 1) := by decide +kernel
theorem dL_law_28 : decode cL_law 28 = .ok (.isub, 1) := by decide +kernel
theorem dL_law_29 : decode cL_law 29 = .ok (.if_icmp .gt 532, 3) := by decide +kernel
theorem dL_law_32 : decode cL_law 32 = .ok (.aload_n 0, 1) := by decide +kernel
theorem dL_law_33 : decode cL_law 33 = .ok (.iload 4, 2) := by decide +kernel
theorem dL_law_35 : decode cL_law 35 = .ok (.iaload, 1) := by decide +kernel
theorem dL_law_36 : decode cL_law 36 = .ok (.bipush 15, 2) := by decide +kernel
theorem dL_law_38 : decode cL_law 38 = .ok (.iand, 1) := by decide +kernel
theorem dL_law_39 : decode cL_law 39 = .ok (.tableswitch 516 0 8 #[49, 117, 173, 242, 298, 354, 422, 478, 491], 49) := by decide +kernel
theorem dL_law_88 : decode cL_law 88 = .ok (.aload_n 1, 1) := by decide +kernel
theorem dL_law_89 : decode cL_law 89 = .ok (.aload_n 0, 1) := by decide +kernel
theorem dL_law_90 : decode cL_law 90 = .ok (.iload 4, 2) := by decide +kernel
theorem dL_law_92 : decode cL_law 92 = .ok (.iconst 1, 1) := by decide +kernel
theorem dL_law_93 : decode cL_law 93 = .ok (.iadd, 1) := by decide +kernel
theorem dL_law_94 : decode cL_law 94 = .ok (.iaload, 1) := by decide +kernel
theorem dL_law_95 : decode cL_law 95 = .ok (.aload_n 0, 1) := by decide +kernel
theorem dL_law_96 : decode cL_law 96 = .ok (.iload 4, 2) := by decide +kernel
theorem dL_law_98 : decode cL_law 98 = .ok (.iconst 2, 1) := by decide +kernel
theorem dL_law_99 : decode cL_law 99 = .ok (.iadd, 1) := by decide +kernel
theorem dL_law_100 : decode cL_law 100 = .ok (.iaload, 1) := by decide +kernel
theorem dL_law_101 : decode cL_law 101 = .ok (.aload_n 3, 1) := by decide +kernel
theorem dL_law_102 : decode cL_law 102 = .ok (.invokestatic 39, 3) := by decide +kernel
theorem dL_law_105 : decode cL_law 105 = .ok (.istore 5, 2) := by decide +kernel
theorem dL_law_107 : decode cL_law 107 = .ok (.aload_n 2, 1) := by decide +kernel
theorem dL_law_108 : decode cL_law 108 = .ok (.aload_n 0, 1) := by decide +kernel
theorem dL_law_109 : decode cL_law 109 = .ok (.iload 4, 2) := by decide +kernel
theorem dL_law_111 : decode cL_law 111 = .ok (.iconst 1, 1) := by decide +kernel
theorem dL_law_112 : decode cL_law 112 = .ok (.iadd, 1) := by decide +kernel
theorem dL_law_113 : decode cL_law 113 = .ok (.iaload, 1) := by decide +kernel
theorem dL_law_114 : decode cL_law 114 = .ok (.aload_n 0, 1) := by decide +kernel
theorem dL_law_115 : decode cL_law 115 = .ok (.iload 4, 2) := by decide +kernel
theorem dL_law_117 : decode cL_law 117 = .ok (.iconst 2, 1) := by decide +kernel
theorem dL_law_118 : decode cL_law 118 = .ok (.iadd, 1) := by decide +kernel
theorem dL_law_119 : decode cL_law 119 = .ok (.iaload, 1) := by decide +kernel
theorem dL_law_120 : decode cL_law 120 = .ok (.invokevirtual 44, 3) := by decide +kernel
theorem dL_law_123 : decode cL_law 123 = .ok (.istore 6, 2) := by decide +kernel
theorem dL_law_125 : decode cL_law 125 = .ok (.aload_n 2, 1) := by decide +kernel
theorem dL_law_126 : decode cL_law 126 = .ok (.invokevirtual 45, 3) := by decide +kernel
theorem dL_law_129 : decode cL_law 129 = .ok (.iload 5, 2) := by decide +kernel
theorem dL_law_131 : decode cL_law 131 = .ok (.if_icmp .eq 5, 3) := by decide +kernel
theorem dL_law_134 : decode cL_law 134 = .ok (.iconst 0, 1) := by decide +kernel
theorem dL_law_135 : decode cL_law 135 = .ok (.ireturn, 1) := by decide +kernel
theorem dL_law_136 : decode cL_law 136 = .ok (.iload 5, 2) := by decide +kernel
theorem dL_law_138 : decode cL_law 138 = .ok (.ifCond .ne 15, 3) := by decide +kernel
theorem dL_law_141 : decode cL_law 141 = .ok (.aload_n 3, 1) := by decide +kernel
theorem dL_law_142 : decode cL_law 142 = .ok (.iconst 0, 1) := by decide +kernel
theorem dL_law_143 : decode cL_law 143 = .ok (.laload, 1) := by decide +kernel
theorem dL_law_144 : decode cL_law 144 = .ok (.iload 6, 2) := by decide +kernel
theorem dL_law_146 : decode cL_law 146 = .ok (.i2l, 1) := by decide +kernel
theorem dL_law_147 : decode cL_law 147 = .ok (.lcmp, 1) := by decide +kernel
theorem dL_law_148 : decode cL_law 148 = .ok (.ifCond .eq 5, 3) := by decide +kernel
theorem dL_law_151 : decode cL_law 151 = .ok (.iconst 0, 1) := by decide +kernel
theorem dL_law_152 : decode cL_law 152 = .ok (.ireturn, 1) := by decide +kernel
theorem dL_law_153 : decode cL_law 153 = .ok (.goto 402, 3) := by decide +kernel
theorem dL_law_156 : decode cL_law 156 = .ok (.aload_n 1, 1) := by decide +kernel
theorem dL_law_157 : decode cL_law 157 = .ok (.aload_n 0, 1) := by decide +kernel
theorem dL_law_158 : decode cL_law 158 = .ok (.iload 4, 2) := by decide +kernel
theorem dL_law_160 : decode cL_law 160 = .ok (.iconst 1, 1) := by decide +kernel
theorem dL_law_161 : decode cL_law 161 = .ok (.iadd, 1) := by decide +kernel
theorem dL_law_162 : decode cL_law 162 = .ok (.iaload, 1) := by decide +kernel
theorem dL_law_163 : decode cL_law 163 = .ok (.aload_n 3, 1) := by decide +kernel
theorem dL_law_164 : decode cL_law 164 = .ok (.invokestatic 49, 3) := by decide +kernel
theorem dL_law_167 : decode cL_law 167 = .ok (.istore 5, 2) := by decide +kernel
theorem dL_law_169 : decode cL_law 169 = .ok (.aload_n 2, 1) := by decide +kernel
theorem dL_law_170 : decode cL_law 170 = .ok (.aload_n 0, 1) := by decide +kernel
theorem dL_law_171 : decode cL_law 171 = .ok (.iload 4, 2) := by decide +kernel
theorem dL_law_173 : decode cL_law 173 = .ok (.iconst 1, 1) := by decide +kernel
theorem dL_law_174 : decode cL_law 174 = .ok (.iadd, 1) := by decide +kernel
theorem dL_law_175 : decode cL_law 175 = .ok (.iaload, 1) := by decide +kernel
theorem dL_law_176 : decode cL_law 176 = .ok (.invokevirtual 52, 3) := by decide +kernel
theorem dL_law_179 : decode cL_law 179 = .ok (.istore 6, 2) := by decide +kernel
theorem dL_law_181 : decode cL_law 181 = .ok (.aload_n 2, 1) := by decide +kernel
theorem dL_law_182 : decode cL_law 182 = .ok (.invokevirtual 45, 3) := by decide +kernel
theorem dL_law_185 : decode cL_law 185 = .ok (.iload 5, 2) := by decide +kernel
theorem dL_law_187 : decode cL_law 187 = .ok (.if_icmp .eq 5, 3) := by decide +kernel
theorem dL_law_190 : decode cL_law 190 = .ok (.iconst 0, 1) := by decide +kernel
theorem dL_law_191 : decode cL_law 191 = .ok (.ireturn, 1) := by decide +kernel
theorem dL_law_192 : decode cL_law 192 = .ok (.iload 5, 2) := by decide +kernel
theorem dL_law_194 : decode cL_law 194 = .ok (.ifCond .ne 15, 3) := by decide +kernel
theorem dL_law_197 : decode cL_law 197 = .ok (.aload_n 3, 1) := by decide +kernel
theorem dL_law_198 : decode cL_law 198 = .ok (.iconst 0, 1) := by decide +kernel
theorem dL_law_199 : decode cL_law 199 = .ok (.laload, 1) := by decide +kernel
theorem dL_law_200 : decode cL_law 200 = .ok (.iload 6, 2) := by decide +kernel
theorem dL_law_202 : decode cL_law 202 = .ok (.i2l, 1) := by decide +kernel
theorem dL_law_203 : decode cL_law 203 = .ok (.lcmp, 1) := by decide +kernel
theorem dL_law_204 : decode cL_law 204 = .ok (.ifCond .eq 5, 3) := by decide +kernel
theorem dL_law_207 : decode cL_law 207 = .ok (.iconst 0, 1) := by decide +kernel
theorem dL_law_208 : decode cL_law 208 = .ok (.ireturn, 1) := by decide +kernel
theorem dL_law_209 : decode cL_law 209 = .ok (.goto 346, 3) := by decide +kernel
theorem dL_law_212 : decode cL_law 212 = .ok (.aload_n 1, 1) := by decide +kernel
theorem dL_law_213 : decode cL_law 213 = .ok (.aload_n 0, 1) := by decide +kernel
theorem dL_law_214 : decode cL_law 214 = .ok (.iload 4, 2) := by decide +kernel
theorem dL_law_216 : decode cL_law 216 = .ok (.iconst 1, 1) := by decide +kernel
theorem dL_law_217 : decode cL_law 217 = .ok (.iadd, 1) := by decide +kernel
theorem dL_law_218 : decode cL_law 218 = .ok (.iaload, 1) := by decide +kernel
theorem dL_law_219 : decode cL_law 219 = .ok (.ifCond .eq 7, 3) := by decide +kernel
theorem dL_law_222 : decode cL_law 222 = .ok (.iconst 1, 1) := by decide +kernel
theorem dL_law_223 : decode cL_law 223 = .ok (.goto 4, 3) := by decide +kernel
theorem dL_law_226 : decode cL_law 226 = .ok (.iconst 0, 1) := by decide +kernel
theorem dL_law_227 : decode cL_law 227 = .ok (.aload_n 0, 1) := by decide +kernel
theorem dL_law_228 : decode cL_law 228 = .ok (.iload 4, 2) := by decide +kernel
theorem dL_law_230 : decode cL_law 230 = .ok (.iconst 2, 1) := by decide +kernel
theorem dL_law_231 : decode cL_law 231 = .ok (.iadd, 1) := by decide +kernel
theorem dL_law_232 : decode cL_law 232 = .ok (.iaload, 1) := by decide +kernel
theorem dL_law_233 : decode cL_law 233 = .ok (.ifCond .eq 7, 3) := by decide +kernel
theorem dL_law_236 : decode cL_law 236 = .ok (.iconst 1, 1) := by decide +kernel
theorem dL_law_237 : decode cL_law 237 = .ok (.goto 4, 3) := by decide +kernel
theorem dL_law_240 : decode cL_law 240 = .ok (.iconst 0, 1) := by decide +kernel
theorem dL_law_241 : decode cL_law 241 = .ok (.invokevirtual 53, 3) := by decide +kernel
theorem dL_law_244 : decode cL_law 244 = .ok (.aload_n 2, 1) := by decide +kernel
theorem dL_law_245 : decode cL_law 245 = .ok (.aload_n 0, 1) := by decide +kernel
theorem dL_law_246 : decode cL_law 246 = .ok (.iload 4, 2) := by decide +kernel
theorem dL_law_248 : decode cL_law 248 = .ok (.iconst 1, 1) := by decide +kernel
theorem dL_law_249 : decode cL_law 249 = .ok (.iadd, 1) := by decide +kernel
theorem dL_law_250 : decode cL_law 250 = .ok (.iaload, 1) := by decide +kernel
theorem dL_law_251 : decode cL_law 251 = .ok (.ifCond .eq 7, 3) := by decide +kernel
theorem dL_law_254 : decode cL_law 254 = .ok (.iconst 1, 1) := by decide +kernel
theorem dL_law_255 : decode cL_law 255 = .ok (.goto 4, 3) := by decide +kernel
theorem dL_law_258 : decode cL_law 258 = .ok (.iconst 0, 1) := by decide +kernel
theorem dL_law_259 : decode cL_law 259 = .ok (.aload_n 0, 1) := by decide +kernel
theorem dL_law_260 : decode cL_law 260 = .ok (.iload 4, 2) := by decide +kernel
theorem dL_law_262 : decode cL_law 262 = .ok (.iconst 2, 1) := by decide +kernel
theorem dL_law_263 : decode cL_law 263 = .ok (.iadd, 1) := by decide +kernel
theorem dL_law_264 : decode cL_law 264 = .ok (.iaload, 1) := by decide +kernel
theorem dL_law_265 : decode cL_law 265 = .ok (.ifCond .eq 7, 3) := by decide +kernel
theorem dL_law_268 : decode cL_law 268 = .ok (.iconst 1, 1) := by decide +kernel
theorem dL_law_269 : decode cL_law 269 = .ok (.goto 4, 3) := by decide +kernel
theorem dL_law_272 : decode cL_law 272 = .ok (.iconst 0, 1) := by decide +kernel
theorem dL_law_273 : decode cL_law 273 = .ok (.invokevirtual 57, 3) := by decide +kernel
theorem dL_law_276 : decode cL_law 276 = .ok (.if_icmp .eq 279, 3) := by decide +kernel
theorem dL_law_279 : decode cL_law 279 = .ok (.iconst 0, 1) := by decide +kernel
theorem dL_law_280 : decode cL_law 280 = .ok (.ireturn, 1) := by decide +kernel
theorem dL_law_281 : decode cL_law 281 = .ok (.aload_n 1, 1) := by decide +kernel
theorem dL_law_282 : decode cL_law 282 = .ok (.aload_n 0, 1) := by decide +kernel
theorem dL_law_283 : decode cL_law 283 = .ok (.iload 4, 2) := by decide +kernel
theorem dL_law_285 : decode cL_law 285 = .ok (.iconst 1, 1) := by decide +kernel
theorem dL_law_286 : decode cL_law 286 = .ok (.iadd, 1) := by decide +kernel
theorem dL_law_287 : decode cL_law 287 = .ok (.iaload, 1) := by decide +kernel
theorem dL_law_288 : decode cL_law 288 = .ok (.aload_n 3, 1) := by decide +kernel
theorem dL_law_289 : decode cL_law 289 = .ok (.invokestatic 58, 3) := by decide +kernel
theorem dL_law_292 : decode cL_law 292 = .ok (.istore 5, 2) := by decide +kernel
theorem dL_law_294 : decode cL_law 294 = .ok (.aload_n 2, 1) := by decide +kernel
theorem dL_law_295 : decode cL_law 295 = .ok (.aload_n 0, 1) := by decide +kernel
theorem dL_law_296 : decode cL_law 296 = .ok (.iload 4, 2) := by decide +kernel
theorem dL_law_298 : decode cL_law 298 = .ok (.iconst 1, 1) := by decide +kernel
theorem dL_law_299 : decode cL_law 299 = .ok (.iadd, 1) := by decide +kernel
theorem dL_law_300 : decode cL_law 300 = .ok (.iaload, 1) := by decide +kernel
theorem dL_law_301 : decode cL_law 301 = .ok (.invokevirtual 60, 3) := by decide +kernel
theorem dL_law_304 : decode cL_law 304 = .ok (.istore 6, 2) := by decide +kernel
theorem dL_law_306 : decode cL_law 306 = .ok (.aload_n 2, 1) := by decide +kernel
theorem dL_law_307 : decode cL_law 307 = .ok (.invokevirtual 45, 3) := by decide +kernel
theorem dL_law_310 : decode cL_law 310 = .ok (.iload 5, 2) := by decide +kernel
theorem dL_law_312 : decode cL_law 312 = .ok (.if_icmp .eq 5, 3) := by decide +kernel
theorem dL_law_315 : decode cL_law 315 = .ok (.iconst 0, 1) := by decide +kernel
theorem dL_law_316 : decode cL_law 316 = .ok (.ireturn, 1) := by decide +kernel
theorem dL_law_317 : decode cL_law 317 = .ok (.iload 5, 2) := by decide +kernel
theorem dL_law_319 : decode cL_law 319 = .ok (.ifCond .ne 15, 3) := by decide +kernel
theorem dL_law_322 : decode cL_law 322 = .ok (.aload_n 3, 1) := by decide +kernel
theorem dL_law_323 : decode cL_law 323 = .ok (.iconst 0, 1) := by decide +kernel
theorem dL_law_324 : decode cL_law 324 = .ok (.laload, 1) := by decide +kernel
theorem dL_law_325 : decode cL_law 325 = .ok (.iload 6, 2) := by decide +kernel
theorem dL_law_327 : decode cL_law 327 = .ok (.i2l, 1) := by decide +kernel
theorem dL_law_328 : decode cL_law 328 = .ok (.lcmp, 1) := by decide +kernel
theorem dL_law_329 : decode cL_law 329 = .ok (.ifCond .eq 5, 3) := by decide +kernel
theorem dL_law_332 : decode cL_law 332 = .ok (.iconst 0, 1) := by decide +kernel
theorem dL_law_333 : decode cL_law 333 = .ok (.ireturn, 1) := by decide +kernel
theorem dL_law_334 : decode cL_law 334 = .ok (.goto 221, 3) := by decide +kernel
theorem dL_law_337 : decode cL_law 337 = .ok (.aload_n 1, 1) := by decide +kernel
theorem dL_law_338 : decode cL_law 338 = .ok (.aload_n 0, 1) := by decide +kernel
theorem dL_law_339 : decode cL_law 339 = .ok (.iload 4, 2) := by decide +kernel
theorem dL_law_341 : decode cL_law 341 = .ok (.iconst 1, 1) := by decide +kernel
theorem dL_law_342 : decode cL_law 342 = .ok (.iadd, 1) := by decide +kernel
theorem dL_law_343 : decode cL_law 343 = .ok (.iaload, 1) := by decide +kernel
theorem dL_law_344 : decode cL_law 344 = .ok (.aload_n 3, 1) := by decide +kernel
theorem dL_law_345 : decode cL_law 345 = .ok (.invokestatic 61, 3) := by decide +kernel
theorem dL_law_348 : decode cL_law 348 = .ok (.istore 5, 2) := by decide +kernel
theorem dL_law_350 : decode cL_law 350 = .ok (.aload_n 2, 1) := by decide +kernel
theorem dL_law_351 : decode cL_law 351 = .ok (.aload_n 0, 1) := by decide +kernel
theorem dL_law_352 : decode cL_law 352 = .ok (.iload 4, 2) := by decide +kernel
theorem dL_law_354 : decode cL_law 354 = .ok (.iconst 1, 1) := by decide +kernel
theorem dL_law_355 : decode cL_law 355 = .ok (.iadd, 1) := by decide +kernel
theorem dL_law_356 : decode cL_law 356 = .ok (.iaload, 1) := by decide +kernel
theorem dL_law_357 : decode cL_law 357 = .ok (.invokevirtual 63, 3) := by decide +kernel
theorem dL_law_360 : decode cL_law 360 = .ok (.istore 6, 2) := by decide +kernel
theorem dL_law_362 : decode cL_law 362 = .ok (.aload_n 2, 1) := by decide +kernel
theorem dL_law_363 : decode cL_law 363 = .ok (.invokevirtual 45, 3) := by decide +kernel
theorem dL_law_366 : decode cL_law 366 = .ok (.iload 5, 2) := by decide +kernel
theorem dL_law_368 : decode cL_law 368 = .ok (.if_icmp .eq 5, 3) := by decide +kernel
theorem dL_law_371 : decode cL_law 371 = .ok (.iconst 0, 1) := by decide +kernel
theorem dL_law_372 : decode cL_law 372 = .ok (.ireturn, 1) := by decide +kernel
theorem dL_law_373 : decode cL_law 373 = .ok (.iload 5, 2) := by decide +kernel
theorem dL_law_375 : decode cL_law 375 = .ok (.ifCond .ne 15, 3) := by decide +kernel
theorem dL_law_378 : decode cL_law 378 = .ok (.aload_n 3, 1) := by decide +kernel
theorem dL_law_379 : decode cL_law 379 = .ok (.iconst 0, 1) := by decide +kernel
theorem dL_law_380 : decode cL_law 380 = .ok (.laload, 1) := by decide +kernel
theorem dL_law_381 : decode cL_law 381 = .ok (.iload 6, 2) := by decide +kernel
theorem dL_law_383 : decode cL_law 383 = .ok (.i2l, 1) := by decide +kernel
theorem dL_law_384 : decode cL_law 384 = .ok (.lcmp, 1) := by decide +kernel
theorem dL_law_385 : decode cL_law 385 = .ok (.ifCond .eq 5, 3) := by decide +kernel
theorem dL_law_388 : decode cL_law 388 = .ok (.iconst 0, 1) := by decide +kernel
theorem dL_law_389 : decode cL_law 389 = .ok (.ireturn, 1) := by decide +kernel
theorem dL_law_390 : decode cL_law 390 = .ok (.goto 165, 3) := by decide +kernel
theorem dL_law_393 : decode cL_law 393 = .ok (.aload_n 1, 1) := by decide +kernel
theorem dL_law_394 : decode cL_law 394 = .ok (.aload_n 0, 1) := by decide +kernel
theorem dL_law_395 : decode cL_law 395 = .ok (.iload 4, 2) := by decide +kernel
theorem dL_law_397 : decode cL_law 397 = .ok (.iconst 1, 1) := by decide +kernel
theorem dL_law_398 : decode cL_law 398 = .ok (.iadd, 1) := by decide +kernel
theorem dL_law_399 : decode cL_law 399 = .ok (.iaload, 1) := by decide +kernel
theorem dL_law_400 : decode cL_law 400 = .ok (.aload_n 0, 1) := by decide +kernel
theorem dL_law_401 : decode cL_law 401 = .ok (.iload 4, 2) := by decide +kernel
theorem dL_law_403 : decode cL_law 403 = .ok (.iconst 2, 1) := by decide +kernel
theorem dL_law_404 : decode cL_law 404 = .ok (.iadd, 1) := by decide +kernel
theorem dL_law_405 : decode cL_law 405 = .ok (.iaload, 1) := by decide +kernel
theorem dL_law_406 : decode cL_law 406 = .ok (.aload_n 3, 1) := by decide +kernel
theorem dL_law_407 : decode cL_law 407 = .ok (.invokestatic 64, 3) := by decide +kernel
theorem dL_law_410 : decode cL_law 410 = .ok (.istore 5, 2) := by decide +kernel
theorem dL_law_412 : decode cL_law 412 = .ok (.aload_n 2, 1) := by decide +kernel
theorem dL_law_413 : decode cL_law 413 = .ok (.aload_n 0, 1) := by decide +kernel
theorem dL_law_414 : decode cL_law 414 = .ok (.iload 4, 2) := by decide +kernel
theorem dL_law_416 : decode cL_law 416 = .ok (.iconst 1, 1) := by decide +kernel
theorem dL_law_417 : decode cL_law 417 = .ok (.iadd, 1) := by decide +kernel
theorem dL_law_418 : decode cL_law 418 = .ok (.iaload, 1) := by decide +kernel
theorem dL_law_419 : decode cL_law 419 = .ok (.aload_n 0, 1) := by decide +kernel
theorem dL_law_420 : decode cL_law 420 = .ok (.iload 4, 2) := by decide +kernel
theorem dL_law_422 : decode cL_law 422 = .ok (.iconst 2, 1) := by decide +kernel
theorem dL_law_423 : decode cL_law 423 = .ok (.iadd, 1) := by decide +kernel
theorem dL_law_424 : decode cL_law 424 = .ok (.iaload, 1) := by decide +kernel
theorem dL_law_425 : decode cL_law 425 = .ok (.invokevirtual 66, 3) := by decide +kernel
theorem dL_law_428 : decode cL_law 428 = .ok (.istore 6, 2) := by decide +kernel
theorem dL_law_430 : decode cL_law 430 = .ok (.aload_n 2, 1) := by decide +kernel
theorem dL_law_431 : decode cL_law 431 = .ok (.invokevirtual 45, 3) := by decide +kernel
theorem dL_law_434 : decode cL_law 434 = .ok (.iload 5, 2) := by decide +kernel
theorem dL_law_436 : decode cL_law 436 = .ok (.if_icmp .eq 5, 3) := by decide +kernel
theorem dL_law_439 : decode cL_law 439 = .ok (.iconst 0, 1) := by decide +kernel
theorem dL_law_440 : decode cL_law 440 = .ok (.ireturn, 1) := by decide +kernel
theorem dL_law_441 : decode cL_law 441 = .ok (.iload 5, 2) := by decide +kernel
theorem dL_law_443 : decode cL_law 443 = .ok (.ifCond .ne 15, 3) := by decide +kernel
theorem dL_law_446 : decode cL_law 446 = .ok (.aload_n 3, 1) := by decide +kernel
theorem dL_law_447 : decode cL_law 447 = .ok (.iconst 0, 1) := by decide +kernel
theorem dL_law_448 : decode cL_law 448 = .ok (.laload, 1) := by decide +kernel
theorem dL_law_449 : decode cL_law 449 = .ok (.iload 6, 2) := by decide +kernel
theorem dL_law_451 : decode cL_law 451 = .ok (.i2l, 1) := by decide +kernel
theorem dL_law_452 : decode cL_law 452 = .ok (.lcmp, 1) := by decide +kernel
theorem dL_law_453 : decode cL_law 453 = .ok (.ifCond .eq 5, 3) := by decide +kernel
theorem dL_law_456 : decode cL_law 456 = .ok (.iconst 0, 1) := by decide +kernel
theorem dL_law_457 : decode cL_law 457 = .ok (.ireturn, 1) := by decide +kernel
theorem dL_law_458 : decode cL_law 458 = .ok (.goto 97, 3) := by decide +kernel
theorem dL_law_461 : decode cL_law 461 = .ok (.aload_n 1, 1) := by decide +kernel
theorem dL_law_462 : decode cL_law 462 = .ok (.aload_n 0, 1) := by decide +kernel
theorem dL_law_463 : decode cL_law 463 = .ok (.iload 4, 2) := by decide +kernel
theorem dL_law_465 : decode cL_law 465 = .ok (.iconst 1, 1) := by decide +kernel
theorem dL_law_466 : decode cL_law 466 = .ok (.iadd, 1) := by decide +kernel
theorem dL_law_467 : decode cL_law 467 = .ok (.iaload, 1) := by decide +kernel
theorem dL_law_468 : decode cL_law 468 = .ok (.aload_n 3, 1) := by decide +kernel
theorem dL_law_469 : decode cL_law 469 = .ok (.invokestatic 67, 3) := by decide +kernel
theorem dL_law_472 : decode cL_law 472 = .ok (.istore 5, 2) := by decide +kernel
theorem dL_law_474 : decode cL_law 474 = .ok (.aload_n 2, 1) := by decide +kernel
theorem dL_law_475 : decode cL_law 475 = .ok (.aload_n 0, 1) := by decide +kernel
theorem dL_law_476 : decode cL_law 476 = .ok (.iload 4, 2) := by decide +kernel
theorem dL_law_478 : decode cL_law 478 = .ok (.iconst 1, 1) := by decide +kernel
theorem dL_law_479 : decode cL_law 479 = .ok (.iadd, 1) := by decide +kernel
theorem dL_law_480 : decode cL_law 480 = .ok (.iaload, 1) := by decide +kernel
theorem dL_law_481 : decode cL_law 481 = .ok (.invokevirtual 69, 3) := by decide +kernel
theorem dL_law_484 : decode cL_law 484 = .ok (.istore 6, 2) := by decide +kernel
theorem dL_law_486 : decode cL_law 486 = .ok (.aload_n 2, 1) := by decide +kernel
theorem dL_law_487 : decode cL_law 487 = .ok (.invokevirtual 45, 3) := by decide +kernel
theorem dL_law_490 : decode cL_law 490 = .ok (.iload 5, 2) := by decide +kernel
theorem dL_law_492 : decode cL_law 492 = .ok (.if_icmp .eq 5, 3) := by decide +kernel
theorem dL_law_495 : decode cL_law 495 = .ok (.iconst 0, 1) := by decide +kernel
theorem dL_law_496 : decode cL_law 496 = .ok (.ireturn, 1) := by decide +kernel
theorem dL_law_497 : decode cL_law 497 = .ok (.iload 5, 2) := by decide +kernel
theorem dL_law_499 : decode cL_law 499 = .ok (.ifCond .ne 15, 3) := by decide +kernel
theorem dL_law_502 : decode cL_law 502 = .ok (.aload_n 3, 1) := by decide +kernel
theorem dL_law_503 : decode cL_law 503 = .ok (.iconst 0, 1) := by decide +kernel
theorem dL_law_504 : decode cL_law 504 = .ok (.laload, 1) := by decide +kernel
theorem dL_law_505 : decode cL_law 505 = .ok (.iload 6, 2) := by decide +kernel
theorem dL_law_507 : decode cL_law 507 = .ok (.i2l, 1) := by decide +kernel
theorem dL_law_508 : decode cL_law 508 = .ok (.lcmp, 1) := by decide +kernel
theorem dL_law_509 : decode cL_law 509 = .ok (.ifCond .eq 5, 3) := by decide +kernel
theorem dL_law_512 : decode cL_law 512 = .ok (.iconst 0, 1) := by decide +kernel
theorem dL_law_513 : decode cL_law 513 = .ok (.ireturn, 1) := by decide +kernel
theorem dL_law_514 : decode cL_law 514 = .ok (.goto 41, 3) := by decide +kernel
theorem dL_law_517 : decode cL_law 517 = .ok (.aload_n 1, 1) := by decide +kernel
theorem dL_law_518 : decode cL_law 518 = .ok (.invokevirtual 70, 3) := by decide +kernel
theorem dL_law_521 : decode cL_law 521 = .ok (.aload_n 2, 1) := by decide +kernel
theorem dL_law_522 : decode cL_law 522 = .ok (.invokevirtual 73, 3) := by decide +kernel
theorem dL_law_525 : decode cL_law 525 = .ok (.if_icmp .eq 30, 3) := by decide +kernel
theorem dL_law_528 : decode cL_law 528 = .ok (.iconst 0, 1) := by decide +kernel
theorem dL_law_529 : decode cL_law 529 = .ok (.ireturn, 1) := by decide +kernel
theorem dL_law_530 : decode cL_law 530 = .ok (.aload_n 1, 1) := by decide +kernel
theorem dL_law_531 : decode cL_law 531 = .ok (.aload_n 0, 1) := by decide +kernel
theorem dL_law_532 : decode cL_law 532 = .ok (.iload 4, 2) := by decide +kernel
theorem dL_law_534 : decode cL_law 534 = .ok (.iconst 1, 1) := by decide +kernel
theorem dL_law_535 : decode cL_law 535 = .ok (.iadd, 1) := by decide +kernel
theorem dL_law_536 : decode cL_law 536 = .ok (.iaload, 1) := by decide +kernel
theorem dL_law_537 : decode cL_law 537 = .ok (.invokevirtual 74, 3) := by decide +kernel
theorem dL_law_540 : decode cL_law 540 = .ok (.aload_n 2, 1) := by decide +kernel
theorem dL_law_541 : decode cL_law 541 = .ok (.aload_n 0, 1) := by decide +kernel
theorem dL_law_542 : decode cL_law 542 = .ok (.iload 4, 2) := by decide +kernel
theorem dL_law_544 : decode cL_law 544 = .ok (.iconst 1, 1) := by decide +kernel
theorem dL_law_545 : decode cL_law 545 = .ok (.iadd, 1) := by decide +kernel
theorem dL_law_546 : decode cL_law 546 = .ok (.iaload, 1) := by decide +kernel
theorem dL_law_547 : decode cL_law 547 = .ok (.invokevirtual 77, 3) := by decide +kernel
theorem dL_law_550 : decode cL_law 550 = .ok (.if_icmp .eq 5, 3) := by decide +kernel
theorem dL_law_553 : decode cL_law 553 = .ok (.iconst 0, 1) := by decide +kernel
theorem dL_law_554 : decode cL_law 554 = .ok (.ireturn, 1) := by decide +kernel
theorem dL_law_555 : decode cL_law 555 = .ok (.iinc 4 3, 3) := by decide +kernel
theorem dL_law_558 : decode cL_law 558 = .ok (.goto (-535), 3) := by decide +kernel
theorem dL_law_561 : decode cL_law 561 = .ok (.iconst 1, 1) := by decide +kernel
theorem dL_law_562 : decode cL_law 562 = .ok (.ireturn, 1) := by decide +kernel
end
section
/-! ===== my kit: methods that write nothing that was there ===== -/
/-- the cells that a method which writes nothing may change: those that come -/
def ro (sz : Nat) : Nat → Prop := fun q => sz ≤ q
abbrev ro_Qi (F : Int32) (sz : Nat) : Array Value → State → Outcome → State → Prop := va_Qi (fun r (_ : Unit) => r = F) (fun _ _ => True) (ro sz)
abbrev ro_Ql (F : Int64) (sz : Nat) : Array Value → State → Outcome → State → Prop := va_Ql (fun r (_ : Unit) => r = F) (fun _ _ => True) (ro sz)
abbrev pu_Pc (av : List Value) (sz : Nat) : Array Value → State → Prop := va_Pc av (fun U => U.heap.size = sz)
abbrev ro_Pc (D : va_G) (ws : va_W) (tys : List (ClassId × FieldType)) (av : List Value) (sz : Nat) : Array Value → State → Prop := va_Pc av (fun U => U.heap.size = sz ∧ va_P D vwCl ws U.heap ∧ va_K D vwCl tys U)
theorem pu_preS {s : State} {H : Heap} {av : List Value} : PreS s H (pu_Pc av H.size) av := ⟨fun _ _ _ _ q => ⟨q.1, q.2⟩, fun U hU _ => ⟨rfl, by rw [hU]⟩⟩
theorem ro_preS {s : State} {H : Heap} {D : va_G} {ws : va_W} {tys : List (ClassId × FieldType)} {av : List Value} (hP : va_P D vwCl ws H) (hK : va_K D vwCl tys s) : PreS s H (ro_Pc D ws tys av H.size) av :=
  ⟨fun a U g mk q => by obtain ⟨q0, q1, qP, qK⟩ := q; exact ⟨q0, q1, qP, va_K.moved (u := U) (U := U.calling g mk a) (Vm.Alike.refl U.vm) qK⟩, fun U hU hW => ⟨rfl, by rw [hU], by rw [hU]; exact hP, va_K.moved hW.alike hK⟩⟩
theorem ro_preV {s : State} {H : Heap} {D : va_G} {ws : va_W} {tys : List (ClassId × FieldType)} {av : List Value} {a : Nat} (q0 ci : Nat) {q : vw_C} {fs : List Value} (hc : vwCl[ci]? = some q) (he : ws[q0]? = some (a, .inr (ci, fs))) (hP : va_P D vwCl ws H) (hK : va_K D vwCl tys s) : PreV s H q.1 a (ro_Pc D ws tys (.ref a :: av) H.size) av :=
  ⟨fun a U g mk q => by obtain ⟨q0, q1, qP, qK⟩ := q; exact ⟨q0, q1, qP, va_K.moved (u := U) (U := U.calling g mk a) (Vm.Alike.refl U.vm) qK⟩, va_recv hK hP hc he, fun U hU hW => ⟨rfl, by rw [hU], by rw [hU]; exact hP, va_K.moved hW.alike hK⟩⟩
section MYK
variable {p : Program} {l : Launch} {e : Env} {R : Room} {s : State} {m : MethodId} {args : Array Value} {below : List Frame} {meth : Method} {c : Code} {H : Heap} {locs : List Loc} {cells slots : Nat} {Q : State → Prop}
variable {pc : Nat} {ls : Array Slot} {rest st0 : List Value} {a : Array Value} {A0 : Nat → Prop} {H0 : Heap}
/-- behind a call that writes nothing: every world stands -/
theorem ro_calli {F : Int32} (hr : va_Run p l e R s m args below meth c H locs cells slots 0 0 (F0 m pc ls st0) rest (ro_Qi F H.size a) (ro H.size)) (hS : va_S A0 H0 H locs) (hA : ∀ q, H0.size ≤ q → A0 q)
    (kk : ∀ (H1 : Heap) (locs1 : List Loc), (∀ (D : va_G) (cl : List vw_C) (ws : va_W), va_P D cl ws H → va_P D cl ws H1) → va_S A0 H0 H1 locs1 → W p l e R s m args below meth c H1 locs1 cells slots Q (F0 m (pc + 3) ls (.int F :: rest))) : W p l e R s m args below meth c H locs cells slots Q (F0 m pc ls st0) :=
  va_calli hr hS (fun q h1 h2 => absurd h2 (Nat.not_le.mpr h1)) (fun q h => hA q (Nat.le_trans hS.1 h)) (fun r u t H1 locs1 ht hvm hw hB hz hk hS1 => by
    subst hw
    exact kk H1 locs1 (fun D cl ws hP => hP.kept (fun k q hq => hk q.1 (hP k q hq).lt (Nat.not_le.mpr (hP k q hq).lt))) hS1)
theorem ro_calll {F : Int64} (hr : va_Run p l e R s m args below meth c H locs cells slots 0 0 (F0 m pc ls st0) rest (ro_Ql F H.size a) (ro H.size)) (hS : va_S A0 H0 H locs) (hA : ∀ q, H0.size ≤ q → A0 q)
    (kk : ∀ (H1 : Heap) (locs1 : List Loc), (∀ (D : va_G) (cl : List vw_C) (ws : va_W), va_P D cl ws H → va_P D cl ws H1) → va_S A0 H0 H1 locs1 → W p l e R s m args below meth c H1 locs1 cells slots Q (F0 m (pc + 3) ls (.long F :: rest))) : W p l e R s m args below meth c H locs cells slots Q (F0 m pc ls st0) :=
  va_calll hr hS (fun q h1 h2 => absurd h2 (Nat.not_le.mpr h1)) (fun q h => hA q (Nat.le_trans hS.1 h)) (fun r u t H1 locs1 ht hvm hw hB hz hk hS1 => by
    subst hw
    exact kk H1 locs1 (fun D cl ws hP => hP.kept (fun k q hq => hk q.1 (hP k q hq).lt (Nat.not_le.mpr (hP k q hq).lt))) hS1)
/-- another word for the number on top -/
theorem top_i {x y : Int32} (h : x = y) (k : W p l e R s m args below meth c H locs cells slots Q (F0 m pc ls (.int y :: rest))) : W p l e R s m args below meth c H locs cells slots Q (F0 m pc ls (.int x :: rest)) := by subst h; exact k
theorem top_l {x y : Int64} (h : x = y) (k : W p l e R s m args below meth c H locs cells slots Q (F0 m pc ls (.long y :: rest))) : W p l e R s m args below meth c H locs cells slots Q (F0 m pc ls (.long x :: rest)) := by subst h; exact k
/-- a switch by a table: where it goes, as a number -/
def swT (lo hi : Int) (offs : List Int) (dflt : Int) (x : Int32) : Int := if x.toInt < lo ∨ hi < x.toInt then dflt else offs.getD (x.toInt - lo).toNat dflt
theorem swT_mem (lo hi : Int) (offs : List Int) (dflt : Int) (x : Int32) : swT lo hi offs dflt x ∈ dflt :: offs := by
  unfold swT
  split
  · exact List.mem_cons_self
  · rw [List.getD_eq_getElem?_getD]
    cases h : offs[(x.toInt - lo).toNat]? with
    | none => exact List.mem_cons_self
    | some v => exact List.mem_cons_of_mem _ (List.mem_of_getElem? h)
theorem my_table {cc : ByteArray} (hexec : p.tables.exec = Jvm.exec) (hb : c.code = cc) {dflt lo hi : Int} {offs : Array Int} {len : Nat} {x : Int32} {off : Int} {tgt : Nat} (hdg : decode cc pc = .ok (.tableswitch dflt lo hi offs, len)) (hsz : lo + offs.size = hi + 1) (ho : swT lo hi offs.toList dflt x = off) (ht : (pc : Int) + off = (tgt : Int))
    (k : W p l e R s m args below meth c H locs cells slots Q (F0 m tgt ls rest)) : W p l e R s m args below meth c H locs cells slots Q (F0 m pc ls (.int x :: rest)) := by
  unfold swT at ho
  split at ho
  · next h => exact lv_tableOut hexec hb hdg h (by rw [ho]; exact ht) k
  · next h =>
    have h1 : ¬ x.toInt < lo := fun q => h (Or.inl q)
    have h2 : ¬ hi < x.toInt := fun q => h (Or.inr q)
    have hlt : (x.toInt - lo).toNat < offs.size := by omega
    refine lv_tableIn hexec hb hdg h1 h2 (off := off) ?_ ht k
    rw [← ho, List.getD_eq_getElem?_getD, Array.getElem?_toList, Array.getElem?_eq_getElem hlt]
    rfl
theorem lk_mem : ∀ (ps : List (Int × Int)) (d x : Int), Op.lookupswitch.offset ps d x ∈ d :: ps.map Prod.snd := by
  intro ps d x
  induction ps with
  | nil => simp [Op.lookupswitch.offset]
  | cons q r ih =>
    obtain ⟨a, o⟩ := q
    simp only [Op.lookupswitch.offset]
    split
    · simp
    · rcases List.mem_cons.mp ih with h | h
      · rw [h]; simp
      · simp only [List.map_cons, List.mem_cons]
        exact Or.inr (Or.inr h)
end MYK
/-- a Java boolean -/
def bI (b : Bool) : Int32 := if b then 1 else 0
def ush (x y : Int32) : Int32 := (x.toUInt32 >>> (y.toUInt32 &&& Int32.toUInt32 31)).toInt32
def lsh (x : Int64) (y : Int32) : Int64 := x <<< (y.toInt64 &&& 63)
def i2s (x : Int32) : Int32 := x.toInt16.toInt32
def mx (x y : Int32) : Int32 := if x < y then y else x
def orIf (b : Int32) (s x : Int64) : Int64 := if b = 0 then s else s ||| x
theorem orIf_z {b : Int32} {s x : Int64} (h : b = 0) : orIf b s x = s := if_pos h
theorem orIf_n {b : Int32} {s x : Int64} (h : ¬ b = 0) : orIf b s x = s ||| x := if_neg h
def orIi (b : Int32) (s x : Int32) : Int32 := if b = 0 then s else s ||| x
theorem orIi_z {b : Int32} {s x : Int32} (h : b = 0) : orIi b s x = s := if_pos h
theorem orIi_n {b : Int32} {s x : Int32} (h : ¬ b = 0) : orIi b s x = s ||| x := if_neg h
theorem nar_bI (b : Bool) : narrow .boolean (.int (bI b)) = .int (bI b) := by cases b <;> decide
theorem fit_bI (b : Bool) : fits .boolean (.int (bI b)) = true := by cases b <;> decide
section MYA
variable {p : Program} {l : Launch} {e : Env} {R : Room} {s : State} {m : MethodId} {args : Array Value} {below : List Frame} {meth : Method} {c : Code} {H : Heap} {locs : List Loc} {cells slots : Nat} {Q : State → Prop}
variable {cc : ByteArray} {pc : Nat} {ls : Array Slot} {rest : List Value} {D : va_G} {cl : List vw_C} {A : Nat → Prop} {a : Nat} {tys : List (ClassId × FieldType)} {ws : va_W} {H0 : Heap}
/-! arrays at an index that is a small natural -/
theorem my_iald {j : Nat} (hexec : p.tables.exec = Jvm.exec) (hb : c.code = cc) (hK : va_K D cl tys s) (hP : va_P D cl ws H) (q0 t0 : Nat) {cA : ClassId} {n : Nat} {f : Nat → Int32} (ha : ws[q0]? = some (a, .inl (cA, n, .inl f))) (ht : tys[t0]? = some (cA, .int)) (hj : j < n) (hn : n < 2 ^ 31) (hdg : decode cc pc = .ok (.iaload, 1))
    (kk : W p l e R s m args below meth c H locs cells slots Q (F0 m (pc + 1) ls (.int (f j) :: rest))) : W p l e R s m args below meth c H locs cells slots Q (F0 m pc ls (.int (nI j) :: .ref a :: rest)) :=
  va_iald hexec hb hK hP q0 t0 ha ht (vp_in_nI hj hn) hdg (by rw [nI_clamp (by omega)]; exact kk)
theorem my_zald {j : Nat} (hexec : p.tables.exec = Jvm.exec) (hb : c.code = cc) (hK : va_K D cl tys s) (hP : va_P D cl ws H) (q0 t0 : Nat) {cA : ClassId} {n : Nat} {f : Nat → Int32} (ha : ws[q0]? = some (a, .inl (cA, n, .inl f))) (ht : tys[t0]? = some (cA, .boolean)) (hj : j < n) (hn : n < 2 ^ 31) (hdg : decode cc pc = .ok (.baload, 1))
    (kk : W p l e R s m args below meth c H locs cells slots Q (F0 m (pc + 1) ls (.int (f j) :: rest))) : W p l e R s m args below meth c H locs cells slots Q (F0 m pc ls (.int (nI j) :: .ref a :: rest)) :=
  va_zald hexec hb hK hP q0 t0 ha ht (vp_in_nI hj hn) hdg (by rw [nI_clamp (by omega)]; exact kk)
theorem my_lald {j : Nat} (hexec : p.tables.exec = Jvm.exec) (hb : c.code = cc) (hK : va_K D cl tys s) (hP : va_P D cl ws H) (q0 t0 : Nat) {cA : ClassId} {n : Nat} {f : Nat → Int64} (ha : ws[q0]? = some (a, .inl (cA, n, .inr (.inl f)))) (ht : tys[t0]? = some (cA, .long)) (hj : j < n) (hn : n < 2 ^ 31) (hdg : decode cc pc = .ok (.laload, 1))
    (kk : W p l e R s m args below meth c H locs cells slots Q (F0 m (pc + 1) ls (.long (f j) :: rest))) : W p l e R s m args below meth c H locs cells slots Q (F0 m pc ls (.int (nI j) :: .ref a :: rest)) :=
  va_lald hexec hb hK hP q0 t0 ha ht (vp_in_nI hj hn) hdg (by rw [nI_clamp (by omega)]; exact kk)
theorem my_iast {j : Nat} (hexec : p.tables.exec = Jvm.exec) (hb : c.code = cc) (hK : va_K D cl tys s) (hP : va_P D cl ws H) (hD : va_D A ws) (hS : va_S A H0 H locs) (q0 t0 : Nat) {cA : ClassId} {n : Nat} {f : Nat → Int32} (ha : ws[q0]? = some (a, .inl (cA, n, .inl f))) (ht : tys[t0]? = some (cA, .int)) {x : Int32} (hj : j < n) (hn : n < 2 ^ 31) (hdg : decode cc pc = .ok (.iastore, 1))
    (kk : ∀ (H1 : Heap) (locs1 : List Loc), va_P D cl (ws.set q0 (a, .inl (cA, n, .inl (upd f j x)))) H1 → va_D A (ws.set q0 (a, .inl (cA, n, .inl (upd f j x)))) → va_S A H0 H1 locs1 → W p l e R s m args below meth c H1 locs1 cells slots Q (F0 m (pc + 1) ls rest)) : W p l e R s m args below meth c H locs cells slots Q (F0 m pc ls (.int x :: .int (nI j) :: .ref a :: rest)) :=
  va_iast hexec hb hK hP hD hS q0 t0 ha ht (vp_in_nI hj hn) hdg (by rw [nI_clamp (by omega)]; exact kk)
theorem my_zast {j : Nat} (hexec : p.tables.exec = Jvm.exec) (hb : c.code = cc) (hK : va_K D cl tys s) (hP : va_P D cl ws H) (hD : va_D A ws) (hS : va_S A H0 H locs) (q0 t0 : Nat) {cA : ClassId} {n : Nat} {f : Nat → Int32} (ha : ws[q0]? = some (a, .inl (cA, n, .inl f))) (ht : tys[t0]? = some (cA, .boolean)) {x : Int32} (hj : j < n) (hn : n < 2 ^ 31) (hx9 : vp_nar .boolean x = x) (hdg : decode cc pc = .ok (.bastore, 1))
    (kk : ∀ (H1 : Heap) (locs1 : List Loc), va_P D cl (ws.set q0 (a, .inl (cA, n, .inl (upd f j x)))) H1 → va_D A (ws.set q0 (a, .inl (cA, n, .inl (upd f j x)))) → va_S A H0 H1 locs1 → W p l e R s m args below meth c H1 locs1 cells slots Q (F0 m (pc + 1) ls rest)) : W p l e R s m args below meth c H locs cells slots Q (F0 m pc ls (.int x :: .int (nI j) :: .ref a :: rest)) :=
  va_zast hexec hb hK hP hD hS q0 t0 ha ht (vp_in_nI hj hn) hdg (by rw [nI_clamp (by omega), hx9]; exact kk)
theorem my_last {j : Nat} (hexec : p.tables.exec = Jvm.exec) (hb : c.code = cc) (hK : va_K D cl tys s) (hP : va_P D cl ws H) (hD : va_D A ws) (hS : va_S A H0 H locs) (q0 t0 : Nat) {cA : ClassId} {n : Nat} {f : Nat → Int64} (ha : ws[q0]? = some (a, .inl (cA, n, .inr (.inl f)))) (ht : tys[t0]? = some (cA, .long)) {x : Int64} (hj : j < n) (hn : n < 2 ^ 31) (hdg : decode cc pc = .ok (.lastore, 1))
    (kk : ∀ (H1 : Heap) (locs1 : List Loc), va_P D cl (ws.set q0 (a, .inl (cA, n, .inr (.inl (vp_updL f j x))))) H1 → va_D A (ws.set q0 (a, .inl (cA, n, .inr (.inl (vp_updL f j x))))) → va_S A H0 H1 locs1 → W p l e R s m args below meth c H1 locs1 cells slots Q (F0 m (pc + 1) ls rest)) : W p l e R s m args below meth c H locs cells slots Q (F0 m pc ls (.long x :: .int (nI j) :: .ref a :: rest)) :=
  va_last hexec hb hK hP hD hS q0 t0 ha ht (vp_in_nI hj hn) hdg (by rw [nI_clamp (by omega)]; exact kk)
end MYA
end
section
def fX4_kindOf (x0 : Int32) : Int32 := (x0 &&& 15)
set_option maxHeartbeats 4000000 in
set_option maxRecDepth 100000 in
theorem cX4_kindOf (l : Launch) (sz : Nat) (x0 : Int32) : Met l yX4_kindOf wsX4_kindOf ({ frames := 0, cells := 0, slots := 0, locals := 0 }) (pu_Pc [.int (x0)] sz) (ro_Qi (fX4_kindOf x0) sz) 0 0 (ro sz) := by
  refine Met.ofW (cc := cX4_kindOf) (maxL := 1) (ret := (some .int)) (by decide) rfl ?_
  intro p e s m args below meth c s₁ B hml hv
  obtain ⟨rfl, hsz⟩ := hv
  have hx := B.exec
  have hb := B.bytes
  have hr := B.returns
  have hts := atoms_spec (ws := wsX4_kindOf) B.pre
  have hown : s.vm.findClass RX4 = some m.cls := findClass_of_methodNamed B.named
  have hlocks := B.notSynchronized
  subst hsz
  have hA : ∀ q : Nat, s.heap.size ≤ q → ro s.heap.size q := fun _ h => h
  have hS : va_S (ro s.heap.size) s.heap s.heap [] := va_S.rf
  have hl := lv_entry ([.int (x0)]) (n := 1) (Nat.le_of_ble_eq_true rfl)
  rw [lg_entry_eq]
  generalize (lg_sl ([.int (x0)]) ++ List.replicate (1 - (lg_sl ([.int (x0)])).length) Slot.unset).toArray = ls at hl ⊢
  have hl : lv_has ls 1 [(0, .int (x0))] := hl
  refine lv_iload_n hx hb dX4_kindOf_0 rfl (lv_at hl 0 rfl) ?_
  refine lv_bipush (v := 15) hx hb dX4_kindOf_1 (by decide) ?_
  refine lv_iand hx hb dX4_kindOf_3 ?_
  exact W.iret (v := (x0 &&& 15)) hx hb hr (fun t ht hW => ⟨⟨_, (), rfl, (by unfold fX4_kindOf; rfl), trivial⟩, hS.F ht⟩) hS.2.2 dX4_kindOf_4
def fX4_has (x0 : Int32) (x1 : Int32) : Int32 := if (x0 &&& x1) = 0 then 0 else 1
set_option maxHeartbeats 4000000 in
set_option maxRecDepth 100000 in
theorem cX4_has (l : Launch) (sz : Nat) (x0 : Int32) (x1 : Int32) : Met l yX4_has wsX4_has ({ frames := 0, cells := 0, slots := 0, locals := 0 }) (pu_Pc [.int (x0), .int (x1)] sz) (ro_Qi (fX4_has x0 x1) sz) 0 0 (ro sz) := by
  refine Met.ofW (cc := cX4_has) (maxL := 2) (ret := (some .boolean)) (by decide) rfl ?_
  intro p e s m args below meth c s₁ B hml hv
  obtain ⟨rfl, hsz⟩ := hv
  have hx := B.exec
  have hb := B.bytes
  have hr := B.returns
  have hts := atoms_spec (ws := wsX4_has) B.pre
  have hown : s.vm.findClass RX4 = some m.cls := findClass_of_methodNamed B.named
  have hlocks := B.notSynchronized
  subst hsz
  have hA : ∀ q : Nat, s.heap.size ≤ q → ro s.heap.size q := fun _ h => h
  have hS : va_S (ro s.heap.size) s.heap s.heap [] := va_S.rf
  have hl := lv_entry ([.int (x0), .int (x1)]) (n := 2) (Nat.le_of_ble_eq_true rfl)
  rw [lg_entry_eq]
  generalize (lg_sl ([.int (x0), .int (x1)]) ++ List.replicate (2 - (lg_sl ([.int (x0), .int (x1)])).length) Slot.unset).toArray = ls at hl ⊢
  have hl : lv_has ls 2 [(0, .int (x0)), (1, .int (x1))] := hl
  refine lv_iload_n hx hb dX4_has_0 rfl (lv_at hl 0 rfl) ?_
  refine lv_iload_n hx hb dX4_has_1 rfl (lv_at hl 1 rfl) ?_
  refine lv_iand hx hb dX4_has_2 ?_
  refine lv_if_eq (tgt := 10) hx hb dX4_has_3 (by decide) (fun c_1 => ?_) (fun c_1 => ?_)
  · refine lv_iconst (v := 0) hx hb dX4_has_10 (by decide) ?_
    exact W.zret (v := 0) hx hb hr (by decide) (fun t ht hW => ⟨⟨_, (), rfl, (by unfold fX4_has; rw [if_pos c_1]), trivial⟩, hS.F ht⟩) hS.2.2 dX4_has_11
  · refine lv_iconst (v := 1) hx hb dX4_has_6 (by decide) ?_
    refine lv_goto (tgt := 11) hx hb dX4_has_7 (by decide) ?_
    exact W.zret (v := 1) hx hb hr (by decide) (fun t ht hW => ⟨⟨_, (), rfl, (by unfold fX4_has; rw [if_neg c_1]), trivial⟩, hS.F ht⟩) hS.2.2 dX4_has_11
def fX3_operation (x0 : Int32) : Int32 := (ush x0 26)
set_option maxHeartbeats 4000000 in
set_option maxRecDepth 100000 in
theorem cX3_operation (l : Launch) (sz : Nat) (x0 : Int32) : Met l yX3_operation wsX3_operation ({ frames := 0, cells := 0, slots := 0, locals := 0 }) (pu_Pc [.int (x0)] sz) (ro_Qi (fX3_operation x0) sz) 0 0 (ro sz) := by
  refine Met.ofW (cc := cX3_operation) (maxL := 1) (ret := (some .int)) (by decide) rfl ?_
  intro p e s m args below meth c s₁ B hml hv
  obtain ⟨rfl, hsz⟩ := hv
  have hx := B.exec
  have hb := B.bytes
  have hr := B.returns
  have hts := atoms_spec (ws := wsX3_operation) B.pre
  have hown : s.vm.findClass RX3 = some m.cls := findClass_of_methodNamed B.named
  have hlocks := B.notSynchronized
  subst hsz
  have hA : ∀ q : Nat, s.heap.size ≤ q → ro s.heap.size q := fun _ h => h
  have hS : va_S (ro s.heap.size) s.heap s.heap [] := va_S.rf
  have hl := lv_entry ([.int (x0)]) (n := 1) (Nat.le_of_ble_eq_true rfl)
  rw [lg_entry_eq]
  generalize (lg_sl ([.int (x0)]) ++ List.replicate (1 - (lg_sl ([.int (x0)])).length) Slot.unset).toArray = ls at hl ⊢
  have hl : lv_has ls 1 [(0, .int (x0))] := hl
  refine lv_iload_n hx hb dX3_operation_0 rfl (lv_at hl 0 rfl) ?_
  refine lv_bipush (v := 26) hx hb dX3_operation_1 (by decide) ?_
  refine lv_iushr (v := ush x0 26) hx hb dX3_operation_3 rfl ?_
  exact W.iret (v := (ush x0 26)) hx hb hr (fun t ht hW => ⟨⟨_, (), rfl, (by unfold fX3_operation; rfl), trivial⟩, hS.F ht⟩) hS.2.2 dX3_operation_4
def fX3_s (x0 : Int32) : Int32 := ((ush x0 21) &&& 31)
set_option maxHeartbeats 4000000 in
set_option maxRecDepth 100000 in
theorem cX3_s (l : Launch) (sz : Nat) (x0 : Int32) : Met l yX3_s wsX3_s ({ frames := 0, cells := 0, slots := 0, locals := 0 }) (pu_Pc [.int (x0)] sz) (ro_Qi (fX3_s x0) sz) 0 0 (ro sz) := by
  refine Met.ofW (cc := cX3_s) (maxL := 1) (ret := (some .int)) (by decide) rfl ?_
  intro p e s m args below meth c s₁ B hml hv
  obtain ⟨rfl, hsz⟩ := hv
  have hx := B.exec
  have hb := B.bytes
  have hr := B.returns
  have hts := atoms_spec (ws := wsX3_s) B.pre
  have hown : s.vm.findClass RX3 = some m.cls := findClass_of_methodNamed B.named
  have hlocks := B.notSynchronized
  subst hsz
  have hA : ∀ q : Nat, s.heap.size ≤ q → ro s.heap.size q := fun _ h => h
  have hS : va_S (ro s.heap.size) s.heap s.heap [] := va_S.rf
  have hl := lv_entry ([.int (x0)]) (n := 1) (Nat.le_of_ble_eq_true rfl)
  rw [lg_entry_eq]
  generalize (lg_sl ([.int (x0)]) ++ List.replicate (1 - (lg_sl ([.int (x0)])).length) Slot.unset).toArray = ls at hl ⊢
  have hl : lv_has ls 1 [(0, .int (x0))] := hl
  refine lv_iload_n hx hb dX3_s_0 rfl (lv_at hl 0 rfl) ?_
  refine lv_bipush (v := 21) hx hb dX3_s_1 (by decide) ?_
  refine lv_iushr (v := ush x0 21) hx hb dX3_s_3 rfl ?_
  refine lv_bipush (v := 31) hx hb dX3_s_4 (by decide) ?_
  refine lv_iand hx hb dX3_s_6 ?_
  exact W.iret (v := ((ush x0 21) &&& 31)) hx hb hr (fun t ht hW => ⟨⟨_, (), rfl, (by unfold fX3_s; rfl), trivial⟩, hS.F ht⟩) hS.2.2 dX3_s_7
def fX3_t (x0 : Int32) : Int32 := ((ush x0 16) &&& 31)
set_option maxHeartbeats 4000000 in
set_option maxRecDepth 100000 in
theorem cX3_t (l : Launch) (sz : Nat) (x0 : Int32) : Met l yX3_t wsX3_t ({ frames := 0, cells := 0, slots := 0, locals := 0 }) (pu_Pc [.int (x0)] sz) (ro_Qi (fX3_t x0) sz) 0 0 (ro sz) := by
  refine Met.ofW (cc := cX3_t) (maxL := 1) (ret := (some .int)) (by decide) rfl ?_
  intro p e s m args below meth c s₁ B hml hv
  obtain ⟨rfl, hsz⟩ := hv
  have hx := B.exec
  have hb := B.bytes
  have hr := B.returns
  have hts := atoms_spec (ws := wsX3_t) B.pre
  have hown : s.vm.findClass RX3 = some m.cls := findClass_of_methodNamed B.named
  have hlocks := B.notSynchronized
  subst hsz
  have hA : ∀ q : Nat, s.heap.size ≤ q → ro s.heap.size q := fun _ h => h
  have hS : va_S (ro s.heap.size) s.heap s.heap [] := va_S.rf
  have hl := lv_entry ([.int (x0)]) (n := 1) (Nat.le_of_ble_eq_true rfl)
  rw [lg_entry_eq]
  generalize (lg_sl ([.int (x0)]) ++ List.replicate (1 - (lg_sl ([.int (x0)])).length) Slot.unset).toArray = ls at hl ⊢
  have hl : lv_has ls 1 [(0, .int (x0))] := hl
  refine lv_iload_n hx hb dX3_t_0 rfl (lv_at hl 0 rfl) ?_
  refine lv_bipush (v := 16) hx hb dX3_t_1 (by decide) ?_
  refine lv_iushr (v := ush x0 16) hx hb dX3_t_3 rfl ?_
  refine lv_bipush (v := 31) hx hb dX3_t_4 (by decide) ?_
  refine lv_iand hx hb dX3_t_6 ?_
  exact W.iret (v := ((ush x0 16) &&& 31)) hx hb hr (fun t ht hW => ⟨⟨_, (), rfl, (by unfold fX3_t; rfl), trivial⟩, hS.F ht⟩) hS.2.2 dX3_t_7
def fX3_d (x0 : Int32) : Int32 := ((ush x0 11) &&& 31)
set_option maxHeartbeats 4000000 in
set_option maxRecDepth 100000 in
theorem cX3_d (l : Launch) (sz : Nat) (x0 : Int32) : Met l yX3_d wsX3_d ({ frames := 0, cells := 0, slots := 0, locals := 0 }) (pu_Pc [.int (x0)] sz) (ro_Qi (fX3_d x0) sz) 0 0 (ro sz) := by
  refine Met.ofW (cc := cX3_d) (maxL := 1) (ret := (some .int)) (by decide) rfl ?_
  intro p e s m args below meth c s₁ B hml hv
  obtain ⟨rfl, hsz⟩ := hv
  have hx := B.exec
  have hb := B.bytes
  have hr := B.returns
  have hts := atoms_spec (ws := wsX3_d) B.pre
  have hown : s.vm.findClass RX3 = some m.cls := findClass_of_methodNamed B.named
  have hlocks := B.notSynchronized
  subst hsz
  have hA : ∀ q : Nat, s.heap.size ≤ q → ro s.heap.size q := fun _ h => h
  have hS : va_S (ro s.heap.size) s.heap s.heap [] := va_S.rf
  have hl := lv_entry ([.int (x0)]) (n := 1) (Nat.le_of_ble_eq_true rfl)
  rw [lg_entry_eq]
  generalize (lg_sl ([.int (x0)]) ++ List.replicate (1 - (lg_sl ([.int (x0)])).length) Slot.unset).toArray = ls at hl ⊢
  have hl : lv_has ls 1 [(0, .int (x0))] := hl
  refine lv_iload_n hx hb dX3_d_0 rfl (lv_at hl 0 rfl) ?_
  refine lv_bipush (v := 11) hx hb dX3_d_1 (by decide) ?_
  refine lv_iushr (v := ush x0 11) hx hb dX3_d_3 rfl ?_
  refine lv_bipush (v := 31) hx hb dX3_d_4 (by decide) ?_
  refine lv_iand hx hb dX3_d_6 ?_
  exact W.iret (v := ((ush x0 11) &&& 31)) hx hb hr (fun t ht hW => ⟨⟨_, (), rfl, (by unfold fX3_d; rfl), trivial⟩, hS.F ht⟩) hS.2.2 dX3_d_7
def fX3_function (x0 : Int32) : Int32 := (x0 &&& 63)
set_option maxHeartbeats 4000000 in
set_option maxRecDepth 100000 in
theorem cX3_function (l : Launch) (sz : Nat) (x0 : Int32) : Met l yX3_function wsX3_function ({ frames := 0, cells := 0, slots := 0, locals := 0 }) (pu_Pc [.int (x0)] sz) (ro_Qi (fX3_function x0) sz) 0 0 (ro sz) := by
  refine Met.ofW (cc := cX3_function) (maxL := 1) (ret := (some .int)) (by decide) rfl ?_
  intro p e s m args below meth c s₁ B hml hv
  obtain ⟨rfl, hsz⟩ := hv
  have hx := B.exec
  have hb := B.bytes
  have hr := B.returns
  have hts := atoms_spec (ws := wsX3_function) B.pre
  have hown : s.vm.findClass RX3 = some m.cls := findClass_of_methodNamed B.named
  have hlocks := B.notSynchronized
  subst hsz
  have hA : ∀ q : Nat, s.heap.size ≤ q → ro s.heap.size q := fun _ h => h
  have hS : va_S (ro s.heap.size) s.heap s.heap [] := va_S.rf
  have hl := lv_entry ([.int (x0)]) (n := 1) (Nat.le_of_ble_eq_true rfl)
  rw [lg_entry_eq]
  generalize (lg_sl ([.int (x0)]) ++ List.replicate (1 - (lg_sl ([.int (x0)])).length) Slot.unset).toArray = ls at hl ⊢
  have hl : lv_has ls 1 [(0, .int (x0))] := hl
  refine lv_iload_n hx hb dX3_function_0 rfl (lv_at hl 0 rfl) ?_
  refine lv_bipush (v := 63) hx hb dX3_function_1 (by decide) ?_
  refine lv_iand hx hb dX3_function_3 ?_
  exact W.iret (v := (x0 &&& 63)) hx hb hr (fun t ht hW => ⟨⟨_, (), rfl, (by unfold fX3_function; rfl), trivial⟩, hS.F ht⟩) hS.2.2 dX3_function_4
def fX3_offset (x0 : Int32) : Int32 := (i2s x0)
set_option maxHeartbeats 4000000 in
set_option maxRecDepth 100000 in
theorem cX3_offset (l : Launch) (sz : Nat) (x0 : Int32) : Met l yX3_offset wsX3_offset ({ frames := 0, cells := 0, slots := 0, locals := 0 }) (pu_Pc [.int (x0)] sz) (ro_Qi (fX3_offset x0) sz) 0 0 (ro sz) := by
  refine Met.ofW (cc := cX3_offset) (maxL := 1) (ret := (some .int)) (by decide) rfl ?_
  intro p e s m args below meth c s₁ B hml hv
  obtain ⟨rfl, hsz⟩ := hv
  have hx := B.exec
  have hb := B.bytes
  have hr := B.returns
  have hts := atoms_spec (ws := wsX3_offset) B.pre
  have hown : s.vm.findClass RX3 = some m.cls := findClass_of_methodNamed B.named
  have hlocks := B.notSynchronized
  subst hsz
  have hA : ∀ q : Nat, s.heap.size ≤ q → ro s.heap.size q := fun _ h => h
  have hS : va_S (ro s.heap.size) s.heap s.heap [] := va_S.rf
  have hl := lv_entry ([.int (x0)]) (n := 1) (Nat.le_of_ble_eq_true rfl)
  rw [lg_entry_eq]
  generalize (lg_sl ([.int (x0)]) ++ List.replicate (1 - (lg_sl ([.int (x0)])).length) Slot.unset).toArray = ls at hl ⊢
  have hl : lv_has ls 1 [(0, .int (x0))] := hl
  refine lv_iload_n hx hb dX3_offset_0 rfl (lv_at hl 0 rfl) ?_
  refine lv_i2s (v := (i2s x0)) hx hb dX3_offset_1 rfl ?_
  exact W.iret (v := (i2s x0)) hx hb hr (fun t ht hW => ⟨⟨_, (), rfl, (by unfold fX3_offset; rfl), trivial⟩, hS.F ht⟩) hS.2.2 dX3_offset_2
def fX3_fractionD (x0 : Int32) : Int32 := ((ush x0 6) &&& 31)
set_option maxHeartbeats 4000000 in
set_option maxRecDepth 100000 in
theorem cX3_fractionD (l : Launch) (sz : Nat) (x0 : Int32) : Met l yX3_fractionD wsX3_fractionD ({ frames := 0, cells := 0, slots := 0, locals := 0 }) (pu_Pc [.int (x0)] sz) (ro_Qi (fX3_fractionD x0) sz) 0 0 (ro sz) := by
  refine Met.ofW (cc := cX3_fractionD) (maxL := 1) (ret := (some .int)) (by decide) rfl ?_
  intro p e s m args below meth c s₁ B hml hv
  obtain ⟨rfl, hsz⟩ := hv
  have hx := B.exec
  have hb := B.bytes
  have hr := B.returns
  have hts := atoms_spec (ws := wsX3_fractionD) B.pre
  have hown : s.vm.findClass RX3 = some m.cls := findClass_of_methodNamed B.named
  have hlocks := B.notSynchronized
  subst hsz
  have hA : ∀ q : Nat, s.heap.size ≤ q → ro s.heap.size q := fun _ h => h
  have hS : va_S (ro s.heap.size) s.heap s.heap [] := va_S.rf
  have hl := lv_entry ([.int (x0)]) (n := 1) (Nat.le_of_ble_eq_true rfl)
  rw [lg_entry_eq]
  generalize (lg_sl ([.int (x0)]) ++ List.replicate (1 - (lg_sl ([.int (x0)])).length) Slot.unset).toArray = ls at hl ⊢
  have hl : lv_has ls 1 [(0, .int (x0))] := hl
  refine lv_iload_n hx hb dX3_fractionD_0 rfl (lv_at hl 0 rfl) ?_
  refine lv_bipush (v := 6) hx hb dX3_fractionD_1 (by decide) ?_
  refine lv_iushr (v := ush x0 6) hx hb dX3_fractionD_3 rfl ?_
  refine lv_bipush (v := 31) hx hb dX3_fractionD_4 (by decide) ?_
  refine lv_iand hx hb dX3_fractionD_6 ?_
  exact W.iret (v := ((ush x0 6) &&& 31)) hx hb hr (fun t ht hW => ⟨⟨_, (), rfl, (by unfold fX3_fractionD; rfl), trivial⟩, hS.F ht⟩) hS.2.2 dX3_fractionD_7
def fX3_fractionT (x0 : Int32) : Int32 := (fX3_t x0)
set_option maxHeartbeats 4000000 in
set_option maxRecDepth 100000 in
theorem cX3_fractionT (l : Launch) (sz : Nat) (x0 : Int32) : Met l yX3_fractionT wsX3_fractionT ({ frames := 1, cells := 0, slots := 0, locals := 20 }) (pu_Pc [.int (x0)] sz) (ro_Qi (fX3_fractionT x0) sz) 0 0 (ro sz) := by
  refine Met.ofW (cc := cX3_fractionT) (maxL := 1) (ret := (some .int)) (by decide) rfl ?_
  intro p e s m args below meth c s₁ B hml hv
  obtain ⟨rfl, hsz⟩ := hv
  have hx := B.exec
  have hb := B.bytes
  have hr := B.returns
  have hts := atoms_spec (ws := wsX3_fractionT) B.pre
  have hown : s.vm.findClass RX3 = some m.cls := findClass_of_methodNamed B.named
  have hlocks := B.notSynchronized
  subst hsz
  have hA : ∀ q : Nat, s.heap.size ≤ q → ro s.heap.size q := fun _ h => h
  have hS : va_S (ro s.heap.size) s.heap s.heap [] := va_S.rf
  have hl := lv_entry ([.int (x0)]) (n := 1) (Nat.le_of_ble_eq_true rfl)
  rw [lg_entry_eq]
  generalize (lg_sl ([.int (x0)]) ++ List.replicate (1 - (lg_sl ([.int (x0)])).length) Slot.unset).toArray = ls at hl ⊢
  have hl : lv_has ls 1 [(0, .int (x0))] := hl
  refine lv_iload_n hx hb dX3_fractionT_0 rfl (lv_at hl 0 rfl) ?_
  refine ro_calli (va_runS (As := [.int (x0)]) (rest := []) ⟨hx, hb, hml, hown, hts⟩ (cX3_t l s.heap.size (x0)) (va_cwS 1 hts gX3_fractionT_X3_t rfl rfl rfl (by decide +kernel) ⟨Nat.le_of_ble_eq_true rfl, Nat.le_of_ble_eq_true rfl⟩) pu_preS rfl rfl hl.1 rfl (lv_room (Nat.le_of_ble_eq_true rfl)) dX3_fractionT_1 ⟨Nat.zero_le _, Nat.zero_le _⟩) hS hA (fun H locs kP hS => ?_)
  exact W.iret (v := (fX3_t x0)) hx hb hr (fun t ht hW => ⟨⟨_, (), rfl, (by unfold fX3_fractionT; rfl), trivial⟩, hS.F ht⟩) hS.2.2 dX3_fractionT_4
def fX3_fractionS (x0 : Int32) : Int32 := (fX3_d x0)
set_option maxHeartbeats 4000000 in
set_option maxRecDepth 100000 in
theorem cX3_fractionS (l : Launch) (sz : Nat) (x0 : Int32) : Met l yX3_fractionS wsX3_fractionS ({ frames := 1, cells := 0, slots := 0, locals := 20 }) (pu_Pc [.int (x0)] sz) (ro_Qi (fX3_fractionS x0) sz) 0 0 (ro sz) := by
  refine Met.ofW (cc := cX3_fractionS) (maxL := 1) (ret := (some .int)) (by decide) rfl ?_
  intro p e s m args below meth c s₁ B hml hv
  obtain ⟨rfl, hsz⟩ := hv
  have hx := B.exec
  have hb := B.bytes
  have hr := B.returns
  have hts := atoms_spec (ws := wsX3_fractionS) B.pre
  have hown : s.vm.findClass RX3 = some m.cls := findClass_of_methodNamed B.named
  have hlocks := B.notSynchronized
  subst hsz
  have hA : ∀ q : Nat, s.heap.size ≤ q → ro s.heap.size q := fun _ h => h
  have hS : va_S (ro s.heap.size) s.heap s.heap [] := va_S.rf
  have hl := lv_entry ([.int (x0)]) (n := 1) (Nat.le_of_ble_eq_true rfl)
  rw [lg_entry_eq]
  generalize (lg_sl ([.int (x0)]) ++ List.replicate (1 - (lg_sl ([.int (x0)])).length) Slot.unset).toArray = ls at hl ⊢
  have hl : lv_has ls 1 [(0, .int (x0))] := hl
  refine lv_iload_n hx hb dX3_fractionS_0 rfl (lv_at hl 0 rfl) ?_
  refine ro_calli (va_runS (As := [.int (x0)]) (rest := []) ⟨hx, hb, hml, hown, hts⟩ (cX3_d l s.heap.size (x0)) (va_cwS 1 hts gX3_fractionS_X3_d rfl rfl rfl (by decide +kernel) ⟨Nat.le_of_ble_eq_true rfl, Nat.le_of_ble_eq_true rfl⟩) pu_preS rfl rfl hl.1 rfl (lv_room (Nat.le_of_ble_eq_true rfl)) dX3_fractionS_1 ⟨Nat.zero_le _, Nat.zero_le _⟩) hS hA (fun H locs kP hS => ?_)
  exact W.iret (v := (fX3_d x0)) hx hb hr (fun t ht hW => ⟨⟨_, (), rfl, (by unfold fX3_fractionS; rfl), trivial⟩, hS.F ht⟩) hS.2.2 dX3_fractionS_4
def fX7_register (x0 : Int32) : Int64 := if x0 = 0 then 0 else (lsh 1 x0)
set_option maxHeartbeats 4000000 in
set_option maxRecDepth 100000 in
theorem cX7_register (l : Launch) (sz : Nat) (x0 : Int32) : Met l yX7_register wsX7_register ({ frames := 0, cells := 0, slots := 0, locals := 0 }) (pu_Pc [.int (x0)] sz) (ro_Ql (fX7_register x0) sz) 0 0 (ro sz) := by
  refine Met.ofW (cc := cX7_register) (maxL := 1) (ret := (some .long)) (by decide) rfl ?_
  intro p e s m args below meth c s₁ B hml hv
  obtain ⟨rfl, hsz⟩ := hv
  have hx := B.exec
  have hb := B.bytes
  have hr := B.returns
  have hts := atoms_spec (ws := wsX7_register) B.pre
  have hown : s.vm.findClass RX7 = some m.cls := findClass_of_methodNamed B.named
  have hlocks := B.notSynchronized
  subst hsz
  have hA : ∀ q : Nat, s.heap.size ≤ q → ro s.heap.size q := fun _ h => h
  have hS : va_S (ro s.heap.size) s.heap s.heap [] := va_S.rf
  have hl := lv_entry ([.int (x0)]) (n := 1) (Nat.le_of_ble_eq_true rfl)
  rw [lg_entry_eq]
  generalize (lg_sl ([.int (x0)]) ++ List.replicate (1 - (lg_sl ([.int (x0)])).length) Slot.unset).toArray = ls at hl ⊢
  have hl : lv_has ls 1 [(0, .int (x0))] := hl
  refine lv_iload_n hx hb dX7_register_0 rfl (lv_at hl 0 rfl) ?_
  refine lv_if_ne (tgt := 8) hx hb dX7_register_1 (by decide) (fun c_1 => ?_) (fun c_1 => ?_)
  · refine lv_lconst (v := 1) hx hb dX7_register_8 (by decide) ?_
    refine lv_iload_n hx hb dX7_register_9 rfl (lv_at hl 0 rfl) ?_
    refine lv_lshl (v := (lsh 1 x0)) hx hb dX7_register_10 rfl ?_
    exact W.lret (v := (lsh 1 x0)) hx hb hr (fun t ht hW => ⟨⟨_, (), rfl, (by unfold fX7_register; rw [if_neg c_1]), trivial⟩, hS.F ht⟩) hS.2.2 dX7_register_11
  · refine lv_lconst (v := 0) hx hb dX7_register_4 (by decide) ?_
    refine lv_goto (tgt := 11) hx hb dX7_register_5 (by decide) ?_
    exact W.lret (v := 0) hx hb hr (fun t ht hW => ⟨⟨_, (), rfl, (by unfold fX7_register; rw [if_pos c_1]), trivial⟩, hS.F ht⟩) hS.2.2 dX7_register_11
def fX7_fraction (x0 : Int32) (x1 : Int32) : Int32 := if x1 = 0 then (1 <<< (x0 &&& 31)) else (3 <<< (x0 &&& 31))
set_option maxHeartbeats 4000000 in
set_option maxRecDepth 100000 in
theorem cX7_fraction (l : Launch) (sz : Nat) (x0 : Int32) (x1 : Int32) : Met l yX7_fraction wsX7_fraction ({ frames := 0, cells := 0, slots := 0, locals := 0 }) (pu_Pc [.int (x0), .int (x1)] sz) (ro_Qi (fX7_fraction x0 x1) sz) 0 0 (ro sz) := by
  refine Met.ofW (cc := cX7_fraction) (maxL := 2) (ret := (some .int)) (by decide) rfl ?_
  intro p e s m args below meth c s₁ B hml hv
  obtain ⟨rfl, hsz⟩ := hv
  have hx := B.exec
  have hb := B.bytes
  have hr := B.returns
  have hts := atoms_spec (ws := wsX7_fraction) B.pre
  have hown : s.vm.findClass RX7 = some m.cls := findClass_of_methodNamed B.named
  have hlocks := B.notSynchronized
  subst hsz
  have hA : ∀ q : Nat, s.heap.size ≤ q → ro s.heap.size q := fun _ h => h
  have hS : va_S (ro s.heap.size) s.heap s.heap [] := va_S.rf
  have hl := lv_entry ([.int (x0), .int (x1)]) (n := 2) (Nat.le_of_ble_eq_true rfl)
  rw [lg_entry_eq]
  generalize (lg_sl ([.int (x0), .int (x1)]) ++ List.replicate (2 - (lg_sl ([.int (x0), .int (x1)])).length) Slot.unset).toArray = ls at hl ⊢
  have hl : lv_has ls 2 [(0, .int (x0)), (1, .int (x1))] := hl
  refine lv_iload_n hx hb dX7_fraction_0 rfl (lv_at hl 1 rfl) ?_
  refine lv_if_eq (tgt := 8) hx hb dX7_fraction_1 (by decide) (fun c_1 => ?_) (fun c_1 => ?_)
  · refine lv_iconst (v := 1) hx hb dX7_fraction_8 (by decide) ?_
    refine lv_iload_n hx hb dX7_fraction_9 rfl (lv_at hl 0 rfl) ?_
    refine lv_ishl hx hb dX7_fraction_10 ?_
    exact W.iret (v := (1 <<< (x0 &&& 31))) hx hb hr (fun t ht hW => ⟨⟨_, (), rfl, (by unfold fX7_fraction; rw [if_pos c_1]), trivial⟩, hS.F ht⟩) hS.2.2 dX7_fraction_11
  · refine lv_iconst (v := 3) hx hb dX7_fraction_4 (by decide) ?_
    refine lv_goto (tgt := 9) hx hb dX7_fraction_5 (by decide) ?_
    refine lv_iload_n hx hb dX7_fraction_9 rfl (lv_at hl 0 rfl) ?_
    refine lv_ishl hx hb dX7_fraction_10 ?_
    exact W.iret (v := (3 <<< (x0 &&& 31))) hx hb hr (fun t ht hW => ⟨⟨_, (), rfl, (by unfold fX7_fraction; rw [if_neg c_1]), trivial⟩, hS.F ht⟩) hS.2.2 dX7_fraction_11
def fX7_fractionS (x0 : Int32) (x1 : Int32) : Int32 := (fX7_fraction (fX3_fractionS x0) (fX4_has x1 1048576))
set_option maxHeartbeats 4000000 in
set_option maxRecDepth 100000 in
theorem cX7_fractionS (l : Launch) (sz : Nat) (x0 : Int32) (x1 : Int32) : Met l yX7_fractionS wsX7_fractionS ({ frames := 2, cells := 0, slots := 0, locals := 40 }) (pu_Pc [.int (x0), .int (x1)] sz) (ro_Qi (fX7_fractionS x0 x1) sz) 0 0 (ro sz) := by
  refine Met.ofW (cc := cX7_fractionS) (maxL := 2) (ret := (some .int)) (by decide) rfl ?_
  intro p e s m args below meth c s₁ B hml hv
  obtain ⟨rfl, hsz⟩ := hv
  have hx := B.exec
  have hb := B.bytes
  have hr := B.returns
  have hts := atoms_spec (ws := wsX7_fractionS) B.pre
  have hown : s.vm.findClass RX7 = some m.cls := findClass_of_methodNamed B.named
  have hlocks := B.notSynchronized
  subst hsz
  have hA : ∀ q : Nat, s.heap.size ≤ q → ro s.heap.size q := fun _ h => h
  have hS : va_S (ro s.heap.size) s.heap s.heap [] := va_S.rf
  have hl := lv_entry ([.int (x0), .int (x1)]) (n := 2) (Nat.le_of_ble_eq_true rfl)
  rw [lg_entry_eq]
  generalize (lg_sl ([.int (x0), .int (x1)]) ++ List.replicate (2 - (lg_sl ([.int (x0), .int (x1)])).length) Slot.unset).toArray = ls at hl ⊢
  have hl : lv_has ls 2 [(0, .int (x0)), (1, .int (x1))] := hl
  refine lv_iload_n hx hb dX7_fractionS_0 rfl (lv_at hl 0 rfl) ?_
  refine ro_calli (va_runS (As := [.int (x0)]) (rest := []) ⟨hx, hb, hml, hown, hts⟩ (cX3_fractionS l s.heap.size (x0)) (va_cwS 1 hts gX7_fractionS_X3_fractionS rfl rfl rfl (by decide +kernel) ⟨Nat.le_of_ble_eq_true rfl, Nat.le_of_ble_eq_true rfl⟩) pu_preS rfl rfl hl.1 rfl (lv_room (Nat.le_of_ble_eq_true rfl)) dX7_fractionS_1 ⟨Nat.zero_le _, Nat.zero_le _⟩) hS hA (fun H locs kP hS => ?_)
  refine lv_iload_n hx hb dX7_fractionS_4 rfl (lv_at hl 1 rfl) ?_
  refine lv_ldc (v := 1048576) hx hb hown (hts (.constant RX7 52 (1048576)) (by decide +kernel)) dX7_fractionS_5 ?_
  refine ro_calli (va_runS (As := [.int (x1), .int (1048576)]) (rest := [.int ((fX3_fractionS x0))]) ⟨hx, hb, hml, hown, hts⟩ (cX4_has l H.size (x1) (1048576)) (va_cwS 2 hts gX7_fractionS_X4_has rfl rfl rfl (by decide +kernel) ⟨Nat.le_of_ble_eq_true rfl, Nat.le_of_ble_eq_true rfl⟩) pu_preS rfl rfl hl.1 rfl (lv_room (Nat.le_of_ble_eq_true rfl)) dX7_fractionS_7 ⟨Nat.zero_le _, Nat.zero_le _⟩) hS hA (fun H locs kP hS => ?_)
  refine ro_calli (va_runS (As := [.int ((fX3_fractionS x0)), .int ((fX4_has x1 1048576))]) (rest := []) ⟨hx, hb, hml, hown, hts⟩ (cX7_fraction l H.size ((fX3_fractionS x0)) ((fX4_has x1 1048576))) (va_cwS 2 hts gX7_fractionS_X7_fraction rfl rfl rfl (by decide +kernel) ⟨Nat.le_of_ble_eq_true rfl, Nat.le_of_ble_eq_true rfl⟩) pu_preS rfl rfl hl.1 rfl (lv_room (Nat.le_of_ble_eq_true rfl)) dX7_fractionS_10 ⟨Nat.zero_le _, Nat.zero_le _⟩) hS hA (fun H locs kP hS => ?_)
  exact W.iret (v := (fX7_fraction (fX3_fractionS x0) (fX4_has x1 1048576))) hx hb hr (fun t ht hW => ⟨⟨_, (), rfl, (by unfold fX7_fractionS; rfl), trivial⟩, hS.F ht⟩) hS.2.2 dX7_fractionS_13
def fX7_fractionT (x0 : Int32) (x1 : Int32) : Int32 := (fX7_fraction (fX3_fractionT x0) (fX4_has x1 2097152))
set_option maxHeartbeats 4000000 in
set_option maxRecDepth 100000 in
theorem cX7_fractionT (l : Launch) (sz : Nat) (x0 : Int32) (x1 : Int32) : Met l yX7_fractionT wsX7_fractionT ({ frames := 2, cells := 0, slots := 0, locals := 40 }) (pu_Pc [.int (x0), .int (x1)] sz) (ro_Qi (fX7_fractionT x0 x1) sz) 0 0 (ro sz) := by
  refine Met.ofW (cc := cX7_fractionT) (maxL := 2) (ret := (some .int)) (by decide) rfl ?_
  intro p e s m args below meth c s₁ B hml hv
  obtain ⟨rfl, hsz⟩ := hv
  have hx := B.exec
  have hb := B.bytes
  have hr := B.returns
  have hts := atoms_spec (ws := wsX7_fractionT) B.pre
  have hown : s.vm.findClass RX7 = some m.cls := findClass_of_methodNamed B.named
  have hlocks := B.notSynchronized
  subst hsz
  have hA : ∀ q : Nat, s.heap.size ≤ q → ro s.heap.size q := fun _ h => h
  have hS : va_S (ro s.heap.size) s.heap s.heap [] := va_S.rf
  have hl := lv_entry ([.int (x0), .int (x1)]) (n := 2) (Nat.le_of_ble_eq_true rfl)
  rw [lg_entry_eq]
  generalize (lg_sl ([.int (x0), .int (x1)]) ++ List.replicate (2 - (lg_sl ([.int (x0), .int (x1)])).length) Slot.unset).toArray = ls at hl ⊢
  have hl : lv_has ls 2 [(0, .int (x0)), (1, .int (x1))] := hl
  refine lv_iload_n hx hb dX7_fractionT_0 rfl (lv_at hl 0 rfl) ?_
  refine ro_calli (va_runS (As := [.int (x0)]) (rest := []) ⟨hx, hb, hml, hown, hts⟩ (cX3_fractionT l s.heap.size (x0)) (va_cwS 1 hts gX7_fractionT_X3_fractionT rfl rfl rfl (by decide +kernel) ⟨Nat.le_of_ble_eq_true rfl, Nat.le_of_ble_eq_true rfl⟩) pu_preS rfl rfl hl.1 rfl (lv_room (Nat.le_of_ble_eq_true rfl)) dX7_fractionT_1 ⟨Nat.zero_le _, Nat.zero_le _⟩) hS hA (fun H locs kP hS => ?_)
  refine lv_iload_n hx hb dX7_fractionT_4 rfl (lv_at hl 1 rfl) ?_
  refine lv_ldc (v := 2097152) hx hb hown (hts (.constant RX7 59 (2097152)) (by decide +kernel)) dX7_fractionT_5 ?_
  refine ro_calli (va_runS (As := [.int (x1), .int (2097152)]) (rest := [.int ((fX3_fractionT x0))]) ⟨hx, hb, hml, hown, hts⟩ (cX4_has l H.size (x1) (2097152)) (va_cwS 2 hts gX7_fractionT_X4_has rfl rfl rfl (by decide +kernel) ⟨Nat.le_of_ble_eq_true rfl, Nat.le_of_ble_eq_true rfl⟩) pu_preS rfl rfl hl.1 rfl (lv_room (Nat.le_of_ble_eq_true rfl)) dX7_fractionT_7 ⟨Nat.zero_le _, Nat.zero_le _⟩) hS hA (fun H locs kP hS => ?_)
  refine ro_calli (va_runS (As := [.int ((fX3_fractionT x0)), .int ((fX4_has x1 2097152))]) (rest := []) ⟨hx, hb, hml, hown, hts⟩ (cX7_fraction l H.size ((fX3_fractionT x0)) ((fX4_has x1 2097152))) (va_cwS 2 hts gX7_fractionT_X7_fraction rfl rfl rfl (by decide +kernel) ⟨Nat.le_of_ble_eq_true rfl, Nat.le_of_ble_eq_true rfl⟩) pu_preS rfl rfl hl.1 rfl (lv_room (Nat.le_of_ble_eq_true rfl)) dX7_fractionT_10 ⟨Nat.zero_le _, Nat.zero_le _⟩) hS hA (fun H locs kP hS => ?_)
  exact W.iret (v := (fX7_fraction (fX3_fractionT x0) (fX4_has x1 2097152))) hx hb hr (fun t ht hW => ⟨⟨_, (), rfl, (by unfold fX7_fractionT; rfl), trivial⟩, hS.F ht⟩) hS.2.2 dX7_fractionT_13
def fX7_fractionD (x0 : Int32) (x1 : Int32) : Int32 := (fX7_fraction (fX3_fractionD x0) (fX4_has x1 4194304))
set_option maxHeartbeats 4000000 in
set_option maxRecDepth 100000 in
theorem cX7_fractionD (l : Launch) (sz : Nat) (x0 : Int32) (x1 : Int32) : Met l yX7_fractionD wsX7_fractionD ({ frames := 1, cells := 0, slots := 0, locals := 21 }) (pu_Pc [.int (x0), .int (x1)] sz) (ro_Qi (fX7_fractionD x0 x1) sz) 0 0 (ro sz) := by
  refine Met.ofW (cc := cX7_fractionD) (maxL := 2) (ret := (some .int)) (by decide) rfl ?_
  intro p e s m args below meth c s₁ B hml hv
  obtain ⟨rfl, hsz⟩ := hv
  have hx := B.exec
  have hb := B.bytes
  have hr := B.returns
  have hts := atoms_spec (ws := wsX7_fractionD) B.pre
  have hown : s.vm.findClass RX7 = some m.cls := findClass_of_methodNamed B.named
  have hlocks := B.notSynchronized
  subst hsz
  have hA : ∀ q : Nat, s.heap.size ≤ q → ro s.heap.size q := fun _ h => h
  have hS : va_S (ro s.heap.size) s.heap s.heap [] := va_S.rf
  have hl := lv_entry ([.int (x0), .int (x1)]) (n := 2) (Nat.le_of_ble_eq_true rfl)
  rw [lg_entry_eq]
  generalize (lg_sl ([.int (x0), .int (x1)]) ++ List.replicate (2 - (lg_sl ([.int (x0), .int (x1)])).length) Slot.unset).toArray = ls at hl ⊢
  have hl : lv_has ls 2 [(0, .int (x0)), (1, .int (x1))] := hl
  refine lv_iload_n hx hb dX7_fractionD_0 rfl (lv_at hl 0 rfl) ?_
  refine ro_calli (va_runS (As := [.int (x0)]) (rest := []) ⟨hx, hb, hml, hown, hts⟩ (cX3_fractionD l s.heap.size (x0)) (va_cwS 1 hts gX7_fractionD_X3_fractionD rfl rfl rfl (by decide +kernel) ⟨Nat.le_of_ble_eq_true rfl, Nat.le_of_ble_eq_true rfl⟩) pu_preS rfl rfl hl.1 rfl (lv_room (Nat.le_of_ble_eq_true rfl)) dX7_fractionD_1 ⟨Nat.zero_le _, Nat.zero_le _⟩) hS hA (fun H locs kP hS => ?_)
  refine lv_iload_n hx hb dX7_fractionD_4 rfl (lv_at hl 1 rfl) ?_
  refine lv_ldc (v := 4194304) hx hb hown (hts (.constant RX7 62 (4194304)) (by decide +kernel)) dX7_fractionD_5 ?_
  refine ro_calli (va_runS (As := [.int (x1), .int (4194304)]) (rest := [.int ((fX3_fractionD x0))]) ⟨hx, hb, hml, hown, hts⟩ (cX4_has l H.size (x1) (4194304)) (va_cwS 2 hts gX7_fractionD_X4_has rfl rfl rfl (by decide +kernel) ⟨Nat.le_of_ble_eq_true rfl, Nat.le_of_ble_eq_true rfl⟩) pu_preS rfl rfl hl.1 rfl (lv_room (Nat.le_of_ble_eq_true rfl)) dX7_fractionD_7 ⟨Nat.zero_le _, Nat.zero_le _⟩) hS hA (fun H locs kP hS => ?_)
  refine ro_calli (va_runS (As := [.int ((fX3_fractionD x0)), .int ((fX4_has x1 4194304))]) (rest := []) ⟨hx, hb, hml, hown, hts⟩ (cX7_fraction l H.size ((fX3_fractionD x0)) ((fX4_has x1 4194304))) (va_cwS 2 hts gX7_fractionD_X7_fraction rfl rfl rfl (by decide +kernel) ⟨Nat.le_of_ble_eq_true rfl, Nat.le_of_ble_eq_true rfl⟩) pu_preS rfl rfl hl.1 rfl (lv_room (Nat.le_of_ble_eq_true rfl)) dX7_fractionD_10 ⟨Nat.zero_le _, Nat.zero_le _⟩) hS hA (fun H locs kP hS => ?_)
  exact W.iret (v := (fX7_fraction (fX3_fractionD x0) (fX4_has x1 4194304))) hx hb hr (fun t ht hW => ⟨⟨_, (), rfl, (by unfold fX7_fractionD; rfl), trivial⟩, hS.F ht⟩) hS.2.2 dX7_fractionD_13
def fX7_reads (w f : Int32) : Int64 := (orIf (fX4_has f 4096) (orIf (fX4_has f 1024) (orIf (fX4_has f 64) (orIf (fX4_has f 32) (orIf (fX4_has f 16) 0 (fX7_register (fX3_s w))) (fX7_register (fX3_t w))) (fX7_register (fX3_d w))) 4294967296) 8589934592)
set_option maxHeartbeats 4000000 in
set_option maxRecDepth 100000 in
theorem cX7_reads (l : Launch) (sz : Nat) (w : Int32) (f : Int32) : Met l yX7_reads wsX7_reads ({ frames := 1, cells := 0, slots := 0, locals := 21 }) (pu_Pc [.int (w), .int (f)] sz) (ro_Ql ((fX7_reads w f)) sz) 0 0 (ro sz) := by
  refine Met.ofW (cc := cX7_reads) (maxL := 4) (ret := (some .long)) (by decide) rfl ?_
  intro p e s m args below meth c s₁ B hml hv
  obtain ⟨rfl, hsz⟩ := hv
  have hx := B.exec
  have hb := B.bytes
  have hr := B.returns
  have hts := atoms_spec (ws := wsX7_reads) B.pre
  have hown : s.vm.findClass RX7 = some m.cls := findClass_of_methodNamed B.named
  have hlocks := B.notSynchronized
  subst hsz
  have hA : ∀ q : Nat, s.heap.size ≤ q → ro s.heap.size q := fun _ h => h
  have hS : va_S (ro s.heap.size) s.heap s.heap [] := va_S.rf
  have hl := lv_entry ([.int (w), .int (f)]) (n := 4) (Nat.le_of_ble_eq_true rfl)
  rw [lg_entry_eq]
  generalize (lg_sl ([.int (w), .int (f)]) ++ List.replicate (4 - (lg_sl ([.int (w), .int (f)])).length) Slot.unset).toArray = ls at hl ⊢
  have hl : lv_has ls 4 [(0, .int (w)), (1, .int (f))] := hl
  have hv : (orIf (fX4_has f 4096) (orIf (fX4_has f 1024) (orIf (fX4_has f 64) (orIf (fX4_has f 32) (orIf (fX4_has f 16) 0 (fX7_register (fX3_s w))) (fX7_register (fX3_t w))) (fX7_register (fX3_d w))) 4294967296) 8589934592) = fX7_reads w f := rfl
  have J91 : ∀ (v : Int64) (H : Heap) (locs : List Loc) (ls : Array Slot), va_S (ro s.heap.size) s.heap H locs → lv_has ls 4 [(2, .long (v)), (0, .int (w)), (1, .int (f))] → v = fX7_reads w f → W p l e (headSpec wsX7_reads ({ frames := 1, cells := 0, slots := 0, locals := 21 })).room s m ([.int (w), .int (f)] : List Value).toArray below meth c H locs 0 0 (MQ below (ro_Ql (fX7_reads w f) s.heap.size) ([.int (w), .int (f)] : List Value).toArray s 0 0 (ro s.heap.size)) (F0 m 91 ls []) := by
    intro v H locs ls hS hl hv
    refine lv_lload_n hx hb dX7_reads_91 rfl (lv_at hl 0 rfl) ?_
    exact W.lret (v := v) hx hb hr (fun t ht hW => ⟨⟨_, (), rfl, hv, trivial⟩, hS.F ht⟩) hS.2.2 dX7_reads_92
  have J75 : ∀ (v : Int64) (H : Heap) (locs : List Loc) (ls : Array Slot), va_S (ro s.heap.size) s.heap H locs → lv_has ls 4 [(2, .long (v)), (0, .int (w)), (1, .int (f))] → (orIf (fX4_has f 4096) v 8589934592) = fX7_reads w f → W p l e (headSpec wsX7_reads ({ frames := 1, cells := 0, slots := 0, locals := 21 })).room s m ([.int (w), .int (f)] : List Value).toArray below meth c H locs 0 0 (MQ below (ro_Ql (fX7_reads w f) s.heap.size) ([.int (w), .int (f)] : List Value).toArray s 0 0 (ro s.heap.size)) (F0 m 75 ls []) := by
    intro v H locs ls hS hl hv
    refine lv_iload_n hx hb dX7_reads_75 rfl (lv_at hl 2 rfl) ?_
    refine lv_sipush (v := 4096) hx hb dX7_reads_76 (by decide) ?_
    refine ro_calli (va_runS (As := [.int (f), .int (4096)]) (rest := []) ⟨hx, hb, hml, hown, hts⟩ (cX4_has l H.size (f) (4096)) (va_cwS 2 hts gX7_reads_X4_has rfl rfl rfl (by decide +kernel) ⟨Nat.le_of_ble_eq_true rfl, Nat.le_of_ble_eq_true rfl⟩) pu_preS rfl rfl hl.1 rfl (lv_room (Nat.le_of_ble_eq_true rfl)) dX7_reads_79 ⟨Nat.zero_le _, Nat.zero_le _⟩) hS hA (fun H locs kP hS => ?_)
    refine lv_if_eq (tgt := 91) hx hb dX7_reads_82 (by decide) (fun c_1 => ?_) (fun c_1 => ?_)
    · exact J91 (v) H _ ls hS (lv_sub hl [0, 1, 2] rfl) (by rw [orIf_z c_1] at hv; exact hv)
    · refine lv_lload_n hx hb dX7_reads_85 rfl (lv_at hl 0 rfl) ?_
      refine lv_ldc2 (v := 8589934592) hx hb hown (hts (.constantLong RX7 33 (8589934592)) (by decide +kernel)) dX7_reads_86 ?_
      refine lv_lor hx hb dX7_reads_89 ?_
      refine lv_lstore_n (lv' := [(2, .long ((v ||| 8589934592))), (0, .int (w)), (1, .int (f))]) hx hb dX7_reads_90 rfl hl (by decide) rfl (fun ls hl => ?_)
      exact J91 ((v ||| 8589934592)) H _ ls hS (lv_sub hl [0, 1, 2] rfl) (by rw [orIf_n c_1] at hv; exact hv)
  have J59 : ∀ (v : Int64) (H : Heap) (locs : List Loc) (ls : Array Slot), va_S (ro s.heap.size) s.heap H locs → lv_has ls 4 [(2, .long (v)), (0, .int (w)), (1, .int (f))] → (orIf (fX4_has f 4096) (orIf (fX4_has f 1024) v 4294967296) 8589934592) = fX7_reads w f → W p l e (headSpec wsX7_reads ({ frames := 1, cells := 0, slots := 0, locals := 21 })).room s m ([.int (w), .int (f)] : List Value).toArray below meth c H locs 0 0 (MQ below (ro_Ql (fX7_reads w f) s.heap.size) ([.int (w), .int (f)] : List Value).toArray s 0 0 (ro s.heap.size)) (F0 m 59 ls []) := by
    intro v H locs ls hS hl hv
    refine lv_iload_n hx hb dX7_reads_59 rfl (lv_at hl 2 rfl) ?_
    refine lv_sipush (v := 1024) hx hb dX7_reads_60 (by decide) ?_
    refine ro_calli (va_runS (As := [.int (f), .int (1024)]) (rest := []) ⟨hx, hb, hml, hown, hts⟩ (cX4_has l H.size (f) (1024)) (va_cwS 2 hts gX7_reads_X4_has rfl rfl rfl (by decide +kernel) ⟨Nat.le_of_ble_eq_true rfl, Nat.le_of_ble_eq_true rfl⟩) pu_preS rfl rfl hl.1 rfl (lv_room (Nat.le_of_ble_eq_true rfl)) dX7_reads_63 ⟨Nat.zero_le _, Nat.zero_le _⟩) hS hA (fun H locs kP hS => ?_)
    refine lv_if_eq (tgt := 75) hx hb dX7_reads_66 (by decide) (fun c_2 => ?_) (fun c_2 => ?_)
    · exact J75 (v) H _ ls hS (lv_sub hl [0, 1, 2] rfl) (by rw [orIf_z c_2] at hv; exact hv)
    · refine lv_lload_n hx hb dX7_reads_69 rfl (lv_at hl 0 rfl) ?_
      refine lv_ldc2 (v := 4294967296) hx hb hown (hts (.constantLong RX7 31 (4294967296)) (by decide +kernel)) dX7_reads_70 ?_
      refine lv_lor hx hb dX7_reads_73 ?_
      refine lv_lstore_n (lv' := [(2, .long ((v ||| 4294967296))), (0, .int (w)), (1, .int (f))]) hx hb dX7_reads_74 rfl hl (by decide) rfl (fun ls hl => ?_)
      exact J75 ((v ||| 4294967296)) H _ ls hS (lv_sub hl [0, 1, 2] rfl) (by rw [orIf_n c_2] at hv; exact hv)
  have J40 : ∀ (v : Int64) (H : Heap) (locs : List Loc) (ls : Array Slot), va_S (ro s.heap.size) s.heap H locs → lv_has ls 4 [(2, .long (v)), (0, .int (w)), (1, .int (f))] → (orIf (fX4_has f 4096) (orIf (fX4_has f 1024) (orIf (fX4_has f 64) v (fX7_register (fX3_d w))) 4294967296) 8589934592) = fX7_reads w f → W p l e (headSpec wsX7_reads ({ frames := 1, cells := 0, slots := 0, locals := 21 })).room s m ([.int (w), .int (f)] : List Value).toArray below meth c H locs 0 0 (MQ below (ro_Ql (fX7_reads w f) s.heap.size) ([.int (w), .int (f)] : List Value).toArray s 0 0 (ro s.heap.size)) (F0 m 40 ls []) := by
    intro v H locs ls hS hl hv
    refine lv_iload_n hx hb dX7_reads_40 rfl (lv_at hl 2 rfl) ?_
    refine lv_bipush (v := 64) hx hb dX7_reads_41 (by decide) ?_
    refine ro_calli (va_runS (As := [.int (f), .int (64)]) (rest := []) ⟨hx, hb, hml, hown, hts⟩ (cX4_has l H.size (f) (64)) (va_cwS 2 hts gX7_reads_X4_has rfl rfl rfl (by decide +kernel) ⟨Nat.le_of_ble_eq_true rfl, Nat.le_of_ble_eq_true rfl⟩) pu_preS rfl rfl hl.1 rfl (lv_room (Nat.le_of_ble_eq_true rfl)) dX7_reads_43 ⟨Nat.zero_le _, Nat.zero_le _⟩) hS hA (fun H locs kP hS => ?_)
    refine lv_if_eq (tgt := 59) hx hb dX7_reads_46 (by decide) (fun c_3 => ?_) (fun c_3 => ?_)
    · exact J59 (v) H _ ls hS (lv_sub hl [0, 1, 2] rfl) (by rw [orIf_z c_3] at hv; exact hv)
    · refine lv_lload_n hx hb dX7_reads_49 rfl (lv_at hl 0 rfl) ?_
      refine lv_iload_n hx hb dX7_reads_50 rfl (lv_at hl 1 rfl) ?_
      refine ro_calli (va_runS (As := [.int (w)]) (rest := [.long (v)]) ⟨hx, hb, hml, hown, hts⟩ (cX3_d l H.size (w)) (va_cwS 1 hts gX7_reads_X3_d rfl rfl rfl (by decide +kernel) ⟨Nat.le_of_ble_eq_true rfl, Nat.le_of_ble_eq_true rfl⟩) pu_preS rfl rfl hl.1 rfl (lv_room (Nat.le_of_ble_eq_true rfl)) dX7_reads_51 ⟨Nat.zero_le _, Nat.zero_le _⟩) hS hA (fun H locs kP hS => ?_)
      refine ro_calll (va_runS (As := [.int ((fX3_d w))]) (rest := [.long (v)]) ⟨hx, hb, hml, hown, hts⟩ (cX7_register l H.size ((fX3_d w))) (va_cwS 1 hts gX7_reads_X7_register rfl rfl rfl (by decide +kernel) ⟨Nat.le_of_ble_eq_true rfl, Nat.le_of_ble_eq_true rfl⟩) pu_preS rfl rfl hl.1 rfl (lv_room (Nat.le_of_ble_eq_true rfl)) dX7_reads_54 ⟨Nat.zero_le _, Nat.zero_le _⟩) hS hA (fun H locs kP hS => ?_)
      refine lv_lor hx hb dX7_reads_57 ?_
      refine lv_lstore_n (lv' := [(2, .long ((v ||| (fX7_register (fX3_d w))))), (0, .int (w)), (1, .int (f))]) hx hb dX7_reads_58 rfl hl (by decide) rfl (fun ls hl => ?_)
      exact J59 ((v ||| (fX7_register (fX3_d w)))) H _ ls hS (lv_sub hl [0, 1, 2] rfl) (by rw [orIf_n c_3] at hv; exact hv)
  have J21 : ∀ (v : Int64) (H : Heap) (locs : List Loc) (ls : Array Slot), va_S (ro s.heap.size) s.heap H locs → lv_has ls 4 [(2, .long (v)), (0, .int (w)), (1, .int (f))] → (orIf (fX4_has f 4096) (orIf (fX4_has f 1024) (orIf (fX4_has f 64) (orIf (fX4_has f 32) v (fX7_register (fX3_t w))) (fX7_register (fX3_d w))) 4294967296) 8589934592) = fX7_reads w f → W p l e (headSpec wsX7_reads ({ frames := 1, cells := 0, slots := 0, locals := 21 })).room s m ([.int (w), .int (f)] : List Value).toArray below meth c H locs 0 0 (MQ below (ro_Ql (fX7_reads w f) s.heap.size) ([.int (w), .int (f)] : List Value).toArray s 0 0 (ro s.heap.size)) (F0 m 21 ls []) := by
    intro v H locs ls hS hl hv
    refine lv_iload_n hx hb dX7_reads_21 rfl (lv_at hl 2 rfl) ?_
    refine lv_bipush (v := 32) hx hb dX7_reads_22 (by decide) ?_
    refine ro_calli (va_runS (As := [.int (f), .int (32)]) (rest := []) ⟨hx, hb, hml, hown, hts⟩ (cX4_has l H.size (f) (32)) (va_cwS 2 hts gX7_reads_X4_has rfl rfl rfl (by decide +kernel) ⟨Nat.le_of_ble_eq_true rfl, Nat.le_of_ble_eq_true rfl⟩) pu_preS rfl rfl hl.1 rfl (lv_room (Nat.le_of_ble_eq_true rfl)) dX7_reads_24 ⟨Nat.zero_le _, Nat.zero_le _⟩) hS hA (fun H locs kP hS => ?_)
    refine lv_if_eq (tgt := 40) hx hb dX7_reads_27 (by decide) (fun c_4 => ?_) (fun c_4 => ?_)
    · exact J40 (v) H _ ls hS (lv_sub hl [0, 1, 2] rfl) (by rw [orIf_z c_4] at hv; exact hv)
    · refine lv_lload_n hx hb dX7_reads_30 rfl (lv_at hl 0 rfl) ?_
      refine lv_iload_n hx hb dX7_reads_31 rfl (lv_at hl 1 rfl) ?_
      refine ro_calli (va_runS (As := [.int (w)]) (rest := [.long (v)]) ⟨hx, hb, hml, hown, hts⟩ (cX3_t l H.size (w)) (va_cwS 1 hts gX7_reads_X3_t rfl rfl rfl (by decide +kernel) ⟨Nat.le_of_ble_eq_true rfl, Nat.le_of_ble_eq_true rfl⟩) pu_preS rfl rfl hl.1 rfl (lv_room (Nat.le_of_ble_eq_true rfl)) dX7_reads_32 ⟨Nat.zero_le _, Nat.zero_le _⟩) hS hA (fun H locs kP hS => ?_)
      refine ro_calll (va_runS (As := [.int ((fX3_t w))]) (rest := [.long (v)]) ⟨hx, hb, hml, hown, hts⟩ (cX7_register l H.size ((fX3_t w))) (va_cwS 1 hts gX7_reads_X7_register rfl rfl rfl (by decide +kernel) ⟨Nat.le_of_ble_eq_true rfl, Nat.le_of_ble_eq_true rfl⟩) pu_preS rfl rfl hl.1 rfl (lv_room (Nat.le_of_ble_eq_true rfl)) dX7_reads_35 ⟨Nat.zero_le _, Nat.zero_le _⟩) hS hA (fun H locs kP hS => ?_)
      refine lv_lor hx hb dX7_reads_38 ?_
      refine lv_lstore_n (lv' := [(2, .long ((v ||| (fX7_register (fX3_t w))))), (0, .int (w)), (1, .int (f))]) hx hb dX7_reads_39 rfl hl (by decide) rfl (fun ls hl => ?_)
      exact J40 ((v ||| (fX7_register (fX3_t w)))) H _ ls hS (lv_sub hl [0, 1, 2] rfl) (by rw [orIf_n c_4] at hv; exact hv)
  refine lv_lconst (v := 0) hx hb dX7_reads_0 (by decide) ?_
  refine lv_lstore_n (lv' := [(2, .long (0)), (0, .int (w)), (1, .int (f))]) hx hb dX7_reads_1 rfl hl (by decide) rfl (fun ls hl => ?_)
  refine lv_iload_n hx hb dX7_reads_2 rfl (lv_at hl 2 rfl) ?_
  refine lv_bipush (v := 16) hx hb dX7_reads_3 (by decide) ?_
  refine ro_calli (va_runS (As := [.int (f), .int (16)]) (rest := []) ⟨hx, hb, hml, hown, hts⟩ (cX4_has l s.heap.size (f) (16)) (va_cwS 2 hts gX7_reads_X4_has rfl rfl rfl (by decide +kernel) ⟨Nat.le_of_ble_eq_true rfl, Nat.le_of_ble_eq_true rfl⟩) pu_preS rfl rfl hl.1 rfl (lv_room (Nat.le_of_ble_eq_true rfl)) dX7_reads_5 ⟨Nat.zero_le _, Nat.zero_le _⟩) hS hA (fun H locs kP hS => ?_)
  refine lv_if_eq (tgt := 21) hx hb dX7_reads_8 (by decide) (fun c_5 => ?_) (fun c_5 => ?_)
  · exact J21 (0) H _ ls hS (lv_sub hl [0, 1, 2] rfl) (by rw [orIf_z c_5] at hv; exact hv)
  · refine lv_lload_n hx hb dX7_reads_11 rfl (lv_at hl 0 rfl) ?_
    refine lv_iload_n hx hb dX7_reads_12 rfl (lv_at hl 1 rfl) ?_
    refine ro_calli (va_runS (As := [.int (w)]) (rest := [.long (0)]) ⟨hx, hb, hml, hown, hts⟩ (cX3_s l H.size (w)) (va_cwS 1 hts gX7_reads_X3_s rfl rfl rfl (by decide +kernel) ⟨Nat.le_of_ble_eq_true rfl, Nat.le_of_ble_eq_true rfl⟩) pu_preS rfl rfl hl.1 rfl (lv_room (Nat.le_of_ble_eq_true rfl)) dX7_reads_13 ⟨Nat.zero_le _, Nat.zero_le _⟩) hS hA (fun H locs kP hS => ?_)
    refine ro_calll (va_runS (As := [.int ((fX3_s w))]) (rest := [.long (0)]) ⟨hx, hb, hml, hown, hts⟩ (cX7_register l H.size ((fX3_s w))) (va_cwS 1 hts gX7_reads_X7_register rfl rfl rfl (by decide +kernel) ⟨Nat.le_of_ble_eq_true rfl, Nat.le_of_ble_eq_true rfl⟩) pu_preS rfl rfl hl.1 rfl (lv_room (Nat.le_of_ble_eq_true rfl)) dX7_reads_16 ⟨Nat.zero_le _, Nat.zero_le _⟩) hS hA (fun H locs kP hS => ?_)
    refine lv_lor hx hb dX7_reads_19 ?_
    refine lv_lstore_n (lv' := [(2, .long ((0 ||| (fX7_register (fX3_s w))))), (0, .int (w)), (1, .int (f))]) hx hb dX7_reads_20 rfl hl (by decide) rfl (fun ls hl => ?_)
    exact J21 ((0 ||| (fX7_register (fX3_s w)))) H _ ls hS (lv_sub hl [0, 1, 2] rfl) (by rw [orIf_n c_5] at hv; exact hv)
def fX7_writes (w f : Int32) : Int64 := (orIf (fX4_has f 8192) (orIf (fX4_has f 2048) (orIf (fX4_has f 512) (orIf (fX4_has f 256) (orIf (fX4_has f 128) 0 (fX7_register (fX3_t w))) (fX7_register (fX3_d w))) (fX7_register 31)) 4294967296) 8589934592)
set_option maxHeartbeats 4000000 in
set_option maxRecDepth 100000 in
theorem cX7_writes (l : Launch) (sz : Nat) (w : Int32) (f : Int32) : Met l yX7_writes wsX7_writes ({ frames := 1, cells := 0, slots := 0, locals := 21 }) (pu_Pc [.int (w), .int (f)] sz) (ro_Ql ((fX7_writes w f)) sz) 0 0 (ro sz) := by
  refine Met.ofW (cc := cX7_writes) (maxL := 4) (ret := (some .long)) (by decide) rfl ?_
  intro p e s m args below meth c s₁ B hml hv
  obtain ⟨rfl, hsz⟩ := hv
  have hx := B.exec
  have hb := B.bytes
  have hr := B.returns
  have hts := atoms_spec (ws := wsX7_writes) B.pre
  have hown : s.vm.findClass RX7 = some m.cls := findClass_of_methodNamed B.named
  have hlocks := B.notSynchronized
  subst hsz
  have hA : ∀ q : Nat, s.heap.size ≤ q → ro s.heap.size q := fun _ h => h
  have hS : va_S (ro s.heap.size) s.heap s.heap [] := va_S.rf
  have hl := lv_entry ([.int (w), .int (f)]) (n := 4) (Nat.le_of_ble_eq_true rfl)
  rw [lg_entry_eq]
  generalize (lg_sl ([.int (w), .int (f)]) ++ List.replicate (4 - (lg_sl ([.int (w), .int (f)])).length) Slot.unset).toArray = ls at hl ⊢
  have hl : lv_has ls 4 [(0, .int (w)), (1, .int (f))] := hl
  have hv : (orIf (fX4_has f 8192) (orIf (fX4_has f 2048) (orIf (fX4_has f 512) (orIf (fX4_has f 256) (orIf (fX4_has f 128) 0 (fX7_register (fX3_t w))) (fX7_register (fX3_d w))) (fX7_register 31)) 4294967296) 8589934592) = fX7_writes w f := rfl
  have J92 : ∀ (v : Int64) (H : Heap) (locs : List Loc) (ls : Array Slot), va_S (ro s.heap.size) s.heap H locs → lv_has ls 4 [(2, .long (v)), (0, .int (w)), (1, .int (f))] → v = fX7_writes w f → W p l e (headSpec wsX7_writes ({ frames := 1, cells := 0, slots := 0, locals := 21 })).room s m ([.int (w), .int (f)] : List Value).toArray below meth c H locs 0 0 (MQ below (ro_Ql (fX7_writes w f) s.heap.size) ([.int (w), .int (f)] : List Value).toArray s 0 0 (ro s.heap.size)) (F0 m 92 ls []) := by
    intro v H locs ls hS hl hv
    refine lv_lload_n hx hb dX7_writes_92 rfl (lv_at hl 0 rfl) ?_
    exact W.lret (v := v) hx hb hr (fun t ht hW => ⟨⟨_, (), rfl, hv, trivial⟩, hS.F ht⟩) hS.2.2 dX7_writes_93
  have J76 : ∀ (v : Int64) (H : Heap) (locs : List Loc) (ls : Array Slot), va_S (ro s.heap.size) s.heap H locs → lv_has ls 4 [(2, .long (v)), (0, .int (w)), (1, .int (f))] → (orIf (fX4_has f 8192) v 8589934592) = fX7_writes w f → W p l e (headSpec wsX7_writes ({ frames := 1, cells := 0, slots := 0, locals := 21 })).room s m ([.int (w), .int (f)] : List Value).toArray below meth c H locs 0 0 (MQ below (ro_Ql (fX7_writes w f) s.heap.size) ([.int (w), .int (f)] : List Value).toArray s 0 0 (ro s.heap.size)) (F0 m 76 ls []) := by
    intro v H locs ls hS hl hv
    refine lv_iload_n hx hb dX7_writes_76 rfl (lv_at hl 2 rfl) ?_
    refine lv_sipush (v := 8192) hx hb dX7_writes_77 (by decide) ?_
    refine ro_calli (va_runS (As := [.int (f), .int (8192)]) (rest := []) ⟨hx, hb, hml, hown, hts⟩ (cX4_has l H.size (f) (8192)) (va_cwS 2 hts gX7_writes_X4_has rfl rfl rfl (by decide +kernel) ⟨Nat.le_of_ble_eq_true rfl, Nat.le_of_ble_eq_true rfl⟩) pu_preS rfl rfl hl.1 rfl (lv_room (Nat.le_of_ble_eq_true rfl)) dX7_writes_80 ⟨Nat.zero_le _, Nat.zero_le _⟩) hS hA (fun H locs kP hS => ?_)
    refine lv_if_eq (tgt := 92) hx hb dX7_writes_83 (by decide) (fun c_1 => ?_) (fun c_1 => ?_)
    · exact J92 (v) H _ ls hS (lv_sub hl [0, 1, 2] rfl) (by rw [orIf_z c_1] at hv; exact hv)
    · refine lv_lload_n hx hb dX7_writes_86 rfl (lv_at hl 0 rfl) ?_
      refine lv_ldc2 (v := 8589934592) hx hb hown (hts (.constantLong RX7 33 (8589934592)) (by decide +kernel)) dX7_writes_87 ?_
      refine lv_lor hx hb dX7_writes_90 ?_
      refine lv_lstore_n (lv' := [(2, .long ((v ||| 8589934592))), (0, .int (w)), (1, .int (f))]) hx hb dX7_writes_91 rfl hl (by decide) rfl (fun ls hl => ?_)
      exact J92 ((v ||| 8589934592)) H _ ls hS (lv_sub hl [0, 1, 2] rfl) (by rw [orIf_n c_1] at hv; exact hv)
  have J60 : ∀ (v : Int64) (H : Heap) (locs : List Loc) (ls : Array Slot), va_S (ro s.heap.size) s.heap H locs → lv_has ls 4 [(2, .long (v)), (0, .int (w)), (1, .int (f))] → (orIf (fX4_has f 8192) (orIf (fX4_has f 2048) v 4294967296) 8589934592) = fX7_writes w f → W p l e (headSpec wsX7_writes ({ frames := 1, cells := 0, slots := 0, locals := 21 })).room s m ([.int (w), .int (f)] : List Value).toArray below meth c H locs 0 0 (MQ below (ro_Ql (fX7_writes w f) s.heap.size) ([.int (w), .int (f)] : List Value).toArray s 0 0 (ro s.heap.size)) (F0 m 60 ls []) := by
    intro v H locs ls hS hl hv
    refine lv_iload_n hx hb dX7_writes_60 rfl (lv_at hl 2 rfl) ?_
    refine lv_sipush (v := 2048) hx hb dX7_writes_61 (by decide) ?_
    refine ro_calli (va_runS (As := [.int (f), .int (2048)]) (rest := []) ⟨hx, hb, hml, hown, hts⟩ (cX4_has l H.size (f) (2048)) (va_cwS 2 hts gX7_writes_X4_has rfl rfl rfl (by decide +kernel) ⟨Nat.le_of_ble_eq_true rfl, Nat.le_of_ble_eq_true rfl⟩) pu_preS rfl rfl hl.1 rfl (lv_room (Nat.le_of_ble_eq_true rfl)) dX7_writes_64 ⟨Nat.zero_le _, Nat.zero_le _⟩) hS hA (fun H locs kP hS => ?_)
    refine lv_if_eq (tgt := 76) hx hb dX7_writes_67 (by decide) (fun c_2 => ?_) (fun c_2 => ?_)
    · exact J76 (v) H _ ls hS (lv_sub hl [0, 1, 2] rfl) (by rw [orIf_z c_2] at hv; exact hv)
    · refine lv_lload_n hx hb dX7_writes_70 rfl (lv_at hl 0 rfl) ?_
      refine lv_ldc2 (v := 4294967296) hx hb hown (hts (.constantLong RX7 31 (4294967296)) (by decide +kernel)) dX7_writes_71 ?_
      refine lv_lor hx hb dX7_writes_74 ?_
      refine lv_lstore_n (lv' := [(2, .long ((v ||| 4294967296))), (0, .int (w)), (1, .int (f))]) hx hb dX7_writes_75 rfl hl (by decide) rfl (fun ls hl => ?_)
      exact J76 ((v ||| 4294967296)) H _ ls hS (lv_sub hl [0, 1, 2] rfl) (by rw [orIf_n c_2] at hv; exact hv)
  have J42 : ∀ (v : Int64) (H : Heap) (locs : List Loc) (ls : Array Slot), va_S (ro s.heap.size) s.heap H locs → lv_has ls 4 [(2, .long (v)), (0, .int (w)), (1, .int (f))] → (orIf (fX4_has f 8192) (orIf (fX4_has f 2048) (orIf (fX4_has f 512) v (fX7_register 31)) 4294967296) 8589934592) = fX7_writes w f → W p l e (headSpec wsX7_writes ({ frames := 1, cells := 0, slots := 0, locals := 21 })).room s m ([.int (w), .int (f)] : List Value).toArray below meth c H locs 0 0 (MQ below (ro_Ql (fX7_writes w f) s.heap.size) ([.int (w), .int (f)] : List Value).toArray s 0 0 (ro s.heap.size)) (F0 m 42 ls []) := by
    intro v H locs ls hS hl hv
    refine lv_iload_n hx hb dX7_writes_42 rfl (lv_at hl 2 rfl) ?_
    refine lv_sipush (v := 512) hx hb dX7_writes_43 (by decide) ?_
    refine ro_calli (va_runS (As := [.int (f), .int (512)]) (rest := []) ⟨hx, hb, hml, hown, hts⟩ (cX4_has l H.size (f) (512)) (va_cwS 2 hts gX7_writes_X4_has rfl rfl rfl (by decide +kernel) ⟨Nat.le_of_ble_eq_true rfl, Nat.le_of_ble_eq_true rfl⟩) pu_preS rfl rfl hl.1 rfl (lv_room (Nat.le_of_ble_eq_true rfl)) dX7_writes_46 ⟨Nat.zero_le _, Nat.zero_le _⟩) hS hA (fun H locs kP hS => ?_)
    refine lv_if_eq (tgt := 60) hx hb dX7_writes_49 (by decide) (fun c_3 => ?_) (fun c_3 => ?_)
    · exact J60 (v) H _ ls hS (lv_sub hl [0, 1, 2] rfl) (by rw [orIf_z c_3] at hv; exact hv)
    · refine lv_lload_n hx hb dX7_writes_52 rfl (lv_at hl 0 rfl) ?_
      refine lv_bipush (v := 31) hx hb dX7_writes_53 (by decide) ?_
      refine ro_calll (va_runS (As := [.int (31)]) (rest := [.long (v)]) ⟨hx, hb, hml, hown, hts⟩ (cX7_register l H.size (31)) (va_cwS 1 hts gX7_writes_X7_register rfl rfl rfl (by decide +kernel) ⟨Nat.le_of_ble_eq_true rfl, Nat.le_of_ble_eq_true rfl⟩) pu_preS rfl rfl hl.1 rfl (lv_room (Nat.le_of_ble_eq_true rfl)) dX7_writes_55 ⟨Nat.zero_le _, Nat.zero_le _⟩) hS hA (fun H locs kP hS => ?_)
      refine lv_lor hx hb dX7_writes_58 ?_
      refine lv_lstore_n (lv' := [(2, .long ((v ||| (fX7_register 31)))), (0, .int (w)), (1, .int (f))]) hx hb dX7_writes_59 rfl hl (by decide) rfl (fun ls hl => ?_)
      exact J60 ((v ||| (fX7_register 31))) H _ ls hS (lv_sub hl [0, 1, 2] rfl) (by rw [orIf_n c_3] at hv; exact hv)
  have J22 : ∀ (v : Int64) (H : Heap) (locs : List Loc) (ls : Array Slot), va_S (ro s.heap.size) s.heap H locs → lv_has ls 4 [(2, .long (v)), (0, .int (w)), (1, .int (f))] → (orIf (fX4_has f 8192) (orIf (fX4_has f 2048) (orIf (fX4_has f 512) (orIf (fX4_has f 256) v (fX7_register (fX3_d w))) (fX7_register 31)) 4294967296) 8589934592) = fX7_writes w f → W p l e (headSpec wsX7_writes ({ frames := 1, cells := 0, slots := 0, locals := 21 })).room s m ([.int (w), .int (f)] : List Value).toArray below meth c H locs 0 0 (MQ below (ro_Ql (fX7_writes w f) s.heap.size) ([.int (w), .int (f)] : List Value).toArray s 0 0 (ro s.heap.size)) (F0 m 22 ls []) := by
    intro v H locs ls hS hl hv
    refine lv_iload_n hx hb dX7_writes_22 rfl (lv_at hl 2 rfl) ?_
    refine lv_sipush (v := 256) hx hb dX7_writes_23 (by decide) ?_
    refine ro_calli (va_runS (As := [.int (f), .int (256)]) (rest := []) ⟨hx, hb, hml, hown, hts⟩ (cX4_has l H.size (f) (256)) (va_cwS 2 hts gX7_writes_X4_has rfl rfl rfl (by decide +kernel) ⟨Nat.le_of_ble_eq_true rfl, Nat.le_of_ble_eq_true rfl⟩) pu_preS rfl rfl hl.1 rfl (lv_room (Nat.le_of_ble_eq_true rfl)) dX7_writes_26 ⟨Nat.zero_le _, Nat.zero_le _⟩) hS hA (fun H locs kP hS => ?_)
    refine lv_if_eq (tgt := 42) hx hb dX7_writes_29 (by decide) (fun c_4 => ?_) (fun c_4 => ?_)
    · exact J42 (v) H _ ls hS (lv_sub hl [0, 1, 2] rfl) (by rw [orIf_z c_4] at hv; exact hv)
    · refine lv_lload_n hx hb dX7_writes_32 rfl (lv_at hl 0 rfl) ?_
      refine lv_iload_n hx hb dX7_writes_33 rfl (lv_at hl 1 rfl) ?_
      refine ro_calli (va_runS (As := [.int (w)]) (rest := [.long (v)]) ⟨hx, hb, hml, hown, hts⟩ (cX3_d l H.size (w)) (va_cwS 1 hts gX7_writes_X3_d rfl rfl rfl (by decide +kernel) ⟨Nat.le_of_ble_eq_true rfl, Nat.le_of_ble_eq_true rfl⟩) pu_preS rfl rfl hl.1 rfl (lv_room (Nat.le_of_ble_eq_true rfl)) dX7_writes_34 ⟨Nat.zero_le _, Nat.zero_le _⟩) hS hA (fun H locs kP hS => ?_)
      refine ro_calll (va_runS (As := [.int ((fX3_d w))]) (rest := [.long (v)]) ⟨hx, hb, hml, hown, hts⟩ (cX7_register l H.size ((fX3_d w))) (va_cwS 1 hts gX7_writes_X7_register rfl rfl rfl (by decide +kernel) ⟨Nat.le_of_ble_eq_true rfl, Nat.le_of_ble_eq_true rfl⟩) pu_preS rfl rfl hl.1 rfl (lv_room (Nat.le_of_ble_eq_true rfl)) dX7_writes_37 ⟨Nat.zero_le _, Nat.zero_le _⟩) hS hA (fun H locs kP hS => ?_)
      refine lv_lor hx hb dX7_writes_40 ?_
      refine lv_lstore_n (lv' := [(2, .long ((v ||| (fX7_register (fX3_d w))))), (0, .int (w)), (1, .int (f))]) hx hb dX7_writes_41 rfl hl (by decide) rfl (fun ls hl => ?_)
      exact J42 ((v ||| (fX7_register (fX3_d w)))) H _ ls hS (lv_sub hl [0, 1, 2] rfl) (by rw [orIf_n c_4] at hv; exact hv)
  refine lv_lconst (v := 0) hx hb dX7_writes_0 (by decide) ?_
  refine lv_lstore_n (lv' := [(2, .long (0)), (0, .int (w)), (1, .int (f))]) hx hb dX7_writes_1 rfl hl (by decide) rfl (fun ls hl => ?_)
  refine lv_iload_n hx hb dX7_writes_2 rfl (lv_at hl 2 rfl) ?_
  refine lv_sipush (v := 128) hx hb dX7_writes_3 (by decide) ?_
  refine ro_calli (va_runS (As := [.int (f), .int (128)]) (rest := []) ⟨hx, hb, hml, hown, hts⟩ (cX4_has l s.heap.size (f) (128)) (va_cwS 2 hts gX7_writes_X4_has rfl rfl rfl (by decide +kernel) ⟨Nat.le_of_ble_eq_true rfl, Nat.le_of_ble_eq_true rfl⟩) pu_preS rfl rfl hl.1 rfl (lv_room (Nat.le_of_ble_eq_true rfl)) dX7_writes_6 ⟨Nat.zero_le _, Nat.zero_le _⟩) hS hA (fun H locs kP hS => ?_)
  refine lv_if_eq (tgt := 22) hx hb dX7_writes_9 (by decide) (fun c_5 => ?_) (fun c_5 => ?_)
  · exact J22 (0) H _ ls hS (lv_sub hl [0, 1, 2] rfl) (by rw [orIf_z c_5] at hv; exact hv)
  · refine lv_lload_n hx hb dX7_writes_12 rfl (lv_at hl 0 rfl) ?_
    refine lv_iload_n hx hb dX7_writes_13 rfl (lv_at hl 1 rfl) ?_
    refine ro_calli (va_runS (As := [.int (w)]) (rest := [.long (0)]) ⟨hx, hb, hml, hown, hts⟩ (cX3_t l H.size (w)) (va_cwS 1 hts gX7_writes_X3_t rfl rfl rfl (by decide +kernel) ⟨Nat.le_of_ble_eq_true rfl, Nat.le_of_ble_eq_true rfl⟩) pu_preS rfl rfl hl.1 rfl (lv_room (Nat.le_of_ble_eq_true rfl)) dX7_writes_14 ⟨Nat.zero_le _, Nat.zero_le _⟩) hS hA (fun H locs kP hS => ?_)
    refine ro_calll (va_runS (As := [.int ((fX3_t w))]) (rest := [.long (0)]) ⟨hx, hb, hml, hown, hts⟩ (cX7_register l H.size ((fX3_t w))) (va_cwS 1 hts gX7_writes_X7_register rfl rfl rfl (by decide +kernel) ⟨Nat.le_of_ble_eq_true rfl, Nat.le_of_ble_eq_true rfl⟩) pu_preS rfl rfl hl.1 rfl (lv_room (Nat.le_of_ble_eq_true rfl)) dX7_writes_17 ⟨Nat.zero_le _, Nat.zero_le _⟩) hS hA (fun H locs kP hS => ?_)
    refine lv_lor hx hb dX7_writes_20 ?_
    refine lv_lstore_n (lv' := [(2, .long ((0 ||| (fX7_register (fX3_t w))))), (0, .int (w)), (1, .int (f))]) hx hb dX7_writes_21 rfl hl (by decide) rfl (fun ls hl => ?_)
    exact J22 ((0 ||| (fX7_register (fX3_t w)))) H _ ls hS (lv_sub hl [0, 1, 2] rfl) (by rw [orIf_n c_5] at hv; exact hv)
def fX7_readsFractions (w f : Int32) : Int32 := (orIi (fX4_has f 65536) (orIi (fX4_has f 32768) (orIi (fX4_has f 16384) 0 (fX7_fractionS w f)) (fX7_fractionT w f)) (fX7_fractionD w f))
set_option maxHeartbeats 4000000 in
set_option maxRecDepth 100000 in
theorem cX7_readsFractions (l : Launch) (sz : Nat) (w : Int32) (f : Int32) : Met l yX7_readsFractions wsX7_readsFractions ({ frames := 3, cells := 0, slots := 0, locals := 61 }) (pu_Pc [.int (w), .int (f)] sz) (ro_Qi ((fX7_readsFractions w f)) sz) 0 0 (ro sz) := by
  refine Met.ofW (cc := cX7_readsFractions) (maxL := 3) (ret := (some .int)) (by decide) rfl ?_
  intro p e s m args below meth c s₁ B hml hv
  obtain ⟨rfl, hsz⟩ := hv
  have hx := B.exec
  have hb := B.bytes
  have hr := B.returns
  have hts := atoms_spec (ws := wsX7_readsFractions) B.pre
  have hown : s.vm.findClass RX7 = some m.cls := findClass_of_methodNamed B.named
  have hlocks := B.notSynchronized
  subst hsz
  have hA : ∀ q : Nat, s.heap.size ≤ q → ro s.heap.size q := fun _ h => h
  have hS : va_S (ro s.heap.size) s.heap s.heap [] := va_S.rf
  have hl := lv_entry ([.int (w), .int (f)]) (n := 3) (Nat.le_of_ble_eq_true rfl)
  rw [lg_entry_eq]
  generalize (lg_sl ([.int (w), .int (f)]) ++ List.replicate (3 - (lg_sl ([.int (w), .int (f)])).length) Slot.unset).toArray = ls at hl ⊢
  have hl : lv_has ls 3 [(0, .int (w)), (1, .int (f))] := hl
  have hv : (orIi (fX4_has f 65536) (orIi (fX4_has f 32768) (orIi (fX4_has f 16384) 0 (fX7_fractionS w f)) (fX7_fractionT w f)) (fX7_fractionD w f)) = fX7_readsFractions w f := rfl
  have J54 : ∀ (v : Int32) (H : Heap) (locs : List Loc) (ls : Array Slot), va_S (ro s.heap.size) s.heap H locs → lv_has ls 3 [(2, .int (v)), (0, .int (w)), (1, .int (f))] → v = fX7_readsFractions w f → W p l e (headSpec wsX7_readsFractions ({ frames := 3, cells := 0, slots := 0, locals := 61 })).room s m ([.int (w), .int (f)] : List Value).toArray below meth c H locs 0 0 (MQ below (ro_Qi (fX7_readsFractions w f) s.heap.size) ([.int (w), .int (f)] : List Value).toArray s 0 0 (ro s.heap.size)) (F0 m 54 ls []) := by
    intro v H locs ls hS hl hv
    refine lv_iload_n hx hb dX7_readsFractions_54 rfl (lv_at hl 0 rfl) ?_
    exact W.iret (v := v) hx hb hr (fun t ht hW => ⟨⟨_, (), rfl, hv, trivial⟩, hS.F ht⟩) hS.2.2 dX7_readsFractions_55
  have J37 : ∀ (v : Int32) (H : Heap) (locs : List Loc) (ls : Array Slot), va_S (ro s.heap.size) s.heap H locs → lv_has ls 3 [(2, .int (v)), (0, .int (w)), (1, .int (f))] → (orIi (fX4_has f 65536) v (fX7_fractionD w f)) = fX7_readsFractions w f → W p l e (headSpec wsX7_readsFractions ({ frames := 3, cells := 0, slots := 0, locals := 61 })).room s m ([.int (w), .int (f)] : List Value).toArray below meth c H locs 0 0 (MQ below (ro_Qi (fX7_readsFractions w f) s.heap.size) ([.int (w), .int (f)] : List Value).toArray s 0 0 (ro s.heap.size)) (F0 m 37 ls []) := by
    intro v H locs ls hS hl hv
    refine lv_iload_n hx hb dX7_readsFractions_37 rfl (lv_at hl 2 rfl) ?_
    refine lv_ldc (v := 65536) hx hb hown (hts (.constant RX7 43 (65536)) (by decide +kernel)) dX7_readsFractions_38 ?_
    refine ro_calli (va_runS (As := [.int (f), .int (65536)]) (rest := []) ⟨hx, hb, hml, hown, hts⟩ (cX4_has l H.size (f) (65536)) (va_cwS 2 hts gX7_readsFractions_X4_has rfl rfl rfl (by decide +kernel) ⟨Nat.le_of_ble_eq_true rfl, Nat.le_of_ble_eq_true rfl⟩) pu_preS rfl rfl hl.1 rfl (lv_room (Nat.le_of_ble_eq_true rfl)) dX7_readsFractions_40 ⟨Nat.zero_le _, Nat.zero_le _⟩) hS hA (fun H locs kP hS => ?_)
    refine lv_if_eq (tgt := 54) hx hb dX7_readsFractions_43 (by decide) (fun c_1 => ?_) (fun c_1 => ?_)
    · exact J54 (v) H _ ls hS (lv_sub hl [0, 1, 2] rfl) (by rw [orIi_z c_1] at hv; exact hv)
    · refine lv_iload_n hx hb dX7_readsFractions_46 rfl (lv_at hl 0 rfl) ?_
      refine lv_iload_n hx hb dX7_readsFractions_47 rfl (lv_at hl 1 rfl) ?_
      refine lv_iload_n hx hb dX7_readsFractions_48 rfl (lv_at hl 2 rfl) ?_
      refine ro_calli (va_runS (As := [.int (w), .int (f)]) (rest := [.int (v)]) ⟨hx, hb, hml, hown, hts⟩ (cX7_fractionD l H.size (w) (f)) (va_cwS 2 hts gX7_readsFractions_X7_fractionD rfl rfl rfl (by decide +kernel) ⟨Nat.le_of_ble_eq_true rfl, Nat.le_of_ble_eq_true rfl⟩) pu_preS rfl rfl hl.1 rfl (lv_room (Nat.le_of_ble_eq_true rfl)) dX7_readsFractions_49 ⟨Nat.zero_le _, Nat.zero_le _⟩) hS hA (fun H locs kP hS => ?_)
      refine lv_ior hx hb dX7_readsFractions_52 ?_
      refine lv_istore_n (lv' := [(2, .int ((v ||| (fX7_fractionD w f)))), (0, .int (w)), (1, .int (f))]) hx hb dX7_readsFractions_53 rfl hl (by decide) rfl (fun ls hl => ?_)
      exact J54 ((v ||| (fX7_fractionD w f))) H _ ls hS (lv_sub hl [0, 1, 2] rfl) (by rw [orIi_n c_1] at hv; exact hv)
  have J20 : ∀ (v : Int32) (H : Heap) (locs : List Loc) (ls : Array Slot), va_S (ro s.heap.size) s.heap H locs → lv_has ls 3 [(2, .int (v)), (0, .int (w)), (1, .int (f))] → (orIi (fX4_has f 65536) (orIi (fX4_has f 32768) v (fX7_fractionT w f)) (fX7_fractionD w f)) = fX7_readsFractions w f → W p l e (headSpec wsX7_readsFractions ({ frames := 3, cells := 0, slots := 0, locals := 61 })).room s m ([.int (w), .int (f)] : List Value).toArray below meth c H locs 0 0 (MQ below (ro_Qi (fX7_readsFractions w f) s.heap.size) ([.int (w), .int (f)] : List Value).toArray s 0 0 (ro s.heap.size)) (F0 m 20 ls []) := by
    intro v H locs ls hS hl hv
    refine lv_iload_n hx hb dX7_readsFractions_20 rfl (lv_at hl 2 rfl) ?_
    refine lv_ldc (v := 32768) hx hb hown (hts (.constant RX7 39 (32768)) (by decide +kernel)) dX7_readsFractions_21 ?_
    refine ro_calli (va_runS (As := [.int (f), .int (32768)]) (rest := []) ⟨hx, hb, hml, hown, hts⟩ (cX4_has l H.size (f) (32768)) (va_cwS 2 hts gX7_readsFractions_X4_has rfl rfl rfl (by decide +kernel) ⟨Nat.le_of_ble_eq_true rfl, Nat.le_of_ble_eq_true rfl⟩) pu_preS rfl rfl hl.1 rfl (lv_room (Nat.le_of_ble_eq_true rfl)) dX7_readsFractions_23 ⟨Nat.zero_le _, Nat.zero_le _⟩) hS hA (fun H locs kP hS => ?_)
    refine lv_if_eq (tgt := 37) hx hb dX7_readsFractions_26 (by decide) (fun c_2 => ?_) (fun c_2 => ?_)
    · exact J37 (v) H _ ls hS (lv_sub hl [0, 1, 2] rfl) (by rw [orIi_z c_2] at hv; exact hv)
    · refine lv_iload_n hx hb dX7_readsFractions_29 rfl (lv_at hl 0 rfl) ?_
      refine lv_iload_n hx hb dX7_readsFractions_30 rfl (lv_at hl 1 rfl) ?_
      refine lv_iload_n hx hb dX7_readsFractions_31 rfl (lv_at hl 2 rfl) ?_
      refine ro_calli (va_runS (As := [.int (w), .int (f)]) (rest := [.int (v)]) ⟨hx, hb, hml, hown, hts⟩ (cX7_fractionT l H.size (w) (f)) (va_cwS 2 hts gX7_readsFractions_X7_fractionT rfl rfl rfl (by decide +kernel) ⟨Nat.le_of_ble_eq_true rfl, Nat.le_of_ble_eq_true rfl⟩) pu_preS rfl rfl hl.1 rfl (lv_room (Nat.le_of_ble_eq_true rfl)) dX7_readsFractions_32 ⟨Nat.zero_le _, Nat.zero_le _⟩) hS hA (fun H locs kP hS => ?_)
      refine lv_ior hx hb dX7_readsFractions_35 ?_
      refine lv_istore_n (lv' := [(2, .int ((v ||| (fX7_fractionT w f)))), (0, .int (w)), (1, .int (f))]) hx hb dX7_readsFractions_36 rfl hl (by decide) rfl (fun ls hl => ?_)
      exact J37 ((v ||| (fX7_fractionT w f))) H _ ls hS (lv_sub hl [0, 1, 2] rfl) (by rw [orIi_n c_2] at hv; exact hv)
  refine lv_iconst (v := 0) hx hb dX7_readsFractions_0 (by decide) ?_
  refine lv_istore_n (lv' := [(2, .int (0)), (0, .int (w)), (1, .int (f))]) hx hb dX7_readsFractions_1 rfl hl (by decide) rfl (fun ls hl => ?_)
  refine lv_iload_n hx hb dX7_readsFractions_2 rfl (lv_at hl 2 rfl) ?_
  refine lv_sipush (v := 16384) hx hb dX7_readsFractions_3 (by decide) ?_
  refine ro_calli (va_runS (As := [.int (f), .int (16384)]) (rest := []) ⟨hx, hb, hml, hown, hts⟩ (cX4_has l s.heap.size (f) (16384)) (va_cwS 2 hts gX7_readsFractions_X4_has rfl rfl rfl (by decide +kernel) ⟨Nat.le_of_ble_eq_true rfl, Nat.le_of_ble_eq_true rfl⟩) pu_preS rfl rfl hl.1 rfl (lv_room (Nat.le_of_ble_eq_true rfl)) dX7_readsFractions_6 ⟨Nat.zero_le _, Nat.zero_le _⟩) hS hA (fun H locs kP hS => ?_)
  refine lv_if_eq (tgt := 20) hx hb dX7_readsFractions_9 (by decide) (fun c_3 => ?_) (fun c_3 => ?_)
  · exact J20 (0) H _ ls hS (lv_sub hl [0, 1, 2] rfl) (by rw [orIi_z c_3] at hv; exact hv)
  · refine lv_iload_n hx hb dX7_readsFractions_12 rfl (lv_at hl 0 rfl) ?_
    refine lv_iload_n hx hb dX7_readsFractions_13 rfl (lv_at hl 1 rfl) ?_
    refine lv_iload_n hx hb dX7_readsFractions_14 rfl (lv_at hl 2 rfl) ?_
    refine ro_calli (va_runS (As := [.int (w), .int (f)]) (rest := [.int (0)]) ⟨hx, hb, hml, hown, hts⟩ (cX7_fractionS l H.size (w) (f)) (va_cwS 2 hts gX7_readsFractions_X7_fractionS rfl rfl rfl (by decide +kernel) ⟨Nat.le_of_ble_eq_true rfl, Nat.le_of_ble_eq_true rfl⟩) pu_preS rfl rfl hl.1 rfl (lv_room (Nat.le_of_ble_eq_true rfl)) dX7_readsFractions_15 ⟨Nat.zero_le _, Nat.zero_le _⟩) hS hA (fun H locs kP hS => ?_)
    refine lv_ior hx hb dX7_readsFractions_18 ?_
    refine lv_istore_n (lv' := [(2, .int ((0 ||| (fX7_fractionS w f)))), (0, .int (w)), (1, .int (f))]) hx hb dX7_readsFractions_19 rfl hl (by decide) rfl (fun ls hl => ?_)
    exact J20 ((0 ||| (fX7_fractionS w f))) H _ ls hS (lv_sub hl [0, 1, 2] rfl) (by rw [orIi_n c_3] at hv; exact hv)
def fX7_writesFractions (w f : Int32) : Int32 := (orIi (fX4_has f 524288) (orIi (fX4_has f 262144) (orIi (fX4_has f 131072) 0 (fX7_fractionS w f)) (fX7_fractionT w f)) (fX7_fractionD w f))
set_option maxHeartbeats 4000000 in
set_option maxRecDepth 100000 in
theorem cX7_writesFractions (l : Launch) (sz : Nat) (w : Int32) (f : Int32) : Met l yX7_writesFractions wsX7_writesFractions ({ frames := 3, cells := 0, slots := 0, locals := 61 }) (pu_Pc [.int (w), .int (f)] sz) (ro_Qi ((fX7_writesFractions w f)) sz) 0 0 (ro sz) := by
  refine Met.ofW (cc := cX7_writesFractions) (maxL := 3) (ret := (some .int)) (by decide) rfl ?_
  intro p e s m args below meth c s₁ B hml hv
  obtain ⟨rfl, hsz⟩ := hv
  have hx := B.exec
  have hb := B.bytes
  have hr := B.returns
  have hts := atoms_spec (ws := wsX7_writesFractions) B.pre
  have hown : s.vm.findClass RX7 = some m.cls := findClass_of_methodNamed B.named
  have hlocks := B.notSynchronized
  subst hsz
  have hA : ∀ q : Nat, s.heap.size ≤ q → ro s.heap.size q := fun _ h => h
  have hS : va_S (ro s.heap.size) s.heap s.heap [] := va_S.rf
  have hl := lv_entry ([.int (w), .int (f)]) (n := 3) (Nat.le_of_ble_eq_true rfl)
  rw [lg_entry_eq]
  generalize (lg_sl ([.int (w), .int (f)]) ++ List.replicate (3 - (lg_sl ([.int (w), .int (f)])).length) Slot.unset).toArray = ls at hl ⊢
  have hl : lv_has ls 3 [(0, .int (w)), (1, .int (f))] := hl
  have hv : (orIi (fX4_has f 524288) (orIi (fX4_has f 262144) (orIi (fX4_has f 131072) 0 (fX7_fractionS w f)) (fX7_fractionT w f)) (fX7_fractionD w f)) = fX7_writesFractions w f := rfl
  have J53 : ∀ (v : Int32) (H : Heap) (locs : List Loc) (ls : Array Slot), va_S (ro s.heap.size) s.heap H locs → lv_has ls 3 [(2, .int (v)), (0, .int (w)), (1, .int (f))] → v = fX7_writesFractions w f → W p l e (headSpec wsX7_writesFractions ({ frames := 3, cells := 0, slots := 0, locals := 61 })).room s m ([.int (w), .int (f)] : List Value).toArray below meth c H locs 0 0 (MQ below (ro_Qi (fX7_writesFractions w f) s.heap.size) ([.int (w), .int (f)] : List Value).toArray s 0 0 (ro s.heap.size)) (F0 m 53 ls []) := by
    intro v H locs ls hS hl hv
    refine lv_iload_n hx hb dX7_writesFractions_53 rfl (lv_at hl 0 rfl) ?_
    exact W.iret (v := v) hx hb hr (fun t ht hW => ⟨⟨_, (), rfl, hv, trivial⟩, hS.F ht⟩) hS.2.2 dX7_writesFractions_54
  have J36 : ∀ (v : Int32) (H : Heap) (locs : List Loc) (ls : Array Slot), va_S (ro s.heap.size) s.heap H locs → lv_has ls 3 [(2, .int (v)), (0, .int (w)), (1, .int (f))] → (orIi (fX4_has f 524288) v (fX7_fractionD w f)) = fX7_writesFractions w f → W p l e (headSpec wsX7_writesFractions ({ frames := 3, cells := 0, slots := 0, locals := 61 })).room s m ([.int (w), .int (f)] : List Value).toArray below meth c H locs 0 0 (MQ below (ro_Qi (fX7_writesFractions w f) s.heap.size) ([.int (w), .int (f)] : List Value).toArray s 0 0 (ro s.heap.size)) (F0 m 36 ls []) := by
    intro v H locs ls hS hl hv
    refine lv_iload_n hx hb dX7_writesFractions_36 rfl (lv_at hl 2 rfl) ?_
    refine lv_ldc (v := 524288) hx hb hown (hts (.constant RX7 49 (524288)) (by decide +kernel)) dX7_writesFractions_37 ?_
    refine ro_calli (va_runS (As := [.int (f), .int (524288)]) (rest := []) ⟨hx, hb, hml, hown, hts⟩ (cX4_has l H.size (f) (524288)) (va_cwS 2 hts gX7_writesFractions_X4_has rfl rfl rfl (by decide +kernel) ⟨Nat.le_of_ble_eq_true rfl, Nat.le_of_ble_eq_true rfl⟩) pu_preS rfl rfl hl.1 rfl (lv_room (Nat.le_of_ble_eq_true rfl)) dX7_writesFractions_39 ⟨Nat.zero_le _, Nat.zero_le _⟩) hS hA (fun H locs kP hS => ?_)
    refine lv_if_eq (tgt := 53) hx hb dX7_writesFractions_42 (by decide) (fun c_1 => ?_) (fun c_1 => ?_)
    · exact J53 (v) H _ ls hS (lv_sub hl [0, 1, 2] rfl) (by rw [orIi_z c_1] at hv; exact hv)
    · refine lv_iload_n hx hb dX7_writesFractions_45 rfl (lv_at hl 0 rfl) ?_
      refine lv_iload_n hx hb dX7_writesFractions_46 rfl (lv_at hl 1 rfl) ?_
      refine lv_iload_n hx hb dX7_writesFractions_47 rfl (lv_at hl 2 rfl) ?_
      refine ro_calli (va_runS (As := [.int (w), .int (f)]) (rest := [.int (v)]) ⟨hx, hb, hml, hown, hts⟩ (cX7_fractionD l H.size (w) (f)) (va_cwS 2 hts gX7_writesFractions_X7_fractionD rfl rfl rfl (by decide +kernel) ⟨Nat.le_of_ble_eq_true rfl, Nat.le_of_ble_eq_true rfl⟩) pu_preS rfl rfl hl.1 rfl (lv_room (Nat.le_of_ble_eq_true rfl)) dX7_writesFractions_48 ⟨Nat.zero_le _, Nat.zero_le _⟩) hS hA (fun H locs kP hS => ?_)
      refine lv_ior hx hb dX7_writesFractions_51 ?_
      refine lv_istore_n (lv' := [(2, .int ((v ||| (fX7_fractionD w f)))), (0, .int (w)), (1, .int (f))]) hx hb dX7_writesFractions_52 rfl hl (by decide) rfl (fun ls hl => ?_)
      exact J53 ((v ||| (fX7_fractionD w f))) H _ ls hS (lv_sub hl [0, 1, 2] rfl) (by rw [orIi_n c_1] at hv; exact hv)
  have J19 : ∀ (v : Int32) (H : Heap) (locs : List Loc) (ls : Array Slot), va_S (ro s.heap.size) s.heap H locs → lv_has ls 3 [(2, .int (v)), (0, .int (w)), (1, .int (f))] → (orIi (fX4_has f 524288) (orIi (fX4_has f 262144) v (fX7_fractionT w f)) (fX7_fractionD w f)) = fX7_writesFractions w f → W p l e (headSpec wsX7_writesFractions ({ frames := 3, cells := 0, slots := 0, locals := 61 })).room s m ([.int (w), .int (f)] : List Value).toArray below meth c H locs 0 0 (MQ below (ro_Qi (fX7_writesFractions w f) s.heap.size) ([.int (w), .int (f)] : List Value).toArray s 0 0 (ro s.heap.size)) (F0 m 19 ls []) := by
    intro v H locs ls hS hl hv
    refine lv_iload_n hx hb dX7_writesFractions_19 rfl (lv_at hl 2 rfl) ?_
    refine lv_ldc (v := 262144) hx hb hown (hts (.constant RX7 48 (262144)) (by decide +kernel)) dX7_writesFractions_20 ?_
    refine ro_calli (va_runS (As := [.int (f), .int (262144)]) (rest := []) ⟨hx, hb, hml, hown, hts⟩ (cX4_has l H.size (f) (262144)) (va_cwS 2 hts gX7_writesFractions_X4_has rfl rfl rfl (by decide +kernel) ⟨Nat.le_of_ble_eq_true rfl, Nat.le_of_ble_eq_true rfl⟩) pu_preS rfl rfl hl.1 rfl (lv_room (Nat.le_of_ble_eq_true rfl)) dX7_writesFractions_22 ⟨Nat.zero_le _, Nat.zero_le _⟩) hS hA (fun H locs kP hS => ?_)
    refine lv_if_eq (tgt := 36) hx hb dX7_writesFractions_25 (by decide) (fun c_2 => ?_) (fun c_2 => ?_)
    · exact J36 (v) H _ ls hS (lv_sub hl [0, 1, 2] rfl) (by rw [orIi_z c_2] at hv; exact hv)
    · refine lv_iload_n hx hb dX7_writesFractions_28 rfl (lv_at hl 0 rfl) ?_
      refine lv_iload_n hx hb dX7_writesFractions_29 rfl (lv_at hl 1 rfl) ?_
      refine lv_iload_n hx hb dX7_writesFractions_30 rfl (lv_at hl 2 rfl) ?_
      refine ro_calli (va_runS (As := [.int (w), .int (f)]) (rest := [.int (v)]) ⟨hx, hb, hml, hown, hts⟩ (cX7_fractionT l H.size (w) (f)) (va_cwS 2 hts gX7_writesFractions_X7_fractionT rfl rfl rfl (by decide +kernel) ⟨Nat.le_of_ble_eq_true rfl, Nat.le_of_ble_eq_true rfl⟩) pu_preS rfl rfl hl.1 rfl (lv_room (Nat.le_of_ble_eq_true rfl)) dX7_writesFractions_31 ⟨Nat.zero_le _, Nat.zero_le _⟩) hS hA (fun H locs kP hS => ?_)
      refine lv_ior hx hb dX7_writesFractions_34 ?_
      refine lv_istore_n (lv' := [(2, .int ((v ||| (fX7_fractionT w f)))), (0, .int (w)), (1, .int (f))]) hx hb dX7_writesFractions_35 rfl hl (by decide) rfl (fun ls hl => ?_)
      exact J36 ((v ||| (fX7_fractionT w f))) H _ ls hS (lv_sub hl [0, 1, 2] rfl) (by rw [orIi_n c_2] at hv; exact hv)
  refine lv_iconst (v := 0) hx hb dX7_writesFractions_0 (by decide) ?_
  refine lv_istore_n (lv' := [(2, .int (0)), (0, .int (w)), (1, .int (f))]) hx hb dX7_writesFractions_1 rfl hl (by decide) rfl (fun ls hl => ?_)
  refine lv_iload_n hx hb dX7_writesFractions_2 rfl (lv_at hl 2 rfl) ?_
  refine lv_ldc (v := 131072) hx hb hown (hts (.constant RX7 47 (131072)) (by decide +kernel)) dX7_writesFractions_3 ?_
  refine ro_calli (va_runS (As := [.int (f), .int (131072)]) (rest := []) ⟨hx, hb, hml, hown, hts⟩ (cX4_has l s.heap.size (f) (131072)) (va_cwS 2 hts gX7_writesFractions_X4_has rfl rfl rfl (by decide +kernel) ⟨Nat.le_of_ble_eq_true rfl, Nat.le_of_ble_eq_true rfl⟩) pu_preS rfl rfl hl.1 rfl (lv_room (Nat.le_of_ble_eq_true rfl)) dX7_writesFractions_5 ⟨Nat.zero_le _, Nat.zero_le _⟩) hS hA (fun H locs kP hS => ?_)
  refine lv_if_eq (tgt := 19) hx hb dX7_writesFractions_8 (by decide) (fun c_3 => ?_) (fun c_3 => ?_)
  · exact J19 (0) H _ ls hS (lv_sub hl [0, 1, 2] rfl) (by rw [orIi_z c_3] at hv; exact hv)
  · refine lv_iload_n hx hb dX7_writesFractions_11 rfl (lv_at hl 0 rfl) ?_
    refine lv_iload_n hx hb dX7_writesFractions_12 rfl (lv_at hl 1 rfl) ?_
    refine lv_iload_n hx hb dX7_writesFractions_13 rfl (lv_at hl 2 rfl) ?_
    refine ro_calli (va_runS (As := [.int (w), .int (f)]) (rest := [.int (0)]) ⟨hx, hb, hml, hown, hts⟩ (cX7_fractionS l H.size (w) (f)) (va_cwS 2 hts gX7_writesFractions_X7_fractionS rfl rfl rfl (by decide +kernel) ⟨Nat.le_of_ble_eq_true rfl, Nat.le_of_ble_eq_true rfl⟩) pu_preS rfl rfl hl.1 rfl (lv_room (Nat.le_of_ble_eq_true rfl)) dX7_writesFractions_14 ⟨Nat.zero_le _, Nat.zero_le _⟩) hS hA (fun H locs kP hS => ?_)
    refine lv_ior hx hb dX7_writesFractions_17 ?_
    refine lv_istore_n (lv' := [(2, .int ((0 ||| (fX7_fractionS w f)))), (0, .int (w)), (1, .int (f))]) hx hb dX7_writesFractions_18 rfl hl (by decide) rfl (fun ls hl => ?_)
    exact J19 ((0 ||| (fX7_fractionS w f))) H _ ls hS (lv_sub hl [0, 1, 2] rfl) (by rw [orIi_n c_3] at hv; exact hv)
def fX1_touchesWholeWord (x0 : Int32) : Int32 := if x0 = 34 then 1 else if x0 = 38 then 1 else if x0 = 42 then 1 else if x0 = 46 then 1 else 0
set_option maxHeartbeats 4000000 in
set_option maxRecDepth 100000 in
theorem cX1_touchesWholeWord (l : Launch) (sz : Nat) (x0 : Int32) : Met l yX1_touchesWholeWord wsX1_touchesWholeWord ({ frames := 0, cells := 0, slots := 0, locals := 0 }) (pu_Pc [.int (x0)] sz) (ro_Qi (fX1_touchesWholeWord x0) sz) 0 0 (ro sz) := by
  refine Met.ofW (cc := cX1_touchesWholeWord) (maxL := 1) (ret := (some .boolean)) (by decide) rfl ?_
  intro p e s m args below meth c s₁ B hml hv
  obtain ⟨rfl, hsz⟩ := hv
  have hx := B.exec
  have hb := B.bytes
  have hr := B.returns
  have hts := atoms_spec (ws := wsX1_touchesWholeWord) B.pre
  have hown : s.vm.findClass RX1 = some m.cls := findClass_of_methodNamed B.named
  have hlocks := B.notSynchronized
  subst hsz
  have hA : ∀ q : Nat, s.heap.size ≤ q → ro s.heap.size q := fun _ h => h
  have hS : va_S (ro s.heap.size) s.heap s.heap [] := va_S.rf
  have hl := lv_entry ([.int (x0)]) (n := 1) (Nat.le_of_ble_eq_true rfl)
  rw [lg_entry_eq]
  generalize (lg_sl ([.int (x0)]) ++ List.replicate (1 - (lg_sl ([.int (x0)])).length) Slot.unset).toArray = ls at hl ⊢
  have hl : lv_has ls 1 [(0, .int (x0))] := hl
  refine lv_iload_n hx hb dX1_touchesWholeWord_0 rfl (lv_at hl 0 rfl) ?_
  refine lv_bipush (v := 34) hx hb dX1_touchesWholeWord_1 (by decide) ?_
  refine lv_icmp_eq (tgt := 24) hx hb dX1_touchesWholeWord_3 (by decide) (fun c_1 => ?_) (fun c_1 => ?_)
  · refine lv_iconst (v := 1) hx hb dX1_touchesWholeWord_24 (by decide) ?_
    refine lv_goto (tgt := 29) hx hb dX1_touchesWholeWord_25 (by decide) ?_
    exact W.zret (v := 1) hx hb hr (by decide) (fun t ht hW => ⟨⟨_, (), rfl, (by unfold fX1_touchesWholeWord; rw [if_pos c_1]), trivial⟩, hS.F ht⟩) hS.2.2 dX1_touchesWholeWord_29
  · refine lv_iload_n hx hb dX1_touchesWholeWord_6 rfl (lv_at hl 0 rfl) ?_
    refine lv_bipush (v := 38) hx hb dX1_touchesWholeWord_7 (by decide) ?_
    refine lv_icmp_eq (tgt := 24) hx hb dX1_touchesWholeWord_9 (by decide) (fun c_2 => ?_) (fun c_2 => ?_)
    · refine lv_iconst (v := 1) hx hb dX1_touchesWholeWord_24 (by decide) ?_
      refine lv_goto (tgt := 29) hx hb dX1_touchesWholeWord_25 (by decide) ?_
      exact W.zret (v := 1) hx hb hr (by decide) (fun t ht hW => ⟨⟨_, (), rfl, (by unfold fX1_touchesWholeWord; rw [if_neg c_1, if_pos c_2]), trivial⟩, hS.F ht⟩) hS.2.2 dX1_touchesWholeWord_29
    · refine lv_iload_n hx hb dX1_touchesWholeWord_12 rfl (lv_at hl 0 rfl) ?_
      refine lv_bipush (v := 42) hx hb dX1_touchesWholeWord_13 (by decide) ?_
      refine lv_icmp_eq (tgt := 24) hx hb dX1_touchesWholeWord_15 (by decide) (fun c_3 => ?_) (fun c_3 => ?_)
      · refine lv_iconst (v := 1) hx hb dX1_touchesWholeWord_24 (by decide) ?_
        refine lv_goto (tgt := 29) hx hb dX1_touchesWholeWord_25 (by decide) ?_
        exact W.zret (v := 1) hx hb hr (by decide) (fun t ht hW => ⟨⟨_, (), rfl, (by unfold fX1_touchesWholeWord; rw [if_neg c_1, if_neg c_2, if_pos c_3]), trivial⟩, hS.F ht⟩) hS.2.2 dX1_touchesWholeWord_29
      · refine lv_iload_n hx hb dX1_touchesWholeWord_18 rfl (lv_at hl 0 rfl) ?_
        refine lv_bipush (v := 46) hx hb dX1_touchesWholeWord_19 (by decide) ?_
        refine lv_icmp_ne (tgt := 28) hx hb dX1_touchesWholeWord_21 (by decide) (fun c_4 => ?_) (fun c_4 => ?_)
        · refine lv_iconst (v := 0) hx hb dX1_touchesWholeWord_28 (by decide) ?_
          exact W.zret (v := 0) hx hb hr (by decide) (fun t ht hW => ⟨⟨_, (), rfl, (by unfold fX1_touchesWholeWord; rw [if_neg c_1, if_neg c_2, if_neg c_3, if_neg c_4]), trivial⟩, hS.F ht⟩) hS.2.2 dX1_touchesWholeWord_29
        · refine lv_iconst (v := 1) hx hb dX1_touchesWholeWord_24 (by decide) ?_
          refine lv_goto (tgt := 29) hx hb dX1_touchesWholeWord_25 (by decide) ?_
          exact W.zret (v := 1) hx hb hr (by decide) (fun t ht hW => ⟨⟨_, (), rfl, (by unfold fX1_touchesWholeWord; rw [if_neg c_1, if_neg c_2, if_neg c_3, if_pos c_4]), trivial⟩, hS.F ht⟩) hS.2.2 dX1_touchesWholeWord_29
def fX1_first (x0 : Int32) : Int32 := if (fX1_touchesWholeWord (fX3_operation x0)) = 0 then (fX3_offset x0) else ((fX3_offset x0) &&& (-4))
set_option maxHeartbeats 4000000 in
set_option maxRecDepth 100000 in
theorem cX1_first (l : Launch) (sz : Nat) (x0 : Int32) : Met l yX1_first wsX1_first ({ frames := 1, cells := 0, slots := 0, locals := 20 }) (pu_Pc [.int (x0)] sz) (ro_Qi (fX1_first x0) sz) 0 0 (ro sz) := by
  refine Met.ofW (cc := cX1_first) (maxL := 2) (ret := (some .int)) (by decide) rfl ?_
  intro p e s m args below meth c s₁ B hml hv
  obtain ⟨rfl, hsz⟩ := hv
  have hx := B.exec
  have hb := B.bytes
  have hr := B.returns
  have hts := atoms_spec (ws := wsX1_first) B.pre
  have hown : s.vm.findClass RX1 = some m.cls := findClass_of_methodNamed B.named
  have hlocks := B.notSynchronized
  subst hsz
  have hA : ∀ q : Nat, s.heap.size ≤ q → ro s.heap.size q := fun _ h => h
  have hS : va_S (ro s.heap.size) s.heap s.heap [] := va_S.rf
  have hl := lv_entry ([.int (x0)]) (n := 2) (Nat.le_of_ble_eq_true rfl)
  rw [lg_entry_eq]
  generalize (lg_sl ([.int (x0)]) ++ List.replicate (2 - (lg_sl ([.int (x0)])).length) Slot.unset).toArray = ls at hl ⊢
  have hl : lv_has ls 2 [(0, .int (x0))] := hl
  refine lv_iload_n hx hb dX1_first_0 rfl (lv_at hl 0 rfl) ?_
  refine ro_calli (va_runS (As := [.int (x0)]) (rest := []) ⟨hx, hb, hml, hown, hts⟩ (cX3_offset l s.heap.size (x0)) (va_cwS 1 hts gX1_first_X3_offset rfl rfl rfl (by decide +kernel) ⟨Nat.le_of_ble_eq_true rfl, Nat.le_of_ble_eq_true rfl⟩) pu_preS rfl rfl hl.1 rfl (lv_room (Nat.le_of_ble_eq_true rfl)) dX1_first_1 ⟨Nat.zero_le _, Nat.zero_le _⟩) hS hA (fun H locs kP hS => ?_)
  refine lv_istore_n (lv' := [(1, .int ((fX3_offset x0))), (0, .int (x0))]) hx hb dX1_first_4 rfl hl (by decide) rfl (fun ls hl => ?_)
  refine lv_iload_n hx hb dX1_first_5 rfl (lv_at hl 1 rfl) ?_
  refine ro_calli (va_runS (As := [.int (x0)]) (rest := []) ⟨hx, hb, hml, hown, hts⟩ (cX3_operation l H.size (x0)) (va_cwS 1 hts gX1_first_X3_operation rfl rfl rfl (by decide +kernel) ⟨Nat.le_of_ble_eq_true rfl, Nat.le_of_ble_eq_true rfl⟩) pu_preS rfl rfl hl.1 rfl (lv_room (Nat.le_of_ble_eq_true rfl)) dX1_first_6 ⟨Nat.zero_le _, Nat.zero_le _⟩) hS hA (fun H locs kP hS => ?_)
  refine ro_calli (va_runS (As := [.int ((fX3_operation x0))]) (rest := []) ⟨hx, hb, hml, hown, hts⟩ (cX1_touchesWholeWord l H.size ((fX3_operation x0))) (va_cwS 1 hts gX1_first_X1_touchesWholeWord rfl rfl rfl (by decide +kernel) ⟨Nat.le_of_ble_eq_true rfl, Nat.le_of_ble_eq_true rfl⟩) pu_preS rfl rfl hl.1 rfl (lv_room (Nat.le_of_ble_eq_true rfl)) dX1_first_9 ⟨Nat.zero_le _, Nat.zero_le _⟩) hS hA (fun H locs kP hS => ?_)
  refine lv_if_eq (tgt := 22) hx hb dX1_first_12 (by decide) (fun c_1 => ?_) (fun c_1 => ?_)
  · refine lv_iload_n hx hb dX1_first_22 rfl (lv_at hl 0 rfl) ?_
    exact W.iret (v := (fX3_offset x0)) hx hb hr (fun t ht hW => ⟨⟨_, (), rfl, (by unfold fX1_first; rw [if_pos c_1]), trivial⟩, hS.F ht⟩) hS.2.2 dX1_first_23
  · refine lv_iload_n hx hb dX1_first_15 rfl (lv_at hl 0 rfl) ?_
    refine lv_bipush (v := (-4)) hx hb dX1_first_16 (by decide) ?_
    refine lv_iand hx hb dX1_first_18 ?_
    refine lv_goto (tgt := 23) hx hb dX1_first_19 (by decide) ?_
    exact W.iret (v := ((fX3_offset x0) &&& (-4))) hx hb hr (fun t ht hW => ⟨⟨_, (), rfl, (by unfold fX1_first; rw [if_neg c_1]), trivial⟩, hS.F ht⟩) hS.2.2 dX1_first_23
def swX1_many_4 (x : Int32) : Int := swT 32 61 [136, 138, 143, 143, 136, 138, 143, 143, 136, 138, 143, 143, 143, 143, 143, 143, 143, 143, 143, 143, 143, 140, 143, 143, 143, 143, 143, 143, 143, 140] 143 x
theorem swX1_many_4_c (x : Int32) : swX1_many_4 x = 136 ∨ swX1_many_4 x = 138 ∨ swX1_many_4 x = 140 ∨ swX1_many_4 x = 143 := (show ∀ v ∈ ([143, 136, 138, 143, 143, 136, 138, 143, 143, 136, 138, 143, 143, 143, 143, 143, 143, 143, 143, 143, 143, 143, 140, 143, 143, 143, 143, 143, 143, 143, 140] : List Int), v = 136 ∨ v = 138 ∨ v = 140 ∨ v = 143 by decide) _ (swT_mem _ _ _ _ _)
def fX1_many (x0 : Int32) : Int32 := if swX1_many_4 ((fX3_operation x0)) = 136 then 1 else if swX1_many_4 ((fX3_operation x0)) = 138 then 2 else if swX1_many_4 ((fX3_operation x0)) = 140 then 8 else 4
set_option maxHeartbeats 4000000 in
set_option maxRecDepth 100000 in
theorem cX1_many (l : Launch) (sz : Nat) (x0 : Int32) : Met l yX1_many wsX1_many ({ frames := 1, cells := 0, slots := 0, locals := 20 }) (pu_Pc [.int (x0)] sz) (ro_Qi (fX1_many x0) sz) 0 0 (ro sz) := by
  refine Met.ofW (cc := cX1_many) (maxL := 1) (ret := (some .int)) (by decide) rfl ?_
  intro p e s m args below meth c s₁ B hml hv
  obtain ⟨rfl, hsz⟩ := hv
  have hx := B.exec
  have hb := B.bytes
  have hr := B.returns
  have hts := atoms_spec (ws := wsX1_many) B.pre
  have hown : s.vm.findClass RX1 = some m.cls := findClass_of_methodNamed B.named
  have hlocks := B.notSynchronized
  subst hsz
  have hA : ∀ q : Nat, s.heap.size ≤ q → ro s.heap.size q := fun _ h => h
  have hS : va_S (ro s.heap.size) s.heap s.heap [] := va_S.rf
  have hl := lv_entry ([.int (x0)]) (n := 1) (Nat.le_of_ble_eq_true rfl)
  rw [lg_entry_eq]
  generalize (lg_sl ([.int (x0)]) ++ List.replicate (1 - (lg_sl ([.int (x0)])).length) Slot.unset).toArray = ls at hl ⊢
  have hl : lv_has ls 1 [(0, .int (x0))] := hl
  refine lv_iload_n hx hb dX1_many_0 rfl (lv_at hl 0 rfl) ?_
  refine ro_calli (va_runS (As := [.int (x0)]) (rest := []) ⟨hx, hb, hml, hown, hts⟩ (cX3_operation l s.heap.size (x0)) (va_cwS 1 hts gX1_many_X3_operation rfl rfl rfl (by decide +kernel) ⟨Nat.le_of_ble_eq_true rfl, Nat.le_of_ble_eq_true rfl⟩) pu_preS rfl rfl hl.1 rfl (lv_room (Nat.le_of_ble_eq_true rfl)) dX1_many_1 ⟨Nat.zero_le _, Nat.zero_le _⟩) hS hA (fun H locs kP hS => ?_)
  rcases swX1_many_4_c ((fX3_operation x0)) with c_1 | c_1 | c_1 | c_1
  · refine my_table (tgt := 140) hx hb dX1_many_4 (by decide) c_1 (by decide) ?_
    refine lv_iconst (v := 1) hx hb dX1_many_140 (by decide) ?_
    exact W.iret (v := 1) hx hb hr (fun t ht hW => ⟨⟨_, (), rfl, (by unfold fX1_many; rw [if_pos c_1]), trivial⟩, hS.F ht⟩) hS.2.2 dX1_many_141
  · refine my_table (tgt := 142) hx hb dX1_many_4 (by decide) c_1 (by decide) ?_
    refine lv_iconst (v := 2) hx hb dX1_many_142 (by decide) ?_
    exact W.iret (v := 2) hx hb hr (fun t ht hW => ⟨⟨_, (), rfl, (by unfold fX1_many; rw [if_pos c_1]), trivial⟩, hS.F ht⟩) hS.2.2 dX1_many_143
  · refine my_table (tgt := 144) hx hb dX1_many_4 (by decide) c_1 (by decide) ?_
    refine lv_bipush (v := 8) hx hb dX1_many_144 (by decide) ?_
    exact W.iret (v := 8) hx hb hr (fun t ht hW => ⟨⟨_, (), rfl, (by unfold fX1_many; rw [if_pos c_1]), trivial⟩, hS.F ht⟩) hS.2.2 dX1_many_146
  · refine my_table (tgt := 147) hx hb dX1_many_4 (by decide) c_1 (by decide) ?_
    refine lv_iconst (v := 4) hx hb dX1_many_147 (by decide) ?_
    exact W.iret (v := 4) hx hb hr (fun t ht hW => ⟨⟨_, (), rfl, (by unfold fX1_many; rw [if_neg (show ¬ (swX1_many_4 ((fX3_operation x0)) = 136) by rw [c_1]; decide), if_neg (show ¬ (swX1_many_4 ((fX3_operation x0)) = 138) by rw [c_1]; decide), if_neg (show ¬ (swX1_many_4 ((fX3_operation x0)) = 140) by rw [c_1]; decide)]), trivial⟩, hS.F ht⟩) hS.2.2 dX1_many_148
def fX0_meet (x0 : Int64) (x1 : Int64) (x2 : Int32) (x3 : Int32) : Int32 := if (lg_cmp (x0 &&& x1) 0) = 0 then if (x2 &&& x3) = 0 then 0 else 1 else 1
set_option maxHeartbeats 4000000 in
set_option maxRecDepth 100000 in
theorem cX0_meet (l : Launch) (sz : Nat) (x0 : Int64) (x1 : Int64) (x2 : Int32) (x3 : Int32) : Met l yX0_meet wsX0_meet ({ frames := 0, cells := 0, slots := 0, locals := 0 }) (pu_Pc [.long (x0), .long (x1), .int (x2), .int (x3)] sz) (ro_Qi (fX0_meet x0 x1 x2 x3) sz) 0 0 (ro sz) := by
  refine Met.ofW (cc := cX0_meet) (maxL := 6) (ret := (some .boolean)) (by decide) rfl ?_
  intro p e s m args below meth c s₁ B hml hv
  obtain ⟨rfl, hsz⟩ := hv
  have hx := B.exec
  have hb := B.bytes
  have hr := B.returns
  have hts := atoms_spec (ws := wsX0_meet) B.pre
  have hown : s.vm.findClass RX0 = some m.cls := findClass_of_methodNamed B.named
  have hlocks := B.notSynchronized
  subst hsz
  have hA : ∀ q : Nat, s.heap.size ≤ q → ro s.heap.size q := fun _ h => h
  have hS : va_S (ro s.heap.size) s.heap s.heap [] := va_S.rf
  have hl := lv_entry ([.long (x0), .long (x1), .int (x2), .int (x3)]) (n := 6) (Nat.le_of_ble_eq_true rfl)
  rw [lg_entry_eq]
  generalize (lg_sl ([.long (x0), .long (x1), .int (x2), .int (x3)]) ++ List.replicate (6 - (lg_sl ([.long (x0), .long (x1), .int (x2), .int (x3)])).length) Slot.unset).toArray = ls at hl ⊢
  have hl : lv_has ls 6 [(0, .long (x0)), (2, .long (x1)), (4, .int (x2)), (5, .int (x3))] := hl
  refine lv_lload_n hx hb dX0_meet_0 rfl (lv_at hl 0 rfl) ?_
  refine lv_lload_n hx hb dX0_meet_1 rfl (lv_at hl 1 rfl) ?_
  refine lv_land hx hb dX0_meet_2 ?_
  refine lv_lconst (v := 0) hx hb dX0_meet_3 (by decide) ?_
  refine W.lcmp hx hb dX0_meet_4 ?_
  refine lv_if_ne (tgt := 16) hx hb dX0_meet_5 (by decide) (fun c_1 => ?_) (fun c_1 => ?_)
  · refine lv_iconst (v := 1) hx hb dX0_meet_16 (by decide) ?_
    refine lv_goto (tgt := 21) hx hb dX0_meet_17 (by decide) ?_
    exact W.zret (v := 1) hx hb hr (by decide) (fun t ht hW => ⟨⟨_, (), rfl, (by unfold fX0_meet; rw [if_neg c_1]), trivial⟩, hS.F ht⟩) hS.2.2 dX0_meet_21
  · refine lv_iload hx hb dX0_meet_8 (lv_at hl 2 rfl) ?_
    refine lv_iload hx hb dX0_meet_10 (lv_at hl 3 rfl) ?_
    refine lv_iand hx hb dX0_meet_12 ?_
    refine lv_if_eq (tgt := 20) hx hb dX0_meet_13 (by decide) (fun c_2 => ?_) (fun c_2 => ?_)
    · refine lv_iconst (v := 0) hx hb dX0_meet_20 (by decide) ?_
      exact W.zret (v := 0) hx hb hr (by decide) (fun t ht hW => ⟨⟨_, (), rfl, (by unfold fX0_meet; rw [if_pos c_1, if_pos c_2]), trivial⟩, hS.F ht⟩) hS.2.2 dX0_meet_21
    · refine lv_iconst (v := 1) hx hb dX0_meet_16 (by decide) ?_
      refine lv_goto (tgt := 21) hx hb dX0_meet_17 (by decide) ?_
      exact W.zret (v := 1) hx hb hr (by decide) (fun t ht hW => ⟨⟨_, (), rfl, (by unfold fX0_meet; rw [if_pos c_1, if_neg c_2]), trivial⟩, hS.F ht⟩) hS.2.2 dX0_meet_21
end
section
def swX2_threeOrBarrier_1 (x : Int32) : Int := swT 4 54 [219, 226, 219, 219, 226, 226, 226, 226, 223, 223, 226, 223, 226, 226, 226, 226, 226, 226, 226, 226, 226, 226, 226, 226, 226, 226, 226, 226, 223, 219, 223, 219, 219, 219, 219, 219, 226, 226, 219, 219, 226, 226, 226, 226, 223, 223, 223, 223, 223, 226, 223] 226 x
theorem swX2_threeOrBarrier_1_c (x : Int32) : swX2_threeOrBarrier_1 x = 219 ∨ swX2_threeOrBarrier_1 x = 223 ∨ swX2_threeOrBarrier_1 x = 226 := (show ∀ v ∈ ([226, 219, 226, 219, 219, 226, 226, 226, 226, 223, 223, 226, 223, 226, 226, 226, 226, 226, 226, 226, 226, 226, 226, 226, 226, 226, 226, 226, 226, 223, 219, 223, 219, 219, 219, 219, 219, 226, 226, 219, 219, 226, 226, 226, 226, 223, 223, 223, 223, 223, 226, 223] : List Int), v = 219 ∨ v = 223 ∨ v = 226 by decide) _ (swT_mem _ _ _ _ _)
def fX2_threeOrBarrier (x0 : Int32) : Int32 := if swX2_threeOrBarrier_1 (x0) = 219 then 304 else if swX2_threeOrBarrier_1 (x0) = 223 then 8 else (-1)
set_option maxHeartbeats 4000000 in
set_option maxRecDepth 100000 in
theorem cX2_threeOrBarrier (l : Launch) (sz : Nat) (x0 : Int32) : Met l yX2_threeOrBarrier wsX2_threeOrBarrier ({ frames := 0, cells := 0, slots := 0, locals := 0 }) (pu_Pc [.int (x0)] sz) (ro_Qi (fX2_threeOrBarrier x0) sz) 0 0 (ro sz) := by
  refine Met.ofW (cc := cX2_threeOrBarrier) (maxL := 1) (ret := (some .int)) (by decide) rfl ?_
  intro p e s m args below meth c s₁ B hml hv
  obtain ⟨rfl, hsz⟩ := hv
  have hx := B.exec
  have hb := B.bytes
  have hr := B.returns
  have hts := atoms_spec (ws := wsX2_threeOrBarrier) B.pre
  have hown : s.vm.findClass RX2 = some m.cls := findClass_of_methodNamed B.named
  have hlocks := B.notSynchronized
  subst hsz
  have hA : ∀ q : Nat, s.heap.size ≤ q → ro s.heap.size q := fun _ h => h
  have hS : va_S (ro s.heap.size) s.heap s.heap [] := va_S.rf
  have hl := lv_entry ([.int (x0)]) (n := 1) (Nat.le_of_ble_eq_true rfl)
  rw [lg_entry_eq]
  generalize (lg_sl ([.int (x0)]) ++ List.replicate (1 - (lg_sl ([.int (x0)])).length) Slot.unset).toArray = ls at hl ⊢
  have hl : lv_has ls 1 [(0, .int (x0))] := hl
  refine lv_iload_n hx hb dX2_threeOrBarrier_0 rfl (lv_at hl 0 rfl) ?_
  rcases swX2_threeOrBarrier_1_c (x0) with c_1 | c_1 | c_1
  · refine my_table (tgt := 220) hx hb dX2_threeOrBarrier_1 (by decide) c_1 (by decide) ?_
    refine lv_sipush (v := 304) hx hb dX2_threeOrBarrier_220 (by decide) ?_
    exact W.iret (v := 304) hx hb hr (fun t ht hW => ⟨⟨_, (), rfl, (by unfold fX2_threeOrBarrier; rw [if_pos c_1]), trivial⟩, hS.F ht⟩) hS.2.2 dX2_threeOrBarrier_223
  · refine my_table (tgt := 224) hx hb dX2_threeOrBarrier_1 (by decide) c_1 (by decide) ?_
    refine lv_bipush (v := 8) hx hb dX2_threeOrBarrier_224 (by decide) ?_
    exact W.iret (v := 8) hx hb hr (fun t ht hW => ⟨⟨_, (), rfl, (by unfold fX2_threeOrBarrier; rw [if_pos c_1]), trivial⟩, hS.F ht⟩) hS.2.2 dX2_threeOrBarrier_226
  · refine my_table (tgt := 227) hx hb dX2_threeOrBarrier_1 (by decide) c_1 (by decide) ?_
    refine lv_iconst (v := (-1)) hx hb dX2_threeOrBarrier_227 (by decide) ?_
    exact W.iret (v := (-1)) hx hb hr (fun t ht hW => ⟨⟨_, (), rfl, (by unfold fX2_threeOrBarrier; rw [if_neg (show ¬ (swX2_threeOrBarrier_1 (x0) = 219) by rw [c_1]; decide), if_neg (show ¬ (swX2_threeOrBarrier_1 (x0) = 223) by rw [c_1]; decide)]), trivial⟩, hS.F ht⟩) hS.2.2 dX2_threeOrBarrier_228
def swX2_special_1 (x : Int32) : Int := swT 0 27 [127, 131, 127, 127, 162, 162, 162, 162, 135, 138, 142, 142, 162, 162, 162, 162, 146, 150, 146, 150, 162, 162, 162, 162, 154, 154, 158, 158] 162 x
theorem swX2_special_1_c (x : Int32) : swX2_special_1 x = 127 ∨ swX2_special_1 x = 131 ∨ swX2_special_1 x = 135 ∨ swX2_special_1 x = 138 ∨ swX2_special_1 x = 142 ∨ swX2_special_1 x = 146 ∨ swX2_special_1 x = 150 ∨ swX2_special_1 x = 154 ∨ swX2_special_1 x = 158 ∨ swX2_special_1 x = 162 := (show ∀ v ∈ ([162, 127, 131, 127, 127, 162, 162, 162, 162, 135, 138, 142, 142, 162, 162, 162, 162, 146, 150, 146, 150, 162, 162, 162, 162, 154, 154, 158, 158] : List Int), v = 127 ∨ v = 131 ∨ v = 135 ∨ v = 138 ∨ v = 142 ∨ v = 146 ∨ v = 150 ∨ v = 154 ∨ v = 158 ∨ v = 162 by decide) _ (swT_mem _ _ _ _ _)
def fX2_special (x0 : Int32) : Int32 := if swX2_special_1 (x0) = 127 then 288 else if swX2_special_1 (x0) = 131 then 4432 else if swX2_special_1 (x0) = 135 then 23 else if swX2_special_1 (x0) = 138 then 279 else if swX2_special_1 (x0) = 142 then 368 else if swX2_special_1 (x0) = 146 then 1280 else if swX2_special_1 (x0) = 150 then 3088 else if swX2_special_1 (x0) = 154 then 2099 else if swX2_special_1 (x0) = 158 then 2100 else (fX2_threeOrBarrier x0)
set_option maxHeartbeats 4000000 in
set_option maxRecDepth 100000 in
theorem cX2_special (l : Launch) (sz : Nat) (x0 : Int32) : Met l yX2_special wsX2_special ({ frames := 1, cells := 0, slots := 0, locals := 20 }) (pu_Pc [.int (x0)] sz) (ro_Qi (fX2_special x0) sz) 0 0 (ro sz) := by
  refine Met.ofW (cc := cX2_special) (maxL := 1) (ret := (some .int)) (by decide) rfl ?_
  intro p e s m args below meth c s₁ B hml hv
  obtain ⟨rfl, hsz⟩ := hv
  have hx := B.exec
  have hb := B.bytes
  have hr := B.returns
  have hts := atoms_spec (ws := wsX2_special) B.pre
  have hown : s.vm.findClass RX2 = some m.cls := findClass_of_methodNamed B.named
  have hlocks := B.notSynchronized
  subst hsz
  have hA : ∀ q : Nat, s.heap.size ≤ q → ro s.heap.size q := fun _ h => h
  have hS : va_S (ro s.heap.size) s.heap s.heap [] := va_S.rf
  have hl := lv_entry ([.int (x0)]) (n := 1) (Nat.le_of_ble_eq_true rfl)
  rw [lg_entry_eq]
  generalize (lg_sl ([.int (x0)]) ++ List.replicate (1 - (lg_sl ([.int (x0)])).length) Slot.unset).toArray = ls at hl ⊢
  have hl : lv_has ls 1 [(0, .int (x0))] := hl
  refine lv_iload_n hx hb dX2_special_0 rfl (lv_at hl 0 rfl) ?_
  rcases swX2_special_1_c (x0) with c_1 | c_1 | c_1 | c_1 | c_1 | c_1 | c_1 | c_1 | c_1 | c_1
  · refine my_table (tgt := 128) hx hb dX2_special_1 (by decide) c_1 (by decide) ?_
    refine lv_sipush (v := 288) hx hb dX2_special_128 (by decide) ?_
    exact W.iret (v := 288) hx hb hr (fun t ht hW => ⟨⟨_, (), rfl, (by unfold fX2_special; rw [if_pos c_1]), trivial⟩, hS.F ht⟩) hS.2.2 dX2_special_131
  · refine my_table (tgt := 132) hx hb dX2_special_1 (by decide) c_1 (by decide) ?_
    refine lv_sipush (v := 4432) hx hb dX2_special_132 (by decide) ?_
    exact W.iret (v := 4432) hx hb hr (fun t ht hW => ⟨⟨_, (), rfl, (by unfold fX2_special; rw [if_pos c_1]), trivial⟩, hS.F ht⟩) hS.2.2 dX2_special_135
  · refine my_table (tgt := 136) hx hb dX2_special_1 (by decide) c_1 (by decide) ?_
    refine lv_bipush (v := 23) hx hb dX2_special_136 (by decide) ?_
    exact W.iret (v := 23) hx hb hr (fun t ht hW => ⟨⟨_, (), rfl, (by unfold fX2_special; rw [if_pos c_1]), trivial⟩, hS.F ht⟩) hS.2.2 dX2_special_138
  · refine my_table (tgt := 139) hx hb dX2_special_1 (by decide) c_1 (by decide) ?_
    refine lv_sipush (v := 279) hx hb dX2_special_139 (by decide) ?_
    exact W.iret (v := 279) hx hb hr (fun t ht hW => ⟨⟨_, (), rfl, (by unfold fX2_special; rw [if_pos c_1]), trivial⟩, hS.F ht⟩) hS.2.2 dX2_special_142
  · refine my_table (tgt := 143) hx hb dX2_special_1 (by decide) c_1 (by decide) ?_
    refine lv_sipush (v := 368) hx hb dX2_special_143 (by decide) ?_
    exact W.iret (v := 368) hx hb hr (fun t ht hW => ⟨⟨_, (), rfl, (by unfold fX2_special; rw [if_pos c_1]), trivial⟩, hS.F ht⟩) hS.2.2 dX2_special_146
  · refine my_table (tgt := 147) hx hb dX2_special_1 (by decide) c_1 (by decide) ?_
    refine lv_sipush (v := 1280) hx hb dX2_special_147 (by decide) ?_
    exact W.iret (v := 1280) hx hb hr (fun t ht hW => ⟨⟨_, (), rfl, (by unfold fX2_special; rw [if_pos c_1]), trivial⟩, hS.F ht⟩) hS.2.2 dX2_special_150
  · refine my_table (tgt := 151) hx hb dX2_special_1 (by decide) c_1 (by decide) ?_
    refine lv_sipush (v := 3088) hx hb dX2_special_151 (by decide) ?_
    exact W.iret (v := 3088) hx hb hr (fun t ht hW => ⟨⟨_, (), rfl, (by unfold fX2_special; rw [if_pos c_1]), trivial⟩, hS.F ht⟩) hS.2.2 dX2_special_154
  · refine my_table (tgt := 155) hx hb dX2_special_1 (by decide) c_1 (by decide) ?_
    refine lv_sipush (v := 2099) hx hb dX2_special_155 (by decide) ?_
    exact W.iret (v := 2099) hx hb hr (fun t ht hW => ⟨⟨_, (), rfl, (by unfold fX2_special; rw [if_pos c_1]), trivial⟩, hS.F ht⟩) hS.2.2 dX2_special_158
  · refine my_table (tgt := 159) hx hb dX2_special_1 (by decide) c_1 (by decide) ?_
    refine lv_sipush (v := 2100) hx hb dX2_special_159 (by decide) ?_
    exact W.iret (v := 2100) hx hb hr (fun t ht hW => ⟨⟨_, (), rfl, (by unfold fX2_special; rw [if_pos c_1]), trivial⟩, hS.F ht⟩) hS.2.2 dX2_special_162
  · refine my_table (tgt := 163) hx hb dX2_special_1 (by decide) c_1 (by decide) ?_
    refine lv_iload_n hx hb dX2_special_163 rfl (lv_at hl 0 rfl) ?_
    refine ro_calli (va_runS (As := [.int (x0)]) (rest := []) ⟨hx, hb, hml, hown, hts⟩ (cX2_threeOrBarrier l s.heap.size (x0)) (va_cwS 1 hts gX2_special_X2_threeOrBarrier rfl rfl rfl (by decide +kernel) ⟨Nat.le_of_ble_eq_true rfl, Nat.le_of_ble_eq_true rfl⟩) pu_preS rfl rfl hl.1 rfl (lv_room (Nat.le_of_ble_eq_true rfl)) dX2_special_164 ⟨Nat.zero_le _, Nat.zero_le _⟩) hS hA (fun H locs kP hS => ?_)
    exact W.iret (v := (fX2_threeOrBarrier x0)) hx hb hr (fun t ht hW => ⟨⟨_, (), rfl, (by unfold fX2_special; rw [if_neg (show ¬ (swX2_special_1 (x0) = 127) by rw [c_1]; decide), if_neg (show ¬ (swX2_special_1 (x0) = 131) by rw [c_1]; decide), if_neg (show ¬ (swX2_special_1 (x0) = 135) by rw [c_1]; decide), if_neg (show ¬ (swX2_special_1 (x0) = 138) by rw [c_1]; decide), if_neg (show ¬ (swX2_special_1 (x0) = 142) by rw [c_1]; decide), if_neg (show ¬ (swX2_special_1 (x0) = 146) by rw [c_1]; decide), if_neg (show ¬ (swX2_special_1 (x0) = 150) by rw [c_1]; decide), if_neg (show ¬ (swX2_special_1 (x0) = 154) by rw [c_1]; decide), if_neg (show ¬ (swX2_special_1 (x0) = 158) by rw [c_1]; decide)]), trivial⟩, hS.F ht⟩) hS.2.2 dX2_special_167
def swX2_special2_1 (x : Int32) : Int := Op.lookupswitch.offset [(0, 67), (1, 67), (2, 71), (4, 67), (5, 67), (32, 75), (33, 75)] 79 x.toInt
theorem swX2_special2_1_c (x : Int32) : swX2_special2_1 x = 67 ∨ swX2_special2_1 x = 71 ∨ swX2_special2_1 x = 75 ∨ swX2_special2_1 x = 79 := (show ∀ v ∈ ([79, 67, 67, 71, 67, 67, 75, 75] : List Int), v = 67 ∨ v = 71 ∨ v = 75 ∨ v = 79 by decide) _ (lk_mem _ _ _)
def fX2_special2 (x0 : Int32) : Int32 := if swX2_special2_1 (x0) = 67 then 3123 else if swX2_special2_1 (x0) = 71 then 2355 else if swX2_special2_1 (x0) = 75 then 272 else (-1)
set_option maxHeartbeats 4000000 in
set_option maxRecDepth 100000 in
theorem cX2_special2 (l : Launch) (sz : Nat) (x0 : Int32) : Met l yX2_special2 wsX2_special2 ({ frames := 0, cells := 0, slots := 0, locals := 0 }) (pu_Pc [.int (x0)] sz) (ro_Qi (fX2_special2 x0) sz) 0 0 (ro sz) := by
  refine Met.ofW (cc := cX2_special2) (maxL := 1) (ret := (some .int)) (by decide) rfl ?_
  intro p e s m args below meth c s₁ B hml hv
  obtain ⟨rfl, hsz⟩ := hv
  have hx := B.exec
  have hb := B.bytes
  have hr := B.returns
  have hts := atoms_spec (ws := wsX2_special2) B.pre
  have hown : s.vm.findClass RX2 = some m.cls := findClass_of_methodNamed B.named
  have hlocks := B.notSynchronized
  subst hsz
  have hA : ∀ q : Nat, s.heap.size ≤ q → ro s.heap.size q := fun _ h => h
  have hS : va_S (ro s.heap.size) s.heap s.heap [] := va_S.rf
  have hl := lv_entry ([.int (x0)]) (n := 1) (Nat.le_of_ble_eq_true rfl)
  rw [lg_entry_eq]
  generalize (lg_sl ([.int (x0)]) ++ List.replicate (1 - (lg_sl ([.int (x0)])).length) Slot.unset).toArray = ls at hl ⊢
  have hl : lv_has ls 1 [(0, .int (x0))] := hl
  refine lv_iload_n hx hb dX2_special2_0 rfl (lv_at hl 0 rfl) ?_
  rcases swX2_special2_1_c (x0) with c_1 | c_1 | c_1 | c_1
  · refine lv_lookup (tgt := 68) hx hb dX2_special2_1 (by decide) c_1 (by decide) ?_
    refine lv_sipush (v := 3123) hx hb dX2_special2_68 (by decide) ?_
    exact W.iret (v := 3123) hx hb hr (fun t ht hW => ⟨⟨_, (), rfl, (by unfold fX2_special2; rw [if_pos c_1]), trivial⟩, hS.F ht⟩) hS.2.2 dX2_special2_71
  · refine lv_lookup (tgt := 72) hx hb dX2_special2_1 (by decide) c_1 (by decide) ?_
    refine lv_sipush (v := 2355) hx hb dX2_special2_72 (by decide) ?_
    exact W.iret (v := 2355) hx hb hr (fun t ht hW => ⟨⟨_, (), rfl, (by unfold fX2_special2; rw [if_pos c_1]), trivial⟩, hS.F ht⟩) hS.2.2 dX2_special2_75
  · refine lv_lookup (tgt := 76) hx hb dX2_special2_1 (by decide) c_1 (by decide) ?_
    refine lv_sipush (v := 272) hx hb dX2_special2_76 (by decide) ?_
    exact W.iret (v := 272) hx hb hr (fun t ht hW => ⟨⟨_, (), rfl, (by unfold fX2_special2; rw [if_pos c_1]), trivial⟩, hS.F ht⟩) hS.2.2 dX2_special2_79
  · refine lv_lookup (tgt := 80) hx hb dX2_special2_1 (by decide) c_1 (by decide) ?_
    refine lv_iconst (v := (-1)) hx hb dX2_special2_80 (by decide) ?_
    exact W.iret (v := (-1)) hx hb hr (fun t ht hW => ⟨⟨_, (), rfl, (by unfold fX2_special2; rw [if_neg (show ¬ (swX2_special2_1 (x0) = 67) by rw [c_1]; decide), if_neg (show ¬ (swX2_special2_1 (x0) = 71) by rw [c_1]; decide), if_neg (show ¬ (swX2_special2_1 (x0) = 75) by rw [c_1]; decide)]), trivial⟩, hS.F ht⟩) hS.2.2 dX2_special2_81
def swX2_byRegisterField_1 (x : Int32) : Int := swT 0 17 [87, 87, 90, 90, 100, 100, 100, 100, 93, 93, 93, 93, 93, 100, 93, 100, 96, 96] 100 x
theorem swX2_byRegisterField_1_c (x : Int32) : swX2_byRegisterField_1 x = 87 ∨ swX2_byRegisterField_1 x = 90 ∨ swX2_byRegisterField_1 x = 93 ∨ swX2_byRegisterField_1 x = 96 ∨ swX2_byRegisterField_1 x = 100 := (show ∀ v ∈ ([100, 87, 87, 90, 90, 100, 100, 100, 100, 93, 93, 93, 93, 93, 100, 93, 100, 96, 96] : List Int), v = 87 ∨ v = 90 ∨ v = 93 ∨ v = 96 ∨ v = 100 by decide) _ (swT_mem _ _ _ _ _)
def fX2_byRegisterField (x0 : Int32) : Int32 := if swX2_byRegisterField_1 (x0) = 87 then 23 else if swX2_byRegisterField_1 (x0) = 90 then 8388631 else if swX2_byRegisterField_1 (x0) = 93 then 8 else if swX2_byRegisterField_1 (x0) = 96 then 535 else (-1)
set_option maxHeartbeats 4000000 in
set_option maxRecDepth 100000 in
theorem cX2_byRegisterField (l : Launch) (sz : Nat) (x0 : Int32) : Met l yX2_byRegisterField wsX2_byRegisterField ({ frames := 0, cells := 0, slots := 0, locals := 0 }) (pu_Pc [.int (x0)] sz) (ro_Qi (fX2_byRegisterField x0) sz) 0 0 (ro sz) := by
  refine Met.ofW (cc := cX2_byRegisterField) (maxL := 1) (ret := (some .int)) (by decide) rfl ?_
  intro p e s m args below meth c s₁ B hml hv
  obtain ⟨rfl, hsz⟩ := hv
  have hx := B.exec
  have hb := B.bytes
  have hr := B.returns
  have hts := atoms_spec (ws := wsX2_byRegisterField) B.pre
  have hown : s.vm.findClass RX2 = some m.cls := findClass_of_methodNamed B.named
  have hlocks := B.notSynchronized
  subst hsz
  have hA : ∀ q : Nat, s.heap.size ≤ q → ro s.heap.size q := fun _ h => h
  have hS : va_S (ro s.heap.size) s.heap s.heap [] := va_S.rf
  have hl := lv_entry ([.int (x0)]) (n := 1) (Nat.le_of_ble_eq_true rfl)
  rw [lg_entry_eq]
  generalize (lg_sl ([.int (x0)]) ++ List.replicate (1 - (lg_sl ([.int (x0)])).length) Slot.unset).toArray = ls at hl ⊢
  have hl : lv_has ls 1 [(0, .int (x0))] := hl
  refine lv_iload_n hx hb dX2_byRegisterField_0 rfl (lv_at hl 0 rfl) ?_
  rcases swX2_byRegisterField_1_c (x0) with c_1 | c_1 | c_1 | c_1 | c_1
  · refine my_table (tgt := 88) hx hb dX2_byRegisterField_1 (by decide) c_1 (by decide) ?_
    refine lv_bipush (v := 23) hx hb dX2_byRegisterField_88 (by decide) ?_
    exact W.iret (v := 23) hx hb hr (fun t ht hW => ⟨⟨_, (), rfl, (by unfold fX2_byRegisterField; rw [if_pos c_1]), trivial⟩, hS.F ht⟩) hS.2.2 dX2_byRegisterField_90
  · refine my_table (tgt := 91) hx hb dX2_byRegisterField_1 (by decide) c_1 (by decide) ?_
    refine lv_ldc (v := 8388631) hx hb hown (hts (.constant RX2 66 (8388631)) (by decide +kernel)) dX2_byRegisterField_91 ?_
    exact W.iret (v := 8388631) hx hb hr (fun t ht hW => ⟨⟨_, (), rfl, (by unfold fX2_byRegisterField; rw [if_pos c_1]), trivial⟩, hS.F ht⟩) hS.2.2 dX2_byRegisterField_93
  · refine my_table (tgt := 94) hx hb dX2_byRegisterField_1 (by decide) c_1 (by decide) ?_
    refine lv_bipush (v := 8) hx hb dX2_byRegisterField_94 (by decide) ?_
    exact W.iret (v := 8) hx hb hr (fun t ht hW => ⟨⟨_, (), rfl, (by unfold fX2_byRegisterField; rw [if_pos c_1]), trivial⟩, hS.F ht⟩) hS.2.2 dX2_byRegisterField_96
  · refine my_table (tgt := 97) hx hb dX2_byRegisterField_1 (by decide) c_1 (by decide) ?_
    refine lv_sipush (v := 535) hx hb dX2_byRegisterField_97 (by decide) ?_
    exact W.iret (v := 535) hx hb hr (fun t ht hW => ⟨⟨_, (), rfl, (by unfold fX2_byRegisterField; rw [if_pos c_1]), trivial⟩, hS.F ht⟩) hS.2.2 dX2_byRegisterField_100
  · refine my_table (tgt := 101) hx hb dX2_byRegisterField_1 (by decide) c_1 (by decide) ?_
    refine lv_iconst (v := (-1)) hx hb dX2_byRegisterField_101 (by decide) ?_
    exact W.iret (v := (-1)) hx hb hr (fun t ht hW => ⟨⟨_, (), rfl, (by unfold fX2_byRegisterField; rw [if_neg (show ¬ (swX2_byRegisterField_1 (x0) = 87) by rw [c_1]; decide), if_neg (show ¬ (swX2_byRegisterField_1 (x0) = 90) by rw [c_1]; decide), if_neg (show ¬ (swX2_byRegisterField_1 (x0) = 93) by rw [c_1]; decide), if_neg (show ¬ (swX2_byRegisterField_1 (x0) = 96) by rw [c_1]; decide)]), trivial⟩, hS.F ht⟩) hS.2.2 dX2_byRegisterField_102
def swX2_immediateOrBranch_1 (x : Int32) : Int := swT 2 23 [103, 106, 110, 110, 113, 113, 122, 125, 125, 125, 125, 125, 125, 129, 133, 133, 133, 133, 116, 116, 119, 119] 133 x
theorem swX2_immediateOrBranch_1_c (x : Int32) : swX2_immediateOrBranch_1 x = 103 ∨ swX2_immediateOrBranch_1 x = 106 ∨ swX2_immediateOrBranch_1 x = 110 ∨ swX2_immediateOrBranch_1 x = 113 ∨ swX2_immediateOrBranch_1 x = 116 ∨ swX2_immediateOrBranch_1 x = 119 ∨ swX2_immediateOrBranch_1 x = 122 ∨ swX2_immediateOrBranch_1 x = 125 ∨ swX2_immediateOrBranch_1 x = 129 ∨ swX2_immediateOrBranch_1 x = 133 := (show ∀ v ∈ ([133, 103, 106, 110, 110, 113, 113, 122, 125, 125, 125, 125, 125, 125, 129, 133, 133, 133, 133, 116, 116, 119, 119] : List Int), v = 103 ∨ v = 106 ∨ v = 110 ∨ v = 113 ∨ v = 116 ∨ v = 119 ∨ v = 122 ∨ v = 125 ∨ v = 129 ∨ v = 133 by decide) _ (swT_mem _ _ _ _ _)
def fX2_immediateOrBranch (x0 : Int32) : Int32 := if swX2_immediateOrBranch_1 (x0) = 103 then 7 else if swX2_immediateOrBranch_1 (x0) = 106 then 519 else if swX2_immediateOrBranch_1 (x0) = 110 then 55 else if swX2_immediateOrBranch_1 (x0) = 113 then 23 else if swX2_immediateOrBranch_1 (x0) = 116 then 8388663 else if swX2_immediateOrBranch_1 (x0) = 119 then 8388631 else if swX2_immediateOrBranch_1 (x0) = 122 then 8 else if swX2_immediateOrBranch_1 (x0) = 125 then 144 else if swX2_immediateOrBranch_1 (x0) = 129 then 128 else (-1)
set_option maxHeartbeats 4000000 in
set_option maxRecDepth 100000 in
theorem cX2_immediateOrBranch (l : Launch) (sz : Nat) (x0 : Int32) : Met l yX2_immediateOrBranch wsX2_immediateOrBranch ({ frames := 0, cells := 0, slots := 0, locals := 0 }) (pu_Pc [.int (x0)] sz) (ro_Qi (fX2_immediateOrBranch x0) sz) 0 0 (ro sz) := by
  refine Met.ofW (cc := cX2_immediateOrBranch) (maxL := 1) (ret := (some .int)) (by decide) rfl ?_
  intro p e s m args below meth c s₁ B hml hv
  obtain ⟨rfl, hsz⟩ := hv
  have hx := B.exec
  have hb := B.bytes
  have hr := B.returns
  have hts := atoms_spec (ws := wsX2_immediateOrBranch) B.pre
  have hown : s.vm.findClass RX2 = some m.cls := findClass_of_methodNamed B.named
  have hlocks := B.notSynchronized
  subst hsz
  have hA : ∀ q : Nat, s.heap.size ≤ q → ro s.heap.size q := fun _ h => h
  have hS : va_S (ro s.heap.size) s.heap s.heap [] := va_S.rf
  have hl := lv_entry ([.int (x0)]) (n := 1) (Nat.le_of_ble_eq_true rfl)
  rw [lg_entry_eq]
  generalize (lg_sl ([.int (x0)]) ++ List.replicate (1 - (lg_sl ([.int (x0)])).length) Slot.unset).toArray = ls at hl ⊢
  have hl : lv_has ls 1 [(0, .int (x0))] := hl
  refine lv_iload_n hx hb dX2_immediateOrBranch_0 rfl (lv_at hl 0 rfl) ?_
  rcases swX2_immediateOrBranch_1_c (x0) with c_1 | c_1 | c_1 | c_1 | c_1 | c_1 | c_1 | c_1 | c_1 | c_1
  · refine my_table (tgt := 104) hx hb dX2_immediateOrBranch_1 (by decide) c_1 (by decide) ?_
    refine lv_bipush (v := 7) hx hb dX2_immediateOrBranch_104 (by decide) ?_
    exact W.iret (v := 7) hx hb hr (fun t ht hW => ⟨⟨_, (), rfl, (by unfold fX2_immediateOrBranch; rw [if_pos c_1]), trivial⟩, hS.F ht⟩) hS.2.2 dX2_immediateOrBranch_106
  · refine my_table (tgt := 107) hx hb dX2_immediateOrBranch_1 (by decide) c_1 (by decide) ?_
    refine lv_sipush (v := 519) hx hb dX2_immediateOrBranch_107 (by decide) ?_
    exact W.iret (v := 519) hx hb hr (fun t ht hW => ⟨⟨_, (), rfl, (by unfold fX2_immediateOrBranch; rw [if_pos c_1]), trivial⟩, hS.F ht⟩) hS.2.2 dX2_immediateOrBranch_110
  · refine my_table (tgt := 111) hx hb dX2_immediateOrBranch_1 (by decide) c_1 (by decide) ?_
    refine lv_bipush (v := 55) hx hb dX2_immediateOrBranch_111 (by decide) ?_
    exact W.iret (v := 55) hx hb hr (fun t ht hW => ⟨⟨_, (), rfl, (by unfold fX2_immediateOrBranch; rw [if_pos c_1]), trivial⟩, hS.F ht⟩) hS.2.2 dX2_immediateOrBranch_113
  · refine my_table (tgt := 114) hx hb dX2_immediateOrBranch_1 (by decide) c_1 (by decide) ?_
    refine lv_bipush (v := 23) hx hb dX2_immediateOrBranch_114 (by decide) ?_
    exact W.iret (v := 23) hx hb hr (fun t ht hW => ⟨⟨_, (), rfl, (by unfold fX2_immediateOrBranch; rw [if_pos c_1]), trivial⟩, hS.F ht⟩) hS.2.2 dX2_immediateOrBranch_116
  · refine my_table (tgt := 117) hx hb dX2_immediateOrBranch_1 (by decide) c_1 (by decide) ?_
    refine lv_ldc (v := 8388663) hx hb hown (hts (.constant RX2 67 (8388663)) (by decide +kernel)) dX2_immediateOrBranch_117 ?_
    exact W.iret (v := 8388663) hx hb hr (fun t ht hW => ⟨⟨_, (), rfl, (by unfold fX2_immediateOrBranch; rw [if_pos c_1]), trivial⟩, hS.F ht⟩) hS.2.2 dX2_immediateOrBranch_119
  · refine my_table (tgt := 120) hx hb dX2_immediateOrBranch_1 (by decide) c_1 (by decide) ?_
    refine lv_ldc (v := 8388631) hx hb hown (hts (.constant RX2 66 (8388631)) (by decide +kernel)) dX2_immediateOrBranch_120 ?_
    exact W.iret (v := 8388631) hx hb hr (fun t ht hW => ⟨⟨_, (), rfl, (by unfold fX2_immediateOrBranch; rw [if_pos c_1]), trivial⟩, hS.F ht⟩) hS.2.2 dX2_immediateOrBranch_122
  · refine my_table (tgt := 123) hx hb dX2_immediateOrBranch_1 (by decide) c_1 (by decide) ?_
    refine lv_bipush (v := 8) hx hb dX2_immediateOrBranch_123 (by decide) ?_
    exact W.iret (v := 8) hx hb hr (fun t ht hW => ⟨⟨_, (), rfl, (by unfold fX2_immediateOrBranch; rw [if_pos c_1]), trivial⟩, hS.F ht⟩) hS.2.2 dX2_immediateOrBranch_125
  · refine my_table (tgt := 126) hx hb dX2_immediateOrBranch_1 (by decide) c_1 (by decide) ?_
    refine lv_sipush (v := 144) hx hb dX2_immediateOrBranch_126 (by decide) ?_
    exact W.iret (v := 144) hx hb hr (fun t ht hW => ⟨⟨_, (), rfl, (by unfold fX2_immediateOrBranch; rw [if_pos c_1]), trivial⟩, hS.F ht⟩) hS.2.2 dX2_immediateOrBranch_129
  · refine my_table (tgt := 130) hx hb dX2_immediateOrBranch_1 (by decide) c_1 (by decide) ?_
    refine lv_sipush (v := 128) hx hb dX2_immediateOrBranch_130 (by decide) ?_
    exact W.iret (v := 128) hx hb hr (fun t ht hW => ⟨⟨_, (), rfl, (by unfold fX2_immediateOrBranch; rw [if_pos c_1]), trivial⟩, hS.F ht⟩) hS.2.2 dX2_immediateOrBranch_133
  · refine my_table (tgt := 134) hx hb dX2_immediateOrBranch_1 (by decide) c_1 (by decide) ?_
    refine lv_iconst (v := (-1)) hx hb dX2_immediateOrBranch_134 (by decide) ?_
    exact W.iret (v := (-1)) hx hb hr (fun t ht hW => ⟨⟨_, (), rfl, (by unfold fX2_immediateOrBranch; rw [if_neg (show ¬ (swX2_immediateOrBranch_1 (x0) = 103) by rw [c_1]; decide), if_neg (show ¬ (swX2_immediateOrBranch_1 (x0) = 106) by rw [c_1]; decide), if_neg (show ¬ (swX2_immediateOrBranch_1 (x0) = 110) by rw [c_1]; decide), if_neg (show ¬ (swX2_immediateOrBranch_1 (x0) = 113) by rw [c_1]; decide), if_neg (show ¬ (swX2_immediateOrBranch_1 (x0) = 116) by rw [c_1]; decide), if_neg (show ¬ (swX2_immediateOrBranch_1 (x0) = 119) by rw [c_1]; decide), if_neg (show ¬ (swX2_immediateOrBranch_1 (x0) = 122) by rw [c_1]; decide), if_neg (show ¬ (swX2_immediateOrBranch_1 (x0) = 125) by rw [c_1]; decide), if_neg (show ¬ (swX2_immediateOrBranch_1 (x0) = 129) by rw [c_1]; decide)]), trivial⟩, hS.F ht⟩) hS.2.2 dX2_immediateOrBranch_135
def swX2_memory_1 (x : Int32) : Int := swT 32 61 [135, 135, 139, 135, 135, 135, 139, 164, 143, 143, 143, 143, 164, 164, 143, 164, 146, 149, 164, 152, 164, 155, 164, 164, 146, 158, 164, 164, 164, 161] 164 x
theorem swX2_memory_1_c (x : Int32) : swX2_memory_1 x = 135 ∨ swX2_memory_1 x = 139 ∨ swX2_memory_1 x = 143 ∨ swX2_memory_1 x = 146 ∨ swX2_memory_1 x = 149 ∨ swX2_memory_1 x = 152 ∨ swX2_memory_1 x = 155 ∨ swX2_memory_1 x = 158 ∨ swX2_memory_1 x = 161 ∨ swX2_memory_1 x = 164 := (show ∀ v ∈ ([164, 135, 135, 139, 135, 135, 135, 139, 164, 143, 143, 143, 143, 164, 164, 143, 164, 146, 149, 164, 152, 164, 155, 164, 164, 146, 158, 164, 164, 164, 161] : List Int), v = 135 ∨ v = 139 ∨ v = 143 ∨ v = 146 ∨ v = 149 ∨ v = 152 ∨ v = 155 ∨ v = 158 ∨ v = 161 ∨ v = 164 by decide) _ (swT_mem _ _ _ _ _)
def fX2_memory (x0 : Int32) : Int32 := if swX2_memory_1 (x0) = 135 then 145 else if swX2_memory_1 (x0) = 139 then 177 else if swX2_memory_1 (x0) = 143 then 50 else if swX2_memory_1 (x0) = 146 then 8 else if swX2_memory_1 (x0) = 149 then 262161 else if swX2_memory_1 (x0) = 152 then 16 else if swX2_memory_1 (x0) = 155 then 2359313 else if swX2_memory_1 (x0) = 158 then 32786 else if swX2_memory_1 (x0) = 161 then 2129938 else (-1)
set_option maxHeartbeats 4000000 in
set_option maxRecDepth 100000 in
theorem cX2_memory (l : Launch) (sz : Nat) (x0 : Int32) : Met l yX2_memory wsX2_memory ({ frames := 0, cells := 0, slots := 0, locals := 0 }) (pu_Pc [.int (x0)] sz) (ro_Qi (fX2_memory x0) sz) 0 0 (ro sz) := by
  refine Met.ofW (cc := cX2_memory) (maxL := 1) (ret := (some .int)) (by decide) rfl ?_
  intro p e s m args below meth c s₁ B hml hv
  obtain ⟨rfl, hsz⟩ := hv
  have hx := B.exec
  have hb := B.bytes
  have hr := B.returns
  have hts := atoms_spec (ws := wsX2_memory) B.pre
  have hown : s.vm.findClass RX2 = some m.cls := findClass_of_methodNamed B.named
  have hlocks := B.notSynchronized
  subst hsz
  have hA : ∀ q : Nat, s.heap.size ≤ q → ro s.heap.size q := fun _ h => h
  have hS : va_S (ro s.heap.size) s.heap s.heap [] := va_S.rf
  have hl := lv_entry ([.int (x0)]) (n := 1) (Nat.le_of_ble_eq_true rfl)
  rw [lg_entry_eq]
  generalize (lg_sl ([.int (x0)]) ++ List.replicate (1 - (lg_sl ([.int (x0)])).length) Slot.unset).toArray = ls at hl ⊢
  have hl : lv_has ls 1 [(0, .int (x0))] := hl
  refine lv_iload_n hx hb dX2_memory_0 rfl (lv_at hl 0 rfl) ?_
  rcases swX2_memory_1_c (x0) with c_1 | c_1 | c_1 | c_1 | c_1 | c_1 | c_1 | c_1 | c_1 | c_1
  · refine my_table (tgt := 136) hx hb dX2_memory_1 (by decide) c_1 (by decide) ?_
    refine lv_sipush (v := 145) hx hb dX2_memory_136 (by decide) ?_
    exact W.iret (v := 145) hx hb hr (fun t ht hW => ⟨⟨_, (), rfl, (by unfold fX2_memory; rw [if_pos c_1]), trivial⟩, hS.F ht⟩) hS.2.2 dX2_memory_139
  · refine my_table (tgt := 140) hx hb dX2_memory_1 (by decide) c_1 (by decide) ?_
    refine lv_sipush (v := 177) hx hb dX2_memory_140 (by decide) ?_
    exact W.iret (v := 177) hx hb hr (fun t ht hW => ⟨⟨_, (), rfl, (by unfold fX2_memory; rw [if_pos c_1]), trivial⟩, hS.F ht⟩) hS.2.2 dX2_memory_143
  · refine my_table (tgt := 144) hx hb dX2_memory_1 (by decide) c_1 (by decide) ?_
    refine lv_bipush (v := 50) hx hb dX2_memory_144 (by decide) ?_
    exact W.iret (v := 50) hx hb hr (fun t ht hW => ⟨⟨_, (), rfl, (by unfold fX2_memory; rw [if_pos c_1]), trivial⟩, hS.F ht⟩) hS.2.2 dX2_memory_146
  · refine my_table (tgt := 147) hx hb dX2_memory_1 (by decide) c_1 (by decide) ?_
    refine lv_bipush (v := 8) hx hb dX2_memory_147 (by decide) ?_
    exact W.iret (v := 8) hx hb hr (fun t ht hW => ⟨⟨_, (), rfl, (by unfold fX2_memory; rw [if_pos c_1]), trivial⟩, hS.F ht⟩) hS.2.2 dX2_memory_149
  · refine my_table (tgt := 150) hx hb dX2_memory_1 (by decide) c_1 (by decide) ?_
    refine lv_ldc (v := 262161) hx hb hown (hts (.constant RX2 68 (262161)) (by decide +kernel)) dX2_memory_150 ?_
    exact W.iret (v := 262161) hx hb hr (fun t ht hW => ⟨⟨_, (), rfl, (by unfold fX2_memory; rw [if_pos c_1]), trivial⟩, hS.F ht⟩) hS.2.2 dX2_memory_152
  · refine my_table (tgt := 153) hx hb dX2_memory_1 (by decide) c_1 (by decide) ?_
    refine lv_bipush (v := 16) hx hb dX2_memory_153 (by decide) ?_
    exact W.iret (v := 16) hx hb hr (fun t ht hW => ⟨⟨_, (), rfl, (by unfold fX2_memory; rw [if_pos c_1]), trivial⟩, hS.F ht⟩) hS.2.2 dX2_memory_155
  · refine my_table (tgt := 156) hx hb dX2_memory_1 (by decide) c_1 (by decide) ?_
    refine lv_ldc (v := 2359313) hx hb hown (hts (.constant RX2 69 (2359313)) (by decide +kernel)) dX2_memory_156 ?_
    exact W.iret (v := 2359313) hx hb hr (fun t ht hW => ⟨⟨_, (), rfl, (by unfold fX2_memory; rw [if_pos c_1]), trivial⟩, hS.F ht⟩) hS.2.2 dX2_memory_158
  · refine my_table (tgt := 159) hx hb dX2_memory_1 (by decide) c_1 (by decide) ?_
    refine lv_ldc (v := 32786) hx hb hown (hts (.constant RX2 70 (32786)) (by decide +kernel)) dX2_memory_159 ?_
    exact W.iret (v := 32786) hx hb hr (fun t ht hW => ⟨⟨_, (), rfl, (by unfold fX2_memory; rw [if_pos c_1]), trivial⟩, hS.F ht⟩) hS.2.2 dX2_memory_161
  · refine my_table (tgt := 162) hx hb dX2_memory_1 (by decide) c_1 (by decide) ?_
    refine lv_ldc (v := 2129938) hx hb hown (hts (.constant RX2 71 (2129938)) (by decide +kernel)) dX2_memory_162 ?_
    exact W.iret (v := 2129938) hx hb hr (fun t ht hW => ⟨⟨_, (), rfl, (by unfold fX2_memory; rw [if_pos c_1]), trivial⟩, hS.F ht⟩) hS.2.2 dX2_memory_164
  · refine my_table (tgt := 165) hx hb dX2_memory_1 (by decide) c_1 (by decide) ?_
    refine lv_iconst (v := (-1)) hx hb dX2_memory_165 (by decide) ?_
    exact W.iret (v := (-1)) hx hb hr (fun t ht hW => ⟨⟨_, (), rfl, (by unfold fX2_memory; rw [if_neg (show ¬ (swX2_memory_1 (x0) = 135) by rw [c_1]; decide), if_neg (show ¬ (swX2_memory_1 (x0) = 139) by rw [c_1]; decide), if_neg (show ¬ (swX2_memory_1 (x0) = 143) by rw [c_1]; decide), if_neg (show ¬ (swX2_memory_1 (x0) = 146) by rw [c_1]; decide), if_neg (show ¬ (swX2_memory_1 (x0) = 149) by rw [c_1]; decide), if_neg (show ¬ (swX2_memory_1 (x0) = 152) by rw [c_1]; decide), if_neg (show ¬ (swX2_memory_1 (x0) = 155) by rw [c_1]; decide), if_neg (show ¬ (swX2_memory_1 (x0) = 158) by rw [c_1]; decide), if_neg (show ¬ (swX2_memory_1 (x0) = 161) by rw [c_1]; decide)]), trivial⟩, hS.F ht⟩) hS.2.2 dX2_memory_166
def swX2_ofWhole_1 (x : Int32) : Int := Op.lookupswitch.offset [(32, 27), (33, 30)] 33 x.toInt
theorem swX2_ofWhole_1_c (x : Int32) : swX2_ofWhole_1 x = 27 ∨ swX2_ofWhole_1 x = 30 ∨ swX2_ofWhole_1 x = 33 := (show ∀ v ∈ ([33, 27, 30] : List Int), v = 27 ∨ v = 30 ∨ v = 33 by decide) _ (lk_mem _ _ _)
def fX2_ofWhole (x0 : Int32) : Int32 := if swX2_ofWhole_1 (x0) = 27 then 540677 else if swX2_ofWhole_1 (x0) = 30 then 4734981 else (-1)
set_option maxHeartbeats 4000000 in
set_option maxRecDepth 100000 in
theorem cX2_ofWhole (l : Launch) (sz : Nat) (x0 : Int32) : Met l yX2_ofWhole wsX2_ofWhole ({ frames := 0, cells := 0, slots := 0, locals := 0 }) (pu_Pc [.int (x0)] sz) (ro_Qi (fX2_ofWhole x0) sz) 0 0 (ro sz) := by
  refine Met.ofW (cc := cX2_ofWhole) (maxL := 1) (ret := (some .int)) (by decide) rfl ?_
  intro p e s m args below meth c s₁ B hml hv
  obtain ⟨rfl, hsz⟩ := hv
  have hx := B.exec
  have hb := B.bytes
  have hr := B.returns
  have hts := atoms_spec (ws := wsX2_ofWhole) B.pre
  have hown : s.vm.findClass RX2 = some m.cls := findClass_of_methodNamed B.named
  have hlocks := B.notSynchronized
  subst hsz
  have hA : ∀ q : Nat, s.heap.size ≤ q → ro s.heap.size q := fun _ h => h
  have hS : va_S (ro s.heap.size) s.heap s.heap [] := va_S.rf
  have hl := lv_entry ([.int (x0)]) (n := 1) (Nat.le_of_ble_eq_true rfl)
  rw [lg_entry_eq]
  generalize (lg_sl ([.int (x0)]) ++ List.replicate (1 - (lg_sl ([.int (x0)])).length) Slot.unset).toArray = ls at hl ⊢
  have hl : lv_has ls 1 [(0, .int (x0))] := hl
  refine lv_iload_n hx hb dX2_ofWhole_0 rfl (lv_at hl 0 rfl) ?_
  rcases swX2_ofWhole_1_c (x0) with c_1 | c_1 | c_1
  · refine lv_lookup (tgt := 28) hx hb dX2_ofWhole_1 (by decide) c_1 (by decide) ?_
    refine lv_ldc (v := 540677) hx hb hown (hts (.constant RX2 88 (540677)) (by decide +kernel)) dX2_ofWhole_28 ?_
    exact W.iret (v := 540677) hx hb hr (fun t ht hW => ⟨⟨_, (), rfl, (by unfold fX2_ofWhole; rw [if_pos c_1]), trivial⟩, hS.F ht⟩) hS.2.2 dX2_ofWhole_30
  · refine lv_lookup (tgt := 31) hx hb dX2_ofWhole_1 (by decide) c_1 (by decide) ?_
    refine lv_ldc (v := 4734981) hx hb hown (hts (.constant RX2 77 (4734981)) (by decide +kernel)) dX2_ofWhole_31 ?_
    exact W.iret (v := 4734981) hx hb hr (fun t ht hW => ⟨⟨_, (), rfl, (by unfold fX2_ofWhole; rw [if_pos c_1]), trivial⟩, hS.F ht⟩) hS.2.2 dX2_ofWhole_33
  · refine lv_lookup (tgt := 34) hx hb dX2_ofWhole_1 (by decide) c_1 (by decide) ?_
    refine lv_iconst (v := (-1)) hx hb dX2_ofWhole_34 (by decide) ?_
    exact W.iret (v := (-1)) hx hb hr (fun t ht hW => ⟨⟨_, (), rfl, (by unfold fX2_ofWhole; rw [if_neg (show ¬ (swX2_ofWhole_1 (x0) = 27) by rw [c_1]; decide), if_neg (show ¬ (swX2_ofWhole_1 (x0) = 30) by rw [c_1]; decide)]), trivial⟩, hS.F ht⟩) hS.2.2 dX2_ofWhole_35
def swX2_fraction_1 (x : Int32) : Int := swT 0 36 [163, 163, 163, 166, 169, 172, 172, 172, 181, 181, 181, 181, 172, 172, 172, 172, 181, 175, 178, 178, 181, 181, 181, 181, 181, 181, 181, 181, 181, 181, 181, 181, 181, 181, 181, 181, 172] 181 x
theorem swX2_fraction_1_c (x : Int32) : swX2_fraction_1 x = 163 ∨ swX2_fraction_1 x = 166 ∨ swX2_fraction_1 x = 169 ∨ swX2_fraction_1 x = 172 ∨ swX2_fraction_1 x = 175 ∨ swX2_fraction_1 x = 178 ∨ swX2_fraction_1 x = 181 := (show ∀ v ∈ ([181, 163, 163, 163, 166, 169, 172, 172, 172, 181, 181, 181, 181, 172, 172, 172, 172, 181, 175, 178, 178, 181, 181, 181, 181, 181, 181, 181, 181, 181, 181, 181, 181, 181, 181, 181, 181, 172] : List Int), v = 163 ∨ v = 166 ∨ v = 169 ∨ v = 172 ∨ v = 175 ∨ v = 178 ∨ v = 181 by decide) _ (swT_mem _ _ _ _ _)
def fX2_fraction (x0 : Int32) : Int32 := if swX2_fraction_1 (x0) = 163 then 573445 else if swX2_fraction_1 (x0) = 166 then 573446 else if swX2_fraction_1 (x0) = 169 then 540678 else if swX2_fraction_1 (x0) = 172 then 540677 else if swX2_fraction_1 (x0) = 175 then 610309 else if swX2_fraction_1 (x0) = 178 then 606245 else if x0 < 48 then (-1) else 61445
set_option maxHeartbeats 4000000 in
set_option maxRecDepth 100000 in
theorem cX2_fraction (l : Launch) (sz : Nat) (x0 : Int32) : Met l yX2_fraction wsX2_fraction ({ frames := 0, cells := 0, slots := 0, locals := 0 }) (pu_Pc [.int (x0)] sz) (ro_Qi (fX2_fraction x0) sz) 0 0 (ro sz) := by
  refine Met.ofW (cc := cX2_fraction) (maxL := 1) (ret := (some .int)) (by decide) rfl ?_
  intro p e s m args below meth c s₁ B hml hv
  obtain ⟨rfl, hsz⟩ := hv
  have hx := B.exec
  have hb := B.bytes
  have hr := B.returns
  have hts := atoms_spec (ws := wsX2_fraction) B.pre
  have hown : s.vm.findClass RX2 = some m.cls := findClass_of_methodNamed B.named
  have hlocks := B.notSynchronized
  subst hsz
  have hA : ∀ q : Nat, s.heap.size ≤ q → ro s.heap.size q := fun _ h => h
  have hS : va_S (ro s.heap.size) s.heap s.heap [] := va_S.rf
  have hl := lv_entry ([.int (x0)]) (n := 1) (Nat.le_of_ble_eq_true rfl)
  rw [lg_entry_eq]
  generalize (lg_sl ([.int (x0)]) ++ List.replicate (1 - (lg_sl ([.int (x0)])).length) Slot.unset).toArray = ls at hl ⊢
  have hl : lv_has ls 1 [(0, .int (x0))] := hl
  refine lv_iload_n hx hb dX2_fraction_0 rfl (lv_at hl 0 rfl) ?_
  rcases swX2_fraction_1_c (x0) with c_1 | c_1 | c_1 | c_1 | c_1 | c_1 | c_1
  · refine my_table (tgt := 164) hx hb dX2_fraction_1 (by decide) c_1 (by decide) ?_
    refine lv_ldc (v := 573445) hx hb hown (hts (.constant RX2 95 (573445)) (by decide +kernel)) dX2_fraction_164 ?_
    exact W.iret (v := 573445) hx hb hr (fun t ht hW => ⟨⟨_, (), rfl, (by unfold fX2_fraction; rw [if_pos c_1]), trivial⟩, hS.F ht⟩) hS.2.2 dX2_fraction_166
  · refine my_table (tgt := 167) hx hb dX2_fraction_1 (by decide) c_1 (by decide) ?_
    refine lv_ldc (v := 573446) hx hb hown (hts (.constant RX2 96 (573446)) (by decide +kernel)) dX2_fraction_167 ?_
    exact W.iret (v := 573446) hx hb hr (fun t ht hW => ⟨⟨_, (), rfl, (by unfold fX2_fraction; rw [if_pos c_1]), trivial⟩, hS.F ht⟩) hS.2.2 dX2_fraction_169
  · refine my_table (tgt := 170) hx hb dX2_fraction_1 (by decide) c_1 (by decide) ?_
    refine lv_ldc (v := 540678) hx hb hown (hts (.constant RX2 97 (540678)) (by decide +kernel)) dX2_fraction_170 ?_
    exact W.iret (v := 540678) hx hb hr (fun t ht hW => ⟨⟨_, (), rfl, (by unfold fX2_fraction; rw [if_pos c_1]), trivial⟩, hS.F ht⟩) hS.2.2 dX2_fraction_172
  · refine my_table (tgt := 173) hx hb dX2_fraction_1 (by decide) c_1 (by decide) ?_
    refine lv_ldc (v := 540677) hx hb hown (hts (.constant RX2 88 (540677)) (by decide +kernel)) dX2_fraction_173 ?_
    exact W.iret (v := 540677) hx hb hr (fun t ht hW => ⟨⟨_, (), rfl, (by unfold fX2_fraction; rw [if_pos c_1]), trivial⟩, hS.F ht⟩) hS.2.2 dX2_fraction_175
  · refine my_table (tgt := 176) hx hb dX2_fraction_1 (by decide) c_1 (by decide) ?_
    refine lv_ldc (v := 610309) hx hb hown (hts (.constant RX2 98 (610309)) (by decide +kernel)) dX2_fraction_176 ?_
    exact W.iret (v := 610309) hx hb hr (fun t ht hW => ⟨⟨_, (), rfl, (by unfold fX2_fraction; rw [if_pos c_1]), trivial⟩, hS.F ht⟩) hS.2.2 dX2_fraction_178
  · refine my_table (tgt := 179) hx hb dX2_fraction_1 (by decide) c_1 (by decide) ?_
    refine lv_ldc (v := 606245) hx hb hown (hts (.constant RX2 99 (606245)) (by decide +kernel)) dX2_fraction_179 ?_
    exact W.iret (v := 606245) hx hb hr (fun t ht hW => ⟨⟨_, (), rfl, (by unfold fX2_fraction; rw [if_pos c_1]), trivial⟩, hS.F ht⟩) hS.2.2 dX2_fraction_181
  · refine my_table (tgt := 182) hx hb dX2_fraction_1 (by decide) c_1 (by decide) ?_
    refine lv_iload_n hx hb dX2_fraction_182 rfl (lv_at hl 0 rfl) ?_
    refine lv_bipush (v := 48) hx hb dX2_fraction_183 (by decide) ?_
    refine lv_icmp_lt (tgt := 193) hx hb dX2_fraction_185 (by decide) (fun c_2 => ?_) (fun c_2 => ?_)
    · refine lv_iconst (v := (-1)) hx hb dX2_fraction_193 (by decide) ?_
      exact W.iret (v := (-1)) hx hb hr (fun t ht hW => ⟨⟨_, (), rfl, (by unfold fX2_fraction; rw [if_neg (show ¬ (swX2_fraction_1 (x0) = 163) by rw [c_1]; decide), if_neg (show ¬ (swX2_fraction_1 (x0) = 166) by rw [c_1]; decide), if_neg (show ¬ (swX2_fraction_1 (x0) = 169) by rw [c_1]; decide), if_neg (show ¬ (swX2_fraction_1 (x0) = 172) by rw [c_1]; decide), if_neg (show ¬ (swX2_fraction_1 (x0) = 175) by rw [c_1]; decide), if_neg (show ¬ (swX2_fraction_1 (x0) = 178) by rw [c_1]; decide), if_pos c_2]), trivial⟩, hS.F ht⟩) hS.2.2 dX2_fraction_194
    · refine lv_ldc (v := 61445) hx hb hown (hts (.constant RX2 100 (61445)) (by decide +kernel)) dX2_fraction_188 ?_
      refine lv_goto (tgt := 194) hx hb dX2_fraction_190 (by decide) ?_
      exact W.iret (v := 61445) hx hb hr (fun t ht hW => ⟨⟨_, (), rfl, (by unfold fX2_fraction; rw [if_neg (show ¬ (swX2_fraction_1 (x0) = 163) by rw [c_1]; decide), if_neg (show ¬ (swX2_fraction_1 (x0) = 166) by rw [c_1]; decide), if_neg (show ¬ (swX2_fraction_1 (x0) = 169) by rw [c_1]; decide), if_neg (show ¬ (swX2_fraction_1 (x0) = 172) by rw [c_1]; decide), if_neg (show ¬ (swX2_fraction_1 (x0) = 175) by rw [c_1]; decide), if_neg (show ¬ (swX2_fraction_1 (x0) = 178) by rw [c_1]; decide), if_neg c_2]), trivial⟩, hS.F ht⟩) hS.2.2 dX2_fraction_194
def fX2_answersWhole (x0 : Int32) : Int32 := if x0 < 12 then if x0 = 36 then 1 else 0 else if x0 ≤ 15 then 1 else if x0 = 36 then 1 else 0
set_option maxHeartbeats 4000000 in
set_option maxRecDepth 100000 in
theorem cX2_answersWhole (l : Launch) (sz : Nat) (x0 : Int32) : Met l yX2_answersWhole wsX2_answersWhole ({ frames := 0, cells := 0, slots := 0, locals := 0 }) (pu_Pc [.int (x0)] sz) (ro_Qi (fX2_answersWhole x0) sz) 0 0 (ro sz) := by
  refine Met.ofW (cc := cX2_answersWhole) (maxL := 1) (ret := (some .boolean)) (by decide) rfl ?_
  intro p e s m args below meth c s₁ B hml hv
  obtain ⟨rfl, hsz⟩ := hv
  have hx := B.exec
  have hb := B.bytes
  have hr := B.returns
  have hts := atoms_spec (ws := wsX2_answersWhole) B.pre
  have hown : s.vm.findClass RX2 = some m.cls := findClass_of_methodNamed B.named
  have hlocks := B.notSynchronized
  subst hsz
  have hA : ∀ q : Nat, s.heap.size ≤ q → ro s.heap.size q := fun _ h => h
  have hS : va_S (ro s.heap.size) s.heap s.heap [] := va_S.rf
  have hl := lv_entry ([.int (x0)]) (n := 1) (Nat.le_of_ble_eq_true rfl)
  rw [lg_entry_eq]
  generalize (lg_sl ([.int (x0)]) ++ List.replicate (1 - (lg_sl ([.int (x0)])).length) Slot.unset).toArray = ls at hl ⊢
  have hl : lv_has ls 1 [(0, .int (x0))] := hl
  refine lv_iload_n hx hb dX2_answersWhole_0 rfl (lv_at hl 0 rfl) ?_
  refine lv_bipush (v := 12) hx hb dX2_answersWhole_1 (by decide) ?_
  refine lv_icmp_lt (tgt := 12) hx hb dX2_answersWhole_3 (by decide) (fun c_1 => ?_) (fun c_1 => ?_)
  · refine lv_iload_n hx hb dX2_answersWhole_12 rfl (lv_at hl 0 rfl) ?_
    refine lv_bipush (v := 36) hx hb dX2_answersWhole_13 (by decide) ?_
    refine lv_icmp_ne (tgt := 22) hx hb dX2_answersWhole_15 (by decide) (fun c_2 => ?_) (fun c_2 => ?_)
    · refine lv_iconst (v := 0) hx hb dX2_answersWhole_22 (by decide) ?_
      exact W.zret (v := 0) hx hb hr (by decide) (fun t ht hW => ⟨⟨_, (), rfl, (by unfold fX2_answersWhole; rw [if_pos c_1, if_neg c_2]), trivial⟩, hS.F ht⟩) hS.2.2 dX2_answersWhole_23
    · refine lv_iconst (v := 1) hx hb dX2_answersWhole_18 (by decide) ?_
      refine lv_goto (tgt := 23) hx hb dX2_answersWhole_19 (by decide) ?_
      exact W.zret (v := 1) hx hb hr (by decide) (fun t ht hW => ⟨⟨_, (), rfl, (by unfold fX2_answersWhole; rw [if_pos c_1, if_pos c_2]), trivial⟩, hS.F ht⟩) hS.2.2 dX2_answersWhole_23
  · refine lv_iload_n hx hb dX2_answersWhole_6 rfl (lv_at hl 0 rfl) ?_
    refine lv_bipush (v := 15) hx hb dX2_answersWhole_7 (by decide) ?_
    refine lv_icmp_le (tgt := 18) hx hb dX2_answersWhole_9 (by decide) (fun c_3 => ?_) (fun c_3 => ?_)
    · refine lv_iconst (v := 1) hx hb dX2_answersWhole_18 (by decide) ?_
      refine lv_goto (tgt := 23) hx hb dX2_answersWhole_19 (by decide) ?_
      exact W.zret (v := 1) hx hb hr (by decide) (fun t ht hW => ⟨⟨_, (), rfl, (by unfold fX2_answersWhole; rw [if_neg c_1, if_pos c_3]), trivial⟩, hS.F ht⟩) hS.2.2 dX2_answersWhole_23
    · refine lv_iload_n hx hb dX2_answersWhole_12 rfl (lv_at hl 0 rfl) ?_
      refine lv_bipush (v := 36) hx hb dX2_answersWhole_13 (by decide) ?_
      refine lv_icmp_ne (tgt := 22) hx hb dX2_answersWhole_15 (by decide) (fun c_4 => ?_) (fun c_4 => ?_)
      · refine lv_iconst (v := 0) hx hb dX2_answersWhole_22 (by decide) ?_
        exact W.zret (v := 0) hx hb hr (by decide) (fun t ht hW => ⟨⟨_, (), rfl, (by unfold fX2_answersWhole; rw [if_neg c_1, if_neg c_3, if_neg c_4]), trivial⟩, hS.F ht⟩) hS.2.2 dX2_answersWhole_23
      · refine lv_iconst (v := 1) hx hb dX2_answersWhole_18 (by decide) ?_
        refine lv_goto (tgt := 23) hx hb dX2_answersWhole_19 (by decide) ?_
        exact W.zret (v := 1) hx hb hr (by decide) (fun t ht hW => ⟨⟨_, (), rfl, (by unfold fX2_answersWhole; rw [if_neg c_1, if_neg c_3, if_pos c_4]), trivial⟩, hS.F ht⟩) hS.2.2 dX2_answersWhole_23
def fX2_doubled (x0 : Int32) : Int32 := if (fX2_fraction x0) = (-1) then (-1) else if (fX4_has (fX2_fraction x0) 16384) = 0 then if (fX4_has (fX2_fraction x0) 32768) = 0 then if (fX4_has (fX2_fraction x0) 524288) = 0 then ((fX2_fraction x0) ||| 0) else if (fX2_answersWhole x0) = 0 then ((fX2_fraction x0) ||| (0 ||| 4194304)) else ((fX2_fraction x0) ||| 0) else if (fX4_has (fX2_fraction x0) 524288) = 0 then ((fX2_fraction x0) ||| (0 ||| 2097152)) else if (fX2_answersWhole x0) = 0 then ((fX2_fraction x0) ||| ((0 ||| 2097152) ||| 4194304)) else ((fX2_fraction x0) ||| (0 ||| 2097152)) else if (fX4_has (fX2_fraction x0) 32768) = 0 then if (fX4_has (fX2_fraction x0) 524288) = 0 then ((fX2_fraction x0) ||| 1048576) else if (fX2_answersWhole x0) = 0 then ((fX2_fraction x0) ||| (1048576 ||| 4194304)) else ((fX2_fraction x0) ||| 1048576) else if (fX4_has (fX2_fraction x0) 524288) = 0 then ((fX2_fraction x0) ||| (1048576 ||| 2097152)) else if (fX2_answersWhole x0) = 0 then ((fX2_fraction x0) ||| ((1048576 ||| 2097152) ||| 4194304)) else ((fX2_fraction x0) ||| (1048576 ||| 2097152))
set_option maxHeartbeats 4000000 in
set_option maxRecDepth 100000 in
theorem cX2_doubled (l : Launch) (sz : Nat) (x0 : Int32) : Met l yX2_doubled wsX2_doubled ({ frames := 1, cells := 0, slots := 0, locals := 21 }) (pu_Pc [.int (x0)] sz) (ro_Qi (fX2_doubled x0) sz) 0 0 (ro sz) := by
  refine Met.ofW (cc := cX2_doubled) (maxL := 3) (ret := (some .int)) (by decide) rfl ?_
  intro p e s m args below meth c s₁ B hml hv
  obtain ⟨rfl, hsz⟩ := hv
  have hx := B.exec
  have hb := B.bytes
  have hr := B.returns
  have hts := atoms_spec (ws := wsX2_doubled) B.pre
  have hown : s.vm.findClass RX2 = some m.cls := findClass_of_methodNamed B.named
  have hlocks := B.notSynchronized
  subst hsz
  have hA : ∀ q : Nat, s.heap.size ≤ q → ro s.heap.size q := fun _ h => h
  have hS : va_S (ro s.heap.size) s.heap s.heap [] := va_S.rf
  have hl := lv_entry ([.int (x0)]) (n := 3) (Nat.le_of_ble_eq_true rfl)
  rw [lg_entry_eq]
  generalize (lg_sl ([.int (x0)]) ++ List.replicate (3 - (lg_sl ([.int (x0)])).length) Slot.unset).toArray = ls at hl ⊢
  have hl : lv_has ls 3 [(0, .int (x0))] := hl
  refine lv_iload_n hx hb dX2_doubled_0 rfl (lv_at hl 0 rfl) ?_
  refine ro_calli (va_runS (As := [.int (x0)]) (rest := []) ⟨hx, hb, hml, hown, hts⟩ (cX2_fraction l s.heap.size (x0)) (va_cwS 1 hts gX2_doubled_X2_fraction rfl rfl rfl (by decide +kernel) ⟨Nat.le_of_ble_eq_true rfl, Nat.le_of_ble_eq_true rfl⟩) pu_preS rfl rfl hl.1 rfl (lv_room (Nat.le_of_ble_eq_true rfl)) dX2_doubled_1 ⟨Nat.zero_le _, Nat.zero_le _⟩) hS hA (fun H locs kP hS => ?_)
  refine lv_istore_n (lv' := [(1, .int ((fX2_fraction x0))), (0, .int (x0))]) hx hb dX2_doubled_4 rfl hl (by decide) rfl (fun ls hl => ?_)
  refine lv_iload_n hx hb dX2_doubled_5 rfl (lv_at hl 0 rfl) ?_
  refine lv_iconst (v := (-1)) hx hb dX2_doubled_6 (by decide) ?_
  refine lv_icmp_ne (tgt := 12) hx hb dX2_doubled_7 (by decide) (fun c_1 => ?_) (fun c_1 => ?_)
  · refine lv_iload_n hx hb dX2_doubled_12 rfl (lv_at hl 0 rfl) ?_
    refine lv_sipush (v := 16384) hx hb dX2_doubled_13 (by decide) ?_
    refine ro_calli (va_runS (As := [.int ((fX2_fraction x0)), .int (16384)]) (rest := []) ⟨hx, hb, hml, hown, hts⟩ (cX4_has l H.size ((fX2_fraction x0)) (16384)) (va_cwS 2 hts gX2_doubled_X4_has rfl rfl rfl (by decide +kernel) ⟨Nat.le_of_ble_eq_true rfl, Nat.le_of_ble_eq_true rfl⟩) pu_preS rfl rfl hl.1 rfl (lv_room (Nat.le_of_ble_eq_true rfl)) dX2_doubled_16 ⟨Nat.zero_le _, Nat.zero_le _⟩) hS hA (fun H locs kP hS => ?_)
    refine lv_if_eq (tgt := 27) hx hb dX2_doubled_19 (by decide) (fun c_2 => ?_) (fun c_2 => ?_)
    · refine lv_iconst (v := 0) hx hb dX2_doubled_27 (by decide) ?_
      refine lv_istore_n (lv' := [(2, .int (0)), (1, .int ((fX2_fraction x0))), (0, .int (x0))]) hx hb dX2_doubled_28 rfl hl (by decide) rfl (fun ls hl => ?_)
      refine lv_iload_n hx hb dX2_doubled_29 rfl (lv_at hl 1 rfl) ?_
      refine lv_ldc (v := 32768) hx hb hown (hts (.constant RX2 89 (32768)) (by decide +kernel)) dX2_doubled_30 ?_
      refine ro_calli (va_runS (As := [.int ((fX2_fraction x0)), .int (32768)]) (rest := []) ⟨hx, hb, hml, hown, hts⟩ (cX4_has l H.size ((fX2_fraction x0)) (32768)) (va_cwS 2 hts gX2_doubled_X4_has rfl rfl rfl (by decide +kernel) ⟨Nat.le_of_ble_eq_true rfl, Nat.le_of_ble_eq_true rfl⟩) pu_preS rfl rfl hl.1 rfl (lv_room (Nat.le_of_ble_eq_true rfl)) dX2_doubled_32 ⟨Nat.zero_le _, Nat.zero_le _⟩) hS hA (fun H locs kP hS => ?_)
      refine lv_if_eq (tgt := 43) hx hb dX2_doubled_35 (by decide) (fun c_3 => ?_) (fun c_3 => ?_)
      · refine lv_iload_n hx hb dX2_doubled_43 rfl (lv_at hl 1 rfl) ?_
        refine lv_ldc (v := 524288) hx hb hown (hts (.constant RX2 90 (524288)) (by decide +kernel)) dX2_doubled_44 ?_
        refine ro_calli (va_runS (As := [.int ((fX2_fraction x0)), .int (524288)]) (rest := []) ⟨hx, hb, hml, hown, hts⟩ (cX4_has l H.size ((fX2_fraction x0)) (524288)) (va_cwS 2 hts gX2_doubled_X4_has rfl rfl rfl (by decide +kernel) ⟨Nat.le_of_ble_eq_true rfl, Nat.le_of_ble_eq_true rfl⟩) pu_preS rfl rfl hl.1 rfl (lv_room (Nat.le_of_ble_eq_true rfl)) dX2_doubled_46 ⟨Nat.zero_le _, Nat.zero_le _⟩) hS hA (fun H locs kP hS => ?_)
        refine lv_if_eq (tgt := 64) hx hb dX2_doubled_49 (by decide) (fun c_4 => ?_) (fun c_4 => ?_)
        · refine lv_iload_n hx hb dX2_doubled_64 rfl (lv_at hl 1 rfl) ?_
          refine lv_iload_n hx hb dX2_doubled_65 rfl (lv_at hl 0 rfl) ?_
          refine lv_ior hx hb dX2_doubled_66 ?_
          exact W.iret (v := ((fX2_fraction x0) ||| 0)) hx hb hr (fun t ht hW => ⟨⟨_, (), rfl, (by unfold fX2_doubled; rw [if_neg c_1, if_pos c_2, if_pos c_3, if_pos c_4]), trivial⟩, hS.F ht⟩) hS.2.2 dX2_doubled_67
        · refine lv_iload_n hx hb dX2_doubled_52 rfl (lv_at hl 2 rfl) ?_
          refine ro_calli (va_runS (As := [.int (x0)]) (rest := []) ⟨hx, hb, hml, hown, hts⟩ (cX2_answersWhole l H.size (x0)) (va_cwS 1 hts gX2_doubled_X2_answersWhole rfl rfl rfl (by decide +kernel) ⟨Nat.le_of_ble_eq_true rfl, Nat.le_of_ble_eq_true rfl⟩) pu_preS rfl rfl hl.1 rfl (lv_room (Nat.le_of_ble_eq_true rfl)) dX2_doubled_53 ⟨Nat.zero_le _, Nat.zero_le _⟩) hS hA (fun H locs kP hS => ?_)
          refine lv_if_ne (tgt := 64) hx hb dX2_doubled_56 (by decide) (fun c_5 => ?_) (fun c_5 => ?_)
          · refine lv_iload_n hx hb dX2_doubled_64 rfl (lv_at hl 1 rfl) ?_
            refine lv_iload_n hx hb dX2_doubled_65 rfl (lv_at hl 0 rfl) ?_
            refine lv_ior hx hb dX2_doubled_66 ?_
            exact W.iret (v := ((fX2_fraction x0) ||| 0)) hx hb hr (fun t ht hW => ⟨⟨_, (), rfl, (by unfold fX2_doubled; rw [if_neg c_1, if_pos c_2, if_pos c_3, if_neg c_4, if_neg c_5]), trivial⟩, hS.F ht⟩) hS.2.2 dX2_doubled_67
          · refine lv_iload_n hx hb dX2_doubled_59 rfl (lv_at hl 0 rfl) ?_
            refine lv_ldc (v := 4194304) hx hb hown (hts (.constant RX2 32 (4194304)) (by decide +kernel)) dX2_doubled_60 ?_
            refine lv_ior hx hb dX2_doubled_62 ?_
            refine lv_istore_n (lv' := [(2, .int ((0 ||| 4194304))), (1, .int ((fX2_fraction x0))), (0, .int (x0))]) hx hb dX2_doubled_63 rfl hl (by decide) rfl (fun ls hl => ?_)
            refine lv_iload_n hx hb dX2_doubled_64 rfl (lv_at hl 1 rfl) ?_
            refine lv_iload_n hx hb dX2_doubled_65 rfl (lv_at hl 0 rfl) ?_
            refine lv_ior hx hb dX2_doubled_66 ?_
            exact W.iret (v := ((fX2_fraction x0) ||| (0 ||| 4194304))) hx hb hr (fun t ht hW => ⟨⟨_, (), rfl, (by unfold fX2_doubled; rw [if_neg c_1, if_pos c_2, if_pos c_3, if_neg c_4, if_pos c_5]), trivial⟩, hS.F ht⟩) hS.2.2 dX2_doubled_67
      · refine lv_iload_n hx hb dX2_doubled_38 rfl (lv_at hl 0 rfl) ?_
        refine lv_ldc (v := 2097152) hx hb hown (hts (.constant RX2 28 (2097152)) (by decide +kernel)) dX2_doubled_39 ?_
        refine lv_ior hx hb dX2_doubled_41 ?_
        refine lv_istore_n (lv' := [(2, .int ((0 ||| 2097152))), (1, .int ((fX2_fraction x0))), (0, .int (x0))]) hx hb dX2_doubled_42 rfl hl (by decide) rfl (fun ls hl => ?_)
        refine lv_iload_n hx hb dX2_doubled_43 rfl (lv_at hl 1 rfl) ?_
        refine lv_ldc (v := 524288) hx hb hown (hts (.constant RX2 90 (524288)) (by decide +kernel)) dX2_doubled_44 ?_
        refine ro_calli (va_runS (As := [.int ((fX2_fraction x0)), .int (524288)]) (rest := []) ⟨hx, hb, hml, hown, hts⟩ (cX4_has l H.size ((fX2_fraction x0)) (524288)) (va_cwS 2 hts gX2_doubled_X4_has rfl rfl rfl (by decide +kernel) ⟨Nat.le_of_ble_eq_true rfl, Nat.le_of_ble_eq_true rfl⟩) pu_preS rfl rfl hl.1 rfl (lv_room (Nat.le_of_ble_eq_true rfl)) dX2_doubled_46 ⟨Nat.zero_le _, Nat.zero_le _⟩) hS hA (fun H locs kP hS => ?_)
        refine lv_if_eq (tgt := 64) hx hb dX2_doubled_49 (by decide) (fun c_6 => ?_) (fun c_6 => ?_)
        · refine lv_iload_n hx hb dX2_doubled_64 rfl (lv_at hl 1 rfl) ?_
          refine lv_iload_n hx hb dX2_doubled_65 rfl (lv_at hl 0 rfl) ?_
          refine lv_ior hx hb dX2_doubled_66 ?_
          exact W.iret (v := ((fX2_fraction x0) ||| (0 ||| 2097152))) hx hb hr (fun t ht hW => ⟨⟨_, (), rfl, (by unfold fX2_doubled; rw [if_neg c_1, if_pos c_2, if_neg c_3, if_pos c_6]), trivial⟩, hS.F ht⟩) hS.2.2 dX2_doubled_67
        · refine lv_iload_n hx hb dX2_doubled_52 rfl (lv_at hl 2 rfl) ?_
          refine ro_calli (va_runS (As := [.int (x0)]) (rest := []) ⟨hx, hb, hml, hown, hts⟩ (cX2_answersWhole l H.size (x0)) (va_cwS 1 hts gX2_doubled_X2_answersWhole rfl rfl rfl (by decide +kernel) ⟨Nat.le_of_ble_eq_true rfl, Nat.le_of_ble_eq_true rfl⟩) pu_preS rfl rfl hl.1 rfl (lv_room (Nat.le_of_ble_eq_true rfl)) dX2_doubled_53 ⟨Nat.zero_le _, Nat.zero_le _⟩) hS hA (fun H locs kP hS => ?_)
          refine lv_if_ne (tgt := 64) hx hb dX2_doubled_56 (by decide) (fun c_7 => ?_) (fun c_7 => ?_)
          · refine lv_iload_n hx hb dX2_doubled_64 rfl (lv_at hl 1 rfl) ?_
            refine lv_iload_n hx hb dX2_doubled_65 rfl (lv_at hl 0 rfl) ?_
            refine lv_ior hx hb dX2_doubled_66 ?_
            exact W.iret (v := ((fX2_fraction x0) ||| (0 ||| 2097152))) hx hb hr (fun t ht hW => ⟨⟨_, (), rfl, (by unfold fX2_doubled; rw [if_neg c_1, if_pos c_2, if_neg c_3, if_neg c_6, if_neg c_7]), trivial⟩, hS.F ht⟩) hS.2.2 dX2_doubled_67
          · refine lv_iload_n hx hb dX2_doubled_59 rfl (lv_at hl 0 rfl) ?_
            refine lv_ldc (v := 4194304) hx hb hown (hts (.constant RX2 32 (4194304)) (by decide +kernel)) dX2_doubled_60 ?_
            refine lv_ior hx hb dX2_doubled_62 ?_
            refine lv_istore_n (lv' := [(2, .int (((0 ||| 2097152) ||| 4194304))), (1, .int ((fX2_fraction x0))), (0, .int (x0))]) hx hb dX2_doubled_63 rfl hl (by decide) rfl (fun ls hl => ?_)
            refine lv_iload_n hx hb dX2_doubled_64 rfl (lv_at hl 1 rfl) ?_
            refine lv_iload_n hx hb dX2_doubled_65 rfl (lv_at hl 0 rfl) ?_
            refine lv_ior hx hb dX2_doubled_66 ?_
            exact W.iret (v := ((fX2_fraction x0) ||| ((0 ||| 2097152) ||| 4194304))) hx hb hr (fun t ht hW => ⟨⟨_, (), rfl, (by unfold fX2_doubled; rw [if_neg c_1, if_pos c_2, if_neg c_3, if_neg c_6, if_pos c_7]), trivial⟩, hS.F ht⟩) hS.2.2 dX2_doubled_67
    · refine lv_ldc (v := 1048576) hx hb hown (hts (.constant RX2 19 (1048576)) (by decide +kernel)) dX2_doubled_22 ?_
      refine lv_goto (tgt := 28) hx hb dX2_doubled_24 (by decide) ?_
      refine lv_istore_n (lv' := [(2, .int (1048576)), (1, .int ((fX2_fraction x0))), (0, .int (x0))]) hx hb dX2_doubled_28 rfl hl (by decide) rfl (fun ls hl => ?_)
      refine lv_iload_n hx hb dX2_doubled_29 rfl (lv_at hl 1 rfl) ?_
      refine lv_ldc (v := 32768) hx hb hown (hts (.constant RX2 89 (32768)) (by decide +kernel)) dX2_doubled_30 ?_
      refine ro_calli (va_runS (As := [.int ((fX2_fraction x0)), .int (32768)]) (rest := []) ⟨hx, hb, hml, hown, hts⟩ (cX4_has l H.size ((fX2_fraction x0)) (32768)) (va_cwS 2 hts gX2_doubled_X4_has rfl rfl rfl (by decide +kernel) ⟨Nat.le_of_ble_eq_true rfl, Nat.le_of_ble_eq_true rfl⟩) pu_preS rfl rfl hl.1 rfl (lv_room (Nat.le_of_ble_eq_true rfl)) dX2_doubled_32 ⟨Nat.zero_le _, Nat.zero_le _⟩) hS hA (fun H locs kP hS => ?_)
      refine lv_if_eq (tgt := 43) hx hb dX2_doubled_35 (by decide) (fun c_8 => ?_) (fun c_8 => ?_)
      · refine lv_iload_n hx hb dX2_doubled_43 rfl (lv_at hl 1 rfl) ?_
        refine lv_ldc (v := 524288) hx hb hown (hts (.constant RX2 90 (524288)) (by decide +kernel)) dX2_doubled_44 ?_
        refine ro_calli (va_runS (As := [.int ((fX2_fraction x0)), .int (524288)]) (rest := []) ⟨hx, hb, hml, hown, hts⟩ (cX4_has l H.size ((fX2_fraction x0)) (524288)) (va_cwS 2 hts gX2_doubled_X4_has rfl rfl rfl (by decide +kernel) ⟨Nat.le_of_ble_eq_true rfl, Nat.le_of_ble_eq_true rfl⟩) pu_preS rfl rfl hl.1 rfl (lv_room (Nat.le_of_ble_eq_true rfl)) dX2_doubled_46 ⟨Nat.zero_le _, Nat.zero_le _⟩) hS hA (fun H locs kP hS => ?_)
        refine lv_if_eq (tgt := 64) hx hb dX2_doubled_49 (by decide) (fun c_9 => ?_) (fun c_9 => ?_)
        · refine lv_iload_n hx hb dX2_doubled_64 rfl (lv_at hl 1 rfl) ?_
          refine lv_iload_n hx hb dX2_doubled_65 rfl (lv_at hl 0 rfl) ?_
          refine lv_ior hx hb dX2_doubled_66 ?_
          exact W.iret (v := ((fX2_fraction x0) ||| 1048576)) hx hb hr (fun t ht hW => ⟨⟨_, (), rfl, (by unfold fX2_doubled; rw [if_neg c_1, if_neg c_2, if_pos c_8, if_pos c_9]), trivial⟩, hS.F ht⟩) hS.2.2 dX2_doubled_67
        · refine lv_iload_n hx hb dX2_doubled_52 rfl (lv_at hl 2 rfl) ?_
          refine ro_calli (va_runS (As := [.int (x0)]) (rest := []) ⟨hx, hb, hml, hown, hts⟩ (cX2_answersWhole l H.size (x0)) (va_cwS 1 hts gX2_doubled_X2_answersWhole rfl rfl rfl (by decide +kernel) ⟨Nat.le_of_ble_eq_true rfl, Nat.le_of_ble_eq_true rfl⟩) pu_preS rfl rfl hl.1 rfl (lv_room (Nat.le_of_ble_eq_true rfl)) dX2_doubled_53 ⟨Nat.zero_le _, Nat.zero_le _⟩) hS hA (fun H locs kP hS => ?_)
          refine lv_if_ne (tgt := 64) hx hb dX2_doubled_56 (by decide) (fun c_10 => ?_) (fun c_10 => ?_)
          · refine lv_iload_n hx hb dX2_doubled_64 rfl (lv_at hl 1 rfl) ?_
            refine lv_iload_n hx hb dX2_doubled_65 rfl (lv_at hl 0 rfl) ?_
            refine lv_ior hx hb dX2_doubled_66 ?_
            exact W.iret (v := ((fX2_fraction x0) ||| 1048576)) hx hb hr (fun t ht hW => ⟨⟨_, (), rfl, (by unfold fX2_doubled; rw [if_neg c_1, if_neg c_2, if_pos c_8, if_neg c_9, if_neg c_10]), trivial⟩, hS.F ht⟩) hS.2.2 dX2_doubled_67
          · refine lv_iload_n hx hb dX2_doubled_59 rfl (lv_at hl 0 rfl) ?_
            refine lv_ldc (v := 4194304) hx hb hown (hts (.constant RX2 32 (4194304)) (by decide +kernel)) dX2_doubled_60 ?_
            refine lv_ior hx hb dX2_doubled_62 ?_
            refine lv_istore_n (lv' := [(2, .int ((1048576 ||| 4194304))), (1, .int ((fX2_fraction x0))), (0, .int (x0))]) hx hb dX2_doubled_63 rfl hl (by decide) rfl (fun ls hl => ?_)
            refine lv_iload_n hx hb dX2_doubled_64 rfl (lv_at hl 1 rfl) ?_
            refine lv_iload_n hx hb dX2_doubled_65 rfl (lv_at hl 0 rfl) ?_
            refine lv_ior hx hb dX2_doubled_66 ?_
            exact W.iret (v := ((fX2_fraction x0) ||| (1048576 ||| 4194304))) hx hb hr (fun t ht hW => ⟨⟨_, (), rfl, (by unfold fX2_doubled; rw [if_neg c_1, if_neg c_2, if_pos c_8, if_neg c_9, if_pos c_10]), trivial⟩, hS.F ht⟩) hS.2.2 dX2_doubled_67
      · refine lv_iload_n hx hb dX2_doubled_38 rfl (lv_at hl 0 rfl) ?_
        refine lv_ldc (v := 2097152) hx hb hown (hts (.constant RX2 28 (2097152)) (by decide +kernel)) dX2_doubled_39 ?_
        refine lv_ior hx hb dX2_doubled_41 ?_
        refine lv_istore_n (lv' := [(2, .int ((1048576 ||| 2097152))), (1, .int ((fX2_fraction x0))), (0, .int (x0))]) hx hb dX2_doubled_42 rfl hl (by decide) rfl (fun ls hl => ?_)
        refine lv_iload_n hx hb dX2_doubled_43 rfl (lv_at hl 1 rfl) ?_
        refine lv_ldc (v := 524288) hx hb hown (hts (.constant RX2 90 (524288)) (by decide +kernel)) dX2_doubled_44 ?_
        refine ro_calli (va_runS (As := [.int ((fX2_fraction x0)), .int (524288)]) (rest := []) ⟨hx, hb, hml, hown, hts⟩ (cX4_has l H.size ((fX2_fraction x0)) (524288)) (va_cwS 2 hts gX2_doubled_X4_has rfl rfl rfl (by decide +kernel) ⟨Nat.le_of_ble_eq_true rfl, Nat.le_of_ble_eq_true rfl⟩) pu_preS rfl rfl hl.1 rfl (lv_room (Nat.le_of_ble_eq_true rfl)) dX2_doubled_46 ⟨Nat.zero_le _, Nat.zero_le _⟩) hS hA (fun H locs kP hS => ?_)
        refine lv_if_eq (tgt := 64) hx hb dX2_doubled_49 (by decide) (fun c_11 => ?_) (fun c_11 => ?_)
        · refine lv_iload_n hx hb dX2_doubled_64 rfl (lv_at hl 1 rfl) ?_
          refine lv_iload_n hx hb dX2_doubled_65 rfl (lv_at hl 0 rfl) ?_
          refine lv_ior hx hb dX2_doubled_66 ?_
          exact W.iret (v := ((fX2_fraction x0) ||| (1048576 ||| 2097152))) hx hb hr (fun t ht hW => ⟨⟨_, (), rfl, (by unfold fX2_doubled; rw [if_neg c_1, if_neg c_2, if_neg c_8, if_pos c_11]), trivial⟩, hS.F ht⟩) hS.2.2 dX2_doubled_67
        · refine lv_iload_n hx hb dX2_doubled_52 rfl (lv_at hl 2 rfl) ?_
          refine ro_calli (va_runS (As := [.int (x0)]) (rest := []) ⟨hx, hb, hml, hown, hts⟩ (cX2_answersWhole l H.size (x0)) (va_cwS 1 hts gX2_doubled_X2_answersWhole rfl rfl rfl (by decide +kernel) ⟨Nat.le_of_ble_eq_true rfl, Nat.le_of_ble_eq_true rfl⟩) pu_preS rfl rfl hl.1 rfl (lv_room (Nat.le_of_ble_eq_true rfl)) dX2_doubled_53 ⟨Nat.zero_le _, Nat.zero_le _⟩) hS hA (fun H locs kP hS => ?_)
          refine lv_if_ne (tgt := 64) hx hb dX2_doubled_56 (by decide) (fun c_12 => ?_) (fun c_12 => ?_)
          · refine lv_iload_n hx hb dX2_doubled_64 rfl (lv_at hl 1 rfl) ?_
            refine lv_iload_n hx hb dX2_doubled_65 rfl (lv_at hl 0 rfl) ?_
            refine lv_ior hx hb dX2_doubled_66 ?_
            exact W.iret (v := ((fX2_fraction x0) ||| (1048576 ||| 2097152))) hx hb hr (fun t ht hW => ⟨⟨_, (), rfl, (by unfold fX2_doubled; rw [if_neg c_1, if_neg c_2, if_neg c_8, if_neg c_11, if_neg c_12]), trivial⟩, hS.F ht⟩) hS.2.2 dX2_doubled_67
          · refine lv_iload_n hx hb dX2_doubled_59 rfl (lv_at hl 0 rfl) ?_
            refine lv_ldc (v := 4194304) hx hb hown (hts (.constant RX2 32 (4194304)) (by decide +kernel)) dX2_doubled_60 ?_
            refine lv_ior hx hb dX2_doubled_62 ?_
            refine lv_istore_n (lv' := [(2, .int (((1048576 ||| 2097152) ||| 4194304))), (1, .int ((fX2_fraction x0))), (0, .int (x0))]) hx hb dX2_doubled_63 rfl hl (by decide) rfl (fun ls hl => ?_)
            refine lv_iload_n hx hb dX2_doubled_64 rfl (lv_at hl 1 rfl) ?_
            refine lv_iload_n hx hb dX2_doubled_65 rfl (lv_at hl 0 rfl) ?_
            refine lv_ior hx hb dX2_doubled_66 ?_
            exact W.iret (v := ((fX2_fraction x0) ||| ((1048576 ||| 2097152) ||| 4194304))) hx hb hr (fun t ht hW => ⟨⟨_, (), rfl, (by unfold fX2_doubled; rw [if_neg c_1, if_neg c_2, if_neg c_8, if_neg c_11, if_pos c_12]), trivial⟩, hS.F ht⟩) hS.2.2 dX2_doubled_67
  · refine lv_iconst (v := (-1)) hx hb dX2_doubled_10 (by decide) ?_
    exact W.iret (v := (-1)) hx hb hr (fun t ht hW => ⟨⟨_, (), rfl, (by unfold fX2_doubled; rw [if_pos c_1]), trivial⟩, hS.F ht⟩) hS.2.2 dX2_doubled_11
def swX2_coprocessor_9 (x : Int32) : Int := Op.lookupswitch.offset [(0, 59), (4, 63), (8, 66), (16, 84), (17, 100), (20, 116)] 121 x.toInt
theorem swX2_coprocessor_9_c (x : Int32) : swX2_coprocessor_9 x = 59 ∨ swX2_coprocessor_9 x = 63 ∨ swX2_coprocessor_9 x = 66 ∨ swX2_coprocessor_9 x = 84 ∨ swX2_coprocessor_9 x = 100 ∨ swX2_coprocessor_9 x = 116 ∨ swX2_coprocessor_9 x = 121 := (show ∀ v ∈ ([121, 59, 63, 66, 84, 100, 116] : List Int), v = 59 ∨ v = 63 ∨ v = 66 ∨ v = 84 ∨ v = 100 ∨ v = 116 ∨ v = 121 by decide) _ (lk_mem _ _ _)
def fX2_coprocessor (x0 : Int32) : Int32 := if swX2_coprocessor_9 ((fX3_s x0)) = 59 then 16512 else if swX2_coprocessor_9 ((fX3_s x0)) = 63 then 131104 else if swX2_coprocessor_9 ((fX3_s x0)) = 66 then if ((fX3_t x0) &&& 2) = 0 then 4103 else 8392711 else if swX2_coprocessor_9 ((fX3_s x0)) = 84 then if (fX3_function x0) = 33 then 4734981 else (fX2_fraction (fX3_function x0)) else if swX2_coprocessor_9 ((fX3_s x0)) = 100 then if (fX3_function x0) = 32 then 1589253 else (fX2_doubled (fX3_function x0)) else if swX2_coprocessor_9 ((fX3_s x0)) = 116 then (fX2_ofWhole (fX3_function x0)) else (-1)
set_option maxHeartbeats 4000000 in
set_option maxRecDepth 100000 in
theorem cX2_coprocessor (l : Launch) (sz : Nat) (x0 : Int32) : Met l yX2_coprocessor wsX2_coprocessor ({ frames := 2, cells := 0, slots := 0, locals := 43 }) (pu_Pc [.int (x0)] sz) (ro_Qi (fX2_coprocessor x0) sz) 0 0 (ro sz) := by
  refine Met.ofW (cc := cX2_coprocessor) (maxL := 2) (ret := (some .int)) (by decide) rfl ?_
  intro p e s m args below meth c s₁ B hml hv
  obtain ⟨rfl, hsz⟩ := hv
  have hx := B.exec
  have hb := B.bytes
  have hr := B.returns
  have hts := atoms_spec (ws := wsX2_coprocessor) B.pre
  have hown : s.vm.findClass RX2 = some m.cls := findClass_of_methodNamed B.named
  have hlocks := B.notSynchronized
  subst hsz
  have hA : ∀ q : Nat, s.heap.size ≤ q → ro s.heap.size q := fun _ h => h
  have hS : va_S (ro s.heap.size) s.heap s.heap [] := va_S.rf
  have hl := lv_entry ([.int (x0)]) (n := 2) (Nat.le_of_ble_eq_true rfl)
  rw [lg_entry_eq]
  generalize (lg_sl ([.int (x0)]) ++ List.replicate (2 - (lg_sl ([.int (x0)])).length) Slot.unset).toArray = ls at hl ⊢
  have hl : lv_has ls 2 [(0, .int (x0))] := hl
  refine lv_iload_n hx hb dX2_coprocessor_0 rfl (lv_at hl 0 rfl) ?_
  refine ro_calli (va_runS (As := [.int (x0)]) (rest := []) ⟨hx, hb, hml, hown, hts⟩ (cX3_function l s.heap.size (x0)) (va_cwS 1 hts gX2_coprocessor_X3_function rfl rfl rfl (by decide +kernel) ⟨Nat.le_of_ble_eq_true rfl, Nat.le_of_ble_eq_true rfl⟩) pu_preS rfl rfl hl.1 rfl (lv_room (Nat.le_of_ble_eq_true rfl)) dX2_coprocessor_1 ⟨Nat.zero_le _, Nat.zero_le _⟩) hS hA (fun H locs kP hS => ?_)
  refine lv_istore_n (lv' := [(1, .int ((fX3_function x0))), (0, .int (x0))]) hx hb dX2_coprocessor_4 rfl hl (by decide) rfl (fun ls hl => ?_)
  refine lv_iload_n hx hb dX2_coprocessor_5 rfl (lv_at hl 1 rfl) ?_
  refine ro_calli (va_runS (As := [.int (x0)]) (rest := []) ⟨hx, hb, hml, hown, hts⟩ (cX3_s l H.size (x0)) (va_cwS 1 hts gX2_coprocessor_X3_s rfl rfl rfl (by decide +kernel) ⟨Nat.le_of_ble_eq_true rfl, Nat.le_of_ble_eq_true rfl⟩) pu_preS rfl rfl hl.1 rfl (lv_room (Nat.le_of_ble_eq_true rfl)) dX2_coprocessor_6 ⟨Nat.zero_le _, Nat.zero_le _⟩) hS hA (fun H locs kP hS => ?_)
  rcases swX2_coprocessor_9_c ((fX3_s x0)) with c_1 | c_1 | c_1 | c_1 | c_1 | c_1 | c_1
  · refine lv_lookup (tgt := 68) hx hb dX2_coprocessor_9 (by decide) c_1 (by decide) ?_
    refine lv_sipush (v := 16512) hx hb dX2_coprocessor_68 (by decide) ?_
    exact W.iret (v := 16512) hx hb hr (fun t ht hW => ⟨⟨_, (), rfl, (by unfold fX2_coprocessor; rw [if_pos c_1]), trivial⟩, hS.F ht⟩) hS.2.2 dX2_coprocessor_71
  · refine lv_lookup (tgt := 72) hx hb dX2_coprocessor_9 (by decide) c_1 (by decide) ?_
    refine lv_ldc (v := 131104) hx hb hown (hts (.constant RX2 75 (131104)) (by decide +kernel)) dX2_coprocessor_72 ?_
    exact W.iret (v := 131104) hx hb hr (fun t ht hW => ⟨⟨_, (), rfl, (by unfold fX2_coprocessor; rw [if_pos c_1]), trivial⟩, hS.F ht⟩) hS.2.2 dX2_coprocessor_74
  · refine lv_lookup (tgt := 75) hx hb dX2_coprocessor_9 (by decide) c_1 (by decide) ?_
    refine lv_iload_n hx hb dX2_coprocessor_75 rfl (lv_at hl 1 rfl) ?_
    refine ro_calli (va_runS (As := [.int (x0)]) (rest := []) ⟨hx, hb, hml, hown, hts⟩ (cX3_t l H.size (x0)) (va_cwS 1 hts gX2_coprocessor_X3_t rfl rfl rfl (by decide +kernel) ⟨Nat.le_of_ble_eq_true rfl, Nat.le_of_ble_eq_true rfl⟩) pu_preS rfl rfl hl.1 rfl (lv_room (Nat.le_of_ble_eq_true rfl)) dX2_coprocessor_76 ⟨Nat.zero_le _, Nat.zero_le _⟩) hS hA (fun H locs kP hS => ?_)
    refine lv_iconst (v := 2) hx hb dX2_coprocessor_79 (by decide) ?_
    refine lv_iand hx hb dX2_coprocessor_80 ?_
    refine lv_if_ne (tgt := 90) hx hb dX2_coprocessor_81 (by decide) (fun c_2 => ?_) (fun c_2 => ?_)
    · refine lv_ldc (v := 8392711) hx hb hown (hts (.constant RX2 76 (8392711)) (by decide +kernel)) dX2_coprocessor_90 ?_
      exact W.iret (v := 8392711) hx hb hr (fun t ht hW => ⟨⟨_, (), rfl, (by unfold fX2_coprocessor; rw [if_pos c_1, if_neg c_2]), trivial⟩, hS.F ht⟩) hS.2.2 dX2_coprocessor_92
    · refine lv_sipush (v := 4103) hx hb dX2_coprocessor_84 (by decide) ?_
      refine lv_goto (tgt := 92) hx hb dX2_coprocessor_87 (by decide) ?_
      exact W.iret (v := 4103) hx hb hr (fun t ht hW => ⟨⟨_, (), rfl, (by unfold fX2_coprocessor; rw [if_pos c_1, if_pos c_2]), trivial⟩, hS.F ht⟩) hS.2.2 dX2_coprocessor_92
  · refine lv_lookup (tgt := 93) hx hb dX2_coprocessor_9 (by decide) c_1 (by decide) ?_
    refine lv_iload_n hx hb dX2_coprocessor_93 rfl (lv_at hl 0 rfl) ?_
    refine lv_bipush (v := 33) hx hb dX2_coprocessor_94 (by decide) ?_
    refine lv_icmp_ne (tgt := 104) hx hb dX2_coprocessor_96 (by decide) (fun c_3 => ?_) (fun c_3 => ?_)
    · refine lv_iload_n hx hb dX2_coprocessor_104 rfl (lv_at hl 0 rfl) ?_
      refine ro_calli (va_runS (As := [.int ((fX3_function x0))]) (rest := []) ⟨hx, hb, hml, hown, hts⟩ (cX2_fraction l H.size ((fX3_function x0))) (va_cwS 1 hts gX2_coprocessor_X2_fraction rfl rfl rfl (by decide +kernel) ⟨Nat.le_of_ble_eq_true rfl, Nat.le_of_ble_eq_true rfl⟩) pu_preS rfl rfl hl.1 rfl (lv_room (Nat.le_of_ble_eq_true rfl)) dX2_coprocessor_105 ⟨Nat.zero_le _, Nat.zero_le _⟩) hS hA (fun H locs kP hS => ?_)
      exact W.iret (v := (fX2_fraction (fX3_function x0))) hx hb hr (fun t ht hW => ⟨⟨_, (), rfl, (by unfold fX2_coprocessor; rw [if_pos c_1, if_neg c_3]), trivial⟩, hS.F ht⟩) hS.2.2 dX2_coprocessor_108
    · refine lv_ldc (v := 4734981) hx hb hown (hts (.constant RX2 77 (4734981)) (by decide +kernel)) dX2_coprocessor_99 ?_
      refine lv_goto (tgt := 108) hx hb dX2_coprocessor_101 (by decide) ?_
      exact W.iret (v := 4734981) hx hb hr (fun t ht hW => ⟨⟨_, (), rfl, (by unfold fX2_coprocessor; rw [if_pos c_1, if_pos c_3]), trivial⟩, hS.F ht⟩) hS.2.2 dX2_coprocessor_108
  · refine lv_lookup (tgt := 109) hx hb dX2_coprocessor_9 (by decide) c_1 (by decide) ?_
    refine lv_iload_n hx hb dX2_coprocessor_109 rfl (lv_at hl 0 rfl) ?_
    refine lv_bipush (v := 32) hx hb dX2_coprocessor_110 (by decide) ?_
    refine lv_icmp_ne (tgt := 120) hx hb dX2_coprocessor_112 (by decide) (fun c_4 => ?_) (fun c_4 => ?_)
    · refine lv_iload_n hx hb dX2_coprocessor_120 rfl (lv_at hl 0 rfl) ?_
      refine ro_calli (va_runS (As := [.int ((fX3_function x0))]) (rest := []) ⟨hx, hb, hml, hown, hts⟩ (cX2_doubled l H.size ((fX3_function x0))) (va_cwS 1 hts gX2_coprocessor_X2_doubled rfl rfl rfl (by decide +kernel) ⟨Nat.le_of_ble_eq_true rfl, Nat.le_of_ble_eq_true rfl⟩) pu_preS rfl rfl hl.1 rfl (lv_room (Nat.le_of_ble_eq_true rfl)) dX2_coprocessor_121 ⟨Nat.zero_le _, Nat.zero_le _⟩) hS hA (fun H locs kP hS => ?_)
      exact W.iret (v := (fX2_doubled (fX3_function x0))) hx hb hr (fun t ht hW => ⟨⟨_, (), rfl, (by unfold fX2_coprocessor; rw [if_pos c_1, if_neg c_4]), trivial⟩, hS.F ht⟩) hS.2.2 dX2_coprocessor_124
    · refine lv_ldc (v := 1589253) hx hb hown (hts (.constant RX2 81 (1589253)) (by decide +kernel)) dX2_coprocessor_115 ?_
      refine lv_goto (tgt := 124) hx hb dX2_coprocessor_117 (by decide) ?_
      exact W.iret (v := 1589253) hx hb hr (fun t ht hW => ⟨⟨_, (), rfl, (by unfold fX2_coprocessor; rw [if_pos c_1, if_pos c_4]), trivial⟩, hS.F ht⟩) hS.2.2 dX2_coprocessor_124
  · refine lv_lookup (tgt := 125) hx hb dX2_coprocessor_9 (by decide) c_1 (by decide) ?_
    refine lv_iload_n hx hb dX2_coprocessor_125 rfl (lv_at hl 0 rfl) ?_
    refine ro_calli (va_runS (As := [.int ((fX3_function x0))]) (rest := []) ⟨hx, hb, hml, hown, hts⟩ (cX2_ofWhole l H.size ((fX3_function x0))) (va_cwS 1 hts gX2_coprocessor_X2_ofWhole rfl rfl rfl (by decide +kernel) ⟨Nat.le_of_ble_eq_true rfl, Nat.le_of_ble_eq_true rfl⟩) pu_preS rfl rfl hl.1 rfl (lv_room (Nat.le_of_ble_eq_true rfl)) dX2_coprocessor_126 ⟨Nat.zero_le _, Nat.zero_le _⟩) hS hA (fun H locs kP hS => ?_)
    exact W.iret (v := (fX2_ofWhole (fX3_function x0))) hx hb hr (fun t ht hW => ⟨⟨_, (), rfl, (by unfold fX2_coprocessor; rw [if_pos c_1]), trivial⟩, hS.F ht⟩) hS.2.2 dX2_coprocessor_129
  · refine lv_lookup (tgt := 130) hx hb dX2_coprocessor_9 (by decide) c_1 (by decide) ?_
    refine lv_iconst (v := (-1)) hx hb dX2_coprocessor_130 (by decide) ?_
    exact W.iret (v := (-1)) hx hb hr (fun t ht hW => ⟨⟨_, (), rfl, (by unfold fX2_coprocessor; rw [if_neg (show ¬ (swX2_coprocessor_9 ((fX3_s x0)) = 59) by rw [c_1]; decide), if_neg (show ¬ (swX2_coprocessor_9 ((fX3_s x0)) = 63) by rw [c_1]; decide), if_neg (show ¬ (swX2_coprocessor_9 ((fX3_s x0)) = 66) by rw [c_1]; decide), if_neg (show ¬ (swX2_coprocessor_9 ((fX3_s x0)) = 84) by rw [c_1]; decide), if_neg (show ¬ (swX2_coprocessor_9 ((fX3_s x0)) = 100) by rw [c_1]; decide), if_neg (show ¬ (swX2_coprocessor_9 ((fX3_s x0)) = 116) by rw [c_1]; decide)]), trivial⟩, hS.F ht⟩) hS.2.2 dX2_coprocessor_131
def swX2_formByOperation_6 (x : Int32) : Int := Op.lookupswitch.offset [(0, 42), (1, 50), (17, 58), (28, 63)] 71 x.toInt
theorem swX2_formByOperation_6_c (x : Int32) : swX2_formByOperation_6 x = 42 ∨ swX2_formByOperation_6 x = 50 ∨ swX2_formByOperation_6 x = 58 ∨ swX2_formByOperation_6 x = 63 ∨ swX2_formByOperation_6 x = 71 := (show ∀ v ∈ ([71, 42, 50, 58, 63] : List Int), v = 42 ∨ v = 50 ∨ v = 58 ∨ v = 63 ∨ v = 71 by decide) _ (lk_mem _ _ _)
def fX2_formByOperation (x0 : Int32) : Int32 := if swX2_formByOperation_6 ((fX3_operation x0)) = 42 then (fX2_special (fX3_function x0)) else if swX2_formByOperation_6 ((fX3_operation x0)) = 50 then (fX2_byRegisterField (fX3_t x0)) else if swX2_formByOperation_6 ((fX3_operation x0)) = 58 then (fX2_coprocessor x0) else if swX2_formByOperation_6 ((fX3_operation x0)) = 63 then (fX2_special2 (fX3_function x0)) else if 32 ≤ (fX3_operation x0) then (fX2_memory (fX3_operation x0)) else (fX2_immediateOrBranch (fX3_operation x0))
set_option maxHeartbeats 4000000 in
set_option maxRecDepth 100000 in
theorem cX2_formByOperation (l : Launch) (sz : Nat) (x0 : Int32) : Met l yX2_formByOperation wsX2_formByOperation ({ frames := 3, cells := 0, slots := 0, locals := 64 }) (pu_Pc [.int (x0)] sz) (ro_Qi (fX2_formByOperation x0) sz) 0 0 (ro sz) := by
  refine Met.ofW (cc := cX2_formByOperation) (maxL := 2) (ret := (some .int)) (by decide) rfl ?_
  intro p e s m args below meth c s₁ B hml hv
  obtain ⟨rfl, hsz⟩ := hv
  have hx := B.exec
  have hb := B.bytes
  have hr := B.returns
  have hts := atoms_spec (ws := wsX2_formByOperation) B.pre
  have hown : s.vm.findClass RX2 = some m.cls := findClass_of_methodNamed B.named
  have hlocks := B.notSynchronized
  subst hsz
  have hA : ∀ q : Nat, s.heap.size ≤ q → ro s.heap.size q := fun _ h => h
  have hS : va_S (ro s.heap.size) s.heap s.heap [] := va_S.rf
  have hl := lv_entry ([.int (x0)]) (n := 2) (Nat.le_of_ble_eq_true rfl)
  rw [lg_entry_eq]
  generalize (lg_sl ([.int (x0)]) ++ List.replicate (2 - (lg_sl ([.int (x0)])).length) Slot.unset).toArray = ls at hl ⊢
  have hl : lv_has ls 2 [(0, .int (x0))] := hl
  refine lv_iload_n hx hb dX2_formByOperation_0 rfl (lv_at hl 0 rfl) ?_
  refine ro_calli (va_runS (As := [.int (x0)]) (rest := []) ⟨hx, hb, hml, hown, hts⟩ (cX3_operation l s.heap.size (x0)) (va_cwS 1 hts gX2_formByOperation_X3_operation rfl rfl rfl (by decide +kernel) ⟨Nat.le_of_ble_eq_true rfl, Nat.le_of_ble_eq_true rfl⟩) pu_preS rfl rfl hl.1 rfl (lv_room (Nat.le_of_ble_eq_true rfl)) dX2_formByOperation_1 ⟨Nat.zero_le _, Nat.zero_le _⟩) hS hA (fun H locs kP hS => ?_)
  refine lv_istore_n (lv' := [(1, .int ((fX3_operation x0))), (0, .int (x0))]) hx hb dX2_formByOperation_4 rfl hl (by decide) rfl (fun ls hl => ?_)
  refine lv_iload_n hx hb dX2_formByOperation_5 rfl (lv_at hl 0 rfl) ?_
  rcases swX2_formByOperation_6_c ((fX3_operation x0)) with c_1 | c_1 | c_1 | c_1 | c_1
  · refine lv_lookup (tgt := 48) hx hb dX2_formByOperation_6 (by decide) c_1 (by decide) ?_
    refine lv_iload_n hx hb dX2_formByOperation_48 rfl (lv_at hl 1 rfl) ?_
    refine ro_calli (va_runS (As := [.int (x0)]) (rest := []) ⟨hx, hb, hml, hown, hts⟩ (cX3_function l H.size (x0)) (va_cwS 1 hts gX2_formByOperation_X3_function rfl rfl rfl (by decide +kernel) ⟨Nat.le_of_ble_eq_true rfl, Nat.le_of_ble_eq_true rfl⟩) pu_preS rfl rfl hl.1 rfl (lv_room (Nat.le_of_ble_eq_true rfl)) dX2_formByOperation_49 ⟨Nat.zero_le _, Nat.zero_le _⟩) hS hA (fun H locs kP hS => ?_)
    refine ro_calli (va_runS (As := [.int ((fX3_function x0))]) (rest := []) ⟨hx, hb, hml, hown, hts⟩ (cX2_special l H.size ((fX3_function x0))) (va_cwS 1 hts gX2_formByOperation_X2_special rfl rfl rfl (by decide +kernel) ⟨Nat.le_of_ble_eq_true rfl, Nat.le_of_ble_eq_true rfl⟩) pu_preS rfl rfl hl.1 rfl (lv_room (Nat.le_of_ble_eq_true rfl)) dX2_formByOperation_52 ⟨Nat.zero_le _, Nat.zero_le _⟩) hS hA (fun H locs kP hS => ?_)
    exact W.iret (v := (fX2_special (fX3_function x0))) hx hb hr (fun t ht hW => ⟨⟨_, (), rfl, (by unfold fX2_formByOperation; rw [if_pos c_1]), trivial⟩, hS.F ht⟩) hS.2.2 dX2_formByOperation_55
  · refine lv_lookup (tgt := 56) hx hb dX2_formByOperation_6 (by decide) c_1 (by decide) ?_
    refine lv_iload_n hx hb dX2_formByOperation_56 rfl (lv_at hl 1 rfl) ?_
    refine ro_calli (va_runS (As := [.int (x0)]) (rest := []) ⟨hx, hb, hml, hown, hts⟩ (cX3_t l H.size (x0)) (va_cwS 1 hts gX2_formByOperation_X3_t rfl rfl rfl (by decide +kernel) ⟨Nat.le_of_ble_eq_true rfl, Nat.le_of_ble_eq_true rfl⟩) pu_preS rfl rfl hl.1 rfl (lv_room (Nat.le_of_ble_eq_true rfl)) dX2_formByOperation_57 ⟨Nat.zero_le _, Nat.zero_le _⟩) hS hA (fun H locs kP hS => ?_)
    refine ro_calli (va_runS (As := [.int ((fX3_t x0))]) (rest := []) ⟨hx, hb, hml, hown, hts⟩ (cX2_byRegisterField l H.size ((fX3_t x0))) (va_cwS 1 hts gX2_formByOperation_X2_byRegisterField rfl rfl rfl (by decide +kernel) ⟨Nat.le_of_ble_eq_true rfl, Nat.le_of_ble_eq_true rfl⟩) pu_preS rfl rfl hl.1 rfl (lv_room (Nat.le_of_ble_eq_true rfl)) dX2_formByOperation_60 ⟨Nat.zero_le _, Nat.zero_le _⟩) hS hA (fun H locs kP hS => ?_)
    exact W.iret (v := (fX2_byRegisterField (fX3_t x0))) hx hb hr (fun t ht hW => ⟨⟨_, (), rfl, (by unfold fX2_formByOperation; rw [if_pos c_1]), trivial⟩, hS.F ht⟩) hS.2.2 dX2_formByOperation_63
  · refine lv_lookup (tgt := 64) hx hb dX2_formByOperation_6 (by decide) c_1 (by decide) ?_
    refine lv_iload_n hx hb dX2_formByOperation_64 rfl (lv_at hl 1 rfl) ?_
    refine ro_calli (va_runS (As := [.int (x0)]) (rest := []) ⟨hx, hb, hml, hown, hts⟩ (cX2_coprocessor l H.size (x0)) (va_cwS 1 hts gX2_formByOperation_X2_coprocessor rfl rfl rfl (by decide +kernel) ⟨Nat.le_of_ble_eq_true rfl, Nat.le_of_ble_eq_true rfl⟩) pu_preS rfl rfl hl.1 rfl (lv_room (Nat.le_of_ble_eq_true rfl)) dX2_formByOperation_65 ⟨Nat.zero_le _, Nat.zero_le _⟩) hS hA (fun H locs kP hS => ?_)
    exact W.iret (v := (fX2_coprocessor x0)) hx hb hr (fun t ht hW => ⟨⟨_, (), rfl, (by unfold fX2_formByOperation; rw [if_pos c_1]), trivial⟩, hS.F ht⟩) hS.2.2 dX2_formByOperation_68
  · refine lv_lookup (tgt := 69) hx hb dX2_formByOperation_6 (by decide) c_1 (by decide) ?_
    refine lv_iload_n hx hb dX2_formByOperation_69 rfl (lv_at hl 1 rfl) ?_
    refine ro_calli (va_runS (As := [.int (x0)]) (rest := []) ⟨hx, hb, hml, hown, hts⟩ (cX3_function l H.size (x0)) (va_cwS 1 hts gX2_formByOperation_X3_function rfl rfl rfl (by decide +kernel) ⟨Nat.le_of_ble_eq_true rfl, Nat.le_of_ble_eq_true rfl⟩) pu_preS rfl rfl hl.1 rfl (lv_room (Nat.le_of_ble_eq_true rfl)) dX2_formByOperation_70 ⟨Nat.zero_le _, Nat.zero_le _⟩) hS hA (fun H locs kP hS => ?_)
    refine ro_calli (va_runS (As := [.int ((fX3_function x0))]) (rest := []) ⟨hx, hb, hml, hown, hts⟩ (cX2_special2 l H.size ((fX3_function x0))) (va_cwS 1 hts gX2_formByOperation_X2_special2 rfl rfl rfl (by decide +kernel) ⟨Nat.le_of_ble_eq_true rfl, Nat.le_of_ble_eq_true rfl⟩) pu_preS rfl rfl hl.1 rfl (lv_room (Nat.le_of_ble_eq_true rfl)) dX2_formByOperation_73 ⟨Nat.zero_le _, Nat.zero_le _⟩) hS hA (fun H locs kP hS => ?_)
    exact W.iret (v := (fX2_special2 (fX3_function x0))) hx hb hr (fun t ht hW => ⟨⟨_, (), rfl, (by unfold fX2_formByOperation; rw [if_pos c_1]), trivial⟩, hS.F ht⟩) hS.2.2 dX2_formByOperation_76
  · refine lv_lookup (tgt := 77) hx hb dX2_formByOperation_6 (by decide) c_1 (by decide) ?_
    refine lv_iload_n hx hb dX2_formByOperation_77 rfl (lv_at hl 0 rfl) ?_
    refine lv_bipush (v := 32) hx hb dX2_formByOperation_78 (by decide) ?_
    refine lv_icmp_ge (tgt := 90) hx hb dX2_formByOperation_80 (by decide) (fun c_2 => ?_) (fun c_2 => ?_)
    · refine lv_iload_n hx hb dX2_formByOperation_90 rfl (lv_at hl 0 rfl) ?_
      refine ro_calli (va_runS (As := [.int ((fX3_operation x0))]) (rest := []) ⟨hx, hb, hml, hown, hts⟩ (cX2_memory l H.size ((fX3_operation x0))) (va_cwS 1 hts gX2_formByOperation_X2_memory rfl rfl rfl (by decide +kernel) ⟨Nat.le_of_ble_eq_true rfl, Nat.le_of_ble_eq_true rfl⟩) pu_preS rfl rfl hl.1 rfl (lv_room (Nat.le_of_ble_eq_true rfl)) dX2_formByOperation_91 ⟨Nat.zero_le _, Nat.zero_le _⟩) hS hA (fun H locs kP hS => ?_)
      exact W.iret (v := (fX2_memory (fX3_operation x0))) hx hb hr (fun t ht hW => ⟨⟨_, (), rfl, (by unfold fX2_formByOperation; rw [if_neg (show ¬ (swX2_formByOperation_6 ((fX3_operation x0)) = 42) by rw [c_1]; decide), if_neg (show ¬ (swX2_formByOperation_6 ((fX3_operation x0)) = 50) by rw [c_1]; decide), if_neg (show ¬ (swX2_formByOperation_6 ((fX3_operation x0)) = 58) by rw [c_1]; decide), if_neg (show ¬ (swX2_formByOperation_6 ((fX3_operation x0)) = 63) by rw [c_1]; decide), if_pos c_2]), trivial⟩, hS.F ht⟩) hS.2.2 dX2_formByOperation_94
    · refine lv_iload_n hx hb dX2_formByOperation_83 rfl (lv_at hl 0 rfl) ?_
      refine ro_calli (va_runS (As := [.int ((fX3_operation x0))]) (rest := []) ⟨hx, hb, hml, hown, hts⟩ (cX2_immediateOrBranch l H.size ((fX3_operation x0))) (va_cwS 1 hts gX2_formByOperation_X2_immediateOrBranch rfl rfl rfl (by decide +kernel) ⟨Nat.le_of_ble_eq_true rfl, Nat.le_of_ble_eq_true rfl⟩) pu_preS rfl rfl hl.1 rfl (lv_room (Nat.le_of_ble_eq_true rfl)) dX2_formByOperation_84 ⟨Nat.zero_le _, Nat.zero_le _⟩) hS hA (fun H locs kP hS => ?_)
      refine lv_goto (tgt := 94) hx hb dX2_formByOperation_87 (by decide) ?_
      exact W.iret (v := (fX2_immediateOrBranch (fX3_operation x0))) hx hb hr (fun t ht hW => ⟨⟨_, (), rfl, (by unfold fX2_formByOperation; rw [if_neg (show ¬ (swX2_formByOperation_6 ((fX3_operation x0)) = 42) by rw [c_1]; decide), if_neg (show ¬ (swX2_formByOperation_6 ((fX3_operation x0)) = 50) by rw [c_1]; decide), if_neg (show ¬ (swX2_formByOperation_6 ((fX3_operation x0)) = 58) by rw [c_1]; decide), if_neg (show ¬ (swX2_formByOperation_6 ((fX3_operation x0)) = 63) by rw [c_1]; decide), if_neg c_2]), trivial⟩, hS.F ht⟩) hS.2.2 dX2_formByOperation_94
def fX2_hasOddDouble (w f : Int32) : Int32 := (if ((orIi (fX4_has f 4194304) (orIi (fX4_has f 2097152) (orIi (fX4_has f 1048576) 0 (fX3_fractionS w)) (fX3_fractionT w)) (fX3_fractionD w)) &&& 1) = 0 then 0 else 1)
set_option maxHeartbeats 4000000 in
set_option maxRecDepth 100000 in
theorem cX2_hasOddDouble (l : Launch) (sz : Nat) (w : Int32) (f : Int32) : Met l yX2_hasOddDouble wsX2_hasOddDouble ({ frames := 2, cells := 0, slots := 0, locals := 40 }) (pu_Pc [.int (w), .int (f)] sz) (ro_Qi ((fX2_hasOddDouble w f)) sz) 0 0 (ro sz) := by
  refine Met.ofW (cc := cX2_hasOddDouble) (maxL := 3) (ret := (some .boolean)) (by decide) rfl ?_
  intro p e s m args below meth c s₁ B hml hv
  obtain ⟨rfl, hsz⟩ := hv
  have hx := B.exec
  have hb := B.bytes
  have hr := B.returns
  have hts := atoms_spec (ws := wsX2_hasOddDouble) B.pre
  have hown : s.vm.findClass RX2 = some m.cls := findClass_of_methodNamed B.named
  have hlocks := B.notSynchronized
  subst hsz
  have hA : ∀ q : Nat, s.heap.size ≤ q → ro s.heap.size q := fun _ h => h
  have hS : va_S (ro s.heap.size) s.heap s.heap [] := va_S.rf
  have hl := lv_entry ([.int (w), .int (f)]) (n := 3) (Nat.le_of_ble_eq_true rfl)
  rw [lg_entry_eq]
  generalize (lg_sl ([.int (w), .int (f)]) ++ List.replicate (3 - (lg_sl ([.int (w), .int (f)])).length) Slot.unset).toArray = ls at hl ⊢
  have hl : lv_has ls 3 [(0, .int (w)), (1, .int (f))] := hl
  have hv : (if ((orIi (fX4_has f 4194304) (orIi (fX4_has f 2097152) (orIi (fX4_has f 1048576) 0 (fX3_fractionS w)) (fX3_fractionT w)) (fX3_fractionD w)) &&& 1) = 0 then 0 else 1) = fX2_hasOddDouble w f := rfl
  have J50 : ∀ (v : Int32) (H : Heap) (locs : List Loc) (ls : Array Slot), va_S (ro s.heap.size) s.heap H locs → lv_has ls 3 [(2, .int (v)), (0, .int (w)), (1, .int (f))] → (if (v &&& 1) = 0 then 0 else 1) = fX2_hasOddDouble w f → W p l e (headSpec wsX2_hasOddDouble ({ frames := 2, cells := 0, slots := 0, locals := 40 })).room s m ([.int (w), .int (f)] : List Value).toArray below meth c H locs 0 0 (MQ below (ro_Qi (fX2_hasOddDouble w f) s.heap.size) ([.int (w), .int (f)] : List Value).toArray s 0 0 (ro s.heap.size)) (F0 m 50 ls []) := by
    intro v H locs ls hS hl hv
    refine lv_iload_n hx hb dX2_hasOddDouble_50 rfl (lv_at hl 0 rfl) ?_
    refine lv_iconst (v := 1) hx hb dX2_hasOddDouble_51 (by decide) ?_
    refine lv_iand hx hb dX2_hasOddDouble_52 ?_
    refine lv_if_eq (tgt := 60) hx hb dX2_hasOddDouble_53 (by decide) (fun c_1 => ?_) (fun c_1 => ?_)
    · refine lv_iconst (v := 0) hx hb dX2_hasOddDouble_60 (by decide) ?_
      exact W.zret (v := 0) hx hb hr (by decide) (fun t ht hW => ⟨⟨_, (), rfl, (by rw [← hv, if_pos c_1]), trivial⟩, hS.F ht⟩) hS.2.2 dX2_hasOddDouble_61
    · refine lv_iconst (v := 1) hx hb dX2_hasOddDouble_56 (by decide) ?_
      refine lv_goto (tgt := 61) hx hb dX2_hasOddDouble_57 (by decide) ?_
      exact W.zret (v := 1) hx hb hr (by decide) (fun t ht hW => ⟨⟨_, (), rfl, (by rw [← hv, if_neg c_1]), trivial⟩, hS.F ht⟩) hS.2.2 dX2_hasOddDouble_61
  have J34 : ∀ (v : Int32) (H : Heap) (locs : List Loc) (ls : Array Slot), va_S (ro s.heap.size) s.heap H locs → lv_has ls 3 [(2, .int (v)), (0, .int (w)), (1, .int (f))] → (if ((orIi (fX4_has f 4194304) v (fX3_fractionD w)) &&& 1) = 0 then 0 else 1) = fX2_hasOddDouble w f → W p l e (headSpec wsX2_hasOddDouble ({ frames := 2, cells := 0, slots := 0, locals := 40 })).room s m ([.int (w), .int (f)] : List Value).toArray below meth c H locs 0 0 (MQ below (ro_Qi (fX2_hasOddDouble w f) s.heap.size) ([.int (w), .int (f)] : List Value).toArray s 0 0 (ro s.heap.size)) (F0 m 34 ls []) := by
    intro v H locs ls hS hl hv
    refine lv_iload_n hx hb dX2_hasOddDouble_34 rfl (lv_at hl 2 rfl) ?_
    refine lv_ldc (v := 4194304) hx hb hown (hts (.constant RX2 32 (4194304)) (by decide +kernel)) dX2_hasOddDouble_35 ?_
    refine ro_calli (va_runS (As := [.int (f), .int (4194304)]) (rest := []) ⟨hx, hb, hml, hown, hts⟩ (cX4_has l H.size (f) (4194304)) (va_cwS 2 hts gX2_hasOddDouble_X4_has rfl rfl rfl (by decide +kernel) ⟨Nat.le_of_ble_eq_true rfl, Nat.le_of_ble_eq_true rfl⟩) pu_preS rfl rfl hl.1 rfl (lv_room (Nat.le_of_ble_eq_true rfl)) dX2_hasOddDouble_37 ⟨Nat.zero_le _, Nat.zero_le _⟩) hS hA (fun H locs kP hS => ?_)
    refine lv_if_eq (tgt := 50) hx hb dX2_hasOddDouble_40 (by decide) (fun c_2 => ?_) (fun c_2 => ?_)
    · exact J50 (v) H _ ls hS (lv_sub hl [0, 1, 2] rfl) (by rw [orIi_z c_2] at hv; exact hv)
    · refine lv_iload_n hx hb dX2_hasOddDouble_43 rfl (lv_at hl 0 rfl) ?_
      refine lv_iload_n hx hb dX2_hasOddDouble_44 rfl (lv_at hl 1 rfl) ?_
      refine ro_calli (va_runS (As := [.int (w)]) (rest := [.int (v)]) ⟨hx, hb, hml, hown, hts⟩ (cX3_fractionD l H.size (w)) (va_cwS 1 hts gX2_hasOddDouble_X3_fractionD rfl rfl rfl (by decide +kernel) ⟨Nat.le_of_ble_eq_true rfl, Nat.le_of_ble_eq_true rfl⟩) pu_preS rfl rfl hl.1 rfl (lv_room (Nat.le_of_ble_eq_true rfl)) dX2_hasOddDouble_45 ⟨Nat.zero_le _, Nat.zero_le _⟩) hS hA (fun H locs kP hS => ?_)
      refine lv_ior hx hb dX2_hasOddDouble_48 ?_
      refine lv_istore_n (lv' := [(2, .int ((v ||| (fX3_fractionD w)))), (0, .int (w)), (1, .int (f))]) hx hb dX2_hasOddDouble_49 rfl hl (by decide) rfl (fun ls hl => ?_)
      exact J50 ((v ||| (fX3_fractionD w))) H _ ls hS (lv_sub hl [0, 1, 2] rfl) (by rw [orIi_n c_2] at hv; exact hv)
  have J18 : ∀ (v : Int32) (H : Heap) (locs : List Loc) (ls : Array Slot), va_S (ro s.heap.size) s.heap H locs → lv_has ls 3 [(2, .int (v)), (0, .int (w)), (1, .int (f))] → (if ((orIi (fX4_has f 4194304) (orIi (fX4_has f 2097152) v (fX3_fractionT w)) (fX3_fractionD w)) &&& 1) = 0 then 0 else 1) = fX2_hasOddDouble w f → W p l e (headSpec wsX2_hasOddDouble ({ frames := 2, cells := 0, slots := 0, locals := 40 })).room s m ([.int (w), .int (f)] : List Value).toArray below meth c H locs 0 0 (MQ below (ro_Qi (fX2_hasOddDouble w f) s.heap.size) ([.int (w), .int (f)] : List Value).toArray s 0 0 (ro s.heap.size)) (F0 m 18 ls []) := by
    intro v H locs ls hS hl hv
    refine lv_iload_n hx hb dX2_hasOddDouble_18 rfl (lv_at hl 2 rfl) ?_
    refine lv_ldc (v := 2097152) hx hb hown (hts (.constant RX2 28 (2097152)) (by decide +kernel)) dX2_hasOddDouble_19 ?_
    refine ro_calli (va_runS (As := [.int (f), .int (2097152)]) (rest := []) ⟨hx, hb, hml, hown, hts⟩ (cX4_has l H.size (f) (2097152)) (va_cwS 2 hts gX2_hasOddDouble_X4_has rfl rfl rfl (by decide +kernel) ⟨Nat.le_of_ble_eq_true rfl, Nat.le_of_ble_eq_true rfl⟩) pu_preS rfl rfl hl.1 rfl (lv_room (Nat.le_of_ble_eq_true rfl)) dX2_hasOddDouble_21 ⟨Nat.zero_le _, Nat.zero_le _⟩) hS hA (fun H locs kP hS => ?_)
    refine lv_if_eq (tgt := 34) hx hb dX2_hasOddDouble_24 (by decide) (fun c_3 => ?_) (fun c_3 => ?_)
    · exact J34 (v) H _ ls hS (lv_sub hl [0, 1, 2] rfl) (by rw [orIi_z c_3] at hv; exact hv)
    · refine lv_iload_n hx hb dX2_hasOddDouble_27 rfl (lv_at hl 0 rfl) ?_
      refine lv_iload_n hx hb dX2_hasOddDouble_28 rfl (lv_at hl 1 rfl) ?_
      refine ro_calli (va_runS (As := [.int (w)]) (rest := [.int (v)]) ⟨hx, hb, hml, hown, hts⟩ (cX3_fractionT l H.size (w)) (va_cwS 1 hts gX2_hasOddDouble_X3_fractionT rfl rfl rfl (by decide +kernel) ⟨Nat.le_of_ble_eq_true rfl, Nat.le_of_ble_eq_true rfl⟩) pu_preS rfl rfl hl.1 rfl (lv_room (Nat.le_of_ble_eq_true rfl)) dX2_hasOddDouble_29 ⟨Nat.zero_le _, Nat.zero_le _⟩) hS hA (fun H locs kP hS => ?_)
      refine lv_ior hx hb dX2_hasOddDouble_32 ?_
      refine lv_istore_n (lv' := [(2, .int ((v ||| (fX3_fractionT w)))), (0, .int (w)), (1, .int (f))]) hx hb dX2_hasOddDouble_33 rfl hl (by decide) rfl (fun ls hl => ?_)
      exact J34 ((v ||| (fX3_fractionT w))) H _ ls hS (lv_sub hl [0, 1, 2] rfl) (by rw [orIi_n c_3] at hv; exact hv)
  refine lv_iconst (v := 0) hx hb dX2_hasOddDouble_0 (by decide) ?_
  refine lv_istore_n (lv' := [(2, .int (0)), (0, .int (w)), (1, .int (f))]) hx hb dX2_hasOddDouble_1 rfl hl (by decide) rfl (fun ls hl => ?_)
  refine lv_iload_n hx hb dX2_hasOddDouble_2 rfl (lv_at hl 2 rfl) ?_
  refine lv_ldc (v := 1048576) hx hb hown (hts (.constant RX2 19 (1048576)) (by decide +kernel)) dX2_hasOddDouble_3 ?_
  refine ro_calli (va_runS (As := [.int (f), .int (1048576)]) (rest := []) ⟨hx, hb, hml, hown, hts⟩ (cX4_has l s.heap.size (f) (1048576)) (va_cwS 2 hts gX2_hasOddDouble_X4_has rfl rfl rfl (by decide +kernel) ⟨Nat.le_of_ble_eq_true rfl, Nat.le_of_ble_eq_true rfl⟩) pu_preS rfl rfl hl.1 rfl (lv_room (Nat.le_of_ble_eq_true rfl)) dX2_hasOddDouble_5 ⟨Nat.zero_le _, Nat.zero_le _⟩) hS hA (fun H locs kP hS => ?_)
  refine lv_if_eq (tgt := 18) hx hb dX2_hasOddDouble_8 (by decide) (fun c_4 => ?_) (fun c_4 => ?_)
  · exact J18 (0) H _ ls hS (lv_sub hl [0, 1, 2] rfl) (by rw [orIi_z c_4] at hv; exact hv)
  · refine lv_iload_n hx hb dX2_hasOddDouble_11 rfl (lv_at hl 0 rfl) ?_
    refine lv_iload_n hx hb dX2_hasOddDouble_12 rfl (lv_at hl 1 rfl) ?_
    refine ro_calli (va_runS (As := [.int (w)]) (rest := [.int (0)]) ⟨hx, hb, hml, hown, hts⟩ (cX3_fractionS l H.size (w)) (va_cwS 1 hts gX2_hasOddDouble_X3_fractionS rfl rfl rfl (by decide +kernel) ⟨Nat.le_of_ble_eq_true rfl, Nat.le_of_ble_eq_true rfl⟩) pu_preS rfl rfl hl.1 rfl (lv_room (Nat.le_of_ble_eq_true rfl)) dX2_hasOddDouble_13 ⟨Nat.zero_le _, Nat.zero_le _⟩) hS hA (fun H locs kP hS => ?_)
    refine lv_ior hx hb dX2_hasOddDouble_16 ?_
    refine lv_istore_n (lv' := [(2, .int ((0 ||| (fX3_fractionS w)))), (0, .int (w)), (1, .int (f))]) hx hb dX2_hasOddDouble_17 rfl hl (by decide) rfl (fun ls hl => ?_)
    exact J18 ((0 ||| (fX3_fractionS w))) H _ ls hS (lv_sub hl [0, 1, 2] rfl) (by rw [orIi_n c_4] at hv; exact hv)
def fX2_formOf (x0 : Int32) : Int32 := if (fX2_formByOperation x0) = (-1) then (-1) else if (fX2_hasOddDouble x0 (fX2_formByOperation x0)) = 0 then (fX2_formByOperation x0) else (-1)
set_option maxHeartbeats 4000000 in
set_option maxRecDepth 100000 in
theorem cX2_formOf (l : Launch) (sz : Nat) (x0 : Int32) : Met l yX2_formOf wsX2_formOf ({ frames := 4, cells := 0, slots := 0, locals := 85 }) (pu_Pc [.int (x0)] sz) (ro_Qi (fX2_formOf x0) sz) 0 0 (ro sz) := by
  refine Met.ofW (cc := cX2_formOf) (maxL := 2) (ret := (some .int)) (by decide) rfl ?_
  intro p e s m args below meth c s₁ B hml hv
  obtain ⟨rfl, hsz⟩ := hv
  have hx := B.exec
  have hb := B.bytes
  have hr := B.returns
  have hts := atoms_spec (ws := wsX2_formOf) B.pre
  have hown : s.vm.findClass RX2 = some m.cls := findClass_of_methodNamed B.named
  have hlocks := B.notSynchronized
  subst hsz
  have hA : ∀ q : Nat, s.heap.size ≤ q → ro s.heap.size q := fun _ h => h
  have hS : va_S (ro s.heap.size) s.heap s.heap [] := va_S.rf
  have hl := lv_entry ([.int (x0)]) (n := 2) (Nat.le_of_ble_eq_true rfl)
  rw [lg_entry_eq]
  generalize (lg_sl ([.int (x0)]) ++ List.replicate (2 - (lg_sl ([.int (x0)])).length) Slot.unset).toArray = ls at hl ⊢
  have hl : lv_has ls 2 [(0, .int (x0))] := hl
  refine lv_iload_n hx hb dX2_formOf_0 rfl (lv_at hl 0 rfl) ?_
  refine ro_calli (va_runS (As := [.int (x0)]) (rest := []) ⟨hx, hb, hml, hown, hts⟩ (cX2_formByOperation l s.heap.size (x0)) (va_cwS 1 hts gX2_formOf_X2_formByOperation rfl rfl rfl (by decide +kernel) ⟨Nat.le_of_ble_eq_true rfl, Nat.le_of_ble_eq_true rfl⟩) pu_preS rfl rfl hl.1 rfl (lv_room (Nat.le_of_ble_eq_true rfl)) dX2_formOf_1 ⟨Nat.zero_le _, Nat.zero_le _⟩) hS hA (fun H locs kP hS => ?_)
  refine lv_istore_n (lv' := [(1, .int ((fX2_formByOperation x0))), (0, .int (x0))]) hx hb dX2_formOf_4 rfl hl (by decide) rfl (fun ls hl => ?_)
  refine lv_iload_n hx hb dX2_formOf_5 rfl (lv_at hl 0 rfl) ?_
  refine lv_iconst (v := (-1)) hx hb dX2_formOf_6 (by decide) ?_
  refine lv_icmp_eq (tgt := 18) hx hb dX2_formOf_7 (by decide) (fun c_1 => ?_) (fun c_1 => ?_)
  · refine lv_iconst (v := (-1)) hx hb dX2_formOf_18 (by decide) ?_
    exact W.iret (v := (-1)) hx hb hr (fun t ht hW => ⟨⟨_, (), rfl, (by unfold fX2_formOf; rw [if_pos c_1]), trivial⟩, hS.F ht⟩) hS.2.2 dX2_formOf_19
  · refine lv_iload_n hx hb dX2_formOf_10 rfl (lv_at hl 1 rfl) ?_
    refine lv_iload_n hx hb dX2_formOf_11 rfl (lv_at hl 0 rfl) ?_
    refine ro_calli (va_runS (As := [.int (x0), .int ((fX2_formByOperation x0))]) (rest := []) ⟨hx, hb, hml, hown, hts⟩ (cX2_hasOddDouble l H.size (x0) ((fX2_formByOperation x0))) (va_cwS 2 hts gX2_formOf_X2_hasOddDouble rfl rfl rfl (by decide +kernel) ⟨Nat.le_of_ble_eq_true rfl, Nat.le_of_ble_eq_true rfl⟩) pu_preS rfl rfl hl.1 rfl (lv_room (Nat.le_of_ble_eq_true rfl)) dX2_formOf_12 ⟨Nat.zero_le _, Nat.zero_le _⟩) hS hA (fun H locs kP hS => ?_)
    refine lv_if_eq (tgt := 20) hx hb dX2_formOf_15 (by decide) (fun c_2 => ?_) (fun c_2 => ?_)
    · refine lv_iload_n hx hb dX2_formOf_20 rfl (lv_at hl 0 rfl) ?_
      exact W.iret (v := (fX2_formByOperation x0)) hx hb hr (fun t ht hW => ⟨⟨_, (), rfl, (by unfold fX2_formOf; rw [if_neg c_1, if_pos c_2]), trivial⟩, hS.F ht⟩) hS.2.2 dX2_formOf_21
    · refine lv_iconst (v := (-1)) hx hb dX2_formOf_18 (by decide) ?_
      exact W.iret (v := (-1)) hx hb hr (fun t ht hW => ⟨⟨_, (), rfl, (by unfold fX2_formOf; rw [if_neg c_1, if_neg c_2]), trivial⟩, hS.F ht⟩) hS.2.2 dX2_formOf_19
end

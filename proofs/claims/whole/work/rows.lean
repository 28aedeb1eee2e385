section
/-- a private method of a class that the tables say can be made, by its rows of tables_1 -/
def lw_okq (q : MethodName × Nat) : Prop := (q.1.cls ≠ "java/lang/invoke/MethodHandle" ∧ q.1.cls ≠ "java/lang/invoke/VarHandle") ∧ Cond.instantiable q.1.cls q.2 ∈ tables_1 ∧ Cond.privateMethod q.1 ∈ tables_1 ∧ Cond.instanceMethod q.1 ∈ tables_1
theorem lw_p0 : lw_okq (⟨"PhaseLoads", "refuse", "(I)I"⟩, 7) := ⟨⟨by decide +kernel, by decide +kernel⟩, List.mem_of_getElem? (i := 11) (by decide +kernel), List.mem_of_getElem? (i := 224) (by decide +kernel), List.mem_of_getElem? (i := 225) (by decide +kernel)⟩
theorem lw_p1 : lw_okq (⟨"PhaseLoads", "streetChanges", "()V"⟩, 7) := ⟨⟨by decide +kernel, by decide +kernel⟩, List.mem_of_getElem? (i := 11) (by decide +kernel), List.mem_of_getElem? (i := 228) (by decide +kernel), List.mem_of_getElem? (i := 229) (by decide +kernel)⟩
theorem lw_p2 : lw_okq (⟨"PhaseLoads$Street", "addLoads", "(II)V"⟩, 12) := ⟨⟨by decide +kernel, by decide +kernel⟩, List.mem_of_getElem? (i := 19) (by decide +kernel), List.mem_of_getElem? (i := 240) (by decide +kernel), List.mem_of_getElem? (i := 241) (by decide +kernel)⟩
theorem lw_p3 : lw_okq (⟨"PhaseLoads", "isHouse", "(I)Z"⟩, 7) := ⟨⟨by decide +kernel, by decide +kernel⟩, List.mem_of_getElem? (i := 11) (by decide +kernel), List.mem_of_getElem? (i := 254) (by decide +kernel), List.mem_of_getElem? (i := 255) (by decide +kernel)⟩
theorem lw_p4 : lw_okq (⟨"PhaseLoads", "areTwoHouses", "(II)Z"⟩, 7) := ⟨⟨by decide +kernel, by decide +kernel⟩, List.mem_of_getElem? (i := 11) (by decide +kernel), List.mem_of_getElem? (i := 280) (by decide +kernel), List.mem_of_getElem? (i := 281) (by decide +kernel)⟩
theorem lw_p5 : lw_okq (⟨"PhaseLoads", "phasesChange", "()V"⟩, 7) := ⟨⟨by decide +kernel, by decide +kernel⟩, List.mem_of_getElem? (i := 11) (by decide +kernel), List.mem_of_getElem? (i := 392) (by decide +kernel), List.mem_of_getElem? (i := 393) (by decide +kernel)⟩
theorem lw_p6 : lw_okq (⟨"PhaseLoads$Steps", "isFree", "(I)Z"⟩, 6) := ⟨⟨by decide +kernel, by decide +kernel⟩, List.mem_of_getElem? (i := 142) (by decide +kernel), List.mem_of_getElem? (i := 431) (by decide +kernel), List.mem_of_getElem? (i := 432) (by decide +kernel)⟩
theorem lw_p7 : lw_okq (⟨"PhaseLoads$Steps", "tryChanges", "(I)V"⟩, 6) := ⟨⟨by decide +kernel, by decide +kernel⟩, List.mem_of_getElem? (i := 142) (by decide +kernel), List.mem_of_getElem? (i := 439) (by decide +kernel), List.mem_of_getElem? (i := 440) (by decide +kernel)⟩
theorem lw_p8 : lw_okq (⟨"PhaseLoads$Steps", "compare", "(III)V"⟩, 6) := ⟨⟨by decide +kernel, by decide +kernel⟩, List.mem_of_getElem? (i := 142) (by decide +kernel), List.mem_of_getElem? (i := 444) (by decide +kernel), List.mem_of_getElem? (i := 445) (by decide +kernel)⟩
theorem lw_p9 : lw_okq (⟨"PhaseLoads$Steps", "trySwaps", "(I)V"⟩, 6) := ⟨⟨by decide +kernel, by decide +kernel⟩, List.mem_of_getElem? (i := 142) (by decide +kernel), List.mem_of_getElem? (i := 450) (by decide +kernel), List.mem_of_getElem? (i := 451) (by decide +kernel)⟩
theorem lw_p10 : lw_okq (⟨"PhaseLoads$Layings", "findAll", "()V"⟩, 14) := ⟨⟨by decide +kernel, by decide +kernel⟩, List.mem_of_getElem? (i := 90) (by decide +kernel), List.mem_of_getElem? (i := 475) (by decide +kernel), List.mem_of_getElem? (i := 476) (by decide +kernel)⟩
theorem lw_p11 : lw_okq (⟨"PhaseLoads$Layings", "readTakings", "()V"⟩, 14) := ⟨⟨by decide +kernel, by decide +kernel⟩, List.mem_of_getElem? (i := 90) (by decide +kernel), List.mem_of_getElem? (i := 480) (by decide +kernel), List.mem_of_getElem? (i := 481) (by decide +kernel)⟩
theorem lw_p12 : lw_okq (⟨"PhaseLoads$Layings", "findTightHours", "()V"⟩, 14) := ⟨⟨by decide +kernel, by decide +kernel⟩, List.mem_of_getElem? (i := 90) (by decide +kernel), List.mem_of_getElem? (i := 485) (by decide +kernel), List.mem_of_getElem? (i := 486) (by decide +kernel)⟩
theorem lw_p13 : lw_okq (⟨"PhaseLoads$Layings", "multiplyTakings", "()V"⟩, 14) := ⟨⟨by decide +kernel, by decide +kernel⟩, List.mem_of_getElem? (i := 90) (by decide +kernel), List.mem_of_getElem? (i := 490) (by decide +kernel), List.mem_of_getElem? (i := 491) (by decide +kernel)⟩
theorem lw_p14 : lw_okq (⟨"PhaseLoads$Layings", "product", "(II)I"⟩, 14) := ⟨⟨by decide +kernel, by decide +kernel⟩, List.mem_of_getElem? (i := 90) (by decide +kernel), List.mem_of_getElem? (i := 494) (by decide +kernel), List.mem_of_getElem? (i := 495) (by decide +kernel)⟩
theorem lw_p15 : lw_okq (⟨"PhaseLoads$Layings", "griefApart", "()I"⟩, 14) := ⟨⟨by decide +kernel, by decide +kernel⟩, List.mem_of_getElem? (i := 90) (by decide +kernel), List.mem_of_getElem? (i := 498) (by decide +kernel), List.mem_of_getElem? (i := 499) (by decide +kernel)⟩
def lw_privs_1 : List (MethodName × Nat) := [(⟨"PhaseLoads", "refuse", "(I)I"⟩, 7), (⟨"PhaseLoads", "streetChanges", "()V"⟩, 7), (⟨"PhaseLoads$Street", "addLoads", "(II)V"⟩, 12), (⟨"PhaseLoads", "isHouse", "(I)Z"⟩, 7), (⟨"PhaseLoads", "areTwoHouses", "(II)Z"⟩, 7), (⟨"PhaseLoads", "phasesChange", "()V"⟩, 7), (⟨"PhaseLoads$Steps", "isFree", "(I)Z"⟩, 6), (⟨"PhaseLoads$Steps", "tryChanges", "(I)V"⟩, 6), (⟨"PhaseLoads$Steps", "compare", "(III)V"⟩, 6), (⟨"PhaseLoads$Steps", "trySwaps", "(I)V"⟩, 6), (⟨"PhaseLoads$Layings", "findAll", "()V"⟩, 14), (⟨"PhaseLoads$Layings", "readTakings", "()V"⟩, 14), (⟨"PhaseLoads$Layings", "findTightHours", "()V"⟩, 14), (⟨"PhaseLoads$Layings", "multiplyTakings", "()V"⟩, 14), (⟨"PhaseLoads$Layings", "product", "(II)I"⟩, 14), (⟨"PhaseLoads$Layings", "griefApart", "()I"⟩, 14)]
theorem lw_r1 : ∀ q ∈ lw_privs_1, lw_okq q := List.forall_mem_cons.mpr ⟨lw_p0, List.forall_mem_cons.mpr ⟨lw_p1, List.forall_mem_cons.mpr ⟨lw_p2, List.forall_mem_cons.mpr ⟨lw_p3, List.forall_mem_cons.mpr ⟨lw_p4, List.forall_mem_cons.mpr ⟨lw_p5, List.forall_mem_cons.mpr ⟨lw_p6, List.forall_mem_cons.mpr ⟨lw_p7, List.forall_mem_cons.mpr ⟨lw_p8, List.forall_mem_cons.mpr ⟨lw_p9, List.forall_mem_cons.mpr ⟨lw_p10, List.forall_mem_cons.mpr ⟨lw_p11, List.forall_mem_cons.mpr ⟨lw_p12, List.forall_mem_cons.mpr ⟨lw_p13, List.forall_mem_cons.mpr ⟨lw_p14, List.forall_mem_cons.mpr ⟨lw_p15, fun _ h => absurd h List.not_mem_nil⟩⟩⟩⟩⟩⟩⟩⟩⟩⟩⟩⟩⟩⟩⟩⟩
theorem lw_p16 : lw_okq (⟨"PhaseLoads$Layings", "place", "(III)V"⟩, 14) := ⟨⟨by decide +kernel, by decide +kernel⟩, List.mem_of_getElem? (i := 90) (by decide +kernel), List.mem_of_getElem? (i := 502) (by decide +kernel), List.mem_of_getElem? (i := 503) (by decide +kernel)⟩
theorem lw_p17 : lw_okq (⟨"PhaseLoads$Layings", "count", "(II)V"⟩, 14) := ⟨⟨by decide +kernel, by decide +kernel⟩, List.mem_of_getElem? (i := 90) (by decide +kernel), List.mem_of_getElem? (i := 506) (by decide +kernel), List.mem_of_getElem? (i := 507) (by decide +kernel)⟩
theorem lw_p18 : lw_okq (⟨"PhaseLoads$Layings", "isLaidSafe", "()Z"⟩, 14) := ⟨⟨by decide +kernel, by decide +kernel⟩, List.mem_of_getElem? (i := 90) (by decide +kernel), List.mem_of_getElem? (i := 510) (by decide +kernel), List.mem_of_getElem? (i := 511) (by decide +kernel)⟩
theorem lw_p19 : lw_okq (⟨"PhaseLoads$Layings", "meetEarlier", "(I)V"⟩, 14) := ⟨⟨by decide +kernel, by decide +kernel⟩, List.mem_of_getElem? (i := 90) (by decide +kernel), List.mem_of_getElem? (i := 516) (by decide +kernel), List.mem_of_getElem? (i := 517) (by decide +kernel)⟩
theorem lw_p20 : lw_okq (⟨"PhaseLoads$Layings", "mayLie", "(II)Z"⟩, 14) := ⟨⟨by decide +kernel, by decide +kernel⟩, List.mem_of_getElem? (i := 90) (by decide +kernel), List.mem_of_getElem? (i := 520) (by decide +kernel), List.mem_of_getElem? (i := 521) (by decide +kernel)⟩
theorem lw_p21 : lw_okq (⟨"PhaseLoads$Layings", "addLoads", "(III)V"⟩, 14) := ⟨⟨by decide +kernel, by decide +kernel⟩, List.mem_of_getElem? (i := 90) (by decide +kernel), List.mem_of_getElem? (i := 524) (by decide +kernel), List.mem_of_getElem? (i := 525) (by decide +kernel)⟩
theorem lw_p22 : lw_okq (⟨"PhaseLoads", "toldOf", "(I)I"⟩, 7) := ⟨⟨by decide +kernel, by decide +kernel⟩, List.mem_of_getElem? (i := 11) (by decide +kernel), List.mem_of_getElem? (i := 580) (by decide +kernel), List.mem_of_getElem? (i := 581) (by decide +kernel)⟩
theorem lw_p23 : lw_okq (⟨"PhaseLoadsModel", "refuses", "(I)I"⟩, 21) := ⟨⟨by decide +kernel, by decide +kernel⟩, List.mem_of_getElem? (i := 594) (by decide +kernel), List.mem_of_getElem? (i := 671) (by decide +kernel), List.mem_of_getElem? (i := 672) (by decide +kernel)⟩
theorem lw_p24 : lw_okq (⟨"PhaseLoadsModel", "isHouse", "(I)Z"⟩, 21) := ⟨⟨by decide +kernel, by decide +kernel⟩, List.mem_of_getElem? (i := 594) (by decide +kernel), List.mem_of_getElem? (i := 679) (by decide +kernel), List.mem_of_getElem? (i := 680) (by decide +kernel)⟩
theorem lw_p25 : lw_okq (⟨"PhaseLoadsModel", "leastOf", "(I)I"⟩, 21) := ⟨⟨by decide +kernel, by decide +kernel⟩, List.mem_of_getElem? (i := 594) (by decide +kernel), List.mem_of_getElem? (i := 698) (by decide +kernel), List.mem_of_getElem? (i := 699) (by decide +kernel)⟩
theorem lw_p26 : lw_okq (⟨"PhaseLoadsModel", "takesOf", "(II)I"⟩, 21) := ⟨⟨by decide +kernel, by decide +kernel⟩, List.mem_of_getElem? (i := 594) (by decide +kernel), List.mem_of_getElem? (i := 732) (by decide +kernel), List.mem_of_getElem? (i := 733) (by decide +kernel)⟩
theorem lw_p27 : lw_okq (⟨"PhaseLoadsModel", "asIs", "()V"⟩, 21) := ⟨⟨by decide +kernel, by decide +kernel⟩, List.mem_of_getElem? (i := 594) (by decide +kernel), List.mem_of_getElem? (i := 740) (by decide +kernel), List.mem_of_getElem? (i := 741) (by decide +kernel)⟩
theorem lw_p28 : lw_okq (⟨"PhaseLoadsModel", "table", "()V"⟩, 21) := ⟨⟨by decide +kernel, by decide +kernel⟩, List.mem_of_getElem? (i := 594) (by decide +kernel), List.mem_of_getElem? (i := 744) (by decide +kernel), List.mem_of_getElem? (i := 745) (by decide +kernel)⟩
theorem lw_p29 : lw_okq (⟨"PhaseLoadsModel", "loadsNow", "()V"⟩, 21) := ⟨⟨by decide +kernel, by decide +kernel⟩, List.mem_of_getElem? (i := 594) (by decide +kernel), List.mem_of_getElem? (i := 748) (by decide +kernel), List.mem_of_getElem? (i := 749) (by decide +kernel)⟩
theorem lw_p30 : lw_okq (⟨"PhaseLoadsModel", "neutralNow", "(I)I"⟩, 21) := ⟨⟨by decide +kernel, by decide +kernel⟩, List.mem_of_getElem? (i := 594) (by decide +kernel), List.mem_of_getElem? (i := 756) (by decide +kernel), List.mem_of_getElem? (i := 757) (by decide +kernel)⟩
theorem lw_p31 : lw_okq (⟨"PhaseLoadsModel", "griefOf", "()I"⟩, 21) := ⟨⟨by decide +kernel, by decide +kernel⟩, List.mem_of_getElem? (i := 594) (by decide +kernel), List.mem_of_getElem? (i := 764) (by decide +kernel), List.mem_of_getElem? (i := 765) (by decide +kernel)⟩
def lw_privs_2 : List (MethodName × Nat) := [(⟨"PhaseLoads$Layings", "place", "(III)V"⟩, 14), (⟨"PhaseLoads$Layings", "count", "(II)V"⟩, 14), (⟨"PhaseLoads$Layings", "isLaidSafe", "()Z"⟩, 14), (⟨"PhaseLoads$Layings", "meetEarlier", "(I)V"⟩, 14), (⟨"PhaseLoads$Layings", "mayLie", "(II)Z"⟩, 14), (⟨"PhaseLoads$Layings", "addLoads", "(III)V"⟩, 14), (⟨"PhaseLoads", "toldOf", "(I)I"⟩, 7), (⟨"PhaseLoadsModel", "refuses", "(I)I"⟩, 21), (⟨"PhaseLoadsModel", "isHouse", "(I)Z"⟩, 21), (⟨"PhaseLoadsModel", "leastOf", "(I)I"⟩, 21), (⟨"PhaseLoadsModel", "takesOf", "(II)I"⟩, 21), (⟨"PhaseLoadsModel", "asIs", "()V"⟩, 21), (⟨"PhaseLoadsModel", "table", "()V"⟩, 21), (⟨"PhaseLoadsModel", "loadsNow", "()V"⟩, 21), (⟨"PhaseLoadsModel", "neutralNow", "(I)I"⟩, 21), (⟨"PhaseLoadsModel", "griefOf", "()I"⟩, 21)]
theorem lw_r2 : ∀ q ∈ lw_privs_2, lw_okq q := List.forall_mem_cons.mpr ⟨lw_p16, List.forall_mem_cons.mpr ⟨lw_p17, List.forall_mem_cons.mpr ⟨lw_p18, List.forall_mem_cons.mpr ⟨lw_p19, List.forall_mem_cons.mpr ⟨lw_p20, List.forall_mem_cons.mpr ⟨lw_p21, List.forall_mem_cons.mpr ⟨lw_p22, List.forall_mem_cons.mpr ⟨lw_p23, List.forall_mem_cons.mpr ⟨lw_p24, List.forall_mem_cons.mpr ⟨lw_p25, List.forall_mem_cons.mpr ⟨lw_p26, List.forall_mem_cons.mpr ⟨lw_p27, List.forall_mem_cons.mpr ⟨lw_p28, List.forall_mem_cons.mpr ⟨lw_p29, List.forall_mem_cons.mpr ⟨lw_p30, List.forall_mem_cons.mpr ⟨lw_p31, fun _ h => absurd h List.not_mem_nil⟩⟩⟩⟩⟩⟩⟩⟩⟩⟩⟩⟩⟩⟩⟩⟩
theorem lw_p32 : lw_okq (⟨"PhaseLoadsModel", "griefNow", "()I"⟩, 21) := ⟨⟨by decide +kernel, by decide +kernel⟩, List.mem_of_getElem? (i := 594) (by decide +kernel), List.mem_of_getElem? (i := 768) (by decide +kernel), List.mem_of_getElem? (i := 769) (by decide +kernel)⟩
theorem lw_p33 : lw_okq (⟨"PhaseLoadsModel", "isSafe", "()Z"⟩, 21) := ⟨⟨by decide +kernel, by decide +kernel⟩, List.mem_of_getElem? (i := 594) (by decide +kernel), List.mem_of_getElem? (i := 776) (by decide +kernel), List.mem_of_getElem? (i := 777) (by decide +kernel)⟩
theorem lw_p34 : lw_okq (⟨"PhaseLoadsModel", "isKept", "()Z"⟩, 21) := ⟨⟨by decide +kernel, by decide +kernel⟩, List.mem_of_getElem? (i := 594) (by decide +kernel), List.mem_of_getElem? (i := 780) (by decide +kernel), List.mem_of_getElem? (i := 781) (by decide +kernel)⟩
theorem lw_p35 : lw_okq (⟨"PhaseLoadsModel", "keeps", "()V"⟩, 21) := ⟨⟨by decide +kernel, by decide +kernel⟩, List.mem_of_getElem? (i := 594) (by decide +kernel), List.mem_of_getElem? (i := 795) (by decide +kernel), List.mem_of_getElem? (i := 796) (by decide +kernel)⟩
theorem lw_p36 : lw_okq (⟨"PhaseLoadsModel", "swaps", "(II)V"⟩, 21) := ⟨⟨by decide +kernel, by decide +kernel⟩, List.mem_of_getElem? (i := 594) (by decide +kernel), List.mem_of_getElem? (i := 803) (by decide +kernel), List.mem_of_getElem? (i := 804) (by decide +kernel)⟩
theorem lw_p37 : lw_okq (⟨"PhaseLoadsModel", "lessens", "()Z"⟩, 21) := ⟨⟨by decide +kernel, by decide +kernel⟩, List.mem_of_getElem? (i := 594) (by decide +kernel), List.mem_of_getElem? (i := 811) (by decide +kernel), List.mem_of_getElem? (i := 812) (by decide +kernel)⟩
theorem lw_p38 : lw_okq (⟨"PhaseLoadsModel", "finds", "()Z"⟩, 21) := ⟨⟨by decide +kernel, by decide +kernel⟩, List.mem_of_getElem? (i := 594) (by decide +kernel), List.mem_of_getElem? (i := 815) (by decide +kernel), List.mem_of_getElem? (i := 816) (by decide +kernel)⟩
theorem lw_p39 : lw_okq (⟨"PhaseLoadsModel", "isFree", "(I)Z"⟩, 21) := ⟨⟨by decide +kernel, by decide +kernel⟩, List.mem_of_getElem? (i := 594) (by decide +kernel), List.mem_of_getElem? (i := 819) (by decide +kernel), List.mem_of_getElem? (i := 820) (by decide +kernel)⟩
theorem lw_p40 : lw_okq (⟨"PhaseLoadsModel", "isTied", "(I)Z"⟩, 21) := ⟨⟨by decide +kernel, by decide +kernel⟩, List.mem_of_getElem? (i := 594) (by decide +kernel), List.mem_of_getElem? (i := 823) (by decide +kernel), List.mem_of_getElem? (i := 824) (by decide +kernel)⟩
theorem lw_p41 : lw_okq (⟨"PhaseLoadsModel", "looks", "(III)V"⟩, 21) := ⟨⟨by decide +kernel, by decide +kernel⟩, List.mem_of_getElem? (i := 594) (by decide +kernel), List.mem_of_getElem? (i := 827) (by decide +kernel), List.mem_of_getElem? (i := 828) (by decide +kernel)⟩
theorem lw_p42 : lw_okq (⟨"PhaseLoadsModel", "steps", "()V"⟩, 21) := ⟨⟨by decide +kernel, by decide +kernel⟩, List.mem_of_getElem? (i := 594) (by decide +kernel), List.mem_of_getElem? (i := 831) (by decide +kernel), List.mem_of_getElem? (i := 832) (by decide +kernel)⟩
theorem lw_p43 : lw_okq (⟨"PhaseLoadsModel", "goes", "()V"⟩, 21) := ⟨⟨by decide +kernel, by decide +kernel⟩, List.mem_of_getElem? (i := 594) (by decide +kernel), List.mem_of_getElem? (i := 847) (by decide +kernel), List.mem_of_getElem? (i := 848) (by decide +kernel)⟩
theorem lw_p44 : lw_okq (⟨"PhaseLoadsModel", "meets", "()V"⟩, 21) := ⟨⟨by decide +kernel, by decide +kernel⟩, List.mem_of_getElem? (i := 594) (by decide +kernel), List.mem_of_getElem? (i := 851) (by decide +kernel), List.mem_of_getElem? (i := 852) (by decide +kernel)⟩
theorem lw_p45 : lw_okq (⟨"PhaseLoadsModel", "bestBy", "(I)I"⟩, 21) := ⟨⟨by decide +kernel, by decide +kernel⟩, List.mem_of_getElem? (i := 594) (by decide +kernel), List.mem_of_getElem? (i := 855) (by decide +kernel), List.mem_of_getElem? (i := 856) (by decide +kernel)⟩
theorem lw_p46 : lw_okq (⟨"PhaseLoadsModel", "toldOf", "(I)I"⟩, 21) := ⟨⟨by decide +kernel, by decide +kernel⟩, List.mem_of_getElem? (i := 594) (by decide +kernel), List.mem_of_getElem? (i := 887) (by decide +kernel), List.mem_of_getElem? (i := 888) (by decide +kernel)⟩
def lw_privs_3 : List (MethodName × Nat) := [(⟨"PhaseLoadsModel", "griefNow", "()I"⟩, 21), (⟨"PhaseLoadsModel", "isSafe", "()Z"⟩, 21), (⟨"PhaseLoadsModel", "isKept", "()Z"⟩, 21), (⟨"PhaseLoadsModel", "keeps", "()V"⟩, 21), (⟨"PhaseLoadsModel", "swaps", "(II)V"⟩, 21), (⟨"PhaseLoadsModel", "lessens", "()Z"⟩, 21), (⟨"PhaseLoadsModel", "finds", "()Z"⟩, 21), (⟨"PhaseLoadsModel", "isFree", "(I)Z"⟩, 21), (⟨"PhaseLoadsModel", "isTied", "(I)Z"⟩, 21), (⟨"PhaseLoadsModel", "looks", "(III)V"⟩, 21), (⟨"PhaseLoadsModel", "steps", "()V"⟩, 21), (⟨"PhaseLoadsModel", "goes", "()V"⟩, 21), (⟨"PhaseLoadsModel", "meets", "()V"⟩, 21), (⟨"PhaseLoadsModel", "bestBy", "(I)I"⟩, 21), (⟨"PhaseLoadsModel", "toldOf", "(I)I"⟩, 21)]
theorem lw_r3 : ∀ q ∈ lw_privs_3, lw_okq q := List.forall_mem_cons.mpr ⟨lw_p32, List.forall_mem_cons.mpr ⟨lw_p33, List.forall_mem_cons.mpr ⟨lw_p34, List.forall_mem_cons.mpr ⟨lw_p35, List.forall_mem_cons.mpr ⟨lw_p36, List.forall_mem_cons.mpr ⟨lw_p37, List.forall_mem_cons.mpr ⟨lw_p38, List.forall_mem_cons.mpr ⟨lw_p39, List.forall_mem_cons.mpr ⟨lw_p40, List.forall_mem_cons.mpr ⟨lw_p41, List.forall_mem_cons.mpr ⟨lw_p42, List.forall_mem_cons.mpr ⟨lw_p43, List.forall_mem_cons.mpr ⟨lw_p44, List.forall_mem_cons.mpr ⟨lw_p45, List.forall_mem_cons.mpr ⟨lw_p46, fun _ h => absurd h List.not_mem_nil⟩⟩⟩⟩⟩⟩⟩⟩⟩⟩⟩⟩⟩⟩⟩
def lw_privs : List (MethodName × Nat) := lw_privs_1 ++ (lw_privs_2 ++ (lw_privs_3))
def lw_tbl : List Cond := k2_sels lw_privs ++ tables_1
theorem lw_privs_ok : ∀ q ∈ lw_privs, lw_okq q := by
  show ∀ q ∈ lw_privs_1 ++ (lw_privs_2 ++ (lw_privs_3)), lw_okq q
  exact List.forall_mem_append.mpr ⟨lw_r1, List.forall_mem_append.mpr ⟨lw_r2, lw_r3⟩⟩
end
section
def RX0 : String := "PhaseLoads$Layings"
def TX0 : u_T := fun k => match k with
  | 0 => ("PhaseLoads$Layings", "least", "[I", true)
  | 1 => ("PhaseLoads$Layings", "first", "[I", true)
  | 2 => ("PhaseLoads$Layings", "alike", "I", false)
  | 3 => ("PhaseLoads$Layings", "street", "LPhaseLoads$Street;", true)
  | 4 => ("PhaseLoads$Layings", "laid", "[I", true)
  | 5 => ("PhaseLoads$Layings", "takings", "[I", true)
  | 6 => ("PhaseLoads$Layings", "products", "[I", true)
  | 7 => ("PhaseLoads$Layings", "met", "[I", true)
  | 8 => ("PhaseLoads$Layings", "loads", "[I", true)
  | 9 => ("PhaseLoads$Layings", "tightHours", "[I", true)
  | 10 => ("PhaseLoads$Layings", "tight", "I", false)
  | 11 => ("PhaseLoads$Layings", "total", "I", false)
  | 12 => ("PhaseLoads$Layings", "leastOfAll", "I", false)
  | _ => ("PhaseLoads$Layings", "found", "Z", false)
def tyX0 : Nat → FieldType := fun k => match k with
  | 0 => .array .int
  | 1 => .array .int
  | 2 => .int
  | 3 => .object "PhaseLoads$Street"
  | 4 => .array .int
  | 5 => .array .int
  | 6 => .array .int
  | 7 => .array .int
  | 8 => .array .int
  | 9 => .array .int
  | 10 => .int
  | 11 => .int
  | 12 => .int
  | _ => .boolean
abbrev wsX00 : List Cond := u_ws RX0 TX0 14
theorem nmX0 : ∀ a, a < 14 → ∀ b, b < 14 → a ≠ b → (TX0 a).2.1 ≠ (TX0 b).2.1 := by decide +kernel
theorem tyX0_ok : ∀ k, k < 14 → parseFieldDescriptor (TX0 k).2.2.1 = some (tyX0 k) := by decide +kernel
abbrev cX0_init : ByteArray := prog_2_method_1_code
def yX0_init : MethodName := ⟨RX0, "<init>", "(LPhaseLoads$Street;)V"⟩
abbrev cX0_forget : ByteArray := prog_2_method_2_code
def yX0_forget : MethodName := ⟨RX0, "forget", "()V"⟩
abbrev cX0_changesOfBest : ByteArray := prog_2_method_3_code
def yX0_changesOfBest : MethodName := ⟨RX0, "changesOfBest", "(I)I"⟩
abbrev cX0_fewestChangesFor : ByteArray := prog_2_method_4_code
def yX0_fewestChangesFor : MethodName := ⟨RX0, "fewestChangesFor", "(I)I"⟩
abbrev cX0_countAll : ByteArray := prog_2_method_5_code
def yX0_countAll : MethodName := ⟨RX0, "countAll", "()I"⟩
abbrev cX0_findAll : ByteArray := prog_2_method_6_code
def yX0_findAll : MethodName := ⟨RX0, "findAll", "()V"⟩
abbrev cX0_readTakings : ByteArray := prog_2_method_7_code
def yX0_readTakings : MethodName := ⟨RX0, "readTakings", "()V"⟩
abbrev cX0_findTightHours : ByteArray := prog_2_method_8_code
def yX0_findTightHours : MethodName := ⟨RX0, "findTightHours", "()V"⟩
abbrev cX0_multiplyTakings : ByteArray := prog_2_method_9_code
def yX0_multiplyTakings : MethodName := ⟨RX0, "multiplyTakings", "()V"⟩
abbrev cX0_product : ByteArray := prog_2_method_10_code
def yX0_product : MethodName := ⟨RX0, "product", "(II)I"⟩
abbrev cX0_griefApart : ByteArray := prog_2_method_11_code
def yX0_griefApart : MethodName := ⟨RX0, "griefApart", "()I"⟩
abbrev cX0_place : ByteArray := prog_2_method_12_code
def yX0_place : MethodName := ⟨RX0, "place", "(III)V"⟩
abbrev cX0_meetEarlier : ByteArray := prog_2_method_13_code
def yX0_meetEarlier : MethodName := ⟨RX0, "meetEarlier", "(I)V"⟩
abbrev cX0_mayLie : ByteArray := prog_2_method_14_code
def yX0_mayLie : MethodName := ⟨RX0, "mayLie", "(II)Z"⟩
abbrev cX0_addLoads : ByteArray := prog_2_method_15_code
def yX0_addLoads : MethodName := ⟨RX0, "addLoads", "(III)V"⟩
abbrev cX0_isLaidSafe : ByteArray := prog_2_method_16_code
def yX0_isLaidSafe : MethodName := ⟨RX0, "isLaidSafe", "()Z"⟩
abbrev cX0_count : ByteArray := prog_2_method_17_code
def yX0_count : MethodName := ⟨RX0, "count", "(II)V"⟩
def RX1 : String := "PhaseLoads$Steps"
def TX1 : u_T := fun k => match k with
  | 0 => ("PhaseLoads$Steps", "found", "Z", false)
  | 1 => ("PhaseLoads$Steps", "grief", "I", false)
  | 2 => ("PhaseLoads$Steps", "kind", "I", false)
  | 3 => ("PhaseLoads$Steps", "house", "I", false)
  | 4 => ("PhaseLoads$Steps", "other", "I", false)
  | _ => ("PhaseLoads$Steps", "street", "LPhaseLoads$Street;", true)
def tyX1 : Nat → FieldType := fun k => match k with
  | 0 => .boolean
  | 1 => .int
  | 2 => .int
  | 3 => .int
  | 4 => .int
  | _ => .object "PhaseLoads$Street"
abbrev wsX10 : List Cond := u_ws RX1 TX1 6
theorem nmX1 : ∀ a, a < 6 → ∀ b, b < 6 → a ≠ b → (TX1 a).2.1 ≠ (TX1 b).2.1 := by decide +kernel
theorem tyX1_ok : ∀ k, k < 6 → parseFieldDescriptor (TX1 k).2.2.1 = some (tyX1 k) := by decide +kernel
abbrev cX1_init : ByteArray := prog_3_method_1_code
def yX1_init : MethodName := ⟨RX1, "<init>", "(LPhaseLoads$Street;)V"⟩
abbrev cX1_find : ByteArray := prog_3_method_2_code
def yX1_find : MethodName := ⟨RX1, "find", "()V"⟩
abbrev cX1_lessens : ByteArray := prog_3_method_3_code
def yX1_lessens : MethodName := ⟨RX1, "lessens", "()Z"⟩
abbrev cX1_take : ByteArray := prog_3_method_4_code
def yX1_take : MethodName := ⟨RX1, "take", "()V"⟩
abbrev cX1_isFree : ByteArray := prog_3_method_5_code
def yX1_isFree : MethodName := ⟨RX1, "isFree", "(I)Z"⟩
abbrev cX1_tryChanges : ByteArray := prog_3_method_6_code
def yX1_tryChanges : MethodName := ⟨RX1, "tryChanges", "(I)V"⟩
abbrev cX1_trySwaps : ByteArray := prog_3_method_7_code
def yX1_trySwaps : MethodName := ⟨RX1, "trySwaps", "(I)V"⟩
abbrev cX1_compare : ByteArray := prog_3_method_8_code
def yX1_compare : MethodName := ⟨RX1, "compare", "(III)V"⟩
def RX2 : String := "PhaseLoads$Street"
def TX2 : u_T := fun k => match k with
  | 0 => ("PhaseLoads$Street", "sorts", "[I", true)
  | 1 => ("PhaseLoads$Street", "sizes", "[I", true)
  | 2 => ("PhaseLoads$Street", "phases", "[I", true)
  | 3 => ("PhaseLoads$Street", "fixed", "[I", true)
  | 4 => ("PhaseLoads$Street", "leastTied", "[I", true)
  | 5 => ("PhaseLoads$Street", "pairHouse", "[I", true)
  | 6 => ("PhaseLoads$Street", "pairOther", "[I", true)
  | 7 => ("PhaseLoads$Street", "weights", "[I", true)
  | 8 => ("PhaseLoads$Street", "loads", "[I", true)
  | 9 => ("PhaseLoads$Street", "houses", "I", false)
  | 10 => ("PhaseLoads$Street", "pairs", "I", false)
  | _ => ("PhaseLoads$Street", "fuse", "I", false)
def tyX2 : Nat → FieldType := fun k => match k with
  | 0 => .array .int
  | 1 => .array .int
  | 2 => .array .int
  | 3 => .array .int
  | 4 => .array .int
  | 5 => .array .int
  | 6 => .array .int
  | 7 => .array .int
  | 8 => .array .int
  | 9 => .int
  | 10 => .int
  | _ => .int
abbrev wsX20 : List Cond := u_ws RX2 TX2 12
theorem nmX2 : ∀ a, a < 12 → ∀ b, b < 12 → a ≠ b → (TX2 a).2.1 ≠ (TX2 b).2.1 := by decide +kernel
theorem tyX2_ok : ∀ k, k < 12 → parseFieldDescriptor (TX2 k).2.2.1 = some (tyX2 k) := by decide +kernel
abbrev cX2_init : ByteArray := prog_4_method_1_code
def yX2_init : MethodName := ⟨RX2, "<init>", "()V"⟩
abbrev cX2_resetLimits : ByteArray := prog_4_method_2_code
def yX2_resetLimits : MethodName := ⟨RX2, "resetLimits", "()V"⟩
abbrev cX2_addHouse : ByteArray := prog_4_method_3_code
def yX2_addHouse : MethodName := ⟨RX2, "addHouse", "(III)I"⟩
abbrev cX2_dropHouses : ByteArray := prog_4_method_4_code
def yX2_dropHouses : MethodName := ⟨RX2, "dropHouses", "()V"⟩
abbrev cX2_setHouse : ByteArray := prog_4_method_5_code
def yX2_setHouse : MethodName := ⟨RX2, "setHouse", "(III)I"⟩
abbrev cX2_setPhase : ByteArray := prog_4_method_6_code
def yX2_setPhase : MethodName := ⟨RX2, "setPhase", "(II)V"⟩
abbrev cX2_swapPhases : ByteArray := prog_4_method_7_code
def yX2_swapPhases : MethodName := ⟨RX2, "swapPhases", "(II)V"⟩
abbrev cX2_addLoads : ByteArray := prog_4_method_8_code
def yX2_addLoads : MethodName := ⟨RX2, "addLoads", "(II)V"⟩
abbrev cX2_addPair : ByteArray := prog_4_method_9_code
def yX2_addPair : MethodName := ⟨RX2, "addPair", "(II)V"⟩
abbrev cX2_dropPairs : ByteArray := prog_4_method_10_code
def yX2_dropPairs : MethodName := ⟨RX2, "dropPairs", "()V"⟩
abbrev cX2_isTied : ByteArray := prog_4_method_11_code
def yX2_isTied : MethodName := ⟨RX2, "isTied", "(I)Z"⟩
abbrev cX2_fixedBits : ByteArray := prog_4_method_12_code
def yX2_fixedBits : MethodName := ⟨RX2, "fixedBits", "()I"⟩
abbrev cX2_packedPhases : ByteArray := prog_4_method_13_code
def yX2_packedPhases : MethodName := ⟨RX2, "packedPhases", "()I"⟩
abbrev cX2_layPacked : ByteArray := prog_4_method_14_code
def yX2_layPacked : MethodName := ⟨RX2, "layPacked", "(I)V"⟩
abbrev cX2_takenBy : ByteArray := prog_4_method_15_code
def yX2_takenBy : MethodName := ⟨RX2, "takenBy", "(II)I"⟩
abbrev cX2_loadOf : ByteArray := prog_4_method_16_code
def yX2_loadOf : MethodName := ⟨RX2, "loadOf", "(II)I"⟩
abbrev cX2_neutralOf : ByteArray := prog_4_method_17_code
def yX2_neutralOf : MethodName := ⟨RX2, "neutralOf", "(I)I"⟩
abbrev cX2_griefNow : ByteArray := prog_4_method_18_code
def yX2_griefNow : MethodName := ⟨RX2, "griefNow", "()I"⟩
abbrev cX2_isSafe : ByteArray := prog_4_method_19_code
def yX2_isSafe : MethodName := ⟨RX2, "isSafe", "()Z"⟩
abbrev cX2_keepsTies : ByteArray := prog_4_method_20_code
def yX2_keepsTies : MethodName := ⟨RX2, "keepsTies", "()Z"⟩
abbrev cX2_hourOfGreatestNeutral : ByteArray := prog_4_method_21_code
def yX2_hourOfGreatestNeutral : MethodName := ⟨RX2, "hourOfGreatestNeutral", "()I"⟩
abbrev cX2_greatestLoad : ByteArray := prog_4_method_22_code
def yX2_greatestLoad : MethodName := ⟨RX2, "greatestLoad", "()I"⟩
def RX3 : String := "PhaseLoads$Undos"
def TX3 : u_T := fun k => match k with
  | 0 => ("PhaseLoads$Undos", "count", "I", false)
  | _ => ("PhaseLoads$Undos", "layingsAhead", "[I", true)
def tyX3 : Nat → FieldType := fun k => match k with
  | 0 => .int
  | _ => .array .int
abbrev wsX30 : List Cond := u_ws RX3 TX3 2
theorem nmX3 : ∀ a, a < 2 → ∀ b, b < 2 → a ≠ b → (TX3 a).2.1 ≠ (TX3 b).2.1 := by decide +kernel
theorem tyX3_ok : ∀ k, k < 2 → parseFieldDescriptor (TX3 k).2.2.1 = some (tyX3 k) := by decide +kernel
abbrev cX3_init : ByteArray := prog_5_method_1_code
def yX3_init : MethodName := ⟨RX3, "<init>", "()V"⟩
abbrev cX3_keep : ByteArray := prog_5_method_2_code
def yX3_keep : MethodName := ⟨RX3, "keep", "(I)V"⟩
abbrev cX3_takeLast : ByteArray := prog_5_method_3_code
def yX3_takeLast : MethodName := ⟨RX3, "takeLast", "()I"⟩
def RX4 : String := "PhaseLoads"
def TX4 : u_T := fun k => match k with
  | 0 => ("PhaseLoads", "street", "LPhaseLoads$Street;", true)
  | 1 => ("PhaseLoads", "layings", "LPhaseLoads$Layings;", true)
  | 2 => ("PhaseLoads", "steps", "LPhaseLoads$Steps;", true)
  | 3 => ("PhaseLoads", "undos", "LPhaseLoads$Undos;", true)
  | 4 => ("PhaseLoads", "bads", "I", false)
  | 5 => ("PhaseLoads", "noes", "I", false)
  | _ => ("PhaseLoads", "fulls", "I", false)
def tyX4 : Nat → FieldType := fun k => match k with
  | 0 => .object "PhaseLoads$Street"
  | 1 => .object "PhaseLoads$Layings"
  | 2 => .object "PhaseLoads$Steps"
  | 3 => .object "PhaseLoads$Undos"
  | 4 => .int
  | 5 => .int
  | _ => .int
abbrev wsX40 : List Cond := u_ws RX4 TX4 7
theorem nmX4 : ∀ a, a < 7 → ∀ b, b < 7 → a ≠ b → (TX4 a).2.1 ≠ (TX4 b).2.1 := by decide +kernel
theorem tyX4_ok : ∀ k, k < 7 → parseFieldDescriptor (TX4 k).2.2.1 = some (tyX4 k) := by decide +kernel
abbrev cX4_init : ByteArray := prog_1_method_1_code
def yX4_init : MethodName := ⟨RX4, "<init>", "()V"⟩
abbrev cX4_house : ByteArray := prog_1_method_2_code
def yX4_house : MethodName := ⟨RX4, "house", "(III)I"⟩
abbrev cX4_sets : ByteArray := prog_1_method_3_code
def yX4_sets : MethodName := ⟨RX4, "sets", "(III)I"⟩
abbrev cX4_weight : ByteArray := prog_1_method_4_code
def yX4_weight : MethodName := ⟨RX4, "weight", "(II)I"⟩
abbrev cX4_fuse : ByteArray := prog_1_method_5_code
def yX4_fuse : MethodName := ⟨RX4, "fuse", "(I)I"⟩
abbrev cX4_tie : ByteArray := prog_1_method_6_code
def yX4_tie : MethodName := ⟨RX4, "tie", "(II)I"⟩
abbrev cX4_loosens : ByteArray := prog_1_method_7_code
def yX4_loosens : MethodName := ⟨RX4, "loosens", "()I"⟩
abbrev cX4_anew : ByteArray := prog_1_method_8_code
def yX4_anew : MethodName := ⟨RX4, "anew", "()I"⟩
abbrev cX4_draw : ByteArray := prog_1_method_9_code
def yX4_draw : MethodName := ⟨RX4, "draw", "(II)I"⟩
abbrev cX4_of : ByteArray := prog_1_method_10_code
def yX4_of : MethodName := ⟨RX4, "of", "(II)I"⟩
abbrev cX4_takes : ByteArray := prog_1_method_11_code
def yX4_takes : MethodName := ⟨RX4, "takes", "(II)I"⟩
abbrev cX4_load : ByteArray := prog_1_method_12_code
def yX4_load : MethodName := ⟨RX4, "load", "(II)I"⟩
abbrev cX4_neutral : ByteArray := prog_1_method_13_code
def yX4_neutral : MethodName := ⟨RX4, "neutral", "(I)I"⟩
abbrev cX4_grief : ByteArray := prog_1_method_14_code
def yX4_grief : MethodName := ⟨RX4, "grief", "()I"⟩
abbrev cX4_good : ByteArray := prog_1_method_15_code
def yX4_good : MethodName := ⟨RX4, "good", "(I)I"⟩
abbrev cX4_worst : ByteArray := prog_1_method_16_code
def yX4_worst : MethodName := ⟨RX4, "worst", "(I)I"⟩
abbrev cX4_change : ByteArray := prog_1_method_17_code
def yX4_change : MethodName := ⟨RX4, "change", "(II)I"⟩
abbrev cX4_swap : ByteArray := prog_1_method_18_code
def yX4_swap : MethodName := ⟨RX4, "swap", "(II)I"⟩
abbrev cX4_step : ByteArray := prog_1_method_19_code
def yX4_step : MethodName := ⟨RX4, "step", "()I"⟩
abbrev cX4_down : ByteArray := prog_1_method_20_code
def yX4_down : MethodName := ⟨RX4, "down", "()I"⟩
abbrev cX4_lay : ByteArray := prog_1_method_21_code
def yX4_lay : MethodName := ⟨RX4, "lay", "()I"⟩
abbrev cX4_undo : ByteArray := prog_1_method_22_code
def yX4_undo : MethodName := ⟨RX4, "undo", "()I"⟩
abbrev cX4_best : ByteArray := prog_1_method_23_code
def yX4_best : MethodName := ⟨RX4, "best", "(I)I"⟩
abbrev cX4_phase : ByteArray := prog_1_method_24_code
def yX4_phase : MethodName := ⟨RX4, "phase", "(I)I"⟩
abbrev cX4_by : ByteArray := prog_1_method_25_code
def yX4_by : MethodName := ⟨RX4, "by", "(I)I"⟩
abbrev cX4_fewest : ByteArray := prog_1_method_26_code
def yX4_fewest : MethodName := ⟨RX4, "fewest", "(I)I"⟩
abbrev cX4_many : ByteArray := prog_1_method_27_code
def yX4_many : MethodName := ⟨RX4, "many", "()I"⟩
abbrev cX4_next : ByteArray := prog_1_method_28_code
def yX4_next : MethodName := ⟨RX4, "next", "(I)I"⟩
abbrev cX4_told : ByteArray := prog_1_method_29_code
def yX4_told : MethodName := ⟨RX4, "told", "(I)I"⟩
abbrev cX4_digest : ByteArray := prog_1_method_30_code
def yX4_digest : MethodName := ⟨RX4, "digest", "()J"⟩
abbrev cX4_toldOf : ByteArray := prog_1_method_31_code
def yX4_toldOf : MethodName := ⟨RX4, "toldOf", "(I)I"⟩
abbrev cX4_refuse : ByteArray := prog_1_method_32_code
def yX4_refuse : MethodName := ⟨RX4, "refuse", "(I)I"⟩
abbrev cX4_streetChanges : ByteArray := prog_1_method_33_code
def yX4_streetChanges : MethodName := ⟨RX4, "streetChanges", "()V"⟩
abbrev cX4_phasesChange : ByteArray := prog_1_method_34_code
def yX4_phasesChange : MethodName := ⟨RX4, "phasesChange", "()V"⟩
abbrev cX4_isHouse : ByteArray := prog_1_method_35_code
def yX4_isHouse : MethodName := ⟨RX4, "isHouse", "(I)Z"⟩
abbrev cX4_areTwoHouses : ByteArray := prog_1_method_36_code
def yX4_areTwoHouses : MethodName := ⟨RX4, "areTwoHouses", "(II)Z"⟩
abbrev cX4_isSetting : ByteArray := prog_1_method_37_code
def yX4_isSetting : MethodName := ⟨RX4, "isSetting", "(II)Z"⟩
abbrev cX4_isSort : ByteArray := prog_1_method_38_code
def yX4_isSort : MethodName := ⟨RX4, "isSort", "(I)Z"⟩
abbrev cX4_isSize : ByteArray := prog_1_method_39_code
def yX4_isSize : MethodName := ⟨RX4, "isSize", "(I)Z"⟩
abbrev cX4_isPhase : ByteArray := prog_1_method_40_code
def yX4_isPhase : MethodName := ⟨RX4, "isPhase", "(I)Z"⟩
abbrev cX4_isHour : ByteArray := prog_1_method_41_code
def yX4_isHour : MethodName := ⟨RX4, "isHour", "(I)Z"⟩
abbrev cX4_isIn : ByteArray := prog_1_method_42_code
def yX4_isIn : MethodName := ⟨RX4, "isIn", "(III)Z"⟩
abbrev cX4_phaseIn : ByteArray := prog_1_method_43_code
def yX4_phaseIn : MethodName := ⟨RX4, "phaseIn", "(II)I"⟩
abbrev cX4_pack : ByteArray := prog_1_method_44_code
def yX4_pack : MethodName := ⟨RX4, "pack", "([II)I"⟩
def RX5 : String := "PhaseLoadsModel"
def TX5 : u_T := fun k => match k with
  | 0 => ("PhaseLoadsModel", "sorts", "[I", true)
  | 1 => ("PhaseLoadsModel", "sizes", "[I", true)
  | 2 => ("PhaseLoadsModel", "phases", "[I", true)
  | 3 => ("PhaseLoadsModel", "fixed", "[I", true)
  | 4 => ("PhaseLoadsModel", "houses", "I", false)
  | 5 => ("PhaseLoadsModel", "weights", "[I", true)
  | 6 => ("PhaseLoadsModel", "fuse", "I", false)
  | 7 => ("PhaseLoadsModel", "ties", "[I", true)
  | 8 => ("PhaseLoadsModel", "pairs", "I", false)
  | 9 => ("PhaseLoadsModel", "past", "[I", true)
  | 10 => ("PhaseLoadsModel", "known", "I", false)
  | 11 => ("PhaseLoadsModel", "refused", "[I", true)
  | 12 => ("PhaseLoadsModel", "taken", "[I", true)
  | 13 => ("PhaseLoadsModel", "loads", "[I", true)
  | 14 => ("PhaseLoadsModel", "now", "[I", true)
  | 15 => ("PhaseLoadsModel", "best", "[I", true)
  | 16 => ("PhaseLoadsModel", "griefs", "[I", true)
  | 17 => ("PhaseLoadsModel", "all", "I", false)
  | 18 => ("PhaseLoadsModel", "least", "I", false)
  | 19 => ("PhaseLoadsModel", "alike", "I", false)
  | _ => ("PhaseLoadsModel", "found", "[I", true)
def tyX5 : Nat → FieldType := fun k => match k with
  | 0 => .array .int
  | 1 => .array .int
  | 2 => .array .int
  | 3 => .array .int
  | 4 => .int
  | 5 => .array .int
  | 6 => .int
  | 7 => .array .int
  | 8 => .int
  | 9 => .array .int
  | 10 => .int
  | 11 => .array .int
  | 12 => .array .int
  | 13 => .array .int
  | 14 => .array .int
  | 15 => .array .int
  | 16 => .array .int
  | 17 => .int
  | 18 => .int
  | 19 => .int
  | _ => .array .int
abbrev wsX50 : List Cond := u_ws RX5 TX5 21
theorem nmX5 : ∀ a, a < 21 → ∀ b, b < 21 → a ≠ b → (TX5 a).2.1 ≠ (TX5 b).2.1 := by decide +kernel
theorem tyX5_ok : ∀ k, k < 21 → parseFieldDescriptor (TX5 k).2.2.1 = some (tyX5 k) := by decide +kernel
abbrev cX5_init : ByteArray := prog_7_method_1_code
def yX5_init : MethodName := ⟨RX5, "<init>", "()V"⟩
abbrev cX5_in : ByteArray := prog_7_method_3_code
def yX5_in : MethodName := ⟨RX5, "in", "(III)Z"⟩
abbrev cX5_refuses : ByteArray := prog_7_method_4_code
def yX5_refuses : MethodName := ⟨RX5, "refuses", "(I)I"⟩
abbrev cX5_isHouse : ByteArray := prog_7_method_5_code
def yX5_isHouse : MethodName := ⟨RX5, "isHouse", "(I)Z"⟩
abbrev cX5_isHour : ByteArray := prog_7_method_6_code
def yX5_isHour : MethodName := ⟨RX5, "isHour", "(I)Z"⟩
abbrev cX5_house : ByteArray := prog_7_method_7_code
def yX5_house : MethodName := ⟨RX5, "house", "(III)I"⟩
abbrev cX5_sets : ByteArray := prog_7_method_8_code
def yX5_sets : MethodName := ⟨RX5, "sets", "(III)I"⟩
abbrev cX5_weight : ByteArray := prog_7_method_9_code
def yX5_weight : MethodName := ⟨RX5, "weight", "(II)I"⟩
abbrev cX5_fuse : ByteArray := prog_7_method_10_code
def yX5_fuse : MethodName := ⟨RX5, "fuse", "(I)I"⟩
abbrev cX5_leastOf : ByteArray := prog_7_method_11_code
def yX5_leastOf : MethodName := ⟨RX5, "leastOf", "(I)I"⟩
abbrev cX5_isTied : ByteArray := prog_7_method_12_code
def yX5_isTied : MethodName := ⟨RX5, "isTied", "(I)Z"⟩
abbrev cX5_tie : ByteArray := prog_7_method_13_code
def yX5_tie : MethodName := ⟨RX5, "tie", "(II)I"⟩
abbrev cX5_loosens : ByteArray := prog_7_method_14_code
def yX5_loosens : MethodName := ⟨RX5, "loosens", "()I"⟩
abbrev cX5_anew : ByteArray := prog_7_method_15_code
def yX5_anew : MethodName := ⟨RX5, "anew", "()I"⟩
abbrev cX5_draw : ByteArray := prog_7_method_16_code
def yX5_draw : MethodName := ⟨RX5, "draw", "(II)I"⟩
abbrev cX5_of : ByteArray := prog_7_method_17_code
def yX5_of : MethodName := ⟨RX5, "of", "(II)I"⟩
abbrev cX5_takesOf : ByteArray := prog_7_method_18_code
def yX5_takesOf : MethodName := ⟨RX5, "takesOf", "(II)I"⟩
abbrev cX5_takes : ByteArray := prog_7_method_19_code
def yX5_takes : MethodName := ⟨RX5, "takes", "(II)I"⟩
abbrev cX5_table : ByteArray := prog_7_method_20_code
def yX5_table : MethodName := ⟨RX5, "table", "()V"⟩
abbrev cX5_loadsNow : ByteArray := prog_7_method_21_code
def yX5_loadsNow : MethodName := ⟨RX5, "loadsNow", "()V"⟩
abbrev cX5_asIs : ByteArray := prog_7_method_22_code
def yX5_asIs : MethodName := ⟨RX5, "asIs", "()V"⟩
abbrev cX5_neutralNow : ByteArray := prog_7_method_23_code
def yX5_neutralNow : MethodName := ⟨RX5, "neutralNow", "(I)I"⟩
abbrev cX5_griefNow : ByteArray := prog_7_method_24_code
def yX5_griefNow : MethodName := ⟨RX5, "griefNow", "()I"⟩
abbrev cX5_isSafe : ByteArray := prog_7_method_25_code
def yX5_isSafe : MethodName := ⟨RX5, "isSafe", "()Z"⟩
abbrev cX5_isKept : ByteArray := prog_7_method_26_code
def yX5_isKept : MethodName := ⟨RX5, "isKept", "()Z"⟩
abbrev cX5_load : ByteArray := prog_7_method_27_code
def yX5_load : MethodName := ⟨RX5, "load", "(II)I"⟩
abbrev cX5_neutral : ByteArray := prog_7_method_28_code
def yX5_neutral : MethodName := ⟨RX5, "neutral", "(I)I"⟩
abbrev cX5_griefOf : ByteArray := prog_7_method_29_code
def yX5_griefOf : MethodName := ⟨RX5, "griefOf", "()I"⟩
abbrev cX5_grief : ByteArray := prog_7_method_30_code
def yX5_grief : MethodName := ⟨RX5, "grief", "()I"⟩
abbrev cX5_good : ByteArray := prog_7_method_31_code
def yX5_good : MethodName := ⟨RX5, "good", "(I)I"⟩
abbrev cX5_size : ByteArray := prog_7_method_32_code
def yX5_size : MethodName := ⟨RX5, "size", "(I)I"⟩
abbrev cX5_worst : ByteArray := prog_7_method_33_code
def yX5_worst : MethodName := ⟨RX5, "worst", "(I)I"⟩
abbrev cX5_keeps : ByteArray := prog_7_method_34_code
def yX5_keeps : MethodName := ⟨RX5, "keeps", "()V"⟩
abbrev cX5_change : ByteArray := prog_7_method_35_code
def yX5_change : MethodName := ⟨RX5, "change", "(II)I"⟩
abbrev cX5_swaps : ByteArray := prog_7_method_36_code
def yX5_swaps : MethodName := ⟨RX5, "swaps", "(II)V"⟩
abbrev cX5_swap : ByteArray := prog_7_method_37_code
def yX5_swap : MethodName := ⟨RX5, "swap", "(II)I"⟩
abbrev cX5_isFree : ByteArray := prog_7_method_38_code
def yX5_isFree : MethodName := ⟨RX5, "isFree", "(I)Z"⟩
abbrev cX5_looks : ByteArray := prog_7_method_39_code
def yX5_looks : MethodName := ⟨RX5, "looks", "(III)V"⟩
abbrev cX5_finds : ByteArray := prog_7_method_40_code
def yX5_finds : MethodName := ⟨RX5, "finds", "()Z"⟩
abbrev cX5_lessens : ByteArray := prog_7_method_41_code
def yX5_lessens : MethodName := ⟨RX5, "lessens", "()Z"⟩
abbrev cX5_steps : ByteArray := prog_7_method_42_code
def yX5_steps : MethodName := ⟨RX5, "steps", "()V"⟩
abbrev cX5_step : ByteArray := prog_7_method_43_code
def yX5_step : MethodName := ⟨RX5, "step", "()I"⟩
abbrev cX5_down : ByteArray := prog_7_method_44_code
def yX5_down : MethodName := ⟨RX5, "down", "()I"⟩
abbrev cX5_undo : ByteArray := prog_7_method_45_code
def yX5_undo : MethodName := ⟨RX5, "undo", "()I"⟩
abbrev cX5_goes : ByteArray := prog_7_method_46_code
def yX5_goes : MethodName := ⟨RX5, "goes", "()V"⟩
abbrev cX5_meets : ByteArray := prog_7_method_47_code
def yX5_meets : MethodName := ⟨RX5, "meets", "()V"⟩
abbrev cX5_bestBy : ByteArray := prog_7_method_48_code
def yX5_bestBy : MethodName := ⟨RX5, "bestBy", "(I)I"⟩
abbrev cX5_lay : ByteArray := prog_7_method_49_code
def yX5_lay : MethodName := ⟨RX5, "lay", "()I"⟩
abbrev cX5_best : ByteArray := prog_7_method_50_code
def yX5_best : MethodName := ⟨RX5, "best", "(I)I"⟩
abbrev cX5_phase : ByteArray := prog_7_method_51_code
def yX5_phase : MethodName := ⟨RX5, "phase", "(I)I"⟩
abbrev cX5_by : ByteArray := prog_7_method_52_code
def yX5_by : MethodName := ⟨RX5, "by", "(I)I"⟩
abbrev cX5_fewest : ByteArray := prog_7_method_53_code
def yX5_fewest : MethodName := ⟨RX5, "fewest", "(I)I"⟩
abbrev cX5_many : ByteArray := prog_7_method_54_code
def yX5_many : MethodName := ⟨RX5, "many", "()I"⟩
abbrev cX5_next : ByteArray := prog_7_method_55_code
def yX5_next : MethodName := ⟨RX5, "next", "(I)I"⟩
abbrev cX5_toldOf : ByteArray := prog_7_method_56_code
def yX5_toldOf : MethodName := ⟨RX5, "toldOf", "(I)I"⟩
abbrev cX5_told : ByteArray := prog_7_method_57_code
def yX5_told : MethodName := ⟨RX5, "told", "(I)I"⟩
abbrev cX5_digest : ByteArray := prog_7_method_58_code
def yX5_digest : MethodName := ⟨RX5, "digest", "()J"⟩
def RJ9 : String := "java/lang/Math"
def TJ9 : u_T := fun k => match k with
  | _ => ("", "", "", false)
def tyJ9 : Nat → FieldType := fun k => match k with
  | _ => .int
theorem nmJ9 : ∀ a, a < 0 → ∀ b, b < 0 → a ≠ b → (TJ9 a).2.1 ≠ (TJ9 b).2.1 := by decide +kernel
theorem tyJ9_ok : ∀ k, k < 0 → parseFieldDescriptor (TJ9 k).2.2.1 = some (tyJ9 k) := by decide +kernel
abbrev cJ9_abs_0f7a4 : ByteArray := prog_8_method_59_code
def yJ9_abs_0f7a4 : MethodName := ⟨RJ9, "abs", "(I)I"⟩
abbrev cJ9_max_7cf53 : ByteArray := prog_8_method_65_code
def yJ9_max_7cf53 : MethodName := ⟨RJ9, "max", "(II)I"⟩
abbrev cJ9_min_7cf53 : ByteArray := prog_8_method_69_code
def yJ9_min_7cf53 : MethodName := ⟨RJ9, "min", "(II)I"⟩
def RJ10 : String := "java/lang/System"
def TJ10 : u_T := fun k => match k with
  | _ => ("", "", "", false)
def tyJ10 : Nat → FieldType := fun k => match k with
  | _ => .int
theorem nmJ10 : ∀ a, a < 0 → ∀ b, b < 0 → a ≠ b → (TJ10 a).2.1 ≠ (TJ10 b).2.1 := by decide +kernel
theorem tyJ10_ok : ∀ k, k < 0 → parseFieldDescriptor (TJ10 k).2.2.1 = some (tyJ10 k) := by decide +kernel
def RJ7 : String := "java/util/Arrays"
def TJ7 : u_T := fun k => match k with
  | _ => ("", "", "", false)
def tyJ7 : Nat → FieldType := fun k => match k with
  | _ => .int
theorem nmJ7 : ∀ a, a < 0 → ∀ b, b < 0 → a ≠ b → (TJ7 a).2.1 ≠ (TJ7 b).2.1 := by decide +kernel
theorem tyJ7_ok : ∀ k, k < 0 → parseFieldDescriptor (TJ7 k).2.2.1 = some (tyJ7 k) := by decide +kernel
abbrev cJ7_fill_53178 : ByteArray := prog_10_method_103_code
def yJ7_fill_53178 : MethodName := ⟨RJ7, "fill", "([II)V"⟩
def RL : String := "PhaseLoadsLaw"
abbrev cL_law : ByteArray := code
def yL_law : MethodName := ⟨RL, "law", "([I)Z"⟩
end
section
theorem dJ7_fill_53178_0 : decode cJ7_fill_53178 0 = .ok (.iconst 0, 1) := by decide +kernel
theorem dJ7_fill_53178_1 : decode cJ7_fill_53178 1 = .ok (.istore_n 2, 1) := by decide +kernel
theorem dJ7_fill_53178_2 : decode cJ7_fill_53178 2 = .ok (.aload_n 0, 1) := by decide +kernel
theorem dJ7_fill_53178_3 : decode cJ7_fill_53178 3 = .ok (.arraylength, 1) := by decide +kernel
theorem dJ7_fill_53178_4 : decode cJ7_fill_53178 4 = .ok (.istore_n 3, 1) := by decide +kernel
theorem dJ7_fill_53178_5 : decode cJ7_fill_53178 5 = .ok (.iload_n 2, 1) := by decide +kernel
theorem dJ7_fill_53178_6 : decode cJ7_fill_53178 6 = .ok (.iload_n 3, 1) := by decide +kernel
theorem dJ7_fill_53178_7 : decode cJ7_fill_53178 7 = .ok (.if_icmp .ge 13, 3) := by decide +kernel
theorem dJ7_fill_53178_10 : decode cJ7_fill_53178 10 = .ok (.aload_n 0, 1) := by decide +kernel
theorem dJ7_fill_53178_11 : decode cJ7_fill_53178 11 = .ok (.iload_n 2, 1) := by decide +kernel
theorem dJ7_fill_53178_12 : decode cJ7_fill_53178 12 = .ok (.iload_n 1, 1) := by decide +kernel
theorem dJ7_fill_53178_13 : decode cJ7_fill_53178 13 = .ok (.iastore, 1) := by decide +kernel
theorem dJ7_fill_53178_14 : decode cJ7_fill_53178 14 = .ok (.iinc 2 1, 3) := by decide +kernel
theorem dJ7_fill_53178_17 : decode cJ7_fill_53178 17 = .ok (.goto (-12), 3) := by decide +kernel
theorem dJ7_fill_53178_20 : decode cJ7_fill_53178 20 = .ok (.return_, 1) := by decide +kernel
end
section
theorem dJ9_abs_0f7a4_0 : decode cJ9_abs_0f7a4 0 = .ok (.iload_n 0, 1) := by decide +kernel
theorem dJ9_abs_0f7a4_1 : decode cJ9_abs_0f7a4 1 = .ok (.ifCond .ge 8, 3) := by decide +kernel
theorem dJ9_abs_0f7a4_4 : decode cJ9_abs_0f7a4 4 = .ok (.iload_n 0, 1) := by decide +kernel
theorem dJ9_abs_0f7a4_5 : decode cJ9_abs_0f7a4 5 = .ok (.ineg, 1) := by decide +kernel
theorem dJ9_abs_0f7a4_6 : decode cJ9_abs_0f7a4 6 = .ok (.goto 4, 3) := by decide +kernel
theorem dJ9_abs_0f7a4_9 : decode cJ9_abs_0f7a4 9 = .ok (.iload_n 0, 1) := by decide +kernel
theorem dJ9_abs_0f7a4_10 : decode cJ9_abs_0f7a4 10 = .ok (.ireturn, 1) := by decide +kernel
theorem dJ9_max_7cf53_0 : decode cJ9_max_7cf53 0 = .ok (.iload_n 0, 1) := by decide +kernel
theorem dJ9_max_7cf53_1 : decode cJ9_max_7cf53 1 = .ok (.iload_n 1, 1) := by decide +kernel
theorem dJ9_max_7cf53_2 : decode cJ9_max_7cf53 2 = .ok (.if_icmp .lt 7, 3) := by decide +kernel
theorem dJ9_max_7cf53_5 : decode cJ9_max_7cf53 5 = .ok (.iload_n 0, 1) := by decide +kernel
theorem dJ9_max_7cf53_6 : decode cJ9_max_7cf53 6 = .ok (.goto 4, 3) := by decide +kernel
theorem dJ9_max_7cf53_9 : decode cJ9_max_7cf53 9 = .ok (.iload_n 1, 1) := by decide +kernel
theorem dJ9_max_7cf53_10 : decode cJ9_max_7cf53 10 = .ok (.ireturn, 1) := by decide +kernel
theorem dJ9_min_7cf53_0 : decode cJ9_min_7cf53 0 = .ok (.iload_n 0, 1) := by decide +kernel
theorem dJ9_min_7cf53_1 : decode cJ9_min_7cf53 1 = .ok (.iload_n 1, 1) := by decide +kernel
theorem dJ9_min_7cf53_2 : decode cJ9_min_7cf53 2 = .ok (.if_icmp .gt 7, 3) := by decide +kernel
theorem dJ9_min_7cf53_5 : decode cJ9_min_7cf53 5 = .ok (.iload_n 0, 1) := by decide +kernel
theorem dJ9_min_7cf53_6 : decode cJ9_min_7cf53 6 = .ok (.goto 4, 3) := by decide +kernel
theorem dJ9_min_7cf53_9 : decode cJ9_min_7cf53 9 = .ok (.iload_n 1, 1) := by decide +kernel
theorem dJ9_min_7cf53_10 : decode cJ9_min_7cf53 10 = .ok (.ireturn, 1) := by decide +kernel
end
section
theorem dL_law_0 : decode cL_law 0 = .ok (.new 7, 3) := by decide +kernel
theorem dL_law_3 : decode cL_law 3 = .ok (.dup, 1) := by decide +kernel
theorem dL_law_4 : decode cL_law 4 = .ok (.invokespecial 9, 3) := by decide +kernel
theorem dL_law_7 : decode cL_law 7 = .ok (.astore_n 1, 1) := by decide +kernel
theorem dL_law_8 : decode cL_law 8 = .ok (.new 10, 3) := by decide +kernel
theorem dL_law_11 : decode cL_law 11 = .ok (.dup, 1) := by decide +kernel
theorem dL_law_12 : decode cL_law 12 = .ok (.invokespecial 12, 3) := by decide +kernel
theorem dL_law_15 : decode cL_law 15 = .ok (.astore_n 2, 1) := by decide +kernel
theorem dL_law_16 : decode cL_law 16 = .ok (.iconst 0, 1) := by decide +kernel
theorem dL_law_17 : decode cL_law 17 = .ok (.istore_n 3, 1) := by decide +kernel
theorem dL_law_18 : decode cL_law 18 = .ok (.iload_n 3, 1) := by decide +kernel
theorem dL_law_19 : decode cL_law 19 = .ok (.aload_n 0, 1) := by decide +kernel
theorem dL_law_20 : decode cL_law 20 = .ok (.arraylength, 1) := by decide +kernel
theorem dL_law_21 : decode cL_law 21 = .ok (.iconst 4, 1) := by decide +kernel
theorem dL_law_22 : decode cL_law 22 = .ok (.isub, 1) := by decide +kernel
theorem dL_law_23 : decode cL_law 23 = .ok (.if_icmp .gt 845, 3) := by decide +kernel
theorem dL_law_26 : decode cL_law 26 = .ok (.aload_n 0, 1) := by decide +kernel
theorem dL_law_27 : decode cL_law 27 = .ok (.iload_n 3, 1) := by decide +kernel
theorem dL_law_28 : decode cL_law 28 = .ok (.iaload, 1) := by decide +kernel
theorem dL_law_29 : decode cL_law 29 = .ok (.bipush 31, 2) := by decide +kernel
theorem dL_law_31 : decode cL_law 31 = .ok (.iand, 1) := by decide +kernel
theorem dL_law_32 : decode cL_law 32 = .ok (.tableswitch 830 0 28 #[132, 175, 218, 251, 274, 307, 320, 333, 366, 399, 432, 465, 488, 501, 524, 547, 580, 613, 626, 639, 652, 665, 688, 711, 734, 757, 770, 793, 816], 132) := by decide +kernel
theorem dL_law_164 : decode cL_law 164 = .ok (.aload_n 1, 1) := by decide +kernel
theorem dL_law_165 : decode cL_law 165 = .ok (.aload_n 0, 1) := by decide +kernel
theorem dL_law_166 : decode cL_law 166 = .ok (.iload_n 3, 1) := by decide +kernel
theorem dL_law_167 : decode cL_law 167 = .ok (.iconst 1, 1) := by decide +kernel
theorem dL_law_168 : decode cL_law 168 = .ok (.iadd, 1) := by decide +kernel
theorem dL_law_169 : decode cL_law 169 = .ok (.iaload, 1) := by decide +kernel
theorem dL_law_170 : decode cL_law 170 = .ok (.aload_n 0, 1) := by decide +kernel
theorem dL_law_171 : decode cL_law 171 = .ok (.iload_n 3, 1) := by decide +kernel
theorem dL_law_172 : decode cL_law 172 = .ok (.iconst 2, 1) := by decide +kernel
theorem dL_law_173 : decode cL_law 173 = .ok (.iadd, 1) := by decide +kernel
theorem dL_law_174 : decode cL_law 174 = .ok (.iaload, 1) := by decide +kernel
theorem dL_law_175 : decode cL_law 175 = .ok (.aload_n 0, 1) := by decide +kernel
theorem dL_law_176 : decode cL_law 176 = .ok (.iload_n 3, 1) := by decide +kernel
theorem dL_law_177 : decode cL_law 177 = .ok (.iconst 3, 1) := by decide +kernel
theorem dL_law_178 : decode cL_law 178 = .ok (.iadd, 1) := by decide +kernel
theorem dL_law_179 : decode cL_law 179 = .ok (.iaload, 1) := by decide +kernel
theorem dL_law_180 : decode cL_law 180 = .ok (.invokevirtual 13, 3) := by decide +kernel
theorem dL_law_183 : decode cL_law 183 = .ok (.aload_n 2, 1) := by decide +kernel
theorem dL_law_184 : decode cL_law 184 = .ok (.aload_n 0, 1) := by decide +kernel
theorem dL_law_185 : decode cL_law 185 = .ok (.iload_n 3, 1) := by decide +kernel
theorem dL_law_186 : decode cL_law 186 = .ok (.iconst 1, 1) := by decide +kernel
theorem dL_law_187 : decode cL_law 187 = .ok (.iadd, 1) := by decide +kernel
theorem dL_law_188 : decode cL_law 188 = .ok (.iaload, 1) := by decide +kernel
theorem dL_law_189 : decode cL_law 189 = .ok (.aload_n 0, 1) := by decide +kernel
theorem dL_law_190 : decode cL_law 190 = .ok (.iload_n 3, 1) := by decide +kernel
theorem dL_law_191 : decode cL_law 191 = .ok (.iconst 2, 1) := by decide +kernel
theorem dL_law_192 : decode cL_law 192 = .ok (.iadd, 1) := by decide +kernel
theorem dL_law_193 : decode cL_law 193 = .ok (.iaload, 1) := by decide +kernel
theorem dL_law_194 : decode cL_law 194 = .ok (.aload_n 0, 1) := by decide +kernel
theorem dL_law_195 : decode cL_law 195 = .ok (.iload_n 3, 1) := by decide +kernel
theorem dL_law_196 : decode cL_law 196 = .ok (.iconst 3, 1) := by decide +kernel
theorem dL_law_197 : decode cL_law 197 = .ok (.iadd, 1) := by decide +kernel
theorem dL_law_198 : decode cL_law 198 = .ok (.iaload, 1) := by decide +kernel
theorem dL_law_199 : decode cL_law 199 = .ok (.invokevirtual 17, 3) := by decide +kernel
theorem dL_law_202 : decode cL_law 202 = .ok (.if_icmp .eq 660, 3) := by decide +kernel
theorem dL_law_205 : decode cL_law 205 = .ok (.iconst 0, 1) := by decide +kernel
theorem dL_law_206 : decode cL_law 206 = .ok (.ireturn, 1) := by decide +kernel
theorem dL_law_207 : decode cL_law 207 = .ok (.aload_n 1, 1) := by decide +kernel
theorem dL_law_208 : decode cL_law 208 = .ok (.aload_n 0, 1) := by decide +kernel
theorem dL_law_209 : decode cL_law 209 = .ok (.iload_n 3, 1) := by decide +kernel
theorem dL_law_210 : decode cL_law 210 = .ok (.iconst 1, 1) := by decide +kernel
theorem dL_law_211 : decode cL_law 211 = .ok (.iadd, 1) := by decide +kernel
theorem dL_law_212 : decode cL_law 212 = .ok (.iaload, 1) := by decide +kernel
theorem dL_law_213 : decode cL_law 213 = .ok (.aload_n 0, 1) := by decide +kernel
theorem dL_law_214 : decode cL_law 214 = .ok (.iload_n 3, 1) := by decide +kernel
theorem dL_law_215 : decode cL_law 215 = .ok (.iconst 2, 1) := by decide +kernel
theorem dL_law_216 : decode cL_law 216 = .ok (.iadd, 1) := by decide +kernel
theorem dL_law_217 : decode cL_law 217 = .ok (.iaload, 1) := by decide +kernel
theorem dL_law_218 : decode cL_law 218 = .ok (.aload_n 0, 1) := by decide +kernel
theorem dL_law_219 : decode cL_law 219 = .ok (.iload_n 3, 1) := by decide +kernel
theorem dL_law_220 : decode cL_law 220 = .ok (.iconst 3, 1) := by decide +kernel
theorem dL_law_221 : decode cL_law 221 = .ok (.iadd, 1) := by decide +kernel
theorem dL_law_222 : decode cL_law 222 = .ok (.iaload, 1) := by decide +kernel
theorem dL_law_223 : decode cL_law 223 = .ok (.invokevirtual 18, 3) := by decide +kernel
theorem dL_law_226 : decode cL_law 226 = .ok (.aload_n 2, 1) := by decide +kernel
theorem dL_law_227 : decode cL_law 227 = .ok (.aload_n 0, 1) := by decide +kernel
theorem dL_law_228 : decode cL_law 228 = .ok (.iload_n 3, 1) := by decide +kernel
theorem dL_law_229 : decode cL_law 229 = .ok (.iconst 1, 1) := by decide +kernel
theorem dL_law_230 : decode cL_law 230 = .ok (.iadd, 1) := by decide +kernel
theorem dL_law_231 : decode cL_law 231 = .ok (.iaload, 1) := by decide +kernel
theorem dL_law_232 : decode cL_law 232 = .ok (.aload_n 0, 1) := by decide +kernel
theorem dL_law_233 : decode cL_law 233 = .ok (.iload_n 3, 1) := by decide +kernel
theorem dL_law_234 : decode cL_law 234 = .ok (.iconst 2, 1) := by decide +kernel
theorem dL_law_235 : decode cL_law 235 = .ok (.iadd, 1) := by decide +kernel
theorem dL_law_236 : decode cL_law 236 = .ok (.iaload, 1) := by decide +kernel
theorem dL_law_237 : decode cL_law 237 = .ok (.aload_n 0, 1) := by decide +kernel
theorem dL_law_238 : decode cL_law 238 = .ok (.iload_n 3, 1) := by decide +kernel
theorem dL_law_239 : decode cL_law 239 = .ok (.iconst 3, 1) := by decide +kernel
theorem dL_law_240 : decode cL_law 240 = .ok (.iadd, 1) := by decide +kernel
theorem dL_law_241 : decode cL_law 241 = .ok (.iaload, 1) := by decide +kernel
theorem dL_law_242 : decode cL_law 242 = .ok (.invokevirtual 21, 3) := by decide +kernel
theorem dL_law_245 : decode cL_law 245 = .ok (.if_icmp .eq 617, 3) := by decide +kernel
theorem dL_law_248 : decode cL_law 248 = .ok (.iconst 0, 1) := by decide +kernel
theorem dL_law_249 : decode cL_law 249 = .ok (.ireturn, 1) := by decide +kernel
theorem dL_law_250 : decode cL_law 250 = .ok (.aload_n 1, 1) := by decide +kernel
theorem dL_law_251 : decode cL_law 251 = .ok (.aload_n 0, 1) := by decide +kernel
theorem dL_law_252 : decode cL_law 252 = .ok (.iload_n 3, 1) := by decide +kernel
theorem dL_law_253 : decode cL_law 253 = .ok (.iconst 1, 1) := by decide +kernel
theorem dL_law_254 : decode cL_law 254 = .ok (.iadd, 1) := by decide +kernel
theorem dL_law_255 : decode cL_law 255 = .ok (.iaload, 1) := by decide +kernel
theorem dL_law_256 : decode cL_law 256 = .ok (.aload_n 0, 1) := by decide +kernel
theorem dL_law_257 : decode cL_law 257 = .ok (.iload_n 3, 1) := by decide +kernel
theorem dL_law_258 : decode cL_law 258 = .ok (.iconst 2, 1) := by decide +kernel
theorem dL_law_259 : decode cL_law 259 = .ok (.iadd, 1) := by decide +kernel
theorem dL_law_260 : decode cL_law 260 = .ok (.iaload, 1) := by decide +kernel
theorem dL_law_261 : decode cL_law 261 = .ok (.invokevirtual 22, 3) := by decide +kernel
theorem dL_law_264 : decode cL_law 264 = .ok (.aload_n 2, 1) := by decide +kernel
theorem dL_law_265 : decode cL_law 265 = .ok (.aload_n 0, 1) := by decide +kernel
theorem dL_law_266 : decode cL_law 266 = .ok (.iload_n 3, 1) := by decide +kernel
theorem dL_law_267 : decode cL_law 267 = .ok (.iconst 1, 1) := by decide +kernel
theorem dL_law_268 : decode cL_law 268 = .ok (.iadd, 1) := by decide +kernel
theorem dL_law_269 : decode cL_law 269 = .ok (.iaload, 1) := by decide +kernel
theorem dL_law_270 : decode cL_law 270 = .ok (.aload_n 0, 1) := by decide +kernel
theorem dL_law_271 : decode cL_law 271 = .ok (.iload_n 3, 1) := by decide +kernel
theorem dL_law_272 : decode cL_law 272 = .ok (.iconst 2, 1) := by decide +kernel
theorem dL_law_273 : decode cL_law 273 = .ok (.iadd, 1) := by decide +kernel
theorem dL_law_274 : decode cL_law 274 = .ok (.iaload, 1) := by decide +kernel
theorem dL_law_275 : decode cL_law 275 = .ok (.invokevirtual 26, 3) := by decide +kernel
theorem dL_law_278 : decode cL_law 278 = .ok (.if_icmp .eq 584, 3) := by decide +kernel
theorem dL_law_281 : decode cL_law 281 = .ok (.iconst 0, 1) := by decide +kernel
theorem dL_law_282 : decode cL_law 282 = .ok (.ireturn, 1) := by decide +kernel
theorem dL_law_283 : decode cL_law 283 = .ok (.aload_n 1, 1) := by decide +kernel
theorem dL_law_284 : decode cL_law 284 = .ok (.aload_n 0, 1) := by decide +kernel
theorem dL_law_285 : decode cL_law 285 = .ok (.iload_n 3, 1) := by decide +kernel
theorem dL_law_286 : decode cL_law 286 = .ok (.iconst 1, 1) := by decide +kernel
theorem dL_law_287 : decode cL_law 287 = .ok (.iadd, 1) := by decide +kernel
theorem dL_law_288 : decode cL_law 288 = .ok (.iaload, 1) := by decide +kernel
theorem dL_law_289 : decode cL_law 289 = .ok (.invokevirtual 27, 3) := by decide +kernel
theorem dL_law_292 : decode cL_law 292 = .ok (.aload_n 2, 1) := by decide +kernel
theorem dL_law_293 : decode cL_law 293 = .ok (.aload_n 0, 1) := by decide +kernel
theorem dL_law_294 : decode cL_law 294 = .ok (.iload_n 3, 1) := by decide +kernel
theorem dL_law_295 : decode cL_law 295 = .ok (.iconst 1, 1) := by decide +kernel
theorem dL_law_296 : decode cL_law 296 = .ok (.iadd, 1) := by decide +kernel
theorem dL_law_297 : decode cL_law 297 = .ok (.iaload, 1) := by decide +kernel
theorem dL_law_298 : decode cL_law 298 = .ok (.invokevirtual 31, 3) := by decide +kernel
theorem dL_law_301 : decode cL_law 301 = .ok (.if_icmp .eq 561, 3) := by decide +kernel
theorem dL_law_304 : decode cL_law 304 = .ok (.iconst 0, 1) := by decide +kernel
theorem dL_law_305 : decode cL_law 305 = .ok (.ireturn, 1) := by decide +kernel
theorem dL_law_306 : decode cL_law 306 = .ok (.aload_n 1, 1) := by decide +kernel
theorem dL_law_307 : decode cL_law 307 = .ok (.aload_n 0, 1) := by decide +kernel
theorem dL_law_308 : decode cL_law 308 = .ok (.iload_n 3, 1) := by decide +kernel
theorem dL_law_309 : decode cL_law 309 = .ok (.iconst 1, 1) := by decide +kernel
theorem dL_law_310 : decode cL_law 310 = .ok (.iadd, 1) := by decide +kernel
theorem dL_law_311 : decode cL_law 311 = .ok (.iaload, 1) := by decide +kernel
theorem dL_law_312 : decode cL_law 312 = .ok (.aload_n 0, 1) := by decide +kernel
theorem dL_law_313 : decode cL_law 313 = .ok (.iload_n 3, 1) := by decide +kernel
theorem dL_law_314 : decode cL_law 314 = .ok (.iconst 2, 1) := by decide +kernel
theorem dL_law_315 : decode cL_law 315 = .ok (.iadd, 1) := by decide +kernel
theorem dL_law_316 : decode cL_law 316 = .ok (.iaload, 1) := by decide +kernel
theorem dL_law_317 : decode cL_law 317 = .ok (.invokevirtual 32, 3) := by decide +kernel
theorem dL_law_320 : decode cL_law 320 = .ok (.aload_n 2, 1) := by decide +kernel
theorem dL_law_321 : decode cL_law 321 = .ok (.aload_n 0, 1) := by decide +kernel
theorem dL_law_322 : decode cL_law 322 = .ok (.iload_n 3, 1) := by decide +kernel
theorem dL_law_323 : decode cL_law 323 = .ok (.iconst 1, 1) := by decide +kernel
theorem dL_law_324 : decode cL_law 324 = .ok (.iadd, 1) := by decide +kernel
theorem dL_law_325 : decode cL_law 325 = .ok (.iaload, 1) := by decide +kernel
theorem dL_law_326 : decode cL_law 326 = .ok (.aload_n 0, 1) := by decide +kernel
theorem dL_law_327 : decode cL_law 327 = .ok (.iload_n 3, 1) := by decide +kernel
theorem dL_law_328 : decode cL_law 328 = .ok (.iconst 2, 1) := by decide +kernel
theorem dL_law_329 : decode cL_law 329 = .ok (.iadd, 1) := by decide +kernel
theorem dL_law_330 : decode cL_law 330 = .ok (.iaload, 1) := by decide +kernel
theorem dL_law_331 : decode cL_law 331 = .ok (.invokevirtual 35, 3) := by decide +kernel
theorem dL_law_334 : decode cL_law 334 = .ok (.if_icmp .eq 528, 3) := by decide +kernel
theorem dL_law_337 : decode cL_law 337 = .ok (.iconst 0, 1) := by decide +kernel
theorem dL_law_338 : decode cL_law 338 = .ok (.ireturn, 1) := by decide +kernel
theorem dL_law_339 : decode cL_law 339 = .ok (.aload_n 1, 1) := by decide +kernel
theorem dL_law_340 : decode cL_law 340 = .ok (.invokevirtual 36, 3) := by decide +kernel
theorem dL_law_343 : decode cL_law 343 = .ok (.aload_n 2, 1) := by decide +kernel
theorem dL_law_344 : decode cL_law 344 = .ok (.invokevirtual 40, 3) := by decide +kernel
theorem dL_law_347 : decode cL_law 347 = .ok (.if_icmp .eq 515, 3) := by decide +kernel
theorem dL_law_350 : decode cL_law 350 = .ok (.iconst 0, 1) := by decide +kernel
theorem dL_law_351 : decode cL_law 351 = .ok (.ireturn, 1) := by decide +kernel
theorem dL_law_352 : decode cL_law 352 = .ok (.aload_n 1, 1) := by decide +kernel
theorem dL_law_353 : decode cL_law 353 = .ok (.invokevirtual 41, 3) := by decide +kernel
theorem dL_law_356 : decode cL_law 356 = .ok (.aload_n 2, 1) := by decide +kernel
theorem dL_law_357 : decode cL_law 357 = .ok (.invokevirtual 44, 3) := by decide +kernel
theorem dL_law_360 : decode cL_law 360 = .ok (.if_icmp .eq 502, 3) := by decide +kernel
theorem dL_law_363 : decode cL_law 363 = .ok (.iconst 0, 1) := by decide +kernel
theorem dL_law_364 : decode cL_law 364 = .ok (.ireturn, 1) := by decide +kernel
theorem dL_law_365 : decode cL_law 365 = .ok (.aload_n 1, 1) := by decide +kernel
theorem dL_law_366 : decode cL_law 366 = .ok (.aload_n 0, 1) := by decide +kernel
theorem dL_law_367 : decode cL_law 367 = .ok (.iload_n 3, 1) := by decide +kernel
theorem dL_law_368 : decode cL_law 368 = .ok (.iconst 1, 1) := by decide +kernel
theorem dL_law_369 : decode cL_law 369 = .ok (.iadd, 1) := by decide +kernel
theorem dL_law_370 : decode cL_law 370 = .ok (.iaload, 1) := by decide +kernel
theorem dL_law_371 : decode cL_law 371 = .ok (.aload_n 0, 1) := by decide +kernel
theorem dL_law_372 : decode cL_law 372 = .ok (.iload_n 3, 1) := by decide +kernel
theorem dL_law_373 : decode cL_law 373 = .ok (.iconst 2, 1) := by decide +kernel
theorem dL_law_374 : decode cL_law 374 = .ok (.iadd, 1) := by decide +kernel
theorem dL_law_375 : decode cL_law 375 = .ok (.iaload, 1) := by decide +kernel
theorem dL_law_376 : decode cL_law 376 = .ok (.invokevirtual 45, 3) := by decide +kernel
theorem dL_law_379 : decode cL_law 379 = .ok (.aload_n 2, 1) := by decide +kernel
theorem dL_law_380 : decode cL_law 380 = .ok (.aload_n 0, 1) := by decide +kernel
theorem dL_law_381 : decode cL_law 381 = .ok (.iload_n 3, 1) := by decide +kernel
theorem dL_law_382 : decode cL_law 382 = .ok (.iconst 1, 1) := by decide +kernel
theorem dL_law_383 : decode cL_law 383 = .ok (.iadd, 1) := by decide +kernel
theorem dL_law_384 : decode cL_law 384 = .ok (.iaload, 1) := by decide +kernel
theorem dL_law_385 : decode cL_law 385 = .ok (.aload_n 0, 1) := by decide +kernel
theorem dL_law_386 : decode cL_law 386 = .ok (.iload_n 3, 1) := by decide +kernel
theorem dL_law_387 : decode cL_law 387 = .ok (.iconst 2, 1) := by decide +kernel
theorem dL_law_388 : decode cL_law 388 = .ok (.iadd, 1) := by decide +kernel
theorem dL_law_389 : decode cL_law 389 = .ok (.iaload, 1) := by decide +kernel
theorem dL_law_390 : decode cL_law 390 = .ok (.invokevirtual 48, 3) := by decide +kernel
theorem dL_law_393 : decode cL_law 393 = .ok (.if_icmp .eq 469, 3) := by decide +kernel
theorem dL_law_396 : decode cL_law 396 = .ok (.iconst 0, 1) := by decide +kernel
theorem dL_law_397 : decode cL_law 397 = .ok (.ireturn, 1) := by decide +kernel
theorem dL_law_398 : decode cL_law 398 = .ok (.aload_n 1, 1) := by decide +kernel
theorem dL_law_399 : decode cL_law 399 = .ok (.aload_n 0, 1) := by decide +kernel
theorem dL_law_400 : decode cL_law 400 = .ok (.iload_n 3, 1) := by decide +kernel
theorem dL_law_401 : decode cL_law 401 = .ok (.iconst 1, 1) := by decide +kernel
theorem dL_law_402 : decode cL_law 402 = .ok (.iadd, 1) := by decide +kernel
theorem dL_law_403 : decode cL_law 403 = .ok (.iaload, 1) := by decide +kernel
theorem dL_law_404 : decode cL_law 404 = .ok (.aload_n 0, 1) := by decide +kernel
theorem dL_law_405 : decode cL_law 405 = .ok (.iload_n 3, 1) := by decide +kernel
theorem dL_law_406 : decode cL_law 406 = .ok (.iconst 2, 1) := by decide +kernel
theorem dL_law_407 : decode cL_law 407 = .ok (.iadd, 1) := by decide +kernel
theorem dL_law_408 : decode cL_law 408 = .ok (.iaload, 1) := by decide +kernel
theorem dL_law_409 : decode cL_law 409 = .ok (.invokevirtual 49, 3) := by decide +kernel
theorem dL_law_412 : decode cL_law 412 = .ok (.aload_n 2, 1) := by decide +kernel
theorem dL_law_413 : decode cL_law 413 = .ok (.aload_n 0, 1) := by decide +kernel
theorem dL_law_414 : decode cL_law 414 = .ok (.iload_n 3, 1) := by decide +kernel
theorem dL_law_415 : decode cL_law 415 = .ok (.iconst 1, 1) := by decide +kernel
theorem dL_law_416 : decode cL_law 416 = .ok (.iadd, 1) := by decide +kernel
theorem dL_law_417 : decode cL_law 417 = .ok (.iaload, 1) := by decide +kernel
theorem dL_law_418 : decode cL_law 418 = .ok (.aload_n 0, 1) := by decide +kernel
theorem dL_law_419 : decode cL_law 419 = .ok (.iload_n 3, 1) := by decide +kernel
theorem dL_law_420 : decode cL_law 420 = .ok (.iconst 2, 1) := by decide +kernel
theorem dL_law_421 : decode cL_law 421 = .ok (.iadd, 1) := by decide +kernel
theorem dL_law_422 : decode cL_law 422 = .ok (.iaload, 1) := by decide +kernel
theorem dL_law_423 : decode cL_law 423 = .ok (.invokevirtual 52, 3) := by decide +kernel
theorem dL_law_426 : decode cL_law 426 = .ok (.if_icmp .eq 436, 3) := by decide +kernel
theorem dL_law_429 : decode cL_law 429 = .ok (.iconst 0, 1) := by decide +kernel
theorem dL_law_430 : decode cL_law 430 = .ok (.ireturn, 1) := by decide +kernel
theorem dL_law_431 : decode cL_law 431 = .ok (.aload_n 1, 1) := by decide +kernel
theorem dL_law_432 : decode cL_law 432 = .ok (.aload_n 0, 1) := by decide +kernel
theorem dL_law_433 : decode cL_law 433 = .ok (.iload_n 3, 1) := by decide +kernel
theorem dL_law_434 : decode cL_law 434 = .ok (.iconst 1, 1) := by decide +kernel
theorem dL_law_435 : decode cL_law 435 = .ok (.iadd, 1) := by decide +kernel
theorem dL_law_436 : decode cL_law 436 = .ok (.iaload, 1) := by decide +kernel
theorem dL_law_437 : decode cL_law 437 = .ok (.aload_n 0, 1) := by decide +kernel
theorem dL_law_438 : decode cL_law 438 = .ok (.iload_n 3, 1) := by decide +kernel
theorem dL_law_439 : decode cL_law 439 = .ok (.iconst 2, 1) := by decide +kernel
theorem dL_law_440 : decode cL_law 440 = .ok (.iadd, 1) := by decide +kernel
theorem dL_law_441 : decode cL_law 441 = .ok (.iaload, 1) := by decide +kernel
theorem dL_law_442 : decode cL_law 442 = .ok (.invokevirtual 53, 3) := by decide +kernel
theorem dL_law_445 : decode cL_law 445 = .ok (.aload_n 2, 1) := by decide +kernel
theorem dL_law_446 : decode cL_law 446 = .ok (.aload_n 0, 1) := by decide +kernel
theorem dL_law_447 : decode cL_law 447 = .ok (.iload_n 3, 1) := by decide +kernel
theorem dL_law_448 : decode cL_law 448 = .ok (.iconst 1, 1) := by decide +kernel
theorem dL_law_449 : decode cL_law 449 = .ok (.iadd, 1) := by decide +kernel
theorem dL_law_450 : decode cL_law 450 = .ok (.iaload, 1) := by decide +kernel
theorem dL_law_451 : decode cL_law 451 = .ok (.aload_n 0, 1) := by decide +kernel
theorem dL_law_452 : decode cL_law 452 = .ok (.iload_n 3, 1) := by decide +kernel
theorem dL_law_453 : decode cL_law 453 = .ok (.iconst 2, 1) := by decide +kernel
theorem dL_law_454 : decode cL_law 454 = .ok (.iadd, 1) := by decide +kernel
theorem dL_law_455 : decode cL_law 455 = .ok (.iaload, 1) := by decide +kernel
theorem dL_law_456 : decode cL_law 456 = .ok (.invokevirtual 56, 3) := by decide +kernel
theorem dL_law_459 : decode cL_law 459 = .ok (.if_icmp .eq 403, 3) := by decide +kernel
theorem dL_law_462 : decode cL_law 462 = .ok (.iconst 0, 1) := by decide +kernel
theorem dL_law_463 : decode cL_law 463 = .ok (.ireturn, 1) := by decide +kernel
theorem dL_law_464 : decode cL_law 464 = .ok (.aload_n 1, 1) := by decide +kernel
theorem dL_law_465 : decode cL_law 465 = .ok (.aload_n 0, 1) := by decide +kernel
theorem dL_law_466 : decode cL_law 466 = .ok (.iload_n 3, 1) := by decide +kernel
theorem dL_law_467 : decode cL_law 467 = .ok (.iconst 1, 1) := by decide +kernel
theorem dL_law_468 : decode cL_law 468 = .ok (.iadd, 1) := by decide +kernel
theorem dL_law_469 : decode cL_law 469 = .ok (.iaload, 1) := by decide +kernel
theorem dL_law_470 : decode cL_law 470 = .ok (.aload_n 0, 1) := by decide +kernel
theorem dL_law_471 : decode cL_law 471 = .ok (.iload_n 3, 1) := by decide +kernel
theorem dL_law_472 : decode cL_law 472 = .ok (.iconst 2, 1) := by decide +kernel
theorem dL_law_473 : decode cL_law 473 = .ok (.iadd, 1) := by decide +kernel
theorem dL_law_474 : decode cL_law 474 = .ok (.iaload, 1) := by decide +kernel
theorem dL_law_475 : decode cL_law 475 = .ok (.invokevirtual 57, 3) := by decide +kernel
theorem dL_law_478 : decode cL_law 478 = .ok (.aload_n 2, 1) := by decide +kernel
theorem dL_law_479 : decode cL_law 479 = .ok (.aload_n 0, 1) := by decide +kernel
theorem dL_law_480 : decode cL_law 480 = .ok (.iload_n 3, 1) := by decide +kernel
theorem dL_law_481 : decode cL_law 481 = .ok (.iconst 1, 1) := by decide +kernel
theorem dL_law_482 : decode cL_law 482 = .ok (.iadd, 1) := by decide +kernel
theorem dL_law_483 : decode cL_law 483 = .ok (.iaload, 1) := by decide +kernel
theorem dL_law_484 : decode cL_law 484 = .ok (.aload_n 0, 1) := by decide +kernel
theorem dL_law_485 : decode cL_law 485 = .ok (.iload_n 3, 1) := by decide +kernel
theorem dL_law_486 : decode cL_law 486 = .ok (.iconst 2, 1) := by decide +kernel
theorem dL_law_487 : decode cL_law 487 = .ok (.iadd, 1) := by decide +kernel
theorem dL_law_488 : decode cL_law 488 = .ok (.iaload, 1) := by decide +kernel
theorem dL_law_489 : decode cL_law 489 = .ok (.invokevirtual 60, 3) := by decide +kernel
theorem dL_law_492 : decode cL_law 492 = .ok (.if_icmp .eq 370, 3) := by decide +kernel
theorem dL_law_495 : decode cL_law 495 = .ok (.iconst 0, 1) := by decide +kernel
theorem dL_law_496 : decode cL_law 496 = .ok (.ireturn, 1) := by decide +kernel
theorem dL_law_497 : decode cL_law 497 = .ok (.aload_n 1, 1) := by decide +kernel
theorem dL_law_498 : decode cL_law 498 = .ok (.aload_n 0, 1) := by decide +kernel
theorem dL_law_499 : decode cL_law 499 = .ok (.iload_n 3, 1) := by decide +kernel
theorem dL_law_500 : decode cL_law 500 = .ok (.iconst 1, 1) := by decide +kernel
theorem dL_law_501 : decode cL_law 501 = .ok (.iadd, 1) := by decide +kernel
theorem dL_law_502 : decode cL_law 502 = .ok (.iaload, 1) := by decide +kernel
theorem dL_law_503 : decode cL_law 503 = .ok (.invokevirtual 61, 3) := by decide +kernel
theorem dL_law_506 : decode cL_law 506 = .ok (.aload_n 2, 1) := by decide +kernel
theorem dL_law_507 : decode cL_law 507 = .ok (.aload_n 0, 1) := by decide +kernel
theorem dL_law_508 : decode cL_law 508 = .ok (.iload_n 3, 1) := by decide +kernel
theorem dL_law_509 : decode cL_law 509 = .ok (.iconst 1, 1) := by decide +kernel
theorem dL_law_510 : decode cL_law 510 = .ok (.iadd, 1) := by decide +kernel
theorem dL_law_511 : decode cL_law 511 = .ok (.iaload, 1) := by decide +kernel
theorem dL_law_512 : decode cL_law 512 = .ok (.invokevirtual 64, 3) := by decide +kernel
theorem dL_law_515 : decode cL_law 515 = .ok (.if_icmp .eq 347, 3) := by decide +kernel
theorem dL_law_518 : decode cL_law 518 = .ok (.iconst 0, 1) := by decide +kernel
theorem dL_law_519 : decode cL_law 519 = .ok (.ireturn, 1) := by decide +kernel
theorem dL_law_520 : decode cL_law 520 = .ok (.aload_n 1, 1) := by decide +kernel
theorem dL_law_521 : decode cL_law 521 = .ok (.invokevirtual 65, 3) := by decide +kernel
theorem dL_law_524 : decode cL_law 524 = .ok (.aload_n 2, 1) := by decide +kernel
theorem dL_law_525 : decode cL_law 525 = .ok (.invokevirtual 68, 3) := by decide +kernel
theorem dL_law_528 : decode cL_law 528 = .ok (.if_icmp .eq 334, 3) := by decide +kernel
theorem dL_law_531 : decode cL_law 531 = .ok (.iconst 0, 1) := by decide +kernel
theorem dL_law_532 : decode cL_law 532 = .ok (.ireturn, 1) := by decide +kernel
theorem dL_law_533 : decode cL_law 533 = .ok (.aload_n 1, 1) := by decide +kernel
theorem dL_law_534 : decode cL_law 534 = .ok (.aload_n 0, 1) := by decide +kernel
theorem dL_law_535 : decode cL_law 535 = .ok (.iload_n 3, 1) := by decide +kernel
theorem dL_law_536 : decode cL_law 536 = .ok (.iconst 1, 1) := by decide +kernel
theorem dL_law_537 : decode cL_law 537 = .ok (.iadd, 1) := by decide +kernel
theorem dL_law_538 : decode cL_law 538 = .ok (.iaload, 1) := by decide +kernel
theorem dL_law_539 : decode cL_law 539 = .ok (.invokevirtual 69, 3) := by decide +kernel
theorem dL_law_542 : decode cL_law 542 = .ok (.aload_n 2, 1) := by decide +kernel
theorem dL_law_543 : decode cL_law 543 = .ok (.aload_n 0, 1) := by decide +kernel
theorem dL_law_544 : decode cL_law 544 = .ok (.iload_n 3, 1) := by decide +kernel
theorem dL_law_545 : decode cL_law 545 = .ok (.iconst 1, 1) := by decide +kernel
theorem dL_law_546 : decode cL_law 546 = .ok (.iadd, 1) := by decide +kernel
theorem dL_law_547 : decode cL_law 547 = .ok (.iaload, 1) := by decide +kernel
theorem dL_law_548 : decode cL_law 548 = .ok (.invokevirtual 72, 3) := by decide +kernel
theorem dL_law_551 : decode cL_law 551 = .ok (.if_icmp .eq 311, 3) := by decide +kernel
theorem dL_law_554 : decode cL_law 554 = .ok (.iconst 0, 1) := by decide +kernel
theorem dL_law_555 : decode cL_law 555 = .ok (.ireturn, 1) := by decide +kernel
theorem dL_law_556 : decode cL_law 556 = .ok (.aload_n 1, 1) := by decide +kernel
theorem dL_law_557 : decode cL_law 557 = .ok (.aload_n 0, 1) := by decide +kernel
theorem dL_law_558 : decode cL_law 558 = .ok (.iload_n 3, 1) := by decide +kernel
theorem dL_law_559 : decode cL_law 559 = .ok (.iconst 1, 1) := by decide +kernel
theorem dL_law_560 : decode cL_law 560 = .ok (.iadd, 1) := by decide +kernel
theorem dL_law_561 : decode cL_law 561 = .ok (.iaload, 1) := by decide +kernel
theorem dL_law_562 : decode cL_law 562 = .ok (.invokevirtual 73, 3) := by decide +kernel
theorem dL_law_565 : decode cL_law 565 = .ok (.aload_n 2, 1) := by decide +kernel
theorem dL_law_566 : decode cL_law 566 = .ok (.aload_n 0, 1) := by decide +kernel
theorem dL_law_567 : decode cL_law 567 = .ok (.iload_n 3, 1) := by decide +kernel
theorem dL_law_568 : decode cL_law 568 = .ok (.iconst 1, 1) := by decide +kernel
theorem dL_law_569 : decode cL_law 569 = .ok (.iadd, 1) := by decide +kernel
theorem dL_law_570 : decode cL_law 570 = .ok (.iaload, 1) := by decide +kernel
theorem dL_law_571 : decode cL_law 571 = .ok (.invokevirtual 76, 3) := by decide +kernel
theorem dL_law_574 : decode cL_law 574 = .ok (.if_icmp .eq 288, 3) := by decide +kernel
theorem dL_law_577 : decode cL_law 577 = .ok (.iconst 0, 1) := by decide +kernel
theorem dL_law_578 : decode cL_law 578 = .ok (.ireturn, 1) := by decide +kernel
theorem dL_law_579 : decode cL_law 579 = .ok (.aload_n 1, 1) := by decide +kernel
theorem dL_law_580 : decode cL_law 580 = .ok (.aload_n 0, 1) := by decide +kernel
theorem dL_law_581 : decode cL_law 581 = .ok (.iload_n 3, 1) := by decide +kernel
theorem dL_law_582 : decode cL_law 582 = .ok (.iconst 1, 1) := by decide +kernel
theorem dL_law_583 : decode cL_law 583 = .ok (.iadd, 1) := by decide +kernel
theorem dL_law_584 : decode cL_law 584 = .ok (.iaload, 1) := by decide +kernel
theorem dL_law_585 : decode cL_law 585 = .ok (.aload_n 0, 1) := by decide +kernel
theorem dL_law_586 : decode cL_law 586 = .ok (.iload_n 3, 1) := by decide +kernel
theorem dL_law_587 : decode cL_law 587 = .ok (.iconst 2, 1) := by decide +kernel
theorem dL_law_588 : decode cL_law 588 = .ok (.iadd, 1) := by decide +kernel
theorem dL_law_589 : decode cL_law 589 = .ok (.iaload, 1) := by decide +kernel
theorem dL_law_590 : decode cL_law 590 = .ok (.invokevirtual 77, 3) := by decide +kernel
theorem dL_law_593 : decode cL_law 593 = .ok (.aload_n 2, 1) := by decide +kernel
theorem dL_law_594 : decode cL_law 594 = .ok (.aload_n 0, 1) := by decide +kernel
theorem dL_law_595 : decode cL_law 595 = .ok (.iload_n 3, 1) := by decide +kernel
theorem dL_law_596 : decode cL_law 596 = .ok (.iconst 1, 1) := by decide +kernel
theorem dL_law_597 : decode cL_law 597 = .ok (.iadd, 1) := by decide +kernel
theorem dL_law_598 : decode cL_law 598 = .ok (.iaload, 1) := by decide +kernel
theorem dL_law_599 : decode cL_law 599 = .ok (.aload_n 0, 1) := by decide +kernel
theorem dL_law_600 : decode cL_law 600 = .ok (.iload_n 3, 1) := by decide +kernel
theorem dL_law_601 : decode cL_law 601 = .ok (.iconst 2, 1) := by decide +kernel
theorem dL_law_602 : decode cL_law 602 = .ok (.iadd, 1) := by decide +kernel
theorem dL_law_603 : decode cL_law 603 = .ok (.iaload, 1) := by decide +kernel
theorem dL_law_604 : decode cL_law 604 = .ok (.invokevirtual 80, 3) := by decide +kernel
theorem dL_law_607 : decode cL_law 607 = .ok (.if_icmp .eq 255, 3) := by decide +kernel
theorem dL_law_610 : decode cL_law 610 = .ok (.iconst 0, 1) := by decide +kernel
theorem dL_law_611 : decode cL_law 611 = .ok (.ireturn, 1) := by decide +kernel
theorem dL_law_612 : decode cL_law 612 = .ok (.aload_n 1, 1) := by decide +kernel
theorem dL_law_613 : decode cL_law 613 = .ok (.aload_n 0, 1) := by decide +kernel
theorem dL_law_614 : decode cL_law 614 = .ok (.iload_n 3, 1) := by decide +kernel
theorem dL_law_615 : decode cL_law 615 = .ok (.iconst 1, 1) := by decide +kernel
theorem dL_law_616 : decode cL_law 616 = .ok (.iadd, 1) := by decide +kernel
theorem dL_law_617 : decode cL_law 617 = .ok (.iaload, 1) := by decide +kernel
theorem dL_law_618 : decode cL_law 618 = .ok (.aload_n 0, 1) := by decide +kernel
theorem dL_law_619 : decode cL_law 619 = .ok (.iload_n 3, 1) := by decide +kernel
theorem dL_law_620 : decode cL_law 620 = .ok (.iconst 2, 1) := by decide +kernel
theorem dL_law_621 : decode cL_law 621 = .ok (.iadd, 1) := by decide +kernel
theorem dL_law_622 : decode cL_law 622 = .ok (.iaload, 1) := by decide +kernel
theorem dL_law_623 : decode cL_law 623 = .ok (.invokevirtual 81, 3) := by decide +kernel
theorem dL_law_626 : decode cL_law 626 = .ok (.aload_n 2, 1) := by decide +kernel
theorem dL_law_627 : decode cL_law 627 = .ok (.aload_n 0, 1) := by decide +kernel
theorem dL_law_628 : decode cL_law 628 = .ok (.iload_n 3, 1) := by decide +kernel
theorem dL_law_629 : decode cL_law 629 = .ok (.iconst 1, 1) := by decide +kernel
theorem dL_law_630 : decode cL_law 630 = .ok (.iadd, 1) := by decide +kernel
theorem dL_law_631 : decode cL_law 631 = .ok (.iaload, 1) := by decide +kernel
theorem dL_law_632 : decode cL_law 632 = .ok (.aload_n 0, 1) := by decide +kernel
theorem dL_law_633 : decode cL_law 633 = .ok (.iload_n 3, 1) := by decide +kernel
theorem dL_law_634 : decode cL_law 634 = .ok (.iconst 2, 1) := by decide +kernel
theorem dL_law_635 : decode cL_law 635 = .ok (.iadd, 1) := by decide +kernel
theorem dL_law_636 : decode cL_law 636 = .ok (.iaload, 1) := by decide +kernel
theorem dL_law_637 : decode cL_law 637 = .ok (.invokevirtual 84, 3) := by decide +kernel
theorem dL_law_640 : decode cL_law 640 = .ok (.if_icmp .eq 222, 3) := by decide +kernel
theorem dL_law_643 : decode cL_law 643 = .ok (.iconst 0, 1) := by decide +kernel
theorem dL_law_644 : decode cL_law 644 = .ok (.ireturn, 1) := by decide +kernel
theorem dL_law_645 : decode cL_law 645 = .ok (.aload_n 1, 1) := by decide +kernel
theorem dL_law_646 : decode cL_law 646 = .ok (.invokevirtual 85, 3) := by decide +kernel
theorem dL_law_649 : decode cL_law 649 = .ok (.aload_n 2, 1) := by decide +kernel
theorem dL_law_650 : decode cL_law 650 = .ok (.invokevirtual 88, 3) := by decide +kernel
theorem dL_law_653 : decode cL_law 653 = .ok (.if_icmp .eq 209, 3) := by decide +kernel
theorem dL_law_656 : decode cL_law 656 = .ok (.iconst 0, 1) := by decide +kernel
theorem dL_law_657 : decode cL_law 657 = .ok (.ireturn, 1) := by decide +kernel
theorem dL_law_658 : decode cL_law 658 = .ok (.aload_n 1, 1) := by decide +kernel
theorem dL_law_659 : decode cL_law 659 = .ok (.invokevirtual 89, 3) := by decide +kernel
theorem dL_law_662 : decode cL_law 662 = .ok (.aload_n 2, 1) := by decide +kernel
theorem dL_law_663 : decode cL_law 663 = .ok (.invokevirtual 92, 3) := by decide +kernel
theorem dL_law_666 : decode cL_law 666 = .ok (.if_icmp .eq 196, 3) := by decide +kernel
theorem dL_law_669 : decode cL_law 669 = .ok (.iconst 0, 1) := by decide +kernel
theorem dL_law_670 : decode cL_law 670 = .ok (.ireturn, 1) := by decide +kernel
theorem dL_law_671 : decode cL_law 671 = .ok (.aload_n 1, 1) := by decide +kernel
theorem dL_law_672 : decode cL_law 672 = .ok (.invokevirtual 93, 3) := by decide +kernel
theorem dL_law_675 : decode cL_law 675 = .ok (.aload_n 2, 1) := by decide +kernel
theorem dL_law_676 : decode cL_law 676 = .ok (.invokevirtual 96, 3) := by decide +kernel
theorem dL_law_679 : decode cL_law 679 = .ok (.if_icmp .eq 183, 3) := by decide +kernel
theorem dL_law_682 : decode cL_law 682 = .ok (.iconst 0, 1) := by decide +kernel
theorem dL_law_683 : decode cL_law 683 = .ok (.ireturn, 1) := by decide +kernel
theorem dL_law_684 : decode cL_law 684 = .ok (.aload_n 1, 1) := by decide +kernel
theorem dL_law_685 : decode cL_law 685 = .ok (.invokevirtual 97, 3) := by decide +kernel
theorem dL_law_688 : decode cL_law 688 = .ok (.aload_n 2, 1) := by decide +kernel
theorem dL_law_689 : decode cL_law 689 = .ok (.invokevirtual 100, 3) := by decide +kernel
theorem dL_law_692 : decode cL_law 692 = .ok (.if_icmp .eq 170, 3) := by decide +kernel
theorem dL_law_695 : decode cL_law 695 = .ok (.iconst 0, 1) := by decide +kernel
theorem dL_law_696 : decode cL_law 696 = .ok (.ireturn, 1) := by decide +kernel
theorem dL_law_697 : decode cL_law 697 = .ok (.aload_n 1, 1) := by decide +kernel
theorem dL_law_698 : decode cL_law 698 = .ok (.aload_n 0, 1) := by decide +kernel
theorem dL_law_699 : decode cL_law 699 = .ok (.iload_n 3, 1) := by decide +kernel
theorem dL_law_700 : decode cL_law 700 = .ok (.iconst 1, 1) := by decide +kernel
theorem dL_law_701 : decode cL_law 701 = .ok (.iadd, 1) := by decide +kernel
theorem dL_law_702 : decode cL_law 702 = .ok (.iaload, 1) := by decide +kernel
theorem dL_law_703 : decode cL_law 703 = .ok (.invokevirtual 101, 3) := by decide +kernel
theorem dL_law_706 : decode cL_law 706 = .ok (.aload_n 2, 1) := by decide +kernel
theorem dL_law_707 : decode cL_law 707 = .ok (.aload_n 0, 1) := by decide +kernel
theorem dL_law_708 : decode cL_law 708 = .ok (.iload_n 3, 1) := by decide +kernel
theorem dL_law_709 : decode cL_law 709 = .ok (.iconst 1, 1) := by decide +kernel
theorem dL_law_710 : decode cL_law 710 = .ok (.iadd, 1) := by decide +kernel
theorem dL_law_711 : decode cL_law 711 = .ok (.iaload, 1) := by decide +kernel
theorem dL_law_712 : decode cL_law 712 = .ok (.invokevirtual 104, 3) := by decide +kernel
theorem dL_law_715 : decode cL_law 715 = .ok (.if_icmp .eq 147, 3) := by decide +kernel
theorem dL_law_718 : decode cL_law 718 = .ok (.iconst 0, 1) := by decide +kernel
theorem dL_law_719 : decode cL_law 719 = .ok (.ireturn, 1) := by decide +kernel
theorem dL_law_720 : decode cL_law 720 = .ok (.aload_n 1, 1) := by decide +kernel
theorem dL_law_721 : decode cL_law 721 = .ok (.aload_n 0, 1) := by decide +kernel
theorem dL_law_722 : decode cL_law 722 = .ok (.iload_n 3, 1) := by decide +kernel
theorem dL_law_723 : decode cL_law 723 = .ok (.iconst 1, 1) := by decide +kernel
theorem dL_law_724 : decode cL_law 724 = .ok (.iadd, 1) := by decide +kernel
theorem dL_law_725 : decode cL_law 725 = .ok (.iaload, 1) := by decide +kernel
theorem dL_law_726 : decode cL_law 726 = .ok (.invokevirtual 105, 3) := by decide +kernel
theorem dL_law_729 : decode cL_law 729 = .ok (.aload_n 2, 1) := by decide +kernel
theorem dL_law_730 : decode cL_law 730 = .ok (.aload_n 0, 1) := by decide +kernel
theorem dL_law_731 : decode cL_law 731 = .ok (.iload_n 3, 1) := by decide +kernel
theorem dL_law_732 : decode cL_law 732 = .ok (.iconst 1, 1) := by decide +kernel
theorem dL_law_733 : decode cL_law 733 = .ok (.iadd, 1) := by decide +kernel
theorem dL_law_734 : decode cL_law 734 = .ok (.iaload, 1) := by decide +kernel
theorem dL_law_735 : decode cL_law 735 = .ok (.invokevirtual 108, 3) := by decide +kernel
theorem dL_law_738 : decode cL_law 738 = .ok (.if_icmp .eq 124, 3) := by decide +kernel
theorem dL_law_741 : decode cL_law 741 = .ok (.iconst 0, 1) := by decide +kernel
theorem dL_law_742 : decode cL_law 742 = .ok (.ireturn, 1) := by decide +kernel
theorem dL_law_743 : decode cL_law 743 = .ok (.aload_n 1, 1) := by decide +kernel
theorem dL_law_744 : decode cL_law 744 = .ok (.aload_n 0, 1) := by decide +kernel
theorem dL_law_745 : decode cL_law 745 = .ok (.iload_n 3, 1) := by decide +kernel
theorem dL_law_746 : decode cL_law 746 = .ok (.iconst 1, 1) := by decide +kernel
theorem dL_law_747 : decode cL_law 747 = .ok (.iadd, 1) := by decide +kernel
theorem dL_law_748 : decode cL_law 748 = .ok (.iaload, 1) := by decide +kernel
theorem dL_law_749 : decode cL_law 749 = .ok (.invokevirtual 109, 3) := by decide +kernel
theorem dL_law_752 : decode cL_law 752 = .ok (.aload_n 2, 1) := by decide +kernel
theorem dL_law_753 : decode cL_law 753 = .ok (.aload_n 0, 1) := by decide +kernel
theorem dL_law_754 : decode cL_law 754 = .ok (.iload_n 3, 1) := by decide +kernel
theorem dL_law_755 : decode cL_law 755 = .ok (.iconst 1, 1) := by decide +kernel
theorem dL_law_756 : decode cL_law 756 = .ok (.iadd, 1) := by decide +kernel
theorem dL_law_757 : decode cL_law 757 = .ok (.iaload, 1) := by decide +kernel
theorem dL_law_758 : decode cL_law 758 = .ok (.invokevirtual 112, 3) := by decide +kernel
theorem dL_law_761 : decode cL_law 761 = .ok (.if_icmp .eq 101, 3) := by decide +kernel
theorem dL_law_764 : decode cL_law 764 = .ok (.iconst 0, 1) := by decide +kernel
theorem dL_law_765 : decode cL_law 765 = .ok (.ireturn, 1) := by decide +kernel
theorem dL_law_766 : decode cL_law 766 = .ok (.aload_n 1, 1) := by decide +kernel
theorem dL_law_767 : decode cL_law 767 = .ok (.aload_n 0, 1) := by decide +kernel
theorem dL_law_768 : decode cL_law 768 = .ok (.iload_n 3, 1) := by decide +kernel
theorem dL_law_769 : decode cL_law 769 = .ok (.iconst 1, 1) := by decide +kernel
theorem dL_law_770 : decode cL_law 770 = .ok (.iadd, 1) := by decide +kernel
theorem dL_law_771 : decode cL_law 771 = .ok (.iaload, 1) := by decide +kernel
theorem dL_law_772 : decode cL_law 772 = .ok (.invokevirtual 113, 3) := by decide +kernel
theorem dL_law_775 : decode cL_law 775 = .ok (.aload_n 2, 1) := by decide +kernel
theorem dL_law_776 : decode cL_law 776 = .ok (.aload_n 0, 1) := by decide +kernel
theorem dL_law_777 : decode cL_law 777 = .ok (.iload_n 3, 1) := by decide +kernel
theorem dL_law_778 : decode cL_law 778 = .ok (.iconst 1, 1) := by decide +kernel
theorem dL_law_779 : decode cL_law 779 = .ok (.iadd, 1) := by decide +kernel
theorem dL_law_780 : decode cL_law 780 = .ok (.iaload, 1) := by decide +kernel
theorem dL_law_781 : decode cL_law 781 = .ok (.invokevirtual 116, 3) := by decide +kernel
theorem dL_law_784 : decode cL_law 784 = .ok (.if_icmp .eq 78, 3) := by decide +kernel
theorem dL_law_787 : decode cL_law 787 = .ok (.iconst 0, 1) := by decide +kernel
theorem dL_law_788 : decode cL_law 788 = .ok (.ireturn, 1) := by decide +kernel
theorem dL_law_789 : decode cL_law 789 = .ok (.aload_n 1, 1) := by decide +kernel
theorem dL_law_790 : decode cL_law 790 = .ok (.invokevirtual 117, 3) := by decide +kernel
theorem dL_law_793 : decode cL_law 793 = .ok (.aload_n 2, 1) := by decide +kernel
theorem dL_law_794 : decode cL_law 794 = .ok (.invokevirtual 120, 3) := by decide +kernel
theorem dL_law_797 : decode cL_law 797 = .ok (.if_icmp .eq 65, 3) := by decide +kernel
theorem dL_law_800 : decode cL_law 800 = .ok (.iconst 0, 1) := by decide +kernel
theorem dL_law_801 : decode cL_law 801 = .ok (.ireturn, 1) := by decide +kernel
theorem dL_law_802 : decode cL_law 802 = .ok (.aload_n 1, 1) := by decide +kernel
theorem dL_law_803 : decode cL_law 803 = .ok (.aload_n 0, 1) := by decide +kernel
theorem dL_law_804 : decode cL_law 804 = .ok (.iload_n 3, 1) := by decide +kernel
theorem dL_law_805 : decode cL_law 805 = .ok (.iconst 1, 1) := by decide +kernel
theorem dL_law_806 : decode cL_law 806 = .ok (.iadd, 1) := by decide +kernel
theorem dL_law_807 : decode cL_law 807 = .ok (.iaload, 1) := by decide +kernel
theorem dL_law_808 : decode cL_law 808 = .ok (.invokevirtual 121, 3) := by decide +kernel
theorem dL_law_811 : decode cL_law 811 = .ok (.aload_n 2, 1) := by decide +kernel
theorem dL_law_812 : decode cL_law 812 = .ok (.aload_n 0, 1) := by decide +kernel
theorem dL_law_813 : decode cL_law 813 = .ok (.iload_n 3, 1) := by decide +kernel
theorem dL_law_814 : decode cL_law 814 = .ok (.iconst 1, 1) := by decide +kernel
theorem dL_law_815 : decode cL_law 815 = .ok (.iadd, 1) := by decide +kernel
theorem dL_law_816 : decode cL_law 816 = .ok (.iaload, 1) := by decide +kernel
theorem dL_law_817 : decode cL_law 817 = .ok (.invokevirtual 124, 3) := by decide +kernel
theorem dL_law_820 : decode cL_law 820 = .ok (.if_icmp .eq 42, 3) := by decide +kernel
theorem dL_law_823 : decode cL_law 823 = .ok (.iconst 0, 1) := by decide +kernel
theorem dL_law_824 : decode cL_law 824 = .ok (.ireturn, 1) := by decide +kernel
theorem dL_law_825 : decode cL_law 825 = .ok (.aload_n 1, 1) := by decide +kernel
theorem dL_law_826 : decode cL_law 826 = .ok (.aload_n 0, 1) := by decide +kernel
theorem dL_law_827 : decode cL_law 827 = .ok (.iload_n 3, 1) := by decide +kernel
theorem dL_law_828 : decode cL_law 828 = .ok (.iconst 1, 1) := by decide +kernel
theorem dL_law_829 : decode cL_law 829 = .ok (.iadd, 1) := by decide +kernel
theorem dL_law_830 : decode cL_law 830 = .ok (.iaload, 1) := by decide +kernel
theorem dL_law_831 : decode cL_law 831 = .ok (.invokevirtual 125, 3) := by decide +kernel
theorem dL_law_834 : decode cL_law 834 = .ok (.aload_n 2, 1) := by decide +kernel
theorem dL_law_835 : decode cL_law 835 = .ok (.aload_n 0, 1) := by decide +kernel
theorem dL_law_836 : decode cL_law 836 = .ok (.iload_n 3, 1) := by decide +kernel
theorem dL_law_837 : decode cL_law 837 = .ok (.iconst 1, 1) := by decide +kernel
theorem dL_law_838 : decode cL_law 838 = .ok (.iadd, 1) := by decide +kernel
theorem dL_law_839 : decode cL_law 839 = .ok (.iaload, 1) := by decide +kernel
theorem dL_law_840 : decode cL_law 840 = .ok (.invokevirtual 128, 3) := by decide +kernel
theorem dL_law_843 : decode cL_law 843 = .ok (.if_icmp .eq 19, 3) := by decide +kernel
theorem dL_law_846 : decode cL_law 846 = .ok (.iconst 0, 1) := by decide +kernel
theorem dL_law_847 : decode cL_law 847 = .ok (.ireturn, 1) := by decide +kernel
theorem dL_law_848 : decode cL_law 848 = .ok (.aload_n 1, 1) := by decide +kernel
theorem dL_law_849 : decode cL_law 849 = .ok (.invokevirtual 129, 3) := by decide +kernel
theorem dL_law_852 : decode cL_law 852 = .ok (.aload_n 2, 1) := by decide +kernel
theorem dL_law_853 : decode cL_law 853 = .ok (.invokevirtual 133, 3) := by decide +kernel
theorem dL_law_856 : decode cL_law 856 = .ok (.lcmp, 1) := by decide +kernel
theorem dL_law_857 : decode cL_law 857 = .ok (.ifCond .eq 5, 3) := by decide +kernel
theorem dL_law_860 : decode cL_law 860 = .ok (.iconst 0, 1) := by decide +kernel
theorem dL_law_861 : decode cL_law 861 = .ok (.ireturn, 1) := by decide +kernel
theorem dL_law_862 : decode cL_law 862 = .ok (.iinc 3 4, 3) := by decide +kernel
theorem dL_law_865 : decode cL_law 865 = .ok (.goto (-847), 3) := by decide +kernel
theorem dL_law_868 : decode cL_law 868 = .ok (.iconst 1, 1) := by decide +kernel
theorem dL_law_869 : decode cL_law 869 = .ok (.ireturn, 1) := by decide +kernel
end
section
theorem dX0_init_0 : decode cX0_init 0 = .ok (.aload_n 0, 1) := by decide +kernel
theorem dX0_init_1 : decode cX0_init 1 = .ok (.invokespecial 3, 3) := by decide +kernel
theorem dX0_init_4 : decode cX0_init 4 = .ok (.aload_n 0, 1) := by decide +kernel
theorem dX0_init_5 : decode cX0_init 5 = .ok (.bipush 10, 2) := by decide +kernel
theorem dX0_init_7 : decode cX0_init 7 = .ok (.newarray .int, 2) := by decide +kernel
theorem dX0_init_9 : decode cX0_init 9 = .ok (.putfield 9, 3) := by decide +kernel
theorem dX0_init_12 : decode cX0_init 12 = .ok (.aload_n 0, 1) := by decide +kernel
theorem dX0_init_13 : decode cX0_init 13 = .ok (.bipush 10, 2) := by decide +kernel
theorem dX0_init_15 : decode cX0_init 15 = .ok (.newarray .int, 2) := by decide +kernel
theorem dX0_init_17 : decode cX0_init 17 = .ok (.putfield 15, 3) := by decide +kernel
theorem dX0_init_20 : decode cX0_init 20 = .ok (.aload_n 0, 1) := by decide +kernel
theorem dX0_init_21 : decode cX0_init 21 = .ok (.bipush 9, 2) := by decide +kernel
theorem dX0_init_23 : decode cX0_init 23 = .ok (.newarray .int, 2) := by decide +kernel
theorem dX0_init_25 : decode cX0_init 25 = .ok (.putfield 18, 3) := by decide +kernel
theorem dX0_init_28 : decode cX0_init 28 = .ok (.aload_n 0, 1) := by decide +kernel
theorem dX0_init_29 : decode cX0_init 29 = .ok (.bipush 54, 2) := by decide +kernel
theorem dX0_init_31 : decode cX0_init 31 = .ok (.newarray .int, 2) := by decide +kernel
theorem dX0_init_33 : decode cX0_init 33 = .ok (.putfield 21, 3) := by decide +kernel
theorem dX0_init_36 : decode cX0_init 36 = .ok (.aload_n 0, 1) := by decide +kernel
theorem dX0_init_37 : decode cX0_init 37 = .ok (.bipush 81, 2) := by decide +kernel
theorem dX0_init_39 : decode cX0_init 39 = .ok (.newarray .int, 2) := by decide +kernel
theorem dX0_init_41 : decode cX0_init 41 = .ok (.putfield 24, 3) := by decide +kernel
theorem dX0_init_44 : decode cX0_init 44 = .ok (.aload_n 0, 1) := by decide +kernel
theorem dX0_init_45 : decode cX0_init 45 = .ok (.bipush 27, 2) := by decide +kernel
theorem dX0_init_47 : decode cX0_init 47 = .ok (.newarray .int, 2) := by decide +kernel
theorem dX0_init_49 : decode cX0_init 49 = .ok (.putfield 27, 3) := by decide +kernel
theorem dX0_init_52 : decode cX0_init 52 = .ok (.aload_n 0, 1) := by decide +kernel
theorem dX0_init_53 : decode cX0_init 53 = .ok (.bipush 18, 2) := by decide +kernel
theorem dX0_init_55 : decode cX0_init 55 = .ok (.newarray .int, 2) := by decide +kernel
theorem dX0_init_57 : decode cX0_init 57 = .ok (.putfield 30, 3) := by decide +kernel
theorem dX0_init_60 : decode cX0_init 60 = .ok (.aload_n 0, 1) := by decide +kernel
theorem dX0_init_61 : decode cX0_init 61 = .ok (.bipush 6, 2) := by decide +kernel
theorem dX0_init_63 : decode cX0_init 63 = .ok (.newarray .int, 2) := by decide +kernel
theorem dX0_init_65 : decode cX0_init 65 = .ok (.putfield 33, 3) := by decide +kernel
theorem dX0_init_68 : decode cX0_init 68 = .ok (.aload_n 0, 1) := by decide +kernel
theorem dX0_init_69 : decode cX0_init 69 = .ok (.aload_n 1, 1) := by decide +kernel
theorem dX0_init_70 : decode cX0_init 70 = .ok (.putfield 36, 3) := by decide +kernel
theorem dX0_init_73 : decode cX0_init 73 = .ok (.return_, 1) := by decide +kernel
theorem dX0_forget_0 : decode cX0_forget 0 = .ok (.aload_n 0, 1) := by decide +kernel
theorem dX0_forget_1 : decode cX0_forget 1 = .ok (.iconst 0, 1) := by decide +kernel
theorem dX0_forget_2 : decode cX0_forget 2 = .ok (.putfield 40, 3) := by decide +kernel
theorem dX0_forget_5 : decode cX0_forget 5 = .ok (.return_, 1) := by decide +kernel
theorem dX0_changesOfBest_0 : decode cX0_changesOfBest 0 = .ok (.aload_n 0, 1) := by decide +kernel
theorem dX0_changesOfBest_1 : decode cX0_changesOfBest 1 = .ok (.invokevirtual 44, 3) := by decide +kernel
theorem dX0_changesOfBest_4 : decode cX0_changesOfBest 4 = .ok (.iconst (-1), 1) := by decide +kernel
theorem dX0_changesOfBest_5 : decode cX0_changesOfBest 5 = .ok (.istore_n 2, 1) := by decide +kernel
theorem dX0_changesOfBest_6 : decode cX0_changesOfBest 6 = .ok (.iconst 0, 1) := by decide +kernel
theorem dX0_changesOfBest_7 : decode cX0_changesOfBest 7 = .ok (.istore_n 3, 1) := by decide +kernel
theorem dX0_changesOfBest_8 : decode cX0_changesOfBest 8 = .ok (.iload_n 3, 1) := by decide +kernel
theorem dX0_changesOfBest_9 : decode cX0_changesOfBest 9 = .ok (.iload_n 1, 1) := by decide +kernel
theorem dX0_changesOfBest_10 : decode cX0_changesOfBest 10 = .ok (.if_icmp .gt 47, 3) := by decide +kernel
theorem dX0_changesOfBest_13 : decode cX0_changesOfBest 13 = .ok (.iload_n 3, 1) := by decide +kernel
theorem dX0_changesOfBest_14 : decode cX0_changesOfBest 14 = .ok (.bipush 9, 2) := by decide +kernel
theorem dX0_changesOfBest_16 : decode cX0_changesOfBest 16 = .ok (.if_icmp .gt 41, 3) := by decide +kernel
theorem dX0_changesOfBest_19 : decode cX0_changesOfBest 19 = .ok (.aload_n 0, 1) := by decide +kernel
theorem dX0_changesOfBest_20 : decode cX0_changesOfBest 20 = .ok (.getfield 9, 3) := by decide +kernel
theorem dX0_changesOfBest_23 : decode cX0_changesOfBest 23 = .ok (.iload_n 3, 1) := by decide +kernel
theorem dX0_changesOfBest_24 : decode cX0_changesOfBest 24 = .ok (.iaload, 1) := by decide +kernel
theorem dX0_changesOfBest_25 : decode cX0_changesOfBest 25 = .ok (.iconst (-1), 1) := by decide +kernel
theorem dX0_changesOfBest_26 : decode cX0_changesOfBest 26 = .ok (.if_icmp .eq 25, 3) := by decide +kernel
theorem dX0_changesOfBest_29 : decode cX0_changesOfBest 29 = .ok (.iload_n 2, 1) := by decide +kernel
theorem dX0_changesOfBest_30 : decode cX0_changesOfBest 30 = .ok (.iconst (-1), 1) := by decide +kernel
theorem dX0_changesOfBest_31 : decode cX0_changesOfBest 31 = .ok (.if_icmp .eq 18, 3) := by decide +kernel
theorem dX0_changesOfBest_34 : decode cX0_changesOfBest 34 = .ok (.aload_n 0, 1) := by decide +kernel
theorem dX0_changesOfBest_35 : decode cX0_changesOfBest 35 = .ok (.getfield 9, 3) := by decide +kernel
theorem dX0_changesOfBest_38 : decode cX0_changesOfBest 38 = .ok (.iload_n 3, 1) := by decide +kernel
theorem dX0_changesOfBest_39 : decode cX0_changesOfBest 39 = .ok (.iaload, 1) := by decide +kernel
theorem dX0_changesOfBest_40 : decode cX0_changesOfBest 40 = .ok (.aload_n 0, 1) := by decide +kernel
theorem dX0_changesOfBest_41 : decode cX0_changesOfBest 41 = .ok (.getfield 9, 3) := by decide +kernel
theorem dX0_changesOfBest_44 : decode cX0_changesOfBest 44 = .ok (.iload_n 2, 1) := by decide +kernel
theorem dX0_changesOfBest_45 : decode cX0_changesOfBest 45 = .ok (.iaload, 1) := by decide +kernel
theorem dX0_changesOfBest_46 : decode cX0_changesOfBest 46 = .ok (.if_icmp .ge 5, 3) := by decide +kernel
theorem dX0_changesOfBest_49 : decode cX0_changesOfBest 49 = .ok (.iload_n 3, 1) := by decide +kernel
theorem dX0_changesOfBest_50 : decode cX0_changesOfBest 50 = .ok (.istore_n 2, 1) := by decide +kernel
theorem dX0_changesOfBest_51 : decode cX0_changesOfBest 51 = .ok (.iinc 3 1, 3) := by decide +kernel
theorem dX0_changesOfBest_54 : decode cX0_changesOfBest 54 = .ok (.goto (-46), 3) := by decide +kernel
theorem dX0_changesOfBest_57 : decode cX0_changesOfBest 57 = .ok (.iload_n 2, 1) := by decide +kernel
theorem dX0_changesOfBest_58 : decode cX0_changesOfBest 58 = .ok (.ireturn, 1) := by decide +kernel
theorem dX0_fewestChangesFor_0 : decode cX0_fewestChangesFor 0 = .ok (.aload_n 0, 1) := by decide +kernel
theorem dX0_fewestChangesFor_1 : decode cX0_fewestChangesFor 1 = .ok (.invokevirtual 44, 3) := by decide +kernel
theorem dX0_fewestChangesFor_4 : decode cX0_fewestChangesFor 4 = .ok (.iconst 0, 1) := by decide +kernel
theorem dX0_fewestChangesFor_5 : decode cX0_fewestChangesFor 5 = .ok (.istore_n 2, 1) := by decide +kernel
theorem dX0_fewestChangesFor_6 : decode cX0_fewestChangesFor 6 = .ok (.iload_n 2, 1) := by decide +kernel
theorem dX0_fewestChangesFor_7 : decode cX0_fewestChangesFor 7 = .ok (.bipush 9, 2) := by decide +kernel
theorem dX0_fewestChangesFor_9 : decode cX0_fewestChangesFor 9 = .ok (.if_icmp .gt 31, 3) := by decide +kernel
theorem dX0_fewestChangesFor_12 : decode cX0_fewestChangesFor 12 = .ok (.aload_n 0, 1) := by decide +kernel
theorem dX0_fewestChangesFor_13 : decode cX0_fewestChangesFor 13 = .ok (.getfield 9, 3) := by decide +kernel
theorem dX0_fewestChangesFor_16 : decode cX0_fewestChangesFor 16 = .ok (.iload_n 2, 1) := by decide +kernel
theorem dX0_fewestChangesFor_17 : decode cX0_fewestChangesFor 17 = .ok (.iaload, 1) := by decide +kernel
theorem dX0_fewestChangesFor_18 : decode cX0_fewestChangesFor 18 = .ok (.iconst (-1), 1) := by decide +kernel
theorem dX0_fewestChangesFor_19 : decode cX0_fewestChangesFor 19 = .ok (.if_icmp .eq 15, 3) := by decide +kernel
theorem dX0_fewestChangesFor_22 : decode cX0_fewestChangesFor 22 = .ok (.aload_n 0, 1) := by decide +kernel
theorem dX0_fewestChangesFor_23 : decode cX0_fewestChangesFor 23 = .ok (.getfield 9, 3) := by decide +kernel
theorem dX0_fewestChangesFor_26 : decode cX0_fewestChangesFor 26 = .ok (.iload_n 2, 1) := by decide +kernel
theorem dX0_fewestChangesFor_27 : decode cX0_fewestChangesFor 27 = .ok (.iaload, 1) := by decide +kernel
theorem dX0_fewestChangesFor_28 : decode cX0_fewestChangesFor 28 = .ok (.iload_n 1, 1) := by decide +kernel
theorem dX0_fewestChangesFor_29 : decode cX0_fewestChangesFor 29 = .ok (.if_icmp .gt 5, 3) := by decide +kernel
theorem dX0_fewestChangesFor_32 : decode cX0_fewestChangesFor 32 = .ok (.iload_n 2, 1) := by decide +kernel
theorem dX0_fewestChangesFor_33 : decode cX0_fewestChangesFor 33 = .ok (.ireturn, 1) := by decide +kernel
theorem dX0_fewestChangesFor_34 : decode cX0_fewestChangesFor 34 = .ok (.iinc 2 1, 3) := by decide +kernel
theorem dX0_fewestChangesFor_37 : decode cX0_fewestChangesFor 37 = .ok (.goto (-31), 3) := by decide +kernel
theorem dX0_fewestChangesFor_40 : decode cX0_fewestChangesFor 40 = .ok (.iconst (-1), 1) := by decide +kernel
theorem dX0_fewestChangesFor_41 : decode cX0_fewestChangesFor 41 = .ok (.ireturn, 1) := by decide +kernel
theorem dX0_countAll_0 : decode cX0_countAll 0 = .ok (.aload_n 0, 1) := by decide +kernel
theorem dX0_countAll_1 : decode cX0_countAll 1 = .ok (.invokevirtual 44, 3) := by decide +kernel
theorem dX0_countAll_4 : decode cX0_countAll 4 = .ok (.aload_n 0, 1) := by decide +kernel
theorem dX0_countAll_5 : decode cX0_countAll 5 = .ok (.getfield 47, 3) := by decide +kernel
theorem dX0_countAll_8 : decode cX0_countAll 8 = .ok (.ireturn, 1) := by decide +kernel
theorem dX0_findAll_0 : decode cX0_findAll 0 = .ok (.aload_n 0, 1) := by decide +kernel
theorem dX0_findAll_1 : decode cX0_findAll 1 = .ok (.getfield 40, 3) := by decide +kernel
theorem dX0_findAll_4 : decode cX0_findAll 4 = .ok (.ifCond .eq 4, 3) := by decide +kernel
theorem dX0_findAll_7 : decode cX0_findAll 7 = .ok (.return_, 1) := by decide +kernel
theorem dX0_findAll_8 : decode cX0_findAll 8 = .ok (.aload_n 0, 1) := by decide +kernel
theorem dX0_findAll_9 : decode cX0_findAll 9 = .ok (.iconst 1, 1) := by decide +kernel
theorem dX0_findAll_10 : decode cX0_findAll 10 = .ok (.putfield 40, 3) := by decide +kernel
theorem dX0_findAll_13 : decode cX0_findAll 13 = .ok (.aload_n 0, 1) := by decide +kernel
theorem dX0_findAll_14 : decode cX0_findAll 14 = .ok (.getfield 9, 3) := by decide +kernel
theorem dX0_findAll_17 : decode cX0_findAll 17 = .ok (.iconst (-1), 1) := by decide +kernel
theorem dX0_findAll_18 : decode cX0_findAll 18 = .ok (.invokestatic 51, 3) := by decide +kernel
theorem dX0_findAll_21 : decode cX0_findAll 21 = .ok (.aload_n 0, 1) := by decide +kernel
theorem dX0_findAll_22 : decode cX0_findAll 22 = .ok (.iconst 0, 1) := by decide +kernel
theorem dX0_findAll_23 : decode cX0_findAll 23 = .ok (.putfield 47, 3) := by decide +kernel
theorem dX0_findAll_26 : decode cX0_findAll 26 = .ok (.aload_n 0, 1) := by decide +kernel
theorem dX0_findAll_27 : decode cX0_findAll 27 = .ok (.iconst 0, 1) := by decide +kernel
theorem dX0_findAll_28 : decode cX0_findAll 28 = .ok (.putfield 57, 3) := by decide +kernel
theorem dX0_findAll_31 : decode cX0_findAll 31 = .ok (.aload_n 0, 1) := by decide +kernel
theorem dX0_findAll_32 : decode cX0_findAll 32 = .ok (.iconst (-1), 1) := by decide +kernel
theorem dX0_findAll_33 : decode cX0_findAll 33 = .ok (.putfield 60, 3) := by decide +kernel
theorem dX0_findAll_36 : decode cX0_findAll 36 = .ok (.aload_n 0, 1) := by decide +kernel
theorem dX0_findAll_37 : decode cX0_findAll 37 = .ok (.invokevirtual 63, 3) := by decide +kernel
theorem dX0_findAll_40 : decode cX0_findAll 40 = .ok (.aload_n 0, 1) := by decide +kernel
theorem dX0_findAll_41 : decode cX0_findAll 41 = .ok (.invokevirtual 66, 3) := by decide +kernel
theorem dX0_findAll_44 : decode cX0_findAll 44 = .ok (.aload_n 0, 1) := by decide +kernel
theorem dX0_findAll_45 : decode cX0_findAll 45 = .ok (.invokevirtual 69, 3) := by decide +kernel
theorem dX0_findAll_48 : decode cX0_findAll 48 = .ok (.aload_n 0, 1) := by decide +kernel
theorem dX0_findAll_49 : decode cX0_findAll 49 = .ok (.iconst 0, 1) := by decide +kernel
theorem dX0_findAll_50 : decode cX0_findAll 50 = .ok (.aload_n 0, 1) := by decide +kernel
theorem dX0_findAll_51 : decode cX0_findAll 51 = .ok (.invokevirtual 72, 3) := by decide +kernel
theorem dX0_findAll_54 : decode cX0_findAll 54 = .ok (.iconst 0, 1) := by decide +kernel
theorem dX0_findAll_55 : decode cX0_findAll 55 = .ok (.invokevirtual 76, 3) := by decide +kernel
theorem dX0_findAll_58 : decode cX0_findAll 58 = .ok (.return_, 1) := by decide +kernel
theorem dX0_readTakings_0 : decode cX0_readTakings 0 = .ok (.iconst 0, 1) := by decide +kernel
theorem dX0_readTakings_1 : decode cX0_readTakings 1 = .ok (.istore_n 1, 1) := by decide +kernel
theorem dX0_readTakings_2 : decode cX0_readTakings 2 = .ok (.iload_n 1, 1) := by decide +kernel
theorem dX0_readTakings_3 : decode cX0_readTakings 3 = .ok (.aload_n 0, 1) := by decide +kernel
theorem dX0_readTakings_4 : decode cX0_readTakings 4 = .ok (.getfield 36, 3) := by decide +kernel
theorem dX0_readTakings_7 : decode cX0_readTakings 7 = .ok (.getfield 80, 3) := by decide +kernel
theorem dX0_readTakings_10 : decode cX0_readTakings 10 = .ok (.if_icmp .ge 43, 3) := by decide +kernel
theorem dX0_readTakings_13 : decode cX0_readTakings 13 = .ok (.iconst 0, 1) := by decide +kernel
theorem dX0_readTakings_14 : decode cX0_readTakings 14 = .ok (.istore_n 2, 1) := by decide +kernel
theorem dX0_readTakings_15 : decode cX0_readTakings 15 = .ok (.iload_n 2, 1) := by decide +kernel
theorem dX0_readTakings_16 : decode cX0_readTakings 16 = .ok (.bipush 6, 2) := by decide +kernel
theorem dX0_readTakings_18 : decode cX0_readTakings 18 = .ok (.if_icmp .ge 29, 3) := by decide +kernel
theorem dX0_readTakings_21 : decode cX0_readTakings 21 = .ok (.aload_n 0, 1) := by decide +kernel
theorem dX0_readTakings_22 : decode cX0_readTakings 22 = .ok (.getfield 21, 3) := by decide +kernel
theorem dX0_readTakings_25 : decode cX0_readTakings 25 = .ok (.iload_n 1, 1) := by decide +kernel
theorem dX0_readTakings_26 : decode cX0_readTakings 26 = .ok (.bipush 6, 2) := by decide +kernel
theorem dX0_readTakings_28 : decode cX0_readTakings 28 = .ok (.imul, 1) := by decide +kernel
theorem dX0_readTakings_29 : decode cX0_readTakings 29 = .ok (.iload_n 2, 1) := by decide +kernel
theorem dX0_readTakings_30 : decode cX0_readTakings 30 = .ok (.iadd, 1) := by decide +kernel
theorem dX0_readTakings_31 : decode cX0_readTakings 31 = .ok (.aload_n 0, 1) := by decide +kernel
theorem dX0_readTakings_32 : decode cX0_readTakings 32 = .ok (.getfield 36, 3) := by decide +kernel
theorem dX0_readTakings_35 : decode cX0_readTakings 35 = .ok (.iload_n 1, 1) := by decide +kernel
theorem dX0_readTakings_36 : decode cX0_readTakings 36 = .ok (.iload_n 2, 1) := by decide +kernel
theorem dX0_readTakings_37 : decode cX0_readTakings 37 = .ok (.invokevirtual 85, 3) := by decide +kernel
theorem dX0_readTakings_40 : decode cX0_readTakings 40 = .ok (.iastore, 1) := by decide +kernel
theorem dX0_readTakings_41 : decode cX0_readTakings 41 = .ok (.iinc 2 1, 3) := by decide +kernel
theorem dX0_readTakings_44 : decode cX0_readTakings 44 = .ok (.goto (-29), 3) := by decide +kernel
theorem dX0_readTakings_47 : decode cX0_readTakings 47 = .ok (.iinc 1 1, 3) := by decide +kernel
theorem dX0_readTakings_50 : decode cX0_readTakings 50 = .ok (.goto (-48), 3) := by decide +kernel
theorem dX0_readTakings_53 : decode cX0_readTakings 53 = .ok (.return_, 1) := by decide +kernel
theorem dX0_findTightHours_0 : decode cX0_findTightHours 0 = .ok (.aload_n 0, 1) := by decide +kernel
theorem dX0_findTightHours_1 : decode cX0_findTightHours 1 = .ok (.iconst 0, 1) := by decide +kernel
theorem dX0_findTightHours_2 : decode cX0_findTightHours 2 = .ok (.putfield 89, 3) := by decide +kernel
theorem dX0_findTightHours_5 : decode cX0_findTightHours 5 = .ok (.iconst 0, 1) := by decide +kernel
theorem dX0_findTightHours_6 : decode cX0_findTightHours 6 = .ok (.istore_n 1, 1) := by decide +kernel
theorem dX0_findTightHours_7 : decode cX0_findTightHours 7 = .ok (.iload_n 1, 1) := by decide +kernel
theorem dX0_findTightHours_8 : decode cX0_findTightHours 8 = .ok (.bipush 6, 2) := by decide +kernel
theorem dX0_findTightHours_10 : decode cX0_findTightHours 10 = .ok (.if_icmp .ge 108, 3) := by decide +kernel
theorem dX0_findTightHours_13 : decode cX0_findTightHours 13 = .ok (.iconst 0, 1) := by decide +kernel
theorem dX0_findTightHours_14 : decode cX0_findTightHours 14 = .ok (.istore_n 2, 1) := by decide +kernel
theorem dX0_findTightHours_15 : decode cX0_findTightHours 15 = .ok (.iconst 0, 1) := by decide +kernel
theorem dX0_findTightHours_16 : decode cX0_findTightHours 16 = .ok (.istore_n 3, 1) := by decide +kernel
theorem dX0_findTightHours_17 : decode cX0_findTightHours 17 = .ok (.iconst 0, 1) := by decide +kernel
theorem dX0_findTightHours_18 : decode cX0_findTightHours 18 = .ok (.istore 4, 2) := by decide +kernel
theorem dX0_findTightHours_20 : decode cX0_findTightHours 20 = .ok (.iload 4, 2) := by decide +kernel
theorem dX0_findTightHours_22 : decode cX0_findTightHours 22 = .ok (.aload_n 0, 1) := by decide +kernel
theorem dX0_findTightHours_23 : decode cX0_findTightHours 23 = .ok (.getfield 36, 3) := by decide +kernel
theorem dX0_findTightHours_26 : decode cX0_findTightHours 26 = .ok (.getfield 80, 3) := by decide +kernel
theorem dX0_findTightHours_29 : decode cX0_findTightHours 29 = .ok (.if_icmp .ge 48, 3) := by decide +kernel
theorem dX0_findTightHours_32 : decode cX0_findTightHours 32 = .ok (.iload_n 2, 1) := by decide +kernel
theorem dX0_findTightHours_33 : decode cX0_findTightHours 33 = .ok (.aload_n 0, 1) := by decide +kernel
theorem dX0_findTightHours_34 : decode cX0_findTightHours 34 = .ok (.getfield 21, 3) := by decide +kernel
theorem dX0_findTightHours_37 : decode cX0_findTightHours 37 = .ok (.iload 4, 2) := by decide +kernel
theorem dX0_findTightHours_39 : decode cX0_findTightHours 39 = .ok (.bipush 6, 2) := by decide +kernel
theorem dX0_findTightHours_41 : decode cX0_findTightHours 41 = .ok (.imul, 1) := by decide +kernel
theorem dX0_findTightHours_42 : decode cX0_findTightHours 42 = .ok (.iload_n 1, 1) := by decide +kernel
theorem dX0_findTightHours_43 : decode cX0_findTightHours 43 = .ok (.iadd, 1) := by decide +kernel
theorem dX0_findTightHours_44 : decode cX0_findTightHours 44 = .ok (.iaload, 1) := by decide +kernel
theorem dX0_findTightHours_45 : decode cX0_findTightHours 45 = .ok (.iconst 0, 1) := by decide +kernel
theorem dX0_findTightHours_46 : decode cX0_findTightHours 46 = .ok (.invokestatic 92, 3) := by decide +kernel
theorem dX0_findTightHours_49 : decode cX0_findTightHours 49 = .ok (.iadd, 1) := by decide +kernel
theorem dX0_findTightHours_50 : decode cX0_findTightHours 50 = .ok (.istore_n 2, 1) := by decide +kernel
theorem dX0_findTightHours_51 : decode cX0_findTightHours 51 = .ok (.iload_n 3, 1) := by decide +kernel
theorem dX0_findTightHours_52 : decode cX0_findTightHours 52 = .ok (.aload_n 0, 1) := by decide +kernel
theorem dX0_findTightHours_53 : decode cX0_findTightHours 53 = .ok (.getfield 21, 3) := by decide +kernel
theorem dX0_findTightHours_56 : decode cX0_findTightHours 56 = .ok (.iload 4, 2) := by decide +kernel
theorem dX0_findTightHours_58 : decode cX0_findTightHours 58 = .ok (.bipush 6, 2) := by decide +kernel
theorem dX0_findTightHours_60 : decode cX0_findTightHours 60 = .ok (.imul, 1) := by decide +kernel
theorem dX0_findTightHours_61 : decode cX0_findTightHours 61 = .ok (.iload_n 1, 1) := by decide +kernel
theorem dX0_findTightHours_62 : decode cX0_findTightHours 62 = .ok (.iadd, 1) := by decide +kernel
theorem dX0_findTightHours_63 : decode cX0_findTightHours 63 = .ok (.iaload, 1) := by decide +kernel
theorem dX0_findTightHours_64 : decode cX0_findTightHours 64 = .ok (.ineg, 1) := by decide +kernel
theorem dX0_findTightHours_65 : decode cX0_findTightHours 65 = .ok (.iconst 0, 1) := by decide +kernel
theorem dX0_findTightHours_66 : decode cX0_findTightHours 66 = .ok (.invokestatic 92, 3) := by decide +kernel
theorem dX0_findTightHours_69 : decode cX0_findTightHours 69 = .ok (.iadd, 1) := by decide +kernel
theorem dX0_findTightHours_70 : decode cX0_findTightHours 70 = .ok (.istore_n 3, 1) := by decide +kernel
theorem dX0_findTightHours_71 : decode cX0_findTightHours 71 = .ok (.iinc 4 1, 3) := by decide +kernel
theorem dX0_findTightHours_74 : decode cX0_findTightHours 74 = .ok (.goto (-54), 3) := by decide +kernel
theorem dX0_findTightHours_77 : decode cX0_findTightHours 77 = .ok (.iload_n 2, 1) := by decide +kernel
theorem dX0_findTightHours_78 : decode cX0_findTightHours 78 = .ok (.iload_n 3, 1) := by decide +kernel
theorem dX0_findTightHours_79 : decode cX0_findTightHours 79 = .ok (.invokestatic 92, 3) := by decide +kernel
theorem dX0_findTightHours_82 : decode cX0_findTightHours 82 = .ok (.aload_n 0, 1) := by decide +kernel
theorem dX0_findTightHours_83 : decode cX0_findTightHours 83 = .ok (.getfield 36, 3) := by decide +kernel
theorem dX0_findTightHours_86 : decode cX0_findTightHours 86 = .ok (.getfield 97, 3) := by decide +kernel
theorem dX0_findTightHours_89 : decode cX0_findTightHours 89 = .ok (.if_icmp .le 23, 3) := by decide +kernel
theorem dX0_findTightHours_92 : decode cX0_findTightHours 92 = .ok (.aload_n 0, 1) := by decide +kernel
theorem dX0_findTightHours_93 : decode cX0_findTightHours 93 = .ok (.getfield 33, 3) := by decide +kernel
theorem dX0_findTightHours_96 : decode cX0_findTightHours 96 = .ok (.aload_n 0, 1) := by decide +kernel
theorem dX0_findTightHours_97 : decode cX0_findTightHours 97 = .ok (.getfield 89, 3) := by decide +kernel
theorem dX0_findTightHours_100 : decode cX0_findTightHours 100 = .ok (.iload_n 1, 1) := by decide +kernel
theorem dX0_findTightHours_101 : decode cX0_findTightHours 101 = .ok (.iastore, 1) := by decide +kernel
theorem dX0_findTightHours_102 : decode cX0_findTightHours 102 = .ok (.aload_n 0, 1) := by decide +kernel
theorem dX0_findTightHours_103 : decode cX0_findTightHours 103 = .ok (.dup, 1) := by decide +kernel
theorem dX0_findTightHours_104 : decode cX0_findTightHours 104 = .ok (.getfield 89, 3) := by decide +kernel
theorem dX0_findTightHours_107 : decode cX0_findTightHours 107 = .ok (.iconst 1, 1) := by decide +kernel
theorem dX0_findTightHours_108 : decode cX0_findTightHours 108 = .ok (.iadd, 1) := by decide +kernel
theorem dX0_findTightHours_109 : decode cX0_findTightHours 109 = .ok (.putfield 89, 3) := by decide +kernel
theorem dX0_findTightHours_112 : decode cX0_findTightHours 112 = .ok (.iinc 1 1, 3) := by decide +kernel
theorem dX0_findTightHours_115 : decode cX0_findTightHours 115 = .ok (.goto (-108), 3) := by decide +kernel
theorem dX0_findTightHours_118 : decode cX0_findTightHours 118 = .ok (.return_, 1) := by decide +kernel
theorem dX0_multiplyTakings_0 : decode cX0_multiplyTakings 0 = .ok (.iconst 0, 1) := by decide +kernel
theorem dX0_multiplyTakings_1 : decode cX0_multiplyTakings 1 = .ok (.istore_n 1, 1) := by decide +kernel
theorem dX0_multiplyTakings_2 : decode cX0_multiplyTakings 2 = .ok (.iload_n 1, 1) := by decide +kernel
theorem dX0_multiplyTakings_3 : decode cX0_multiplyTakings 3 = .ok (.aload_n 0, 1) := by decide +kernel
theorem dX0_multiplyTakings_4 : decode cX0_multiplyTakings 4 = .ok (.getfield 36, 3) := by decide +kernel
theorem dX0_multiplyTakings_7 : decode cX0_multiplyTakings 7 = .ok (.getfield 80, 3) := by decide +kernel
theorem dX0_multiplyTakings_10 : decode cX0_multiplyTakings 10 = .ok (.if_icmp .ge 39, 3) := by decide +kernel
theorem dX0_multiplyTakings_13 : decode cX0_multiplyTakings 13 = .ok (.iconst 0, 1) := by decide +kernel
theorem dX0_multiplyTakings_14 : decode cX0_multiplyTakings 14 = .ok (.istore_n 2, 1) := by decide +kernel
theorem dX0_multiplyTakings_15 : decode cX0_multiplyTakings 15 = .ok (.iload_n 2, 1) := by decide +kernel
theorem dX0_multiplyTakings_16 : decode cX0_multiplyTakings 16 = .ok (.iload_n 1, 1) := by decide +kernel
theorem dX0_multiplyTakings_17 : decode cX0_multiplyTakings 17 = .ok (.if_icmp .gt 26, 3) := by decide +kernel
theorem dX0_multiplyTakings_20 : decode cX0_multiplyTakings 20 = .ok (.aload_n 0, 1) := by decide +kernel
theorem dX0_multiplyTakings_21 : decode cX0_multiplyTakings 21 = .ok (.getfield 24, 3) := by decide +kernel
theorem dX0_multiplyTakings_24 : decode cX0_multiplyTakings 24 = .ok (.iload_n 1, 1) := by decide +kernel
theorem dX0_multiplyTakings_25 : decode cX0_multiplyTakings 25 = .ok (.bipush 9, 2) := by decide +kernel
theorem dX0_multiplyTakings_27 : decode cX0_multiplyTakings 27 = .ok (.imul, 1) := by decide +kernel
theorem dX0_multiplyTakings_28 : decode cX0_multiplyTakings 28 = .ok (.iload_n 2, 1) := by decide +kernel
theorem dX0_multiplyTakings_29 : decode cX0_multiplyTakings 29 = .ok (.iadd, 1) := by decide +kernel
theorem dX0_multiplyTakings_30 : decode cX0_multiplyTakings 30 = .ok (.aload_n 0, 1) := by decide +kernel
theorem dX0_multiplyTakings_31 : decode cX0_multiplyTakings 31 = .ok (.iload_n 1, 1) := by decide +kernel
theorem dX0_multiplyTakings_32 : decode cX0_multiplyTakings 32 = .ok (.iload_n 2, 1) := by decide +kernel
theorem dX0_multiplyTakings_33 : decode cX0_multiplyTakings 33 = .ok (.invokevirtual 100, 3) := by decide +kernel
theorem dX0_multiplyTakings_36 : decode cX0_multiplyTakings 36 = .ok (.iastore, 1) := by decide +kernel
theorem dX0_multiplyTakings_37 : decode cX0_multiplyTakings 37 = .ok (.iinc 2 1, 3) := by decide +kernel
theorem dX0_multiplyTakings_40 : decode cX0_multiplyTakings 40 = .ok (.goto (-25), 3) := by decide +kernel
theorem dX0_multiplyTakings_43 : decode cX0_multiplyTakings 43 = .ok (.iinc 1 1, 3) := by decide +kernel
theorem dX0_multiplyTakings_46 : decode cX0_multiplyTakings 46 = .ok (.goto (-44), 3) := by decide +kernel
theorem dX0_multiplyTakings_49 : decode cX0_multiplyTakings 49 = .ok (.return_, 1) := by decide +kernel
theorem dX0_product_0 : decode cX0_product 0 = .ok (.iconst 0, 1) := by decide +kernel
theorem dX0_product_1 : decode cX0_product 1 = .ok (.istore_n 3, 1) := by decide +kernel
theorem dX0_product_2 : decode cX0_product 2 = .ok (.iconst 0, 1) := by decide +kernel
theorem dX0_product_3 : decode cX0_product 3 = .ok (.istore 4, 2) := by decide +kernel
theorem dX0_product_5 : decode cX0_product 5 = .ok (.iload 4, 2) := by decide +kernel
theorem dX0_product_7 : decode cX0_product 7 = .ok (.bipush 6, 2) := by decide +kernel
theorem dX0_product_9 : decode cX0_product 9 = .ok (.if_icmp .ge 48, 3) := by decide +kernel
theorem dX0_product_12 : decode cX0_product 12 = .ok (.iload_n 3, 1) := by decide +kernel
theorem dX0_product_13 : decode cX0_product 13 = .ok (.aload_n 0, 1) := by decide +kernel
theorem dX0_product_14 : decode cX0_product 14 = .ok (.getfield 36, 3) := by decide +kernel
theorem dX0_product_17 : decode cX0_product 17 = .ok (.getfield 103, 3) := by decide +kernel
theorem dX0_product_20 : decode cX0_product 20 = .ok (.iload 4, 2) := by decide +kernel
theorem dX0_product_22 : decode cX0_product 22 = .ok (.iaload, 1) := by decide +kernel
theorem dX0_product_23 : decode cX0_product 23 = .ok (.aload_n 0, 1) := by decide +kernel
theorem dX0_product_24 : decode cX0_product 24 = .ok (.getfield 21, 3) := by decide +kernel
theorem dX0_product_27 : decode cX0_product 27 = .ok (.iload_n 1, 1) := by decide +kernel
theorem dX0_product_28 : decode cX0_product 28 = .ok (.bipush 6, 2) := by decide +kernel
theorem dX0_product_30 : decode cX0_product 30 = .ok (.imul, 1) := by decide +kernel
theorem dX0_product_31 : decode cX0_product 31 = .ok (.iload 4, 2) := by decide +kernel
theorem dX0_product_33 : decode cX0_product 33 = .ok (.iadd, 1) := by decide +kernel
theorem dX0_product_34 : decode cX0_product 34 = .ok (.iaload, 1) := by decide +kernel
theorem dX0_product_35 : decode cX0_product 35 = .ok (.imul, 1) := by decide +kernel
theorem dX0_product_36 : decode cX0_product 36 = .ok (.aload_n 0, 1) := by decide +kernel
theorem dX0_product_37 : decode cX0_product 37 = .ok (.getfield 21, 3) := by decide +kernel
theorem dX0_product_40 : decode cX0_product 40 = .ok (.iload_n 2, 1) := by decide +kernel
theorem dX0_product_41 : decode cX0_product 41 = .ok (.bipush 6, 2) := by decide +kernel
theorem dX0_product_43 : decode cX0_product 43 = .ok (.imul, 1) := by decide +kernel
theorem dX0_product_44 : decode cX0_product 44 = .ok (.iload 4, 2) := by decide +kernel
theorem dX0_product_46 : decode cX0_product 46 = .ok (.iadd, 1) := by decide +kernel
theorem dX0_product_47 : decode cX0_product 47 = .ok (.iaload, 1) := by decide +kernel
theorem dX0_product_48 : decode cX0_product 48 = .ok (.imul, 1) := by decide +kernel
theorem dX0_product_49 : decode cX0_product 49 = .ok (.iadd, 1) := by decide +kernel
theorem dX0_product_50 : decode cX0_product 50 = .ok (.istore_n 3, 1) := by decide +kernel
theorem dX0_product_51 : decode cX0_product 51 = .ok (.iinc 4 1, 3) := by decide +kernel
theorem dX0_product_54 : decode cX0_product 54 = .ok (.goto (-49), 3) := by decide +kernel
theorem dX0_product_57 : decode cX0_product 57 = .ok (.iload_n 3, 1) := by decide +kernel
theorem dX0_product_58 : decode cX0_product 58 = .ok (.ireturn, 1) := by decide +kernel
theorem dX0_griefApart_0 : decode cX0_griefApart 0 = .ok (.iconst 0, 1) := by decide +kernel
theorem dX0_griefApart_1 : decode cX0_griefApart 1 = .ok (.istore_n 1, 1) := by decide +kernel
theorem dX0_griefApart_2 : decode cX0_griefApart 2 = .ok (.iconst 0, 1) := by decide +kernel
theorem dX0_griefApart_3 : decode cX0_griefApart 3 = .ok (.istore_n 2, 1) := by decide +kernel
theorem dX0_griefApart_4 : decode cX0_griefApart 4 = .ok (.iload_n 2, 1) := by decide +kernel
theorem dX0_griefApart_5 : decode cX0_griefApart 5 = .ok (.aload_n 0, 1) := by decide +kernel
theorem dX0_griefApart_6 : decode cX0_griefApart 6 = .ok (.getfield 36, 3) := by decide +kernel
theorem dX0_griefApart_9 : decode cX0_griefApart 9 = .ok (.getfield 80, 3) := by decide +kernel
theorem dX0_griefApart_12 : decode cX0_griefApart 12 = .ok (.if_icmp .ge 50, 3) := by decide +kernel
theorem dX0_griefApart_15 : decode cX0_griefApart 15 = .ok (.iload_n 1, 1) := by decide +kernel
theorem dX0_griefApart_16 : decode cX0_griefApart 16 = .ok (.aload_n 0, 1) := by decide +kernel
theorem dX0_griefApart_17 : decode cX0_griefApart 17 = .ok (.getfield 24, 3) := by decide +kernel
theorem dX0_griefApart_20 : decode cX0_griefApart 20 = .ok (.iload_n 2, 1) := by decide +kernel
theorem dX0_griefApart_21 : decode cX0_griefApart 21 = .ok (.bipush 9, 2) := by decide +kernel
theorem dX0_griefApart_23 : decode cX0_griefApart 23 = .ok (.imul, 1) := by decide +kernel
theorem dX0_griefApart_24 : decode cX0_griefApart 24 = .ok (.iload_n 2, 1) := by decide +kernel
theorem dX0_griefApart_25 : decode cX0_griefApart 25 = .ok (.iadd, 1) := by decide +kernel
theorem dX0_griefApart_26 : decode cX0_griefApart 26 = .ok (.iaload, 1) := by decide +kernel
theorem dX0_griefApart_27 : decode cX0_griefApart 27 = .ok (.iadd, 1) := by decide +kernel
theorem dX0_griefApart_28 : decode cX0_griefApart 28 = .ok (.istore_n 1, 1) := by decide +kernel
theorem dX0_griefApart_29 : decode cX0_griefApart 29 = .ok (.iconst 0, 1) := by decide +kernel
theorem dX0_griefApart_30 : decode cX0_griefApart 30 = .ok (.istore_n 3, 1) := by decide +kernel
theorem dX0_griefApart_31 : decode cX0_griefApart 31 = .ok (.iload_n 3, 1) := by decide +kernel
theorem dX0_griefApart_32 : decode cX0_griefApart 32 = .ok (.iload_n 2, 1) := by decide +kernel
theorem dX0_griefApart_33 : decode cX0_griefApart 33 = .ok (.if_icmp .ge 23, 3) := by decide +kernel
theorem dX0_griefApart_36 : decode cX0_griefApart 36 = .ok (.iload_n 1, 1) := by decide +kernel
theorem dX0_griefApart_37 : decode cX0_griefApart 37 = .ok (.aload_n 0, 1) := by decide +kernel
theorem dX0_griefApart_38 : decode cX0_griefApart 38 = .ok (.getfield 24, 3) := by decide +kernel
theorem dX0_griefApart_41 : decode cX0_griefApart 41 = .ok (.iload_n 2, 1) := by decide +kernel
theorem dX0_griefApart_42 : decode cX0_griefApart 42 = .ok (.bipush 9, 2) := by decide +kernel
theorem dX0_griefApart_44 : decode cX0_griefApart 44 = .ok (.imul, 1) := by decide +kernel
theorem dX0_griefApart_45 : decode cX0_griefApart 45 = .ok (.iload_n 3, 1) := by decide +kernel
theorem dX0_griefApart_46 : decode cX0_griefApart 46 = .ok (.iadd, 1) := by decide +kernel
theorem dX0_griefApart_47 : decode cX0_griefApart 47 = .ok (.iaload, 1) := by decide +kernel
theorem dX0_griefApart_48 : decode cX0_griefApart 48 = .ok (.isub, 1) := by decide +kernel
theorem dX0_griefApart_49 : decode cX0_griefApart 49 = .ok (.istore_n 1, 1) := by decide +kernel
theorem dX0_griefApart_50 : decode cX0_griefApart 50 = .ok (.iinc 3 1, 3) := by decide +kernel
theorem dX0_griefApart_53 : decode cX0_griefApart 53 = .ok (.goto (-22), 3) := by decide +kernel
theorem dX0_griefApart_56 : decode cX0_griefApart 56 = .ok (.iinc 2 1, 3) := by decide +kernel
theorem dX0_griefApart_59 : decode cX0_griefApart 59 = .ok (.goto (-55), 3) := by decide +kernel
theorem dX0_griefApart_62 : decode cX0_griefApart 62 = .ok (.iload_n 1, 1) := by decide +kernel
theorem dX0_griefApart_63 : decode cX0_griefApart 63 = .ok (.ireturn, 1) := by decide +kernel
theorem dX0_place_0 : decode cX0_place 0 = .ok (.iload_n 1, 1) := by decide +kernel
theorem dX0_place_1 : decode cX0_place 1 = .ok (.aload_n 0, 1) := by decide +kernel
theorem dX0_place_2 : decode cX0_place 2 = .ok (.getfield 36, 3) := by decide +kernel
theorem dX0_place_5 : decode cX0_place 5 = .ok (.getfield 80, 3) := by decide +kernel
theorem dX0_place_8 : decode cX0_place 8 = .ok (.if_icmp .lt 10, 3) := by decide +kernel
theorem dX0_place_11 : decode cX0_place 11 = .ok (.aload_n 0, 1) := by decide +kernel
theorem dX0_place_12 : decode cX0_place 12 = .ok (.iload_n 2, 1) := by decide +kernel
theorem dX0_place_13 : decode cX0_place 13 = .ok (.iload_n 3, 1) := by decide +kernel
theorem dX0_place_14 : decode cX0_place 14 = .ok (.invokevirtual 106, 3) := by decide +kernel
theorem dX0_place_17 : decode cX0_place 17 = .ok (.return_, 1) := by decide +kernel
theorem dX0_place_18 : decode cX0_place 18 = .ok (.aload_n 0, 1) := by decide +kernel
theorem dX0_place_19 : decode cX0_place 19 = .ok (.iload_n 1, 1) := by decide +kernel
theorem dX0_place_20 : decode cX0_place 20 = .ok (.invokevirtual 110, 3) := by decide +kernel
theorem dX0_place_23 : decode cX0_place 23 = .ok (.iconst 0, 1) := by decide +kernel
theorem dX0_place_24 : decode cX0_place 24 = .ok (.istore 4, 2) := by decide +kernel
theorem dX0_place_26 : decode cX0_place 26 = .ok (.iload 4, 2) := by decide +kernel
theorem dX0_place_28 : decode cX0_place 28 = .ok (.iconst 3, 1) := by decide +kernel
theorem dX0_place_29 : decode cX0_place 29 = .ok (.if_icmp .ge 86, 3) := by decide +kernel
theorem dX0_place_32 : decode cX0_place 32 = .ok (.aload_n 0, 1) := by decide +kernel
theorem dX0_place_33 : decode cX0_place 33 = .ok (.iload_n 1, 1) := by decide +kernel
theorem dX0_place_34 : decode cX0_place 34 = .ok (.iload 4, 2) := by decide +kernel
theorem dX0_place_36 : decode cX0_place 36 = .ok (.invokevirtual 114, 3) := by decide +kernel
theorem dX0_place_39 : decode cX0_place 39 = .ok (.ifCond .eq 70, 3) := by decide +kernel
theorem dX0_place_42 : decode cX0_place 42 = .ok (.aload_n 0, 1) := by decide +kernel
theorem dX0_place_43 : decode cX0_place 43 = .ok (.getfield 18, 3) := by decide +kernel
theorem dX0_place_46 : decode cX0_place 46 = .ok (.iload_n 1, 1) := by decide +kernel
theorem dX0_place_47 : decode cX0_place 47 = .ok (.iload 4, 2) := by decide +kernel
theorem dX0_place_49 : decode cX0_place 49 = .ok (.iastore, 1) := by decide +kernel
theorem dX0_place_50 : decode cX0_place 50 = .ok (.aload_n 0, 1) := by decide +kernel
theorem dX0_place_51 : decode cX0_place 51 = .ok (.iload_n 1, 1) := by decide +kernel
theorem dX0_place_52 : decode cX0_place 52 = .ok (.iload 4, 2) := by decide +kernel
theorem dX0_place_54 : decode cX0_place 54 = .ok (.iconst 1, 1) := by decide +kernel
theorem dX0_place_55 : decode cX0_place 55 = .ok (.invokevirtual 118, 3) := by decide +kernel
theorem dX0_place_58 : decode cX0_place 58 = .ok (.aload_n 0, 1) := by decide +kernel
theorem dX0_place_59 : decode cX0_place 59 = .ok (.iload_n 1, 1) := by decide +kernel
theorem dX0_place_60 : decode cX0_place 60 = .ok (.iconst 1, 1) := by decide +kernel
theorem dX0_place_61 : decode cX0_place 61 = .ok (.iadd, 1) := by decide +kernel
theorem dX0_place_62 : decode cX0_place 62 = .ok (.iload_n 2, 1) := by decide +kernel
theorem dX0_place_63 : decode cX0_place 63 = .ok (.iconst 3, 1) := by decide +kernel
theorem dX0_place_64 : decode cX0_place 64 = .ok (.aload_n 0, 1) := by decide +kernel
theorem dX0_place_65 : decode cX0_place 65 = .ok (.getfield 27, 3) := by decide +kernel
theorem dX0_place_68 : decode cX0_place 68 = .ok (.iload_n 1, 1) := by decide +kernel
theorem dX0_place_69 : decode cX0_place 69 = .ok (.iconst 3, 1) := by decide +kernel
theorem dX0_place_70 : decode cX0_place 70 = .ok (.imul, 1) := by decide +kernel
theorem dX0_place_71 : decode cX0_place 71 = .ok (.iload 4, 2) := by decide +kernel
theorem dX0_place_73 : decode cX0_place 73 = .ok (.iadd, 1) := by decide +kernel
theorem dX0_place_74 : decode cX0_place 74 = .ok (.iaload, 1) := by decide +kernel
theorem dX0_place_75 : decode cX0_place 75 = .ok (.imul, 1) := by decide +kernel
theorem dX0_place_76 : decode cX0_place 76 = .ok (.iadd, 1) := by decide +kernel
theorem dX0_place_77 : decode cX0_place 77 = .ok (.iload_n 3, 1) := by decide +kernel
theorem dX0_place_78 : decode cX0_place 78 = .ok (.iload 4, 2) := by decide +kernel
theorem dX0_place_80 : decode cX0_place 80 = .ok (.aload_n 0, 1) := by decide +kernel
theorem dX0_place_81 : decode cX0_place 81 = .ok (.getfield 36, 3) := by decide +kernel
theorem dX0_place_84 : decode cX0_place 84 = .ok (.getfield 121, 3) := by decide +kernel
theorem dX0_place_87 : decode cX0_place 87 = .ok (.iload_n 1, 1) := by decide +kernel
theorem dX0_place_88 : decode cX0_place 88 = .ok (.iaload, 1) := by decide +kernel
theorem dX0_place_89 : decode cX0_place 89 = .ok (.if_icmp .ne 7, 3) := by decide +kernel
theorem dX0_place_92 : decode cX0_place 92 = .ok (.iconst 0, 1) := by decide +kernel
theorem dX0_place_93 : decode cX0_place 93 = .ok (.goto 4, 3) := by decide +kernel
theorem dX0_place_96 : decode cX0_place 96 = .ok (.iconst 1, 1) := by decide +kernel
theorem dX0_place_97 : decode cX0_place 97 = .ok (.iadd, 1) := by decide +kernel
theorem dX0_place_98 : decode cX0_place 98 = .ok (.invokevirtual 76, 3) := by decide +kernel
theorem dX0_place_101 : decode cX0_place 101 = .ok (.aload_n 0, 1) := by decide +kernel
theorem dX0_place_102 : decode cX0_place 102 = .ok (.iload_n 1, 1) := by decide +kernel
theorem dX0_place_103 : decode cX0_place 103 = .ok (.iload 4, 2) := by decide +kernel
theorem dX0_place_105 : decode cX0_place 105 = .ok (.iconst (-1), 1) := by decide +kernel
theorem dX0_place_106 : decode cX0_place 106 = .ok (.invokevirtual 118, 3) := by decide +kernel
theorem dX0_place_109 : decode cX0_place 109 = .ok (.iinc 4 1, 3) := by decide +kernel
theorem dX0_place_112 : decode cX0_place 112 = .ok (.goto (-86), 3) := by decide +kernel
theorem dX0_place_115 : decode cX0_place 115 = .ok (.return_, 1) := by decide +kernel
theorem dX0_meetEarlier_0 : decode cX0_meetEarlier 0 = .ok (.iload_n 1, 1) := by decide +kernel
theorem dX0_meetEarlier_1 : decode cX0_meetEarlier 1 = .ok (.iconst 3, 1) := by decide +kernel
theorem dX0_meetEarlier_2 : decode cX0_meetEarlier 2 = .ok (.imul, 1) := by decide +kernel
theorem dX0_meetEarlier_3 : decode cX0_meetEarlier 3 = .ok (.istore_n 2, 1) := by decide +kernel
theorem dX0_meetEarlier_4 : decode cX0_meetEarlier 4 = .ok (.iconst 0, 1) := by decide +kernel
theorem dX0_meetEarlier_5 : decode cX0_meetEarlier 5 = .ok (.istore_n 3, 1) := by decide +kernel
theorem dX0_meetEarlier_6 : decode cX0_meetEarlier 6 = .ok (.iload_n 3, 1) := by decide +kernel
theorem dX0_meetEarlier_7 : decode cX0_meetEarlier 7 = .ok (.iconst 3, 1) := by decide +kernel
theorem dX0_meetEarlier_8 : decode cX0_meetEarlier 8 = .ok (.if_icmp .ge 18, 3) := by decide +kernel
theorem dX0_meetEarlier_11 : decode cX0_meetEarlier 11 = .ok (.aload_n 0, 1) := by decide +kernel
theorem dX0_meetEarlier_12 : decode cX0_meetEarlier 12 = .ok (.getfield 27, 3) := by decide +kernel
theorem dX0_meetEarlier_15 : decode cX0_meetEarlier 15 = .ok (.iload_n 2, 1) := by decide +kernel
theorem dX0_meetEarlier_16 : decode cX0_meetEarlier 16 = .ok (.iload_n 3, 1) := by decide +kernel
theorem dX0_meetEarlier_17 : decode cX0_meetEarlier 17 = .ok (.iadd, 1) := by decide +kernel
theorem dX0_meetEarlier_18 : decode cX0_meetEarlier 18 = .ok (.iconst 0, 1) := by decide +kernel
theorem dX0_meetEarlier_19 : decode cX0_meetEarlier 19 = .ok (.iastore, 1) := by decide +kernel
theorem dX0_meetEarlier_20 : decode cX0_meetEarlier 20 = .ok (.iinc 3 1, 3) := by decide +kernel
theorem dX0_meetEarlier_23 : decode cX0_meetEarlier 23 = .ok (.goto (-17), 3) := by decide +kernel
theorem dX0_meetEarlier_26 : decode cX0_meetEarlier 26 = .ok (.iconst 0, 1) := by decide +kernel
theorem dX0_meetEarlier_27 : decode cX0_meetEarlier 27 = .ok (.istore_n 3, 1) := by decide +kernel
theorem dX0_meetEarlier_28 : decode cX0_meetEarlier 28 = .ok (.iload_n 3, 1) := by decide +kernel
theorem dX0_meetEarlier_29 : decode cX0_meetEarlier 29 = .ok (.iload_n 1, 1) := by decide +kernel
theorem dX0_meetEarlier_30 : decode cX0_meetEarlier 30 = .ok (.if_icmp .ge 36, 3) := by decide +kernel
theorem dX0_meetEarlier_33 : decode cX0_meetEarlier 33 = .ok (.aload_n 0, 1) := by decide +kernel
theorem dX0_meetEarlier_34 : decode cX0_meetEarlier 34 = .ok (.getfield 27, 3) := by decide +kernel
theorem dX0_meetEarlier_37 : decode cX0_meetEarlier 37 = .ok (.iload_n 2, 1) := by decide +kernel
theorem dX0_meetEarlier_38 : decode cX0_meetEarlier 38 = .ok (.aload_n 0, 1) := by decide +kernel
theorem dX0_meetEarlier_39 : decode cX0_meetEarlier 39 = .ok (.getfield 18, 3) := by decide +kernel
theorem dX0_meetEarlier_42 : decode cX0_meetEarlier 42 = .ok (.iload_n 3, 1) := by decide +kernel
theorem dX0_meetEarlier_43 : decode cX0_meetEarlier 43 = .ok (.iaload, 1) := by decide +kernel
theorem dX0_meetEarlier_44 : decode cX0_meetEarlier 44 = .ok (.iadd, 1) := by decide +kernel
theorem dX0_meetEarlier_45 : decode cX0_meetEarlier 45 = .ok (.dup2, 1) := by decide +kernel
theorem dX0_meetEarlier_46 : decode cX0_meetEarlier 46 = .ok (.iaload, 1) := by decide +kernel
theorem dX0_meetEarlier_47 : decode cX0_meetEarlier 47 = .ok (.aload_n 0, 1) := by decide +kernel
theorem dX0_meetEarlier_48 : decode cX0_meetEarlier 48 = .ok (.getfield 24, 3) := by decide +kernel
theorem dX0_meetEarlier_51 : decode cX0_meetEarlier 51 = .ok (.iload_n 1, 1) := by decide +kernel
theorem dX0_meetEarlier_52 : decode cX0_meetEarlier 52 = .ok (.bipush 9, 2) := by decide +kernel
theorem dX0_meetEarlier_54 : decode cX0_meetEarlier 54 = .ok (.imul, 1) := by decide +kernel
theorem dX0_meetEarlier_55 : decode cX0_meetEarlier 55 = .ok (.iload_n 3, 1) := by decide +kernel
theorem dX0_meetEarlier_56 : decode cX0_meetEarlier 56 = .ok (.iadd, 1) := by decide +kernel
theorem dX0_meetEarlier_57 : decode cX0_meetEarlier 57 = .ok (.iaload, 1) := by decide +kernel
theorem dX0_meetEarlier_58 : decode cX0_meetEarlier 58 = .ok (.iadd, 1) := by decide +kernel
theorem dX0_meetEarlier_59 : decode cX0_meetEarlier 59 = .ok (.iastore, 1) := by decide +kernel
theorem dX0_meetEarlier_60 : decode cX0_meetEarlier 60 = .ok (.iinc 3 1, 3) := by decide +kernel
theorem dX0_meetEarlier_63 : decode cX0_meetEarlier 63 = .ok (.goto (-35), 3) := by decide +kernel
theorem dX0_meetEarlier_66 : decode cX0_meetEarlier 66 = .ok (.return_, 1) := by decide +kernel
theorem dX0_mayLie_0 : decode cX0_mayLie 0 = .ok (.aload_n 0, 1) := by decide +kernel
theorem dX0_mayLie_1 : decode cX0_mayLie 1 = .ok (.getfield 36, 3) := by decide +kernel
theorem dX0_mayLie_4 : decode cX0_mayLie 4 = .ok (.getfield 124, 3) := by decide +kernel
theorem dX0_mayLie_7 : decode cX0_mayLie 7 = .ok (.iload_n 1, 1) := by decide +kernel
theorem dX0_mayLie_8 : decode cX0_mayLie 8 = .ok (.iaload, 1) := by decide +kernel
theorem dX0_mayLie_9 : decode cX0_mayLie 9 = .ok (.iconst 1, 1) := by decide +kernel
theorem dX0_mayLie_10 : decode cX0_mayLie 10 = .ok (.if_icmp .ne 18, 3) := by decide +kernel
theorem dX0_mayLie_13 : decode cX0_mayLie 13 = .ok (.iload_n 2, 1) := by decide +kernel
theorem dX0_mayLie_14 : decode cX0_mayLie 14 = .ok (.aload_n 0, 1) := by decide +kernel
theorem dX0_mayLie_15 : decode cX0_mayLie 15 = .ok (.getfield 36, 3) := by decide +kernel
theorem dX0_mayLie_18 : decode cX0_mayLie 18 = .ok (.getfield 121, 3) := by decide +kernel
theorem dX0_mayLie_21 : decode cX0_mayLie 21 = .ok (.iload_n 1, 1) := by decide +kernel
theorem dX0_mayLie_22 : decode cX0_mayLie 22 = .ok (.iaload, 1) := by decide +kernel
theorem dX0_mayLie_23 : decode cX0_mayLie 23 = .ok (.if_icmp .eq 5, 3) := by decide +kernel
theorem dX0_mayLie_26 : decode cX0_mayLie 26 = .ok (.iconst 0, 1) := by decide +kernel
theorem dX0_mayLie_27 : decode cX0_mayLie 27 = .ok (.ireturn, 1) := by decide +kernel
theorem dX0_mayLie_28 : decode cX0_mayLie 28 = .ok (.aload_n 0, 1) := by decide +kernel
theorem dX0_mayLie_29 : decode cX0_mayLie 29 = .ok (.getfield 36, 3) := by decide +kernel
theorem dX0_mayLie_32 : decode cX0_mayLie 32 = .ok (.getfield 127, 3) := by decide +kernel
theorem dX0_mayLie_35 : decode cX0_mayLie 35 = .ok (.iload_n 1, 1) := by decide +kernel
theorem dX0_mayLie_36 : decode cX0_mayLie 36 = .ok (.iaload, 1) := by decide +kernel
theorem dX0_mayLie_37 : decode cX0_mayLie 37 = .ok (.istore_n 3, 1) := by decide +kernel
theorem dX0_mayLie_38 : decode cX0_mayLie 38 = .ok (.iload_n 3, 1) := by decide +kernel
theorem dX0_mayLie_39 : decode cX0_mayLie 39 = .ok (.iload_n 1, 1) := by decide +kernel
theorem dX0_mayLie_40 : decode cX0_mayLie 40 = .ok (.if_icmp .eq 13, 3) := by decide +kernel
theorem dX0_mayLie_43 : decode cX0_mayLie 43 = .ok (.iload_n 2, 1) := by decide +kernel
theorem dX0_mayLie_44 : decode cX0_mayLie 44 = .ok (.aload_n 0, 1) := by decide +kernel
theorem dX0_mayLie_45 : decode cX0_mayLie 45 = .ok (.getfield 18, 3) := by decide +kernel
theorem dX0_mayLie_48 : decode cX0_mayLie 48 = .ok (.iload_n 3, 1) := by decide +kernel
theorem dX0_mayLie_49 : decode cX0_mayLie 49 = .ok (.iaload, 1) := by decide +kernel
theorem dX0_mayLie_50 : decode cX0_mayLie 50 = .ok (.if_icmp .ne 7, 3) := by decide +kernel
theorem dX0_mayLie_53 : decode cX0_mayLie 53 = .ok (.iconst 1, 1) := by decide +kernel
theorem dX0_mayLie_54 : decode cX0_mayLie 54 = .ok (.goto 4, 3) := by decide +kernel
theorem dX0_mayLie_57 : decode cX0_mayLie 57 = .ok (.iconst 0, 1) := by decide +kernel
theorem dX0_mayLie_58 : decode cX0_mayLie 58 = .ok (.ireturn, 1) := by decide +kernel
theorem dX0_addLoads_0 : decode cX0_addLoads 0 = .ok (.iconst 0, 1) := by decide +kernel
theorem dX0_addLoads_1 : decode cX0_addLoads 1 = .ok (.istore 4, 2) := by decide +kernel
theorem dX0_addLoads_3 : decode cX0_addLoads 3 = .ok (.iload 4, 2) := by decide +kernel
theorem dX0_addLoads_5 : decode cX0_addLoads 5 = .ok (.aload_n 0, 1) := by decide +kernel
theorem dX0_addLoads_6 : decode cX0_addLoads 6 = .ok (.getfield 89, 3) := by decide +kernel
theorem dX0_addLoads_9 : decode cX0_addLoads 9 = .ok (.if_icmp .ge 47, 3) := by decide +kernel
theorem dX0_addLoads_12 : decode cX0_addLoads 12 = .ok (.aload_n 0, 1) := by decide +kernel
theorem dX0_addLoads_13 : decode cX0_addLoads 13 = .ok (.getfield 33, 3) := by decide +kernel
theorem dX0_addLoads_16 : decode cX0_addLoads 16 = .ok (.iload 4, 2) := by decide +kernel
theorem dX0_addLoads_18 : decode cX0_addLoads 18 = .ok (.iaload, 1) := by decide +kernel
theorem dX0_addLoads_19 : decode cX0_addLoads 19 = .ok (.istore 5, 2) := by decide +kernel
theorem dX0_addLoads_21 : decode cX0_addLoads 21 = .ok (.aload_n 0, 1) := by decide +kernel
theorem dX0_addLoads_22 : decode cX0_addLoads 22 = .ok (.getfield 30, 3) := by decide +kernel
theorem dX0_addLoads_25 : decode cX0_addLoads 25 = .ok (.iload_n 2, 1) := by decide +kernel
theorem dX0_addLoads_26 : decode cX0_addLoads 26 = .ok (.bipush 6, 2) := by decide +kernel
theorem dX0_addLoads_28 : decode cX0_addLoads 28 = .ok (.imul, 1) := by decide +kernel
theorem dX0_addLoads_29 : decode cX0_addLoads 29 = .ok (.iload 5, 2) := by decide +kernel
theorem dX0_addLoads_31 : decode cX0_addLoads 31 = .ok (.iadd, 1) := by decide +kernel
theorem dX0_addLoads_32 : decode cX0_addLoads 32 = .ok (.dup2, 1) := by decide +kernel
theorem dX0_addLoads_33 : decode cX0_addLoads 33 = .ok (.iaload, 1) := by decide +kernel
theorem dX0_addLoads_34 : decode cX0_addLoads 34 = .ok (.iload_n 3, 1) := by decide +kernel
theorem dX0_addLoads_35 : decode cX0_addLoads 35 = .ok (.aload_n 0, 1) := by decide +kernel
theorem dX0_addLoads_36 : decode cX0_addLoads 36 = .ok (.getfield 21, 3) := by decide +kernel
theorem dX0_addLoads_39 : decode cX0_addLoads 39 = .ok (.iload_n 1, 1) := by decide +kernel
theorem dX0_addLoads_40 : decode cX0_addLoads 40 = .ok (.bipush 6, 2) := by decide +kernel
theorem dX0_addLoads_42 : decode cX0_addLoads 42 = .ok (.imul, 1) := by decide +kernel
theorem dX0_addLoads_43 : decode cX0_addLoads 43 = .ok (.iload 5, 2) := by decide +kernel
theorem dX0_addLoads_45 : decode cX0_addLoads 45 = .ok (.iadd, 1) := by decide +kernel
theorem dX0_addLoads_46 : decode cX0_addLoads 46 = .ok (.iaload, 1) := by decide +kernel
theorem dX0_addLoads_47 : decode cX0_addLoads 47 = .ok (.imul, 1) := by decide +kernel
theorem dX0_addLoads_48 : decode cX0_addLoads 48 = .ok (.iadd, 1) := by decide +kernel
theorem dX0_addLoads_49 : decode cX0_addLoads 49 = .ok (.iastore, 1) := by decide +kernel
theorem dX0_addLoads_50 : decode cX0_addLoads 50 = .ok (.iinc 4 1, 3) := by decide +kernel
theorem dX0_addLoads_53 : decode cX0_addLoads 53 = .ok (.goto (-50), 3) := by decide +kernel
theorem dX0_addLoads_56 : decode cX0_addLoads 56 = .ok (.return_, 1) := by decide +kernel
theorem dX0_isLaidSafe_0 : decode cX0_isLaidSafe 0 = .ok (.iconst 0, 1) := by decide +kernel
theorem dX0_isLaidSafe_1 : decode cX0_isLaidSafe 1 = .ok (.istore_n 1, 1) := by decide +kernel
theorem dX0_isLaidSafe_2 : decode cX0_isLaidSafe 2 = .ok (.iload_n 1, 1) := by decide +kernel
theorem dX0_isLaidSafe_3 : decode cX0_isLaidSafe 3 = .ok (.aload_n 0, 1) := by decide +kernel
theorem dX0_isLaidSafe_4 : decode cX0_isLaidSafe 4 = .ok (.getfield 89, 3) := by decide +kernel
theorem dX0_isLaidSafe_7 : decode cX0_isLaidSafe 7 = .ok (.if_icmp .ge 53, 3) := by decide +kernel
theorem dX0_isLaidSafe_10 : decode cX0_isLaidSafe 10 = .ok (.iconst 0, 1) := by decide +kernel
theorem dX0_isLaidSafe_11 : decode cX0_isLaidSafe 11 = .ok (.istore_n 2, 1) := by decide +kernel
theorem dX0_isLaidSafe_12 : decode cX0_isLaidSafe 12 = .ok (.iload_n 2, 1) := by decide +kernel
theorem dX0_isLaidSafe_13 : decode cX0_isLaidSafe 13 = .ok (.iconst 3, 1) := by decide +kernel
theorem dX0_isLaidSafe_14 : decode cX0_isLaidSafe 14 = .ok (.if_icmp .ge 40, 3) := by decide +kernel
theorem dX0_isLaidSafe_17 : decode cX0_isLaidSafe 17 = .ok (.aload_n 0, 1) := by decide +kernel
theorem dX0_isLaidSafe_18 : decode cX0_isLaidSafe 18 = .ok (.getfield 30, 3) := by decide +kernel
theorem dX0_isLaidSafe_21 : decode cX0_isLaidSafe 21 = .ok (.iload_n 2, 1) := by decide +kernel
theorem dX0_isLaidSafe_22 : decode cX0_isLaidSafe 22 = .ok (.bipush 6, 2) := by decide +kernel
theorem dX0_isLaidSafe_24 : decode cX0_isLaidSafe 24 = .ok (.imul, 1) := by decide +kernel
theorem dX0_isLaidSafe_25 : decode cX0_isLaidSafe 25 = .ok (.aload_n 0, 1) := by decide +kernel
theorem dX0_isLaidSafe_26 : decode cX0_isLaidSafe 26 = .ok (.getfield 33, 3) := by decide +kernel
theorem dX0_isLaidSafe_29 : decode cX0_isLaidSafe 29 = .ok (.iload_n 1, 1) := by decide +kernel
theorem dX0_isLaidSafe_30 : decode cX0_isLaidSafe 30 = .ok (.iaload, 1) := by decide +kernel
theorem dX0_isLaidSafe_31 : decode cX0_isLaidSafe 31 = .ok (.iadd, 1) := by decide +kernel
theorem dX0_isLaidSafe_32 : decode cX0_isLaidSafe 32 = .ok (.iaload, 1) := by decide +kernel
theorem dX0_isLaidSafe_33 : decode cX0_isLaidSafe 33 = .ok (.invokestatic 130, 3) := by decide +kernel
theorem dX0_isLaidSafe_36 : decode cX0_isLaidSafe 36 = .ok (.aload_n 0, 1) := by decide +kernel
theorem dX0_isLaidSafe_37 : decode cX0_isLaidSafe 37 = .ok (.getfield 36, 3) := by decide +kernel
theorem dX0_isLaidSafe_40 : decode cX0_isLaidSafe 40 = .ok (.getfield 97, 3) := by decide +kernel
theorem dX0_isLaidSafe_43 : decode cX0_isLaidSafe 43 = .ok (.if_icmp .le 5, 3) := by decide +kernel
theorem dX0_isLaidSafe_46 : decode cX0_isLaidSafe 46 = .ok (.iconst 0, 1) := by decide +kernel
theorem dX0_isLaidSafe_47 : decode cX0_isLaidSafe 47 = .ok (.ireturn, 1) := by decide +kernel
theorem dX0_isLaidSafe_48 : decode cX0_isLaidSafe 48 = .ok (.iinc 2 1, 3) := by decide +kernel
theorem dX0_isLaidSafe_51 : decode cX0_isLaidSafe 51 = .ok (.goto (-39), 3) := by decide +kernel
theorem dX0_isLaidSafe_54 : decode cX0_isLaidSafe 54 = .ok (.iinc 1 1, 3) := by decide +kernel
theorem dX0_isLaidSafe_57 : decode cX0_isLaidSafe 57 = .ok (.goto (-55), 3) := by decide +kernel
theorem dX0_isLaidSafe_60 : decode cX0_isLaidSafe 60 = .ok (.iconst 1, 1) := by decide +kernel
theorem dX0_isLaidSafe_61 : decode cX0_isLaidSafe 61 = .ok (.ireturn, 1) := by decide +kernel
theorem dX0_count_0 : decode cX0_count 0 = .ok (.aload_n 0, 1) := by decide +kernel
theorem dX0_count_1 : decode cX0_count 1 = .ok (.invokevirtual 134, 3) := by decide +kernel
theorem dX0_count_4 : decode cX0_count 4 = .ok (.ifCond .ne 4, 3) := by decide +kernel
theorem dX0_count_7 : decode cX0_count 7 = .ok (.return_, 1) := by decide +kernel
theorem dX0_count_8 : decode cX0_count 8 = .ok (.aload_n 0, 1) := by decide +kernel
theorem dX0_count_9 : decode cX0_count 9 = .ok (.dup, 1) := by decide +kernel
theorem dX0_count_10 : decode cX0_count 10 = .ok (.getfield 47, 3) := by decide +kernel
theorem dX0_count_13 : decode cX0_count 13 = .ok (.iconst 1, 1) := by decide +kernel
theorem dX0_count_14 : decode cX0_count 14 = .ok (.iadd, 1) := by decide +kernel
theorem dX0_count_15 : decode cX0_count 15 = .ok (.putfield 47, 3) := by decide +kernel
theorem dX0_count_18 : decode cX0_count 18 = .ok (.aload_n 0, 1) := by decide +kernel
theorem dX0_count_19 : decode cX0_count 19 = .ok (.getfield 60, 3) := by decide +kernel
theorem dX0_count_22 : decode cX0_count 22 = .ok (.iconst (-1), 1) := by decide +kernel
theorem dX0_count_23 : decode cX0_count 23 = .ok (.if_icmp .eq 11, 3) := by decide +kernel
theorem dX0_count_26 : decode cX0_count 26 = .ok (.iload_n 1, 1) := by decide +kernel
theorem dX0_count_27 : decode cX0_count 27 = .ok (.aload_n 0, 1) := by decide +kernel
theorem dX0_count_28 : decode cX0_count 28 = .ok (.getfield 60, 3) := by decide +kernel
theorem dX0_count_31 : decode cX0_count 31 = .ok (.if_icmp .ge 13, 3) := by decide +kernel
theorem dX0_count_34 : decode cX0_count 34 = .ok (.aload_n 0, 1) := by decide +kernel
theorem dX0_count_35 : decode cX0_count 35 = .ok (.iload_n 1, 1) := by decide +kernel
theorem dX0_count_36 : decode cX0_count 36 = .ok (.putfield 60, 3) := by decide +kernel
theorem dX0_count_39 : decode cX0_count 39 = .ok (.aload_n 0, 1) := by decide +kernel
theorem dX0_count_40 : decode cX0_count 40 = .ok (.iconst 0, 1) := by decide +kernel
theorem dX0_count_41 : decode cX0_count 41 = .ok (.putfield 57, 3) := by decide +kernel
theorem dX0_count_44 : decode cX0_count 44 = .ok (.iload_n 1, 1) := by decide +kernel
theorem dX0_count_45 : decode cX0_count 45 = .ok (.aload_n 0, 1) := by decide +kernel
theorem dX0_count_46 : decode cX0_count 46 = .ok (.getfield 60, 3) := by decide +kernel
theorem dX0_count_49 : decode cX0_count 49 = .ok (.if_icmp .ne 13, 3) := by decide +kernel
theorem dX0_count_52 : decode cX0_count 52 = .ok (.aload_n 0, 1) := by decide +kernel
theorem dX0_count_53 : decode cX0_count 53 = .ok (.dup, 1) := by decide +kernel
theorem dX0_count_54 : decode cX0_count 54 = .ok (.getfield 57, 3) := by decide +kernel
theorem dX0_count_57 : decode cX0_count 57 = .ok (.iconst 1, 1) := by decide +kernel
theorem dX0_count_58 : decode cX0_count 58 = .ok (.iadd, 1) := by decide +kernel
theorem dX0_count_59 : decode cX0_count 59 = .ok (.putfield 57, 3) := by decide +kernel
theorem dX0_count_62 : decode cX0_count 62 = .ok (.aload_n 0, 1) := by decide +kernel
theorem dX0_count_63 : decode cX0_count 63 = .ok (.getfield 9, 3) := by decide +kernel
theorem dX0_count_66 : decode cX0_count 66 = .ok (.iload_n 2, 1) := by decide +kernel
theorem dX0_count_67 : decode cX0_count 67 = .ok (.iaload, 1) := by decide +kernel
theorem dX0_count_68 : decode cX0_count 68 = .ok (.iconst (-1), 1) := by decide +kernel
theorem dX0_count_69 : decode cX0_count 69 = .ok (.if_icmp .eq 13, 3) := by decide +kernel
theorem dX0_count_72 : decode cX0_count 72 = .ok (.iload_n 1, 1) := by decide +kernel
theorem dX0_count_73 : decode cX0_count 73 = .ok (.aload_n 0, 1) := by decide +kernel
theorem dX0_count_74 : decode cX0_count 74 = .ok (.getfield 9, 3) := by decide +kernel
theorem dX0_count_77 : decode cX0_count 77 = .ok (.iload_n 2, 1) := by decide +kernel
theorem dX0_count_78 : decode cX0_count 78 = .ok (.iaload, 1) := by decide +kernel
theorem dX0_count_79 : decode cX0_count 79 = .ok (.if_icmp .ge 30, 3) := by decide +kernel
theorem dX0_count_82 : decode cX0_count 82 = .ok (.aload_n 0, 1) := by decide +kernel
theorem dX0_count_83 : decode cX0_count 83 = .ok (.getfield 9, 3) := by decide +kernel
theorem dX0_count_86 : decode cX0_count 86 = .ok (.iload_n 2, 1) := by decide +kernel
theorem dX0_count_87 : decode cX0_count 87 = .ok (.iload_n 1, 1) := by decide +kernel
theorem dX0_count_88 : decode cX0_count 88 = .ok (.iastore, 1) := by decide +kernel
theorem dX0_count_89 : decode cX0_count 89 = .ok (.aload_n 0, 1) := by decide +kernel
theorem dX0_count_90 : decode cX0_count 90 = .ok (.getfield 15, 3) := by decide +kernel
theorem dX0_count_93 : decode cX0_count 93 = .ok (.iload_n 2, 1) := by decide +kernel
theorem dX0_count_94 : decode cX0_count 94 = .ok (.aload_n 0, 1) := by decide +kernel
theorem dX0_count_95 : decode cX0_count 95 = .ok (.getfield 18, 3) := by decide +kernel
theorem dX0_count_98 : decode cX0_count 98 = .ok (.aload_n 0, 1) := by decide +kernel
theorem dX0_count_99 : decode cX0_count 99 = .ok (.getfield 36, 3) := by decide +kernel
theorem dX0_count_102 : decode cX0_count 102 = .ok (.getfield 80, 3) := by decide +kernel
theorem dX0_count_105 : decode cX0_count 105 = .ok (.invokestatic 138, 3) := by decide +kernel
theorem dX0_count_108 : decode cX0_count 108 = .ok (.iastore, 1) := by decide +kernel
theorem dX0_count_109 : decode cX0_count 109 = .ok (.return_, 1) := by decide +kernel
end
section
theorem dX1_init_0 : decode cX1_init 0 = .ok (.aload_n 0, 1) := by decide +kernel
theorem dX1_init_1 : decode cX1_init 1 = .ok (.invokespecial 3, 3) := by decide +kernel
theorem dX1_init_4 : decode cX1_init 4 = .ok (.aload_n 0, 1) := by decide +kernel
theorem dX1_init_5 : decode cX1_init 5 = .ok (.aload_n 1, 1) := by decide +kernel
theorem dX1_init_6 : decode cX1_init 6 = .ok (.putfield 9, 3) := by decide +kernel
theorem dX1_init_9 : decode cX1_init 9 = .ok (.return_, 1) := by decide +kernel
theorem dX1_find_0 : decode cX1_find 0 = .ok (.aload_n 0, 1) := by decide +kernel
theorem dX1_find_1 : decode cX1_find 1 = .ok (.iconst 0, 1) := by decide +kernel
theorem dX1_find_2 : decode cX1_find 2 = .ok (.putfield 15, 3) := by decide +kernel
theorem dX1_find_5 : decode cX1_find 5 = .ok (.iconst 0, 1) := by decide +kernel
theorem dX1_find_6 : decode cX1_find 6 = .ok (.istore_n 1, 1) := by decide +kernel
theorem dX1_find_7 : decode cX1_find 7 = .ok (.iload_n 1, 1) := by decide +kernel
theorem dX1_find_8 : decode cX1_find 8 = .ok (.aload_n 0, 1) := by decide +kernel
theorem dX1_find_9 : decode cX1_find 9 = .ok (.getfield 9, 3) := by decide +kernel
theorem dX1_find_12 : decode cX1_find 12 = .ok (.getfield 19, 3) := by decide +kernel
theorem dX1_find_15 : decode cX1_find 15 = .ok (.if_icmp .ge 22, 3) := by decide +kernel
theorem dX1_find_18 : decode cX1_find 18 = .ok (.aload_n 0, 1) := by decide +kernel
theorem dX1_find_19 : decode cX1_find 19 = .ok (.iload_n 1, 1) := by decide +kernel
theorem dX1_find_20 : decode cX1_find 20 = .ok (.invokevirtual 25, 3) := by decide +kernel
theorem dX1_find_23 : decode cX1_find 23 = .ok (.ifCond .eq 8, 3) := by decide +kernel
theorem dX1_find_26 : decode cX1_find 26 = .ok (.aload_n 0, 1) := by decide +kernel
theorem dX1_find_27 : decode cX1_find 27 = .ok (.iload_n 1, 1) := by decide +kernel
theorem dX1_find_28 : decode cX1_find 28 = .ok (.invokevirtual 29, 3) := by decide +kernel
theorem dX1_find_31 : decode cX1_find 31 = .ok (.iinc 1 1, 3) := by decide +kernel
theorem dX1_find_34 : decode cX1_find 34 = .ok (.goto (-27), 3) := by decide +kernel
theorem dX1_find_37 : decode cX1_find 37 = .ok (.iconst 0, 1) := by decide +kernel
theorem dX1_find_38 : decode cX1_find 38 = .ok (.istore_n 1, 1) := by decide +kernel
theorem dX1_find_39 : decode cX1_find 39 = .ok (.iload_n 1, 1) := by decide +kernel
theorem dX1_find_40 : decode cX1_find 40 = .ok (.aload_n 0, 1) := by decide +kernel
theorem dX1_find_41 : decode cX1_find 41 = .ok (.getfield 9, 3) := by decide +kernel
theorem dX1_find_44 : decode cX1_find 44 = .ok (.getfield 19, 3) := by decide +kernel
theorem dX1_find_47 : decode cX1_find 47 = .ok (.if_icmp .ge 22, 3) := by decide +kernel
theorem dX1_find_50 : decode cX1_find 50 = .ok (.aload_n 0, 1) := by decide +kernel
theorem dX1_find_51 : decode cX1_find 51 = .ok (.iload_n 1, 1) := by decide +kernel
theorem dX1_find_52 : decode cX1_find 52 = .ok (.invokevirtual 25, 3) := by decide +kernel
theorem dX1_find_55 : decode cX1_find 55 = .ok (.ifCond .eq 8, 3) := by decide +kernel
theorem dX1_find_58 : decode cX1_find 58 = .ok (.aload_n 0, 1) := by decide +kernel
theorem dX1_find_59 : decode cX1_find 59 = .ok (.iload_n 1, 1) := by decide +kernel
theorem dX1_find_60 : decode cX1_find 60 = .ok (.invokevirtual 33, 3) := by decide +kernel
theorem dX1_find_63 : decode cX1_find 63 = .ok (.iinc 1 1, 3) := by decide +kernel
theorem dX1_find_66 : decode cX1_find 66 = .ok (.goto (-27), 3) := by decide +kernel
theorem dX1_find_69 : decode cX1_find 69 = .ok (.return_, 1) := by decide +kernel
theorem dX1_lessens_0 : decode cX1_lessens 0 = .ok (.aload_n 0, 1) := by decide +kernel
theorem dX1_lessens_1 : decode cX1_lessens 1 = .ok (.getfield 15, 3) := by decide +kernel
theorem dX1_lessens_4 : decode cX1_lessens 4 = .ok (.ifCond .eq 21, 3) := by decide +kernel
theorem dX1_lessens_7 : decode cX1_lessens 7 = .ok (.aload_n 0, 1) := by decide +kernel
theorem dX1_lessens_8 : decode cX1_lessens 8 = .ok (.getfield 36, 3) := by decide +kernel
theorem dX1_lessens_11 : decode cX1_lessens 11 = .ok (.aload_n 0, 1) := by decide +kernel
theorem dX1_lessens_12 : decode cX1_lessens 12 = .ok (.getfield 9, 3) := by decide +kernel
theorem dX1_lessens_15 : decode cX1_lessens 15 = .ok (.invokevirtual 39, 3) := by decide +kernel
theorem dX1_lessens_18 : decode cX1_lessens 18 = .ok (.if_icmp .ge 7, 3) := by decide +kernel
theorem dX1_lessens_21 : decode cX1_lessens 21 = .ok (.iconst 1, 1) := by decide +kernel
theorem dX1_lessens_22 : decode cX1_lessens 22 = .ok (.goto 4, 3) := by decide +kernel
theorem dX1_lessens_25 : decode cX1_lessens 25 = .ok (.iconst 0, 1) := by decide +kernel
theorem dX1_lessens_26 : decode cX1_lessens 26 = .ok (.ireturn, 1) := by decide +kernel
theorem dX1_take_0 : decode cX1_take 0 = .ok (.aload_n 0, 1) := by decide +kernel
theorem dX1_take_1 : decode cX1_take 1 = .ok (.getfield 43, 3) := by decide +kernel
theorem dX1_take_4 : decode cX1_take 4 = .ok (.ifCond .ne 21, 3) := by decide +kernel
theorem dX1_take_7 : decode cX1_take 7 = .ok (.aload_n 0, 1) := by decide +kernel
theorem dX1_take_8 : decode cX1_take 8 = .ok (.getfield 9, 3) := by decide +kernel
theorem dX1_take_11 : decode cX1_take 11 = .ok (.aload_n 0, 1) := by decide +kernel
theorem dX1_take_12 : decode cX1_take 12 = .ok (.getfield 46, 3) := by decide +kernel
theorem dX1_take_15 : decode cX1_take 15 = .ok (.aload_n 0, 1) := by decide +kernel
theorem dX1_take_16 : decode cX1_take 16 = .ok (.getfield 49, 3) := by decide +kernel
theorem dX1_take_19 : decode cX1_take 19 = .ok (.invokevirtual 52, 3) := by decide +kernel
theorem dX1_take_22 : decode cX1_take 22 = .ok (.goto 18, 3) := by decide +kernel
theorem dX1_take_25 : decode cX1_take 25 = .ok (.aload_n 0, 1) := by decide +kernel
theorem dX1_take_26 : decode cX1_take 26 = .ok (.getfield 9, 3) := by decide +kernel
theorem dX1_take_29 : decode cX1_take 29 = .ok (.aload_n 0, 1) := by decide +kernel
theorem dX1_take_30 : decode cX1_take 30 = .ok (.getfield 46, 3) := by decide +kernel
theorem dX1_take_33 : decode cX1_take 33 = .ok (.aload_n 0, 1) := by decide +kernel
theorem dX1_take_34 : decode cX1_take 34 = .ok (.getfield 49, 3) := by decide +kernel
theorem dX1_take_37 : decode cX1_take 37 = .ok (.invokevirtual 56, 3) := by decide +kernel
theorem dX1_take_40 : decode cX1_take 40 = .ok (.return_, 1) := by decide +kernel
theorem dX1_isFree_0 : decode cX1_isFree 0 = .ok (.aload_n 0, 1) := by decide +kernel
theorem dX1_isFree_1 : decode cX1_isFree 1 = .ok (.getfield 9, 3) := by decide +kernel
theorem dX1_isFree_4 : decode cX1_isFree 4 = .ok (.getfield 59, 3) := by decide +kernel
theorem dX1_isFree_7 : decode cX1_isFree 7 = .ok (.iload_n 1, 1) := by decide +kernel
theorem dX1_isFree_8 : decode cX1_isFree 8 = .ok (.iaload, 1) := by decide +kernel
theorem dX1_isFree_9 : decode cX1_isFree 9 = .ok (.ifCond .ne 18, 3) := by decide +kernel
theorem dX1_isFree_12 : decode cX1_isFree 12 = .ok (.aload_n 0, 1) := by decide +kernel
theorem dX1_isFree_13 : decode cX1_isFree 13 = .ok (.getfield 9, 3) := by decide +kernel
theorem dX1_isFree_16 : decode cX1_isFree 16 = .ok (.iload_n 1, 1) := by decide +kernel
theorem dX1_isFree_17 : decode cX1_isFree 17 = .ok (.invokevirtual 63, 3) := by decide +kernel
theorem dX1_isFree_20 : decode cX1_isFree 20 = .ok (.ifCond .ne 7, 3) := by decide +kernel
theorem dX1_isFree_23 : decode cX1_isFree 23 = .ok (.iconst 1, 1) := by decide +kernel
theorem dX1_isFree_24 : decode cX1_isFree 24 = .ok (.goto 4, 3) := by decide +kernel
theorem dX1_isFree_27 : decode cX1_isFree 27 = .ok (.iconst 0, 1) := by decide +kernel
theorem dX1_isFree_28 : decode cX1_isFree 28 = .ok (.ireturn, 1) := by decide +kernel
theorem dX1_tryChanges_0 : decode cX1_tryChanges 0 = .ok (.aload_n 0, 1) := by decide +kernel
theorem dX1_tryChanges_1 : decode cX1_tryChanges 1 = .ok (.getfield 9, 3) := by decide +kernel
theorem dX1_tryChanges_4 : decode cX1_tryChanges 4 = .ok (.getfield 66, 3) := by decide +kernel
theorem dX1_tryChanges_7 : decode cX1_tryChanges 7 = .ok (.iload_n 1, 1) := by decide +kernel
theorem dX1_tryChanges_8 : decode cX1_tryChanges 8 = .ok (.iaload, 1) := by decide +kernel
theorem dX1_tryChanges_9 : decode cX1_tryChanges 9 = .ok (.istore_n 2, 1) := by decide +kernel
theorem dX1_tryChanges_10 : decode cX1_tryChanges 10 = .ok (.iconst 0, 1) := by decide +kernel
theorem dX1_tryChanges_11 : decode cX1_tryChanges 11 = .ok (.istore_n 3, 1) := by decide +kernel
theorem dX1_tryChanges_12 : decode cX1_tryChanges 12 = .ok (.iload_n 3, 1) := by decide +kernel
theorem dX1_tryChanges_13 : decode cX1_tryChanges 13 = .ok (.iconst 3, 1) := by decide +kernel
theorem dX1_tryChanges_14 : decode cX1_tryChanges 14 = .ok (.if_icmp .ge 30, 3) := by decide +kernel
theorem dX1_tryChanges_17 : decode cX1_tryChanges 17 = .ok (.iload_n 3, 1) := by decide +kernel
theorem dX1_tryChanges_18 : decode cX1_tryChanges 18 = .ok (.iload_n 2, 1) := by decide +kernel
theorem dX1_tryChanges_19 : decode cX1_tryChanges 19 = .ok (.if_icmp .eq 19, 3) := by decide +kernel
theorem dX1_tryChanges_22 : decode cX1_tryChanges 22 = .ok (.aload_n 0, 1) := by decide +kernel
theorem dX1_tryChanges_23 : decode cX1_tryChanges 23 = .ok (.getfield 9, 3) := by decide +kernel
theorem dX1_tryChanges_26 : decode cX1_tryChanges 26 = .ok (.iload_n 1, 1) := by decide +kernel
theorem dX1_tryChanges_27 : decode cX1_tryChanges 27 = .ok (.iload_n 3, 1) := by decide +kernel
theorem dX1_tryChanges_28 : decode cX1_tryChanges 28 = .ok (.invokevirtual 52, 3) := by decide +kernel
theorem dX1_tryChanges_31 : decode cX1_tryChanges 31 = .ok (.aload_n 0, 1) := by decide +kernel
theorem dX1_tryChanges_32 : decode cX1_tryChanges 32 = .ok (.iconst 0, 1) := by decide +kernel
theorem dX1_tryChanges_33 : decode cX1_tryChanges 33 = .ok (.iload_n 1, 1) := by decide +kernel
theorem dX1_tryChanges_34 : decode cX1_tryChanges 34 = .ok (.iload_n 3, 1) := by decide +kernel
theorem dX1_tryChanges_35 : decode cX1_tryChanges 35 = .ok (.invokevirtual 69, 3) := by decide +kernel
theorem dX1_tryChanges_38 : decode cX1_tryChanges 38 = .ok (.iinc 3 1, 3) := by decide +kernel
theorem dX1_tryChanges_41 : decode cX1_tryChanges 41 = .ok (.goto (-29), 3) := by decide +kernel
theorem dX1_tryChanges_44 : decode cX1_tryChanges 44 = .ok (.aload_n 0, 1) := by decide +kernel
theorem dX1_tryChanges_45 : decode cX1_tryChanges 45 = .ok (.getfield 9, 3) := by decide +kernel
theorem dX1_tryChanges_48 : decode cX1_tryChanges 48 = .ok (.iload_n 1, 1) := by decide +kernel
theorem dX1_tryChanges_49 : decode cX1_tryChanges 49 = .ok (.iload_n 2, 1) := by decide +kernel
theorem dX1_tryChanges_50 : decode cX1_tryChanges 50 = .ok (.invokevirtual 52, 3) := by decide +kernel
theorem dX1_tryChanges_53 : decode cX1_tryChanges 53 = .ok (.return_, 1) := by decide +kernel
theorem dX1_trySwaps_0 : decode cX1_trySwaps 0 = .ok (.iload_n 1, 1) := by decide +kernel
theorem dX1_trySwaps_1 : decode cX1_trySwaps 1 = .ok (.iconst 1, 1) := by decide +kernel
theorem dX1_trySwaps_2 : decode cX1_trySwaps 2 = .ok (.iadd, 1) := by decide +kernel
theorem dX1_trySwaps_3 : decode cX1_trySwaps 3 = .ok (.istore_n 2, 1) := by decide +kernel
theorem dX1_trySwaps_4 : decode cX1_trySwaps 4 = .ok (.iload_n 2, 1) := by decide +kernel
theorem dX1_trySwaps_5 : decode cX1_trySwaps 5 = .ok (.aload_n 0, 1) := by decide +kernel
theorem dX1_trySwaps_6 : decode cX1_trySwaps 6 = .ok (.getfield 9, 3) := by decide +kernel
theorem dX1_trySwaps_9 : decode cX1_trySwaps 9 = .ok (.getfield 19, 3) := by decide +kernel
theorem dX1_trySwaps_12 : decode cX1_trySwaps 12 = .ok (.if_icmp .ge 63, 3) := by decide +kernel
theorem dX1_trySwaps_15 : decode cX1_trySwaps 15 = .ok (.aload_n 0, 1) := by decide +kernel
theorem dX1_trySwaps_16 : decode cX1_trySwaps 16 = .ok (.iload_n 2, 1) := by decide +kernel
theorem dX1_trySwaps_17 : decode cX1_trySwaps 17 = .ok (.invokevirtual 25, 3) := by decide +kernel
theorem dX1_trySwaps_20 : decode cX1_trySwaps 20 = .ok (.ifCond .eq 49, 3) := by decide +kernel
theorem dX1_trySwaps_23 : decode cX1_trySwaps 23 = .ok (.aload_n 0, 1) := by decide +kernel
theorem dX1_trySwaps_24 : decode cX1_trySwaps 24 = .ok (.getfield 9, 3) := by decide +kernel
theorem dX1_trySwaps_27 : decode cX1_trySwaps 27 = .ok (.getfield 66, 3) := by decide +kernel
theorem dX1_trySwaps_30 : decode cX1_trySwaps 30 = .ok (.iload_n 2, 1) := by decide +kernel
theorem dX1_trySwaps_31 : decode cX1_trySwaps 31 = .ok (.iaload, 1) := by decide +kernel
theorem dX1_trySwaps_32 : decode cX1_trySwaps 32 = .ok (.aload_n 0, 1) := by decide +kernel
theorem dX1_trySwaps_33 : decode cX1_trySwaps 33 = .ok (.getfield 9, 3) := by decide +kernel
theorem dX1_trySwaps_36 : decode cX1_trySwaps 36 = .ok (.getfield 66, 3) := by decide +kernel
theorem dX1_trySwaps_39 : decode cX1_trySwaps 39 = .ok (.iload_n 1, 1) := by decide +kernel
theorem dX1_trySwaps_40 : decode cX1_trySwaps 40 = .ok (.iaload, 1) := by decide +kernel
theorem dX1_trySwaps_41 : decode cX1_trySwaps 41 = .ok (.if_icmp .eq 28, 3) := by decide +kernel
theorem dX1_trySwaps_44 : decode cX1_trySwaps 44 = .ok (.aload_n 0, 1) := by decide +kernel
theorem dX1_trySwaps_45 : decode cX1_trySwaps 45 = .ok (.getfield 9, 3) := by decide +kernel
theorem dX1_trySwaps_48 : decode cX1_trySwaps 48 = .ok (.iload_n 1, 1) := by decide +kernel
theorem dX1_trySwaps_49 : decode cX1_trySwaps 49 = .ok (.iload_n 2, 1) := by decide +kernel
theorem dX1_trySwaps_50 : decode cX1_trySwaps 50 = .ok (.invokevirtual 56, 3) := by decide +kernel
theorem dX1_trySwaps_53 : decode cX1_trySwaps 53 = .ok (.aload_n 0, 1) := by decide +kernel
theorem dX1_trySwaps_54 : decode cX1_trySwaps 54 = .ok (.iconst 1, 1) := by decide +kernel
theorem dX1_trySwaps_55 : decode cX1_trySwaps 55 = .ok (.iload_n 1, 1) := by decide +kernel
theorem dX1_trySwaps_56 : decode cX1_trySwaps 56 = .ok (.iload_n 2, 1) := by decide +kernel
theorem dX1_trySwaps_57 : decode cX1_trySwaps 57 = .ok (.invokevirtual 69, 3) := by decide +kernel
theorem dX1_trySwaps_60 : decode cX1_trySwaps 60 = .ok (.aload_n 0, 1) := by decide +kernel
theorem dX1_trySwaps_61 : decode cX1_trySwaps 61 = .ok (.getfield 9, 3) := by decide +kernel
theorem dX1_trySwaps_64 : decode cX1_trySwaps 64 = .ok (.iload_n 1, 1) := by decide +kernel
theorem dX1_trySwaps_65 : decode cX1_trySwaps 65 = .ok (.iload_n 2, 1) := by decide +kernel
theorem dX1_trySwaps_66 : decode cX1_trySwaps 66 = .ok (.invokevirtual 56, 3) := by decide +kernel
theorem dX1_trySwaps_69 : decode cX1_trySwaps 69 = .ok (.iinc 2 1, 3) := by decide +kernel
theorem dX1_trySwaps_72 : decode cX1_trySwaps 72 = .ok (.goto (-68), 3) := by decide +kernel
theorem dX1_trySwaps_75 : decode cX1_trySwaps 75 = .ok (.return_, 1) := by decide +kernel
theorem dX1_compare_0 : decode cX1_compare 0 = .ok (.aload_n 0, 1) := by decide +kernel
theorem dX1_compare_1 : decode cX1_compare 1 = .ok (.getfield 9, 3) := by decide +kernel
theorem dX1_compare_4 : decode cX1_compare 4 = .ok (.invokevirtual 73, 3) := by decide +kernel
theorem dX1_compare_7 : decode cX1_compare 7 = .ok (.ifCond .ne 4, 3) := by decide +kernel
theorem dX1_compare_10 : decode cX1_compare 10 = .ok (.return_, 1) := by decide +kernel
theorem dX1_compare_11 : decode cX1_compare 11 = .ok (.aload_n 0, 1) := by decide +kernel
theorem dX1_compare_12 : decode cX1_compare 12 = .ok (.getfield 9, 3) := by decide +kernel
theorem dX1_compare_15 : decode cX1_compare 15 = .ok (.invokevirtual 39, 3) := by decide +kernel
theorem dX1_compare_18 : decode cX1_compare 18 = .ok (.istore 4, 2) := by decide +kernel
theorem dX1_compare_20 : decode cX1_compare 20 = .ok (.aload_n 0, 1) := by decide +kernel
theorem dX1_compare_21 : decode cX1_compare 21 = .ok (.getfield 15, 3) := by decide +kernel
theorem dX1_compare_24 : decode cX1_compare 24 = .ok (.ifCond .eq 12, 3) := by decide +kernel
theorem dX1_compare_27 : decode cX1_compare 27 = .ok (.iload 4, 2) := by decide +kernel
theorem dX1_compare_29 : decode cX1_compare 29 = .ok (.aload_n 0, 1) := by decide +kernel
theorem dX1_compare_30 : decode cX1_compare 30 = .ok (.getfield 36, 3) := by decide +kernel
theorem dX1_compare_33 : decode cX1_compare 33 = .ok (.if_icmp .ge 29, 3) := by decide +kernel
theorem dX1_compare_36 : decode cX1_compare 36 = .ok (.aload_n 0, 1) := by decide +kernel
theorem dX1_compare_37 : decode cX1_compare 37 = .ok (.iconst 1, 1) := by decide +kernel
theorem dX1_compare_38 : decode cX1_compare 38 = .ok (.putfield 15, 3) := by decide +kernel
theorem dX1_compare_41 : decode cX1_compare 41 = .ok (.aload_n 0, 1) := by decide +kernel
theorem dX1_compare_42 : decode cX1_compare 42 = .ok (.iload 4, 2) := by decide +kernel
theorem dX1_compare_44 : decode cX1_compare 44 = .ok (.putfield 36, 3) := by decide +kernel
theorem dX1_compare_47 : decode cX1_compare 47 = .ok (.aload_n 0, 1) := by decide +kernel
theorem dX1_compare_48 : decode cX1_compare 48 = .ok (.iload_n 1, 1) := by decide +kernel
theorem dX1_compare_49 : decode cX1_compare 49 = .ok (.putfield 43, 3) := by decide +kernel
theorem dX1_compare_52 : decode cX1_compare 52 = .ok (.aload_n 0, 1) := by decide +kernel
theorem dX1_compare_53 : decode cX1_compare 53 = .ok (.iload_n 2, 1) := by decide +kernel
theorem dX1_compare_54 : decode cX1_compare 54 = .ok (.putfield 46, 3) := by decide +kernel
theorem dX1_compare_57 : decode cX1_compare 57 = .ok (.aload_n 0, 1) := by decide +kernel
theorem dX1_compare_58 : decode cX1_compare 58 = .ok (.iload_n 3, 1) := by decide +kernel
theorem dX1_compare_59 : decode cX1_compare 59 = .ok (.putfield 49, 3) := by decide +kernel
theorem dX1_compare_62 : decode cX1_compare 62 = .ok (.return_, 1) := by decide +kernel
end
section
theorem dX2_init_0 : decode cX2_init 0 = .ok (.aload_n 0, 1) := by decide +kernel
theorem dX2_init_1 : decode cX2_init 1 = .ok (.invokespecial 3, 3) := by decide +kernel
theorem dX2_init_4 : decode cX2_init 4 = .ok (.aload_n 0, 1) := by decide +kernel
theorem dX2_init_5 : decode cX2_init 5 = .ok (.bipush 9, 2) := by decide +kernel
theorem dX2_init_7 : decode cX2_init 7 = .ok (.newarray .int, 2) := by decide +kernel
theorem dX2_init_9 : decode cX2_init 9 = .ok (.putfield 9, 3) := by decide +kernel
theorem dX2_init_12 : decode cX2_init 12 = .ok (.aload_n 0, 1) := by decide +kernel
theorem dX2_init_13 : decode cX2_init 13 = .ok (.bipush 9, 2) := by decide +kernel
theorem dX2_init_15 : decode cX2_init 15 = .ok (.newarray .int, 2) := by decide +kernel
theorem dX2_init_17 : decode cX2_init 17 = .ok (.putfield 15, 3) := by decide +kernel
theorem dX2_init_20 : decode cX2_init 20 = .ok (.aload_n 0, 1) := by decide +kernel
theorem dX2_init_21 : decode cX2_init 21 = .ok (.bipush 9, 2) := by decide +kernel
theorem dX2_init_23 : decode cX2_init 23 = .ok (.newarray .int, 2) := by decide +kernel
theorem dX2_init_25 : decode cX2_init 25 = .ok (.putfield 18, 3) := by decide +kernel
theorem dX2_init_28 : decode cX2_init 28 = .ok (.aload_n 0, 1) := by decide +kernel
theorem dX2_init_29 : decode cX2_init 29 = .ok (.bipush 9, 2) := by decide +kernel
theorem dX2_init_31 : decode cX2_init 31 = .ok (.newarray .int, 2) := by decide +kernel
theorem dX2_init_33 : decode cX2_init 33 = .ok (.putfield 21, 3) := by decide +kernel
theorem dX2_init_36 : decode cX2_init 36 = .ok (.aload_n 0, 1) := by decide +kernel
theorem dX2_init_37 : decode cX2_init 37 = .ok (.bipush 9, 2) := by decide +kernel
theorem dX2_init_39 : decode cX2_init 39 = .ok (.newarray .int, 2) := by decide +kernel
theorem dX2_init_41 : decode cX2_init 41 = .ok (.putfield 24, 3) := by decide +kernel
theorem dX2_init_44 : decode cX2_init 44 = .ok (.aload_n 0, 1) := by decide +kernel
theorem dX2_init_45 : decode cX2_init 45 = .ok (.bipush 6, 2) := by decide +kernel
theorem dX2_init_47 : decode cX2_init 47 = .ok (.newarray .int, 2) := by decide +kernel
theorem dX2_init_49 : decode cX2_init 49 = .ok (.putfield 27, 3) := by decide +kernel
theorem dX2_init_52 : decode cX2_init 52 = .ok (.aload_n 0, 1) := by decide +kernel
theorem dX2_init_53 : decode cX2_init 53 = .ok (.bipush 6, 2) := by decide +kernel
theorem dX2_init_55 : decode cX2_init 55 = .ok (.newarray .int, 2) := by decide +kernel
theorem dX2_init_57 : decode cX2_init 57 = .ok (.putfield 30, 3) := by decide +kernel
theorem dX2_init_60 : decode cX2_init 60 = .ok (.aload_n 0, 1) := by decide +kernel
theorem dX2_init_61 : decode cX2_init 61 = .ok (.bipush 6, 2) := by decide +kernel
theorem dX2_init_63 : decode cX2_init 63 = .ok (.newarray .int, 2) := by decide +kernel
theorem dX2_init_65 : decode cX2_init 65 = .ok (.putfield 33, 3) := by decide +kernel
theorem dX2_init_68 : decode cX2_init 68 = .ok (.aload_n 0, 1) := by decide +kernel
theorem dX2_init_69 : decode cX2_init 69 = .ok (.bipush 18, 2) := by decide +kernel
theorem dX2_init_71 : decode cX2_init 71 = .ok (.newarray .int, 2) := by decide +kernel
theorem dX2_init_73 : decode cX2_init 73 = .ok (.putfield 36, 3) := by decide +kernel
theorem dX2_init_76 : decode cX2_init 76 = .ok (.aload_n 0, 1) := by decide +kernel
theorem dX2_init_77 : decode cX2_init 77 = .ok (.invokevirtual 39, 3) := by decide +kernel
theorem dX2_init_80 : decode cX2_init 80 = .ok (.return_, 1) := by decide +kernel
theorem dX2_resetLimits_0 : decode cX2_resetLimits 0 = .ok (.aload_n 0, 1) := by decide +kernel
theorem dX2_resetLimits_1 : decode cX2_resetLimits 1 = .ok (.getfield 33, 3) := by decide +kernel
theorem dX2_resetLimits_4 : decode cX2_resetLimits 4 = .ok (.iconst 1, 1) := by decide +kernel
theorem dX2_resetLimits_5 : decode cX2_resetLimits 5 = .ok (.invokestatic 42, 3) := by decide +kernel
theorem dX2_resetLimits_8 : decode cX2_resetLimits 8 = .ok (.aload_n 0, 1) := by decide +kernel
theorem dX2_resetLimits_9 : decode cX2_resetLimits 9 = .ok (.sipush 400, 3) := by decide +kernel
theorem dX2_resetLimits_12 : decode cX2_resetLimits 12 = .ok (.putfield 48, 3) := by decide +kernel
theorem dX2_resetLimits_15 : decode cX2_resetLimits 15 = .ok (.return_, 1) := by decide +kernel
theorem dX2_addHouse_0 : decode cX2_addHouse 0 = .ok (.aload_n 0, 1) := by decide +kernel
theorem dX2_addHouse_1 : decode cX2_addHouse 1 = .ok (.getfield 52, 3) := by decide +kernel
theorem dX2_addHouse_4 : decode cX2_addHouse 4 = .ok (.istore 4, 2) := by decide +kernel
theorem dX2_addHouse_6 : decode cX2_addHouse 6 = .ok (.aload_n 0, 1) := by decide +kernel
theorem dX2_addHouse_7 : decode cX2_addHouse 7 = .ok (.dup, 1) := by decide +kernel
theorem dX2_addHouse_8 : decode cX2_addHouse 8 = .ok (.getfield 52, 3) := by decide +kernel
theorem dX2_addHouse_11 : decode cX2_addHouse 11 = .ok (.iconst 1, 1) := by decide +kernel
theorem dX2_addHouse_12 : decode cX2_addHouse 12 = .ok (.iadd, 1) := by decide +kernel
theorem dX2_addHouse_13 : decode cX2_addHouse 13 = .ok (.putfield 52, 3) := by decide +kernel
theorem dX2_addHouse_16 : decode cX2_addHouse 16 = .ok (.aload_n 0, 1) := by decide +kernel
theorem dX2_addHouse_17 : decode cX2_addHouse 17 = .ok (.getfield 9, 3) := by decide +kernel
theorem dX2_addHouse_20 : decode cX2_addHouse 20 = .ok (.iload 4, 2) := by decide +kernel
theorem dX2_addHouse_22 : decode cX2_addHouse 22 = .ok (.iload_n 1, 1) := by decide +kernel
theorem dX2_addHouse_23 : decode cX2_addHouse 23 = .ok (.iastore, 1) := by decide +kernel
theorem dX2_addHouse_24 : decode cX2_addHouse 24 = .ok (.aload_n 0, 1) := by decide +kernel
theorem dX2_addHouse_25 : decode cX2_addHouse 25 = .ok (.getfield 15, 3) := by decide +kernel
theorem dX2_addHouse_28 : decode cX2_addHouse 28 = .ok (.iload 4, 2) := by decide +kernel
theorem dX2_addHouse_30 : decode cX2_addHouse 30 = .ok (.iload_n 2, 1) := by decide +kernel
theorem dX2_addHouse_31 : decode cX2_addHouse 31 = .ok (.iastore, 1) := by decide +kernel
theorem dX2_addHouse_32 : decode cX2_addHouse 32 = .ok (.aload_n 0, 1) := by decide +kernel
theorem dX2_addHouse_33 : decode cX2_addHouse 33 = .ok (.getfield 18, 3) := by decide +kernel
theorem dX2_addHouse_36 : decode cX2_addHouse 36 = .ok (.iload 4, 2) := by decide +kernel
theorem dX2_addHouse_38 : decode cX2_addHouse 38 = .ok (.iload_n 3, 1) := by decide +kernel
theorem dX2_addHouse_39 : decode cX2_addHouse 39 = .ok (.iastore, 1) := by decide +kernel
theorem dX2_addHouse_40 : decode cX2_addHouse 40 = .ok (.aload_n 0, 1) := by decide +kernel
theorem dX2_addHouse_41 : decode cX2_addHouse 41 = .ok (.getfield 21, 3) := by decide +kernel
theorem dX2_addHouse_44 : decode cX2_addHouse 44 = .ok (.iload 4, 2) := by decide +kernel
theorem dX2_addHouse_46 : decode cX2_addHouse 46 = .ok (.iconst 0, 1) := by decide +kernel
theorem dX2_addHouse_47 : decode cX2_addHouse 47 = .ok (.iastore, 1) := by decide +kernel
theorem dX2_addHouse_48 : decode cX2_addHouse 48 = .ok (.aload_n 0, 1) := by decide +kernel
theorem dX2_addHouse_49 : decode cX2_addHouse 49 = .ok (.getfield 24, 3) := by decide +kernel
theorem dX2_addHouse_52 : decode cX2_addHouse 52 = .ok (.iload 4, 2) := by decide +kernel
theorem dX2_addHouse_54 : decode cX2_addHouse 54 = .ok (.iload 4, 2) := by decide +kernel
theorem dX2_addHouse_56 : decode cX2_addHouse 56 = .ok (.iastore, 1) := by decide +kernel
theorem dX2_addHouse_57 : decode cX2_addHouse 57 = .ok (.aload_n 0, 1) := by decide +kernel
theorem dX2_addHouse_58 : decode cX2_addHouse 58 = .ok (.iload 4, 2) := by decide +kernel
theorem dX2_addHouse_60 : decode cX2_addHouse 60 = .ok (.iconst 1, 1) := by decide +kernel
theorem dX2_addHouse_61 : decode cX2_addHouse 61 = .ok (.invokevirtual 55, 3) := by decide +kernel
theorem dX2_addHouse_64 : decode cX2_addHouse 64 = .ok (.iload 4, 2) := by decide +kernel
theorem dX2_addHouse_66 : decode cX2_addHouse 66 = .ok (.ireturn, 1) := by decide +kernel
theorem dX2_dropHouses_0 : decode cX2_dropHouses 0 = .ok (.aload_n 0, 1) := by decide +kernel
theorem dX2_dropHouses_1 : decode cX2_dropHouses 1 = .ok (.invokevirtual 59, 3) := by decide +kernel
theorem dX2_dropHouses_4 : decode cX2_dropHouses 4 = .ok (.aload_n 0, 1) := by decide +kernel
theorem dX2_dropHouses_5 : decode cX2_dropHouses 5 = .ok (.iconst 0, 1) := by decide +kernel
theorem dX2_dropHouses_6 : decode cX2_dropHouses 6 = .ok (.putfield 52, 3) := by decide +kernel
theorem dX2_dropHouses_9 : decode cX2_dropHouses 9 = .ok (.aload_n 0, 1) := by decide +kernel
theorem dX2_dropHouses_10 : decode cX2_dropHouses 10 = .ok (.getfield 36, 3) := by decide +kernel
theorem dX2_dropHouses_13 : decode cX2_dropHouses 13 = .ok (.iconst 0, 1) := by decide +kernel
theorem dX2_dropHouses_14 : decode cX2_dropHouses 14 = .ok (.invokestatic 42, 3) := by decide +kernel
theorem dX2_dropHouses_17 : decode cX2_dropHouses 17 = .ok (.return_, 1) := by decide +kernel
theorem dX2_setHouse_0 : decode cX2_setHouse 0 = .ok (.iload_n 2, 1) := by decide +kernel
theorem dX2_setHouse_1 : decode cX2_setHouse 1 = .ok (.ifCond .ne 10, 3) := by decide +kernel
theorem dX2_setHouse_4 : decode cX2_setHouse 4 = .ok (.aload_n 0, 1) := by decide +kernel
theorem dX2_setHouse_5 : decode cX2_setHouse 5 = .ok (.getfield 9, 3) := by decide +kernel
theorem dX2_setHouse_8 : decode cX2_setHouse 8 = .ok (.goto 19, 3) := by decide +kernel
theorem dX2_setHouse_11 : decode cX2_setHouse 11 = .ok (.iload_n 2, 1) := by decide +kernel
theorem dX2_setHouse_12 : decode cX2_setHouse 12 = .ok (.iconst 1, 1) := by decide +kernel
theorem dX2_setHouse_13 : decode cX2_setHouse 13 = .ok (.if_icmp .ne 10, 3) := by decide +kernel
theorem dX2_setHouse_16 : decode cX2_setHouse 16 = .ok (.aload_n 0, 1) := by decide +kernel
theorem dX2_setHouse_17 : decode cX2_setHouse 17 = .ok (.getfield 15, 3) := by decide +kernel
theorem dX2_setHouse_20 : decode cX2_setHouse 20 = .ok (.goto 7, 3) := by decide +kernel
theorem dX2_setHouse_23 : decode cX2_setHouse 23 = .ok (.aload_n 0, 1) := by decide +kernel
theorem dX2_setHouse_24 : decode cX2_setHouse 24 = .ok (.getfield 21, 3) := by decide +kernel
theorem dX2_setHouse_27 : decode cX2_setHouse 27 = .ok (.astore 4, 2) := by decide +kernel
theorem dX2_setHouse_29 : decode cX2_setHouse 29 = .ok (.aload 4, 2) := by decide +kernel
theorem dX2_setHouse_31 : decode cX2_setHouse 31 = .ok (.iload_n 1, 1) := by decide +kernel
theorem dX2_setHouse_32 : decode cX2_setHouse 32 = .ok (.iaload, 1) := by decide +kernel
theorem dX2_setHouse_33 : decode cX2_setHouse 33 = .ok (.istore 5, 2) := by decide +kernel
theorem dX2_setHouse_35 : decode cX2_setHouse 35 = .ok (.aload_n 0, 1) := by decide +kernel
theorem dX2_setHouse_36 : decode cX2_setHouse 36 = .ok (.iload_n 1, 1) := by decide +kernel
theorem dX2_setHouse_37 : decode cX2_setHouse 37 = .ok (.iconst (-1), 1) := by decide +kernel
theorem dX2_setHouse_38 : decode cX2_setHouse 38 = .ok (.invokevirtual 55, 3) := by decide +kernel
theorem dX2_setHouse_41 : decode cX2_setHouse 41 = .ok (.aload 4, 2) := by decide +kernel
theorem dX2_setHouse_43 : decode cX2_setHouse 43 = .ok (.iload_n 1, 1) := by decide +kernel
theorem dX2_setHouse_44 : decode cX2_setHouse 44 = .ok (.iload_n 3, 1) := by decide +kernel
theorem dX2_setHouse_45 : decode cX2_setHouse 45 = .ok (.iastore, 1) := by decide +kernel
theorem dX2_setHouse_46 : decode cX2_setHouse 46 = .ok (.aload_n 0, 1) := by decide +kernel
theorem dX2_setHouse_47 : decode cX2_setHouse 47 = .ok (.iload_n 1, 1) := by decide +kernel
theorem dX2_setHouse_48 : decode cX2_setHouse 48 = .ok (.iconst 1, 1) := by decide +kernel
theorem dX2_setHouse_49 : decode cX2_setHouse 49 = .ok (.invokevirtual 55, 3) := by decide +kernel
theorem dX2_setHouse_52 : decode cX2_setHouse 52 = .ok (.iload 5, 2) := by decide +kernel
theorem dX2_setHouse_54 : decode cX2_setHouse 54 = .ok (.ireturn, 1) := by decide +kernel
theorem dX2_setPhase_0 : decode cX2_setPhase 0 = .ok (.aload_n 0, 1) := by decide +kernel
theorem dX2_setPhase_1 : decode cX2_setPhase 1 = .ok (.iload_n 1, 1) := by decide +kernel
theorem dX2_setPhase_2 : decode cX2_setPhase 2 = .ok (.iconst (-1), 1) := by decide +kernel
theorem dX2_setPhase_3 : decode cX2_setPhase 3 = .ok (.invokevirtual 55, 3) := by decide +kernel
theorem dX2_setPhase_6 : decode cX2_setPhase 6 = .ok (.aload_n 0, 1) := by decide +kernel
theorem dX2_setPhase_7 : decode cX2_setPhase 7 = .ok (.getfield 18, 3) := by decide +kernel
theorem dX2_setPhase_10 : decode cX2_setPhase 10 = .ok (.iload_n 1, 1) := by decide +kernel
theorem dX2_setPhase_11 : decode cX2_setPhase 11 = .ok (.iload_n 2, 1) := by decide +kernel
theorem dX2_setPhase_12 : decode cX2_setPhase 12 = .ok (.iastore, 1) := by decide +kernel
theorem dX2_setPhase_13 : decode cX2_setPhase 13 = .ok (.aload_n 0, 1) := by decide +kernel
theorem dX2_setPhase_14 : decode cX2_setPhase 14 = .ok (.iload_n 1, 1) := by decide +kernel
theorem dX2_setPhase_15 : decode cX2_setPhase 15 = .ok (.iconst 1, 1) := by decide +kernel
theorem dX2_setPhase_16 : decode cX2_setPhase 16 = .ok (.invokevirtual 55, 3) := by decide +kernel
theorem dX2_setPhase_19 : decode cX2_setPhase 19 = .ok (.return_, 1) := by decide +kernel
theorem dX2_swapPhases_0 : decode cX2_swapPhases 0 = .ok (.aload_n 0, 1) := by decide +kernel
theorem dX2_swapPhases_1 : decode cX2_swapPhases 1 = .ok (.getfield 18, 3) := by decide +kernel
theorem dX2_swapPhases_4 : decode cX2_swapPhases 4 = .ok (.iload_n 1, 1) := by decide +kernel
theorem dX2_swapPhases_5 : decode cX2_swapPhases 5 = .ok (.iaload, 1) := by decide +kernel
theorem dX2_swapPhases_6 : decode cX2_swapPhases 6 = .ok (.istore_n 3, 1) := by decide +kernel
theorem dX2_swapPhases_7 : decode cX2_swapPhases 7 = .ok (.aload_n 0, 1) := by decide +kernel
theorem dX2_swapPhases_8 : decode cX2_swapPhases 8 = .ok (.iload_n 1, 1) := by decide +kernel
theorem dX2_swapPhases_9 : decode cX2_swapPhases 9 = .ok (.aload_n 0, 1) := by decide +kernel
theorem dX2_swapPhases_10 : decode cX2_swapPhases 10 = .ok (.getfield 18, 3) := by decide +kernel
theorem dX2_swapPhases_13 : decode cX2_swapPhases 13 = .ok (.iload_n 2, 1) := by decide +kernel
theorem dX2_swapPhases_14 : decode cX2_swapPhases 14 = .ok (.iaload, 1) := by decide +kernel
theorem dX2_swapPhases_15 : decode cX2_swapPhases 15 = .ok (.invokevirtual 62, 3) := by decide +kernel
theorem dX2_swapPhases_18 : decode cX2_swapPhases 18 = .ok (.aload_n 0, 1) := by decide +kernel
theorem dX2_swapPhases_19 : decode cX2_swapPhases 19 = .ok (.iload_n 2, 1) := by decide +kernel
theorem dX2_swapPhases_20 : decode cX2_swapPhases 20 = .ok (.iload_n 3, 1) := by decide +kernel
theorem dX2_swapPhases_21 : decode cX2_swapPhases 21 = .ok (.invokevirtual 62, 3) := by decide +kernel
theorem dX2_swapPhases_24 : decode cX2_swapPhases 24 = .ok (.return_, 1) := by decide +kernel
theorem dX2_addLoads_0 : decode cX2_addLoads 0 = .ok (.iconst 0, 1) := by decide +kernel
theorem dX2_addLoads_1 : decode cX2_addLoads 1 = .ok (.istore_n 3, 1) := by decide +kernel
theorem dX2_addLoads_2 : decode cX2_addLoads 2 = .ok (.iload_n 3, 1) := by decide +kernel
theorem dX2_addLoads_3 : decode cX2_addLoads 3 = .ok (.bipush 6, 2) := by decide +kernel
theorem dX2_addLoads_5 : decode cX2_addLoads 5 = .ok (.if_icmp .ge 36, 3) := by decide +kernel
theorem dX2_addLoads_8 : decode cX2_addLoads 8 = .ok (.aload_n 0, 1) := by decide +kernel
theorem dX2_addLoads_9 : decode cX2_addLoads 9 = .ok (.getfield 36, 3) := by decide +kernel
theorem dX2_addLoads_12 : decode cX2_addLoads 12 = .ok (.aload_n 0, 1) := by decide +kernel
theorem dX2_addLoads_13 : decode cX2_addLoads 13 = .ok (.getfield 18, 3) := by decide +kernel
theorem dX2_addLoads_16 : decode cX2_addLoads 16 = .ok (.iload_n 1, 1) := by decide +kernel
theorem dX2_addLoads_17 : decode cX2_addLoads 17 = .ok (.iaload, 1) := by decide +kernel
theorem dX2_addLoads_18 : decode cX2_addLoads 18 = .ok (.bipush 6, 2) := by decide +kernel
theorem dX2_addLoads_20 : decode cX2_addLoads 20 = .ok (.imul, 1) := by decide +kernel
theorem dX2_addLoads_21 : decode cX2_addLoads 21 = .ok (.iload_n 3, 1) := by decide +kernel
theorem dX2_addLoads_22 : decode cX2_addLoads 22 = .ok (.iadd, 1) := by decide +kernel
theorem dX2_addLoads_23 : decode cX2_addLoads 23 = .ok (.dup2, 1) := by decide +kernel
theorem dX2_addLoads_24 : decode cX2_addLoads 24 = .ok (.iaload, 1) := by decide +kernel
theorem dX2_addLoads_25 : decode cX2_addLoads 25 = .ok (.iload_n 2, 1) := by decide +kernel
theorem dX2_addLoads_26 : decode cX2_addLoads 26 = .ok (.aload_n 0, 1) := by decide +kernel
theorem dX2_addLoads_27 : decode cX2_addLoads 27 = .ok (.iload_n 1, 1) := by decide +kernel
theorem dX2_addLoads_28 : decode cX2_addLoads 28 = .ok (.iload_n 3, 1) := by decide +kernel
theorem dX2_addLoads_29 : decode cX2_addLoads 29 = .ok (.invokevirtual 65, 3) := by decide +kernel
theorem dX2_addLoads_32 : decode cX2_addLoads 32 = .ok (.imul, 1) := by decide +kernel
theorem dX2_addLoads_33 : decode cX2_addLoads 33 = .ok (.iadd, 1) := by decide +kernel
theorem dX2_addLoads_34 : decode cX2_addLoads 34 = .ok (.iastore, 1) := by decide +kernel
theorem dX2_addLoads_35 : decode cX2_addLoads 35 = .ok (.iinc 3 1, 3) := by decide +kernel
theorem dX2_addLoads_38 : decode cX2_addLoads 38 = .ok (.goto (-36), 3) := by decide +kernel
theorem dX2_addLoads_41 : decode cX2_addLoads 41 = .ok (.return_, 1) := by decide +kernel
theorem dX2_addPair_0 : decode cX2_addPair 0 = .ok (.aload_n 0, 1) := by decide +kernel
theorem dX2_addPair_1 : decode cX2_addPair 1 = .ok (.getfield 27, 3) := by decide +kernel
theorem dX2_addPair_4 : decode cX2_addPair 4 = .ok (.aload_n 0, 1) := by decide +kernel
theorem dX2_addPair_5 : decode cX2_addPair 5 = .ok (.getfield 69, 3) := by decide +kernel
theorem dX2_addPair_8 : decode cX2_addPair 8 = .ok (.iload_n 1, 1) := by decide +kernel
theorem dX2_addPair_9 : decode cX2_addPair 9 = .ok (.iastore, 1) := by decide +kernel
theorem dX2_addPair_10 : decode cX2_addPair 10 = .ok (.aload_n 0, 1) := by decide +kernel
theorem dX2_addPair_11 : decode cX2_addPair 11 = .ok (.getfield 30, 3) := by decide +kernel
theorem dX2_addPair_14 : decode cX2_addPair 14 = .ok (.aload_n 0, 1) := by decide +kernel
theorem dX2_addPair_15 : decode cX2_addPair 15 = .ok (.getfield 69, 3) := by decide +kernel
theorem dX2_addPair_18 : decode cX2_addPair 18 = .ok (.iload_n 2, 1) := by decide +kernel
theorem dX2_addPair_19 : decode cX2_addPair 19 = .ok (.iastore, 1) := by decide +kernel
theorem dX2_addPair_20 : decode cX2_addPair 20 = .ok (.aload_n 0, 1) := by decide +kernel
theorem dX2_addPair_21 : decode cX2_addPair 21 = .ok (.dup, 1) := by decide +kernel
theorem dX2_addPair_22 : decode cX2_addPair 22 = .ok (.getfield 69, 3) := by decide +kernel
theorem dX2_addPair_25 : decode cX2_addPair 25 = .ok (.iconst 1, 1) := by decide +kernel
theorem dX2_addPair_26 : decode cX2_addPair 26 = .ok (.iadd, 1) := by decide +kernel
theorem dX2_addPair_27 : decode cX2_addPair 27 = .ok (.putfield 69, 3) := by decide +kernel
theorem dX2_addPair_30 : decode cX2_addPair 30 = .ok (.aload_n 0, 1) := by decide +kernel
theorem dX2_addPair_31 : decode cX2_addPair 31 = .ok (.getfield 24, 3) := by decide +kernel
theorem dX2_addPair_34 : decode cX2_addPair 34 = .ok (.iload_n 1, 1) := by decide +kernel
theorem dX2_addPair_35 : decode cX2_addPair 35 = .ok (.iaload, 1) := by decide +kernel
theorem dX2_addPair_36 : decode cX2_addPair 36 = .ok (.aload_n 0, 1) := by decide +kernel
theorem dX2_addPair_37 : decode cX2_addPair 37 = .ok (.getfield 24, 3) := by decide +kernel
theorem dX2_addPair_40 : decode cX2_addPair 40 = .ok (.iload_n 2, 1) := by decide +kernel
theorem dX2_addPair_41 : decode cX2_addPair 41 = .ok (.iaload, 1) := by decide +kernel
theorem dX2_addPair_42 : decode cX2_addPair 42 = .ok (.invokestatic 72, 3) := by decide +kernel
theorem dX2_addPair_45 : decode cX2_addPair 45 = .ok (.istore_n 3, 1) := by decide +kernel
theorem dX2_addPair_46 : decode cX2_addPair 46 = .ok (.aload_n 0, 1) := by decide +kernel
theorem dX2_addPair_47 : decode cX2_addPair 47 = .ok (.getfield 24, 3) := by decide +kernel
theorem dX2_addPair_50 : decode cX2_addPair 50 = .ok (.iload_n 1, 1) := by decide +kernel
theorem dX2_addPair_51 : decode cX2_addPair 51 = .ok (.iaload, 1) := by decide +kernel
theorem dX2_addPair_52 : decode cX2_addPair 52 = .ok (.aload_n 0, 1) := by decide +kernel
theorem dX2_addPair_53 : decode cX2_addPair 53 = .ok (.getfield 24, 3) := by decide +kernel
theorem dX2_addPair_56 : decode cX2_addPair 56 = .ok (.iload_n 2, 1) := by decide +kernel
theorem dX2_addPair_57 : decode cX2_addPair 57 = .ok (.iaload, 1) := by decide +kernel
theorem dX2_addPair_58 : decode cX2_addPair 58 = .ok (.invokestatic 77, 3) := by decide +kernel
theorem dX2_addPair_61 : decode cX2_addPair 61 = .ok (.istore 4, 2) := by decide +kernel
theorem dX2_addPair_63 : decode cX2_addPair 63 = .ok (.iconst 0, 1) := by decide +kernel
theorem dX2_addPair_64 : decode cX2_addPair 64 = .ok (.istore 5, 2) := by decide +kernel
theorem dX2_addPair_66 : decode cX2_addPair 66 = .ok (.iload 5, 2) := by decide +kernel
theorem dX2_addPair_68 : decode cX2_addPair 68 = .ok (.aload_n 0, 1) := by decide +kernel
theorem dX2_addPair_69 : decode cX2_addPair 69 = .ok (.getfield 52, 3) := by decide +kernel
theorem dX2_addPair_72 : decode cX2_addPair 72 = .ok (.if_icmp .ge 29, 3) := by decide +kernel
theorem dX2_addPair_75 : decode cX2_addPair 75 = .ok (.aload_n 0, 1) := by decide +kernel
theorem dX2_addPair_76 : decode cX2_addPair 76 = .ok (.getfield 24, 3) := by decide +kernel
theorem dX2_addPair_79 : decode cX2_addPair 79 = .ok (.iload 5, 2) := by decide +kernel
theorem dX2_addPair_81 : decode cX2_addPair 81 = .ok (.iaload, 1) := by decide +kernel
theorem dX2_addPair_82 : decode cX2_addPair 82 = .ok (.iload 4, 2) := by decide +kernel
theorem dX2_addPair_84 : decode cX2_addPair 84 = .ok (.if_icmp .ne 11, 3) := by decide +kernel
theorem dX2_addPair_87 : decode cX2_addPair 87 = .ok (.aload_n 0, 1) := by decide +kernel
theorem dX2_addPair_88 : decode cX2_addPair 88 = .ok (.getfield 24, 3) := by decide +kernel
theorem dX2_addPair_91 : decode cX2_addPair 91 = .ok (.iload 5, 2) := by decide +kernel
theorem dX2_addPair_93 : decode cX2_addPair 93 = .ok (.iload_n 3, 1) := by decide +kernel
theorem dX2_addPair_94 : decode cX2_addPair 94 = .ok (.iastore, 1) := by decide +kernel
theorem dX2_addPair_95 : decode cX2_addPair 95 = .ok (.iinc 5 1, 3) := by decide +kernel
theorem dX2_addPair_98 : decode cX2_addPair 98 = .ok (.goto (-32), 3) := by decide +kernel
theorem dX2_addPair_101 : decode cX2_addPair 101 = .ok (.return_, 1) := by decide +kernel
theorem dX2_dropPairs_0 : decode cX2_dropPairs 0 = .ok (.aload_n 0, 1) := by decide +kernel
theorem dX2_dropPairs_1 : decode cX2_dropPairs 1 = .ok (.iconst 0, 1) := by decide +kernel
theorem dX2_dropPairs_2 : decode cX2_dropPairs 2 = .ok (.putfield 69, 3) := by decide +kernel
theorem dX2_dropPairs_5 : decode cX2_dropPairs 5 = .ok (.iconst 0, 1) := by decide +kernel
theorem dX2_dropPairs_6 : decode cX2_dropPairs 6 = .ok (.istore_n 1, 1) := by decide +kernel
theorem dX2_dropPairs_7 : decode cX2_dropPairs 7 = .ok (.iload_n 1, 1) := by decide +kernel
theorem dX2_dropPairs_8 : decode cX2_dropPairs 8 = .ok (.aload_n 0, 1) := by decide +kernel
theorem dX2_dropPairs_9 : decode cX2_dropPairs 9 = .ok (.getfield 52, 3) := by decide +kernel
theorem dX2_dropPairs_12 : decode cX2_dropPairs 12 = .ok (.if_icmp .ge 16, 3) := by decide +kernel
theorem dX2_dropPairs_15 : decode cX2_dropPairs 15 = .ok (.aload_n 0, 1) := by decide +kernel
theorem dX2_dropPairs_16 : decode cX2_dropPairs 16 = .ok (.getfield 24, 3) := by decide +kernel
theorem dX2_dropPairs_19 : decode cX2_dropPairs 19 = .ok (.iload_n 1, 1) := by decide +kernel
theorem dX2_dropPairs_20 : decode cX2_dropPairs 20 = .ok (.iload_n 1, 1) := by decide +kernel
theorem dX2_dropPairs_21 : decode cX2_dropPairs 21 = .ok (.iastore, 1) := by decide +kernel
theorem dX2_dropPairs_22 : decode cX2_dropPairs 22 = .ok (.iinc 1 1, 3) := by decide +kernel
theorem dX2_dropPairs_25 : decode cX2_dropPairs 25 = .ok (.goto (-18), 3) := by decide +kernel
theorem dX2_dropPairs_28 : decode cX2_dropPairs 28 = .ok (.return_, 1) := by decide +kernel
theorem dX2_isTied_0 : decode cX2_isTied 0 = .ok (.iconst 0, 1) := by decide +kernel
theorem dX2_isTied_1 : decode cX2_isTied 1 = .ok (.istore_n 2, 1) := by decide +kernel
theorem dX2_isTied_2 : decode cX2_isTied 2 = .ok (.iload_n 2, 1) := by decide +kernel
theorem dX2_isTied_3 : decode cX2_isTied 3 = .ok (.aload_n 0, 1) := by decide +kernel
theorem dX2_isTied_4 : decode cX2_isTied 4 = .ok (.getfield 52, 3) := by decide +kernel
theorem dX2_isTied_7 : decode cX2_isTied 7 = .ok (.if_icmp .ge 31, 3) := by decide +kernel
theorem dX2_isTied_10 : decode cX2_isTied 10 = .ok (.iload_n 2, 1) := by decide +kernel
theorem dX2_isTied_11 : decode cX2_isTied 11 = .ok (.iload_n 1, 1) := by decide +kernel
theorem dX2_isTied_12 : decode cX2_isTied 12 = .ok (.if_icmp .eq 20, 3) := by decide +kernel
theorem dX2_isTied_15 : decode cX2_isTied 15 = .ok (.aload_n 0, 1) := by decide +kernel
theorem dX2_isTied_16 : decode cX2_isTied 16 = .ok (.getfield 24, 3) := by decide +kernel
theorem dX2_isTied_19 : decode cX2_isTied 19 = .ok (.iload_n 2, 1) := by decide +kernel
theorem dX2_isTied_20 : decode cX2_isTied 20 = .ok (.iaload, 1) := by decide +kernel
theorem dX2_isTied_21 : decode cX2_isTied 21 = .ok (.aload_n 0, 1) := by decide +kernel
theorem dX2_isTied_22 : decode cX2_isTied 22 = .ok (.getfield 24, 3) := by decide +kernel
theorem dX2_isTied_25 : decode cX2_isTied 25 = .ok (.iload_n 1, 1) := by decide +kernel
theorem dX2_isTied_26 : decode cX2_isTied 26 = .ok (.iaload, 1) := by decide +kernel
theorem dX2_isTied_27 : decode cX2_isTied 27 = .ok (.if_icmp .ne 5, 3) := by decide +kernel
theorem dX2_isTied_30 : decode cX2_isTied 30 = .ok (.iconst 1, 1) := by decide +kernel
theorem dX2_isTied_31 : decode cX2_isTied 31 = .ok (.ireturn, 1) := by decide +kernel
theorem dX2_isTied_32 : decode cX2_isTied 32 = .ok (.iinc 2 1, 3) := by decide +kernel
theorem dX2_isTied_35 : decode cX2_isTied 35 = .ok (.goto (-33), 3) := by decide +kernel
theorem dX2_isTied_38 : decode cX2_isTied 38 = .ok (.iconst 0, 1) := by decide +kernel
theorem dX2_isTied_39 : decode cX2_isTied 39 = .ok (.ireturn, 1) := by decide +kernel
theorem dX2_fixedBits_0 : decode cX2_fixedBits 0 = .ok (.iconst 0, 1) := by decide +kernel
theorem dX2_fixedBits_1 : decode cX2_fixedBits 1 = .ok (.istore_n 1, 1) := by decide +kernel
theorem dX2_fixedBits_2 : decode cX2_fixedBits 2 = .ok (.iconst 0, 1) := by decide +kernel
theorem dX2_fixedBits_3 : decode cX2_fixedBits 3 = .ok (.istore_n 2, 1) := by decide +kernel
theorem dX2_fixedBits_4 : decode cX2_fixedBits 4 = .ok (.iload_n 2, 1) := by decide +kernel
theorem dX2_fixedBits_5 : decode cX2_fixedBits 5 = .ok (.aload_n 0, 1) := by decide +kernel
theorem dX2_fixedBits_6 : decode cX2_fixedBits 6 = .ok (.getfield 52, 3) := by decide +kernel
theorem dX2_fixedBits_9 : decode cX2_fixedBits 9 = .ok (.if_icmp .ge 20, 3) := by decide +kernel
theorem dX2_fixedBits_12 : decode cX2_fixedBits 12 = .ok (.iload_n 1, 1) := by decide +kernel
theorem dX2_fixedBits_13 : decode cX2_fixedBits 13 = .ok (.aload_n 0, 1) := by decide +kernel
theorem dX2_fixedBits_14 : decode cX2_fixedBits 14 = .ok (.getfield 21, 3) := by decide +kernel
theorem dX2_fixedBits_17 : decode cX2_fixedBits 17 = .ok (.iload_n 2, 1) := by decide +kernel
theorem dX2_fixedBits_18 : decode cX2_fixedBits 18 = .ok (.iaload, 1) := by decide +kernel
theorem dX2_fixedBits_19 : decode cX2_fixedBits 19 = .ok (.iload_n 2, 1) := by decide +kernel
theorem dX2_fixedBits_20 : decode cX2_fixedBits 20 = .ok (.ishl, 1) := by decide +kernel
theorem dX2_fixedBits_21 : decode cX2_fixedBits 21 = .ok (.ior, 1) := by decide +kernel
theorem dX2_fixedBits_22 : decode cX2_fixedBits 22 = .ok (.istore_n 1, 1) := by decide +kernel
theorem dX2_fixedBits_23 : decode cX2_fixedBits 23 = .ok (.iinc 2 1, 3) := by decide +kernel
theorem dX2_fixedBits_26 : decode cX2_fixedBits 26 = .ok (.goto (-22), 3) := by decide +kernel
theorem dX2_fixedBits_29 : decode cX2_fixedBits 29 = .ok (.iload_n 1, 1) := by decide +kernel
theorem dX2_fixedBits_30 : decode cX2_fixedBits 30 = .ok (.ireturn, 1) := by decide +kernel
theorem dX2_packedPhases_0 : decode cX2_packedPhases 0 = .ok (.aload_n 0, 1) := by decide +kernel
theorem dX2_packedPhases_1 : decode cX2_packedPhases 1 = .ok (.getfield 18, 3) := by decide +kernel
theorem dX2_packedPhases_4 : decode cX2_packedPhases 4 = .ok (.aload_n 0, 1) := by decide +kernel
theorem dX2_packedPhases_5 : decode cX2_packedPhases 5 = .ok (.getfield 52, 3) := by decide +kernel
theorem dX2_packedPhases_8 : decode cX2_packedPhases 8 = .ok (.invokestatic 80, 3) := by decide +kernel
theorem dX2_packedPhases_11 : decode cX2_packedPhases 11 = .ok (.ireturn, 1) := by decide +kernel
theorem dX2_layPacked_0 : decode cX2_layPacked 0 = .ok (.iconst 0, 1) := by decide +kernel
theorem dX2_layPacked_1 : decode cX2_layPacked 1 = .ok (.istore_n 2, 1) := by decide +kernel
theorem dX2_layPacked_2 : decode cX2_layPacked 2 = .ok (.iload_n 2, 1) := by decide +kernel
theorem dX2_layPacked_3 : decode cX2_layPacked 3 = .ok (.aload_n 0, 1) := by decide +kernel
theorem dX2_layPacked_4 : decode cX2_layPacked 4 = .ok (.getfield 52, 3) := by decide +kernel
theorem dX2_layPacked_7 : decode cX2_layPacked 7 = .ok (.if_icmp .ge 19, 3) := by decide +kernel
theorem dX2_layPacked_10 : decode cX2_layPacked 10 = .ok (.aload_n 0, 1) := by decide +kernel
theorem dX2_layPacked_11 : decode cX2_layPacked 11 = .ok (.iload_n 2, 1) := by decide +kernel
theorem dX2_layPacked_12 : decode cX2_layPacked 12 = .ok (.iload_n 1, 1) := by decide +kernel
theorem dX2_layPacked_13 : decode cX2_layPacked 13 = .ok (.iload_n 2, 1) := by decide +kernel
theorem dX2_layPacked_14 : decode cX2_layPacked 14 = .ok (.invokestatic 84, 3) := by decide +kernel
theorem dX2_layPacked_17 : decode cX2_layPacked 17 = .ok (.invokevirtual 62, 3) := by decide +kernel
theorem dX2_layPacked_20 : decode cX2_layPacked 20 = .ok (.iinc 2 1, 3) := by decide +kernel
theorem dX2_layPacked_23 : decode cX2_layPacked 23 = .ok (.goto (-21), 3) := by decide +kernel
theorem dX2_layPacked_26 : decode cX2_layPacked 26 = .ok (.return_, 1) := by decide +kernel
theorem dX2_takenBy_0 : decode cX2_takenBy 0 = .ok (.aload_n 0, 1) := by decide +kernel
theorem dX2_takenBy_1 : decode cX2_takenBy 1 = .ok (.getfield 15, 3) := by decide +kernel
theorem dX2_takenBy_4 : decode cX2_takenBy 4 = .ok (.iload_n 1, 1) := by decide +kernel
theorem dX2_takenBy_5 : decode cX2_takenBy 5 = .ok (.iaload, 1) := by decide +kernel
theorem dX2_takenBy_6 : decode cX2_takenBy 6 = .ok (.getstatic 87, 3) := by decide +kernel
theorem dX2_takenBy_9 : decode cX2_takenBy 9 = .ok (.aload_n 0, 1) := by decide +kernel
theorem dX2_takenBy_10 : decode cX2_takenBy 10 = .ok (.getfield 9, 3) := by decide +kernel
theorem dX2_takenBy_13 : decode cX2_takenBy 13 = .ok (.iload_n 1, 1) := by decide +kernel
theorem dX2_takenBy_14 : decode cX2_takenBy 14 = .ok (.iaload, 1) := by decide +kernel
theorem dX2_takenBy_15 : decode cX2_takenBy 15 = .ok (.bipush 6, 2) := by decide +kernel
theorem dX2_takenBy_17 : decode cX2_takenBy 17 = .ok (.imul, 1) := by decide +kernel
theorem dX2_takenBy_18 : decode cX2_takenBy 18 = .ok (.iload_n 2, 1) := by decide +kernel
theorem dX2_takenBy_19 : decode cX2_takenBy 19 = .ok (.iadd, 1) := by decide +kernel
theorem dX2_takenBy_20 : decode cX2_takenBy 20 = .ok (.iaload, 1) := by decide +kernel
theorem dX2_takenBy_21 : decode cX2_takenBy 21 = .ok (.imul, 1) := by decide +kernel
theorem dX2_takenBy_22 : decode cX2_takenBy 22 = .ok (.ireturn, 1) := by decide +kernel
theorem dX2_loadOf_0 : decode cX2_loadOf 0 = .ok (.aload_n 0, 1) := by decide +kernel
theorem dX2_loadOf_1 : decode cX2_loadOf 1 = .ok (.getfield 36, 3) := by decide +kernel
theorem dX2_loadOf_4 : decode cX2_loadOf 4 = .ok (.iload_n 1, 1) := by decide +kernel
theorem dX2_loadOf_5 : decode cX2_loadOf 5 = .ok (.bipush 6, 2) := by decide +kernel
theorem dX2_loadOf_7 : decode cX2_loadOf 7 = .ok (.imul, 1) := by decide +kernel
theorem dX2_loadOf_8 : decode cX2_loadOf 8 = .ok (.iload_n 2, 1) := by decide +kernel
theorem dX2_loadOf_9 : decode cX2_loadOf 9 = .ok (.iadd, 1) := by decide +kernel
theorem dX2_loadOf_10 : decode cX2_loadOf 10 = .ok (.iaload, 1) := by decide +kernel
theorem dX2_loadOf_11 : decode cX2_loadOf 11 = .ok (.ireturn, 1) := by decide +kernel
theorem dX2_neutralOf_0 : decode cX2_neutralOf 0 = .ok (.aload_n 0, 1) := by decide +kernel
theorem dX2_neutralOf_1 : decode cX2_neutralOf 1 = .ok (.iconst 0, 1) := by decide +kernel
theorem dX2_neutralOf_2 : decode cX2_neutralOf 2 = .ok (.iload_n 1, 1) := by decide +kernel
theorem dX2_neutralOf_3 : decode cX2_neutralOf 3 = .ok (.invokevirtual 90, 3) := by decide +kernel
theorem dX2_neutralOf_6 : decode cX2_neutralOf 6 = .ok (.istore_n 2, 1) := by decide +kernel
theorem dX2_neutralOf_7 : decode cX2_neutralOf 7 = .ok (.aload_n 0, 1) := by decide +kernel
theorem dX2_neutralOf_8 : decode cX2_neutralOf 8 = .ok (.iconst 1, 1) := by decide +kernel
theorem dX2_neutralOf_9 : decode cX2_neutralOf 9 = .ok (.iload_n 1, 1) := by decide +kernel
theorem dX2_neutralOf_10 : decode cX2_neutralOf 10 = .ok (.invokevirtual 90, 3) := by decide +kernel
theorem dX2_neutralOf_13 : decode cX2_neutralOf 13 = .ok (.istore_n 3, 1) := by decide +kernel
theorem dX2_neutralOf_14 : decode cX2_neutralOf 14 = .ok (.aload_n 0, 1) := by decide +kernel
theorem dX2_neutralOf_15 : decode cX2_neutralOf 15 = .ok (.iconst 2, 1) := by decide +kernel
theorem dX2_neutralOf_16 : decode cX2_neutralOf 16 = .ok (.iload_n 1, 1) := by decide +kernel
theorem dX2_neutralOf_17 : decode cX2_neutralOf 17 = .ok (.invokevirtual 90, 3) := by decide +kernel
theorem dX2_neutralOf_20 : decode cX2_neutralOf 20 = .ok (.istore 4, 2) := by decide +kernel
theorem dX2_neutralOf_22 : decode cX2_neutralOf 22 = .ok (.iload_n 2, 1) := by decide +kernel
theorem dX2_neutralOf_23 : decode cX2_neutralOf 23 = .ok (.iload_n 2, 1) := by decide +kernel
theorem dX2_neutralOf_24 : decode cX2_neutralOf 24 = .ok (.imul, 1) := by decide +kernel
theorem dX2_neutralOf_25 : decode cX2_neutralOf 25 = .ok (.iload_n 3, 1) := by decide +kernel
theorem dX2_neutralOf_26 : decode cX2_neutralOf 26 = .ok (.iload_n 3, 1) := by decide +kernel
theorem dX2_neutralOf_27 : decode cX2_neutralOf 27 = .ok (.imul, 1) := by decide +kernel
theorem dX2_neutralOf_28 : decode cX2_neutralOf 28 = .ok (.iadd, 1) := by decide +kernel
theorem dX2_neutralOf_29 : decode cX2_neutralOf 29 = .ok (.iload 4, 2) := by decide +kernel
theorem dX2_neutralOf_31 : decode cX2_neutralOf 31 = .ok (.iload 4, 2) := by decide +kernel
theorem dX2_neutralOf_33 : decode cX2_neutralOf 33 = .ok (.imul, 1) := by decide +kernel
theorem dX2_neutralOf_34 : decode cX2_neutralOf 34 = .ok (.iadd, 1) := by decide +kernel
theorem dX2_neutralOf_35 : decode cX2_neutralOf 35 = .ok (.iload_n 2, 1) := by decide +kernel
theorem dX2_neutralOf_36 : decode cX2_neutralOf 36 = .ok (.iload_n 3, 1) := by decide +kernel
theorem dX2_neutralOf_37 : decode cX2_neutralOf 37 = .ok (.imul, 1) := by decide +kernel
theorem dX2_neutralOf_38 : decode cX2_neutralOf 38 = .ok (.isub, 1) := by decide +kernel
theorem dX2_neutralOf_39 : decode cX2_neutralOf 39 = .ok (.iload_n 3, 1) := by decide +kernel
theorem dX2_neutralOf_40 : decode cX2_neutralOf 40 = .ok (.iload 4, 2) := by decide +kernel
theorem dX2_neutralOf_42 : decode cX2_neutralOf 42 = .ok (.imul, 1) := by decide +kernel
theorem dX2_neutralOf_43 : decode cX2_neutralOf 43 = .ok (.isub, 1) := by decide +kernel
theorem dX2_neutralOf_44 : decode cX2_neutralOf 44 = .ok (.iload 4, 2) := by decide +kernel
theorem dX2_neutralOf_46 : decode cX2_neutralOf 46 = .ok (.iload_n 2, 1) := by decide +kernel
theorem dX2_neutralOf_47 : decode cX2_neutralOf 47 = .ok (.imul, 1) := by decide +kernel
theorem dX2_neutralOf_48 : decode cX2_neutralOf 48 = .ok (.isub, 1) := by decide +kernel
theorem dX2_neutralOf_49 : decode cX2_neutralOf 49 = .ok (.ireturn, 1) := by decide +kernel
theorem dX2_griefNow_0 : decode cX2_griefNow 0 = .ok (.iconst 0, 1) := by decide +kernel
theorem dX2_griefNow_1 : decode cX2_griefNow 1 = .ok (.istore_n 1, 1) := by decide +kernel
theorem dX2_griefNow_2 : decode cX2_griefNow 2 = .ok (.iconst 0, 1) := by decide +kernel
theorem dX2_griefNow_3 : decode cX2_griefNow 3 = .ok (.istore_n 2, 1) := by decide +kernel
theorem dX2_griefNow_4 : decode cX2_griefNow 4 = .ok (.iload_n 2, 1) := by decide +kernel
theorem dX2_griefNow_5 : decode cX2_griefNow 5 = .ok (.bipush 6, 2) := by decide +kernel
theorem dX2_griefNow_7 : decode cX2_griefNow 7 = .ok (.if_icmp .ge 24, 3) := by decide +kernel
theorem dX2_griefNow_10 : decode cX2_griefNow 10 = .ok (.iload_n 1, 1) := by decide +kernel
theorem dX2_griefNow_11 : decode cX2_griefNow 11 = .ok (.aload_n 0, 1) := by decide +kernel
theorem dX2_griefNow_12 : decode cX2_griefNow 12 = .ok (.getfield 33, 3) := by decide +kernel
theorem dX2_griefNow_15 : decode cX2_griefNow 15 = .ok (.iload_n 2, 1) := by decide +kernel
theorem dX2_griefNow_16 : decode cX2_griefNow 16 = .ok (.iaload, 1) := by decide +kernel
theorem dX2_griefNow_17 : decode cX2_griefNow 17 = .ok (.aload_n 0, 1) := by decide +kernel
theorem dX2_griefNow_18 : decode cX2_griefNow 18 = .ok (.iload_n 2, 1) := by decide +kernel
theorem dX2_griefNow_19 : decode cX2_griefNow 19 = .ok (.invokevirtual 93, 3) := by decide +kernel
theorem dX2_griefNow_22 : decode cX2_griefNow 22 = .ok (.imul, 1) := by decide +kernel
theorem dX2_griefNow_23 : decode cX2_griefNow 23 = .ok (.iadd, 1) := by decide +kernel
theorem dX2_griefNow_24 : decode cX2_griefNow 24 = .ok (.istore_n 1, 1) := by decide +kernel
theorem dX2_griefNow_25 : decode cX2_griefNow 25 = .ok (.iinc 2 1, 3) := by decide +kernel
theorem dX2_griefNow_28 : decode cX2_griefNow 28 = .ok (.goto (-24), 3) := by decide +kernel
theorem dX2_griefNow_31 : decode cX2_griefNow 31 = .ok (.iload_n 1, 1) := by decide +kernel
theorem dX2_griefNow_32 : decode cX2_griefNow 32 = .ok (.ireturn, 1) := by decide +kernel
theorem dX2_isSafe_0 : decode cX2_isSafe 0 = .ok (.iconst 0, 1) := by decide +kernel
theorem dX2_isSafe_1 : decode cX2_isSafe 1 = .ok (.istore_n 1, 1) := by decide +kernel
theorem dX2_isSafe_2 : decode cX2_isSafe 2 = .ok (.iload_n 1, 1) := by decide +kernel
theorem dX2_isSafe_3 : decode cX2_isSafe 3 = .ok (.aload_n 0, 1) := by decide +kernel
theorem dX2_isSafe_4 : decode cX2_isSafe 4 = .ok (.getfield 36, 3) := by decide +kernel
theorem dX2_isSafe_7 : decode cX2_isSafe 7 = .ok (.arraylength, 1) := by decide +kernel
theorem dX2_isSafe_8 : decode cX2_isSafe 8 = .ok (.if_icmp .ge 27, 3) := by decide +kernel
theorem dX2_isSafe_11 : decode cX2_isSafe 11 = .ok (.aload_n 0, 1) := by decide +kernel
theorem dX2_isSafe_12 : decode cX2_isSafe 12 = .ok (.getfield 36, 3) := by decide +kernel
theorem dX2_isSafe_15 : decode cX2_isSafe 15 = .ok (.iload_n 1, 1) := by decide +kernel
theorem dX2_isSafe_16 : decode cX2_isSafe 16 = .ok (.iaload, 1) := by decide +kernel
theorem dX2_isSafe_17 : decode cX2_isSafe 17 = .ok (.invokestatic 97, 3) := by decide +kernel
theorem dX2_isSafe_20 : decode cX2_isSafe 20 = .ok (.aload_n 0, 1) := by decide +kernel
theorem dX2_isSafe_21 : decode cX2_isSafe 21 = .ok (.getfield 48, 3) := by decide +kernel
theorem dX2_isSafe_24 : decode cX2_isSafe 24 = .ok (.if_icmp .le 5, 3) := by decide +kernel
theorem dX2_isSafe_27 : decode cX2_isSafe 27 = .ok (.iconst 0, 1) := by decide +kernel
theorem dX2_isSafe_28 : decode cX2_isSafe 28 = .ok (.ireturn, 1) := by decide +kernel
theorem dX2_isSafe_29 : decode cX2_isSafe 29 = .ok (.iinc 1 1, 3) := by decide +kernel
theorem dX2_isSafe_32 : decode cX2_isSafe 32 = .ok (.goto (-30), 3) := by decide +kernel
theorem dX2_isSafe_35 : decode cX2_isSafe 35 = .ok (.iconst 1, 1) := by decide +kernel
theorem dX2_isSafe_36 : decode cX2_isSafe 36 = .ok (.ireturn, 1) := by decide +kernel
theorem dX2_keepsTies_0 : decode cX2_keepsTies 0 = .ok (.iconst 0, 1) := by decide +kernel
theorem dX2_keepsTies_1 : decode cX2_keepsTies 1 = .ok (.istore_n 1, 1) := by decide +kernel
theorem dX2_keepsTies_2 : decode cX2_keepsTies 2 = .ok (.iload_n 1, 1) := by decide +kernel
theorem dX2_keepsTies_3 : decode cX2_keepsTies 3 = .ok (.aload_n 0, 1) := by decide +kernel
theorem dX2_keepsTies_4 : decode cX2_keepsTies 4 = .ok (.getfield 52, 3) := by decide +kernel
theorem dX2_keepsTies_7 : decode cX2_keepsTies 7 = .ok (.if_icmp .ge 31, 3) := by decide +kernel
theorem dX2_keepsTies_10 : decode cX2_keepsTies 10 = .ok (.aload_n 0, 1) := by decide +kernel
theorem dX2_keepsTies_11 : decode cX2_keepsTies 11 = .ok (.getfield 18, 3) := by decide +kernel
theorem dX2_keepsTies_14 : decode cX2_keepsTies 14 = .ok (.iload_n 1, 1) := by decide +kernel
theorem dX2_keepsTies_15 : decode cX2_keepsTies 15 = .ok (.iaload, 1) := by decide +kernel
theorem dX2_keepsTies_16 : decode cX2_keepsTies 16 = .ok (.aload_n 0, 1) := by decide +kernel
theorem dX2_keepsTies_17 : decode cX2_keepsTies 17 = .ok (.getfield 18, 3) := by decide +kernel
theorem dX2_keepsTies_20 : decode cX2_keepsTies 20 = .ok (.aload_n 0, 1) := by decide +kernel
theorem dX2_keepsTies_21 : decode cX2_keepsTies 21 = .ok (.getfield 24, 3) := by decide +kernel
theorem dX2_keepsTies_24 : decode cX2_keepsTies 24 = .ok (.iload_n 1, 1) := by decide +kernel
theorem dX2_keepsTies_25 : decode cX2_keepsTies 25 = .ok (.iaload, 1) := by decide +kernel
theorem dX2_keepsTies_26 : decode cX2_keepsTies 26 = .ok (.iaload, 1) := by decide +kernel
theorem dX2_keepsTies_27 : decode cX2_keepsTies 27 = .ok (.if_icmp .eq 5, 3) := by decide +kernel
theorem dX2_keepsTies_30 : decode cX2_keepsTies 30 = .ok (.iconst 0, 1) := by decide +kernel
theorem dX2_keepsTies_31 : decode cX2_keepsTies 31 = .ok (.ireturn, 1) := by decide +kernel
theorem dX2_keepsTies_32 : decode cX2_keepsTies 32 = .ok (.iinc 1 1, 3) := by decide +kernel
theorem dX2_keepsTies_35 : decode cX2_keepsTies 35 = .ok (.goto (-33), 3) := by decide +kernel
theorem dX2_keepsTies_38 : decode cX2_keepsTies 38 = .ok (.iconst 1, 1) := by decide +kernel
theorem dX2_keepsTies_39 : decode cX2_keepsTies 39 = .ok (.ireturn, 1) := by decide +kernel
theorem dX2_hourOfGreatestNeutral_0 : decode cX2_hourOfGreatestNeutral 0 = .ok (.iconst 0, 1) := by decide +kernel
theorem dX2_hourOfGreatestNeutral_1 : decode cX2_hourOfGreatestNeutral 1 = .ok (.istore_n 1, 1) := by decide +kernel
theorem dX2_hourOfGreatestNeutral_2 : decode cX2_hourOfGreatestNeutral 2 = .ok (.iconst 1, 1) := by decide +kernel
theorem dX2_hourOfGreatestNeutral_3 : decode cX2_hourOfGreatestNeutral 3 = .ok (.istore_n 2, 1) := by decide +kernel
theorem dX2_hourOfGreatestNeutral_4 : decode cX2_hourOfGreatestNeutral 4 = .ok (.iload_n 2, 1) := by decide +kernel
theorem dX2_hourOfGreatestNeutral_5 : decode cX2_hourOfGreatestNeutral 5 = .ok (.bipush 6, 2) := by decide +kernel
theorem dX2_hourOfGreatestNeutral_7 : decode cX2_hourOfGreatestNeutral 7 = .ok (.if_icmp .ge 24, 3) := by decide +kernel
theorem dX2_hourOfGreatestNeutral_10 : decode cX2_hourOfGreatestNeutral 10 = .ok (.aload_n 0, 1) := by decide +kernel
theorem dX2_hourOfGreatestNeutral_11 : decode cX2_hourOfGreatestNeutral 11 = .ok (.iload_n 2, 1) := by decide +kernel
theorem dX2_hourOfGreatestNeutral_12 : decode cX2_hourOfGreatestNeutral 12 = .ok (.invokevirtual 93, 3) := by decide +kernel
theorem dX2_hourOfGreatestNeutral_15 : decode cX2_hourOfGreatestNeutral 15 = .ok (.aload_n 0, 1) := by decide +kernel
theorem dX2_hourOfGreatestNeutral_16 : decode cX2_hourOfGreatestNeutral 16 = .ok (.iload_n 1, 1) := by decide +kernel
theorem dX2_hourOfGreatestNeutral_17 : decode cX2_hourOfGreatestNeutral 17 = .ok (.invokevirtual 93, 3) := by decide +kernel
theorem dX2_hourOfGreatestNeutral_20 : decode cX2_hourOfGreatestNeutral 20 = .ok (.if_icmp .le 5, 3) := by decide +kernel
theorem dX2_hourOfGreatestNeutral_23 : decode cX2_hourOfGreatestNeutral 23 = .ok (.iload_n 2, 1) := by decide +kernel
theorem dX2_hourOfGreatestNeutral_24 : decode cX2_hourOfGreatestNeutral 24 = .ok (.istore_n 1, 1) := by decide +kernel
theorem dX2_hourOfGreatestNeutral_25 : decode cX2_hourOfGreatestNeutral 25 = .ok (.iinc 2 1, 3) := by decide +kernel
theorem dX2_hourOfGreatestNeutral_28 : decode cX2_hourOfGreatestNeutral 28 = .ok (.goto (-24), 3) := by decide +kernel
theorem dX2_hourOfGreatestNeutral_31 : decode cX2_hourOfGreatestNeutral 31 = .ok (.iload_n 1, 1) := by decide +kernel
theorem dX2_hourOfGreatestNeutral_32 : decode cX2_hourOfGreatestNeutral 32 = .ok (.ireturn, 1) := by decide +kernel
theorem dX2_greatestLoad_0 : decode cX2_greatestLoad 0 = .ok (.iconst 0, 1) := by decide +kernel
theorem dX2_greatestLoad_1 : decode cX2_greatestLoad 1 = .ok (.istore_n 1, 1) := by decide +kernel
theorem dX2_greatestLoad_2 : decode cX2_greatestLoad 2 = .ok (.iconst 0, 1) := by decide +kernel
theorem dX2_greatestLoad_3 : decode cX2_greatestLoad 3 = .ok (.istore_n 2, 1) := by decide +kernel
theorem dX2_greatestLoad_4 : decode cX2_greatestLoad 4 = .ok (.iload_n 2, 1) := by decide +kernel
theorem dX2_greatestLoad_5 : decode cX2_greatestLoad 5 = .ok (.bipush 6, 2) := by decide +kernel
theorem dX2_greatestLoad_7 : decode cX2_greatestLoad 7 = .ok (.if_icmp .ge 45, 3) := by decide +kernel
theorem dX2_greatestLoad_10 : decode cX2_greatestLoad 10 = .ok (.iconst 0, 1) := by decide +kernel
theorem dX2_greatestLoad_11 : decode cX2_greatestLoad 11 = .ok (.istore_n 3, 1) := by decide +kernel
theorem dX2_greatestLoad_12 : decode cX2_greatestLoad 12 = .ok (.iload_n 3, 1) := by decide +kernel
theorem dX2_greatestLoad_13 : decode cX2_greatestLoad 13 = .ok (.iconst 3, 1) := by decide +kernel
theorem dX2_greatestLoad_14 : decode cX2_greatestLoad 14 = .ok (.if_icmp .ge 32, 3) := by decide +kernel
theorem dX2_greatestLoad_17 : decode cX2_greatestLoad 17 = .ok (.aload_n 0, 1) := by decide +kernel
theorem dX2_greatestLoad_18 : decode cX2_greatestLoad 18 = .ok (.iload_n 3, 1) := by decide +kernel
theorem dX2_greatestLoad_19 : decode cX2_greatestLoad 19 = .ok (.iload_n 2, 1) := by decide +kernel
theorem dX2_greatestLoad_20 : decode cX2_greatestLoad 20 = .ok (.invokevirtual 90, 3) := by decide +kernel
theorem dX2_greatestLoad_23 : decode cX2_greatestLoad 23 = .ok (.invokestatic 97, 3) := by decide +kernel
theorem dX2_greatestLoad_26 : decode cX2_greatestLoad 26 = .ok (.iload_n 1, 1) := by decide +kernel
theorem dX2_greatestLoad_27 : decode cX2_greatestLoad 27 = .ok (.invokestatic 97, 3) := by decide +kernel
theorem dX2_greatestLoad_30 : decode cX2_greatestLoad 30 = .ok (.if_icmp .le 10, 3) := by decide +kernel
theorem dX2_greatestLoad_33 : decode cX2_greatestLoad 33 = .ok (.aload_n 0, 1) := by decide +kernel
theorem dX2_greatestLoad_34 : decode cX2_greatestLoad 34 = .ok (.iload_n 3, 1) := by decide +kernel
theorem dX2_greatestLoad_35 : decode cX2_greatestLoad 35 = .ok (.iload_n 2, 1) := by decide +kernel
theorem dX2_greatestLoad_36 : decode cX2_greatestLoad 36 = .ok (.invokevirtual 90, 3) := by decide +kernel
theorem dX2_greatestLoad_39 : decode cX2_greatestLoad 39 = .ok (.istore_n 1, 1) := by decide +kernel
theorem dX2_greatestLoad_40 : decode cX2_greatestLoad 40 = .ok (.iinc 3 1, 3) := by decide +kernel
theorem dX2_greatestLoad_43 : decode cX2_greatestLoad 43 = .ok (.goto (-31), 3) := by decide +kernel
theorem dX2_greatestLoad_46 : decode cX2_greatestLoad 46 = .ok (.iinc 2 1, 3) := by decide +kernel
theorem dX2_greatestLoad_49 : decode cX2_greatestLoad 49 = .ok (.goto (-45), 3) := by decide +kernel
theorem dX2_greatestLoad_52 : decode cX2_greatestLoad 52 = .ok (.iload_n 1, 1) := by decide +kernel
theorem dX2_greatestLoad_53 : decode cX2_greatestLoad 53 = .ok (.ireturn, 1) := by decide +kernel
end
section
theorem dX3_init_0 : decode cX3_init 0 = .ok (.aload_n 0, 1) := by decide +kernel
theorem dX3_init_1 : decode cX3_init 1 = .ok (.invokespecial 3, 3) := by decide +kernel
theorem dX3_init_4 : decode cX3_init 4 = .ok (.aload_n 0, 1) := by decide +kernel
theorem dX3_init_5 : decode cX3_init 5 = .ok (.bipush 8, 2) := by decide +kernel
theorem dX3_init_7 : decode cX3_init 7 = .ok (.newarray .int, 2) := by decide +kernel
theorem dX3_init_9 : decode cX3_init 9 = .ok (.putfield 9, 3) := by decide +kernel
theorem dX3_init_12 : decode cX3_init 12 = .ok (.return_, 1) := by decide +kernel
theorem dX3_keep_0 : decode cX3_keep 0 = .ok (.aload_n 0, 1) := by decide +kernel
theorem dX3_keep_1 : decode cX3_keep 1 = .ok (.getfield 15, 3) := by decide +kernel
theorem dX3_keep_4 : decode cX3_keep 4 = .ok (.bipush 8, 2) := by decide +kernel
theorem dX3_keep_6 : decode cX3_keep 6 = .ok (.if_icmp .lt 24, 3) := by decide +kernel
theorem dX3_keep_9 : decode cX3_keep 9 = .ok (.aload_n 0, 1) := by decide +kernel
theorem dX3_keep_10 : decode cX3_keep 10 = .ok (.getfield 9, 3) := by decide +kernel
theorem dX3_keep_13 : decode cX3_keep 13 = .ok (.iconst 1, 1) := by decide +kernel
theorem dX3_keep_14 : decode cX3_keep 14 = .ok (.aload_n 0, 1) := by decide +kernel
theorem dX3_keep_15 : decode cX3_keep 15 = .ok (.getfield 9, 3) := by decide +kernel
theorem dX3_keep_18 : decode cX3_keep 18 = .ok (.iconst 0, 1) := by decide +kernel
theorem dX3_keep_19 : decode cX3_keep 19 = .ok (.bipush 7, 2) := by decide +kernel
theorem dX3_keep_21 : decode cX3_keep 21 = .ok (.invokestatic 19, 3) := by decide +kernel
theorem dX3_keep_24 : decode cX3_keep 24 = .ok (.aload_n 0, 1) := by decide +kernel
theorem dX3_keep_25 : decode cX3_keep 25 = .ok (.bipush 7, 2) := by decide +kernel
theorem dX3_keep_27 : decode cX3_keep 27 = .ok (.putfield 15, 3) := by decide +kernel
theorem dX3_keep_30 : decode cX3_keep 30 = .ok (.aload_n 0, 1) := by decide +kernel
theorem dX3_keep_31 : decode cX3_keep 31 = .ok (.getfield 9, 3) := by decide +kernel
theorem dX3_keep_34 : decode cX3_keep 34 = .ok (.aload_n 0, 1) := by decide +kernel
theorem dX3_keep_35 : decode cX3_keep 35 = .ok (.getfield 15, 3) := by decide +kernel
theorem dX3_keep_38 : decode cX3_keep 38 = .ok (.iload_n 1, 1) := by decide +kernel
theorem dX3_keep_39 : decode cX3_keep 39 = .ok (.iastore, 1) := by decide +kernel
theorem dX3_keep_40 : decode cX3_keep 40 = .ok (.aload_n 0, 1) := by decide +kernel
theorem dX3_keep_41 : decode cX3_keep 41 = .ok (.dup, 1) := by decide +kernel
theorem dX3_keep_42 : decode cX3_keep 42 = .ok (.getfield 15, 3) := by decide +kernel
theorem dX3_keep_45 : decode cX3_keep 45 = .ok (.iconst 1, 1) := by decide +kernel
theorem dX3_keep_46 : decode cX3_keep 46 = .ok (.iadd, 1) := by decide +kernel
theorem dX3_keep_47 : decode cX3_keep 47 = .ok (.putfield 15, 3) := by decide +kernel
theorem dX3_keep_50 : decode cX3_keep 50 = .ok (.return_, 1) := by decide +kernel
theorem dX3_takeLast_0 : decode cX3_takeLast 0 = .ok (.aload_n 0, 1) := by decide +kernel
theorem dX3_takeLast_1 : decode cX3_takeLast 1 = .ok (.dup, 1) := by decide +kernel
theorem dX3_takeLast_2 : decode cX3_takeLast 2 = .ok (.getfield 15, 3) := by decide +kernel
theorem dX3_takeLast_5 : decode cX3_takeLast 5 = .ok (.iconst 1, 1) := by decide +kernel
theorem dX3_takeLast_6 : decode cX3_takeLast 6 = .ok (.isub, 1) := by decide +kernel
theorem dX3_takeLast_7 : decode cX3_takeLast 7 = .ok (.putfield 15, 3) := by decide +kernel
theorem dX3_takeLast_10 : decode cX3_takeLast 10 = .ok (.aload_n 0, 1) := by decide +kernel
theorem dX3_takeLast_11 : decode cX3_takeLast 11 = .ok (.getfield 9, 3) := by decide +kernel
theorem dX3_takeLast_14 : decode cX3_takeLast 14 = .ok (.aload_n 0, 1) := by decide +kernel
theorem dX3_takeLast_15 : decode cX3_takeLast 15 = .ok (.getfield 15, 3) := by decide +kernel
theorem dX3_takeLast_18 : decode cX3_takeLast 18 = .ok (.iaload, 1) := by decide +kernel
theorem dX3_takeLast_19 : decode cX3_takeLast 19 = .ok (.ireturn, 1) := by decide +kernel
end
section
theorem dX4_init_0 : decode cX4_init 0 = .ok (.aload_n 0, 1) := by decide +kernel
theorem dX4_init_1 : decode cX4_init 1 = .ok (.invokespecial 1, 3) := by decide +kernel
theorem dX4_init_4 : decode cX4_init 4 = .ok (.aload_n 0, 1) := by decide +kernel
theorem dX4_init_5 : decode cX4_init 5 = .ok (.new 7, 3) := by decide +kernel
theorem dX4_init_8 : decode cX4_init 8 = .ok (.dup, 1) := by decide +kernel
theorem dX4_init_9 : decode cX4_init 9 = .ok (.invokespecial 9, 3) := by decide +kernel
theorem dX4_init_12 : decode cX4_init 12 = .ok (.putfield 10, 3) := by decide +kernel
theorem dX4_init_15 : decode cX4_init 15 = .ok (.aload_n 0, 1) := by decide +kernel
theorem dX4_init_16 : decode cX4_init 16 = .ok (.new 16, 3) := by decide +kernel
theorem dX4_init_19 : decode cX4_init 19 = .ok (.dup, 1) := by decide +kernel
theorem dX4_init_20 : decode cX4_init 20 = .ok (.aload_n 0, 1) := by decide +kernel
theorem dX4_init_21 : decode cX4_init 21 = .ok (.getfield 10, 3) := by decide +kernel
theorem dX4_init_24 : decode cX4_init 24 = .ok (.invokespecial 18, 3) := by decide +kernel
theorem dX4_init_27 : decode cX4_init 27 = .ok (.putfield 21, 3) := by decide +kernel
theorem dX4_init_30 : decode cX4_init 30 = .ok (.aload_n 0, 1) := by decide +kernel
theorem dX4_init_31 : decode cX4_init 31 = .ok (.new 25, 3) := by decide +kernel
theorem dX4_init_34 : decode cX4_init 34 = .ok (.dup, 1) := by decide +kernel
theorem dX4_init_35 : decode cX4_init 35 = .ok (.aload_n 0, 1) := by decide +kernel
theorem dX4_init_36 : decode cX4_init 36 = .ok (.getfield 10, 3) := by decide +kernel
theorem dX4_init_39 : decode cX4_init 39 = .ok (.invokespecial 27, 3) := by decide +kernel
theorem dX4_init_42 : decode cX4_init 42 = .ok (.putfield 28, 3) := by decide +kernel
theorem dX4_init_45 : decode cX4_init 45 = .ok (.aload_n 0, 1) := by decide +kernel
theorem dX4_init_46 : decode cX4_init 46 = .ok (.new 32, 3) := by decide +kernel
theorem dX4_init_49 : decode cX4_init 49 = .ok (.dup, 1) := by decide +kernel
theorem dX4_init_50 : decode cX4_init 50 = .ok (.invokespecial 34, 3) := by decide +kernel
theorem dX4_init_53 : decode cX4_init 53 = .ok (.putfield 35, 3) := by decide +kernel
theorem dX4_init_56 : decode cX4_init 56 = .ok (.return_, 1) := by decide +kernel
theorem dX4_house_0 : decode cX4_house 0 = .ok (.iload_n 1, 1) := by decide +kernel
theorem dX4_house_1 : decode cX4_house 1 = .ok (.invokestatic 39, 3) := by decide +kernel
theorem dX4_house_4 : decode cX4_house 4 = .ok (.ifCond .eq 17, 3) := by decide +kernel
theorem dX4_house_7 : decode cX4_house 7 = .ok (.iload_n 2, 1) := by decide +kernel
theorem dX4_house_8 : decode cX4_house 8 = .ok (.invokestatic 43, 3) := by decide +kernel
theorem dX4_house_11 : decode cX4_house 11 = .ok (.ifCond .eq 10, 3) := by decide +kernel
theorem dX4_house_14 : decode cX4_house 14 = .ok (.iload_n 3, 1) := by decide +kernel
theorem dX4_house_15 : decode cX4_house 15 = .ok (.invokestatic 46, 3) := by decide +kernel
theorem dX4_house_18 : decode cX4_house 18 = .ok (.ifCond .ne 10, 3) := by decide +kernel
theorem dX4_house_21 : decode cX4_house 21 = .ok (.aload_n 0, 1) := by decide +kernel
theorem dX4_house_22 : decode cX4_house 22 = .ok (.bipush (-2), 2) := by decide +kernel
theorem dX4_house_24 : decode cX4_house 24 = .ok (.invokevirtual 49, 3) := by decide +kernel
theorem dX4_house_27 : decode cX4_house 27 = .ok (.ireturn, 1) := by decide +kernel
theorem dX4_house_28 : decode cX4_house 28 = .ok (.aload_n 0, 1) := by decide +kernel
theorem dX4_house_29 : decode cX4_house 29 = .ok (.getfield 10, 3) := by decide +kernel
theorem dX4_house_32 : decode cX4_house 32 = .ok (.getfield 53, 3) := by decide +kernel
theorem dX4_house_35 : decode cX4_house 35 = .ok (.bipush 9, 2) := by decide +kernel
theorem dX4_house_37 : decode cX4_house 37 = .ok (.if_icmp .lt 10, 3) := by decide +kernel
theorem dX4_house_40 : decode cX4_house 40 = .ok (.aload_n 0, 1) := by decide +kernel
theorem dX4_house_41 : decode cX4_house 41 = .ok (.bipush (-4), 2) := by decide +kernel
theorem dX4_house_43 : decode cX4_house 43 = .ok (.invokevirtual 49, 3) := by decide +kernel
theorem dX4_house_46 : decode cX4_house 46 = .ok (.ireturn, 1) := by decide +kernel
theorem dX4_house_47 : decode cX4_house 47 = .ok (.aload_n 0, 1) := by decide +kernel
theorem dX4_house_48 : decode cX4_house 48 = .ok (.invokevirtual 57, 3) := by decide +kernel
theorem dX4_house_51 : decode cX4_house 51 = .ok (.aload_n 0, 1) := by decide +kernel
theorem dX4_house_52 : decode cX4_house 52 = .ok (.getfield 10, 3) := by decide +kernel
theorem dX4_house_55 : decode cX4_house 55 = .ok (.iload_n 1, 1) := by decide +kernel
theorem dX4_house_56 : decode cX4_house 56 = .ok (.iload_n 2, 1) := by decide +kernel
theorem dX4_house_57 : decode cX4_house 57 = .ok (.iload_n 3, 1) := by decide +kernel
theorem dX4_house_58 : decode cX4_house 58 = .ok (.invokevirtual 60, 3) := by decide +kernel
theorem dX4_house_61 : decode cX4_house 61 = .ok (.ireturn, 1) := by decide +kernel
theorem dX4_sets_0 : decode cX4_sets 0 = .ok (.aload_n 0, 1) := by decide +kernel
theorem dX4_sets_1 : decode cX4_sets 1 = .ok (.iload_n 1, 1) := by decide +kernel
theorem dX4_sets_2 : decode cX4_sets 2 = .ok (.invokevirtual 64, 3) := by decide +kernel
theorem dX4_sets_5 : decode cX4_sets 5 = .ok (.ifCond .eq 11, 3) := by decide +kernel
theorem dX4_sets_8 : decode cX4_sets 8 = .ok (.iload_n 2, 1) := by decide +kernel
theorem dX4_sets_9 : decode cX4_sets 9 = .ok (.iload_n 3, 1) := by decide +kernel
theorem dX4_sets_10 : decode cX4_sets 10 = .ok (.invokestatic 67, 3) := by decide +kernel
theorem dX4_sets_13 : decode cX4_sets 13 = .ok (.ifCond .ne 10, 3) := by decide +kernel
theorem dX4_sets_16 : decode cX4_sets 16 = .ok (.aload_n 0, 1) := by decide +kernel
theorem dX4_sets_17 : decode cX4_sets 17 = .ok (.bipush (-2), 2) := by decide +kernel
theorem dX4_sets_19 : decode cX4_sets 19 = .ok (.invokevirtual 49, 3) := by decide +kernel
theorem dX4_sets_22 : decode cX4_sets 22 = .ok (.ireturn, 1) := by decide +kernel
theorem dX4_sets_23 : decode cX4_sets 23 = .ok (.aload_n 0, 1) := by decide +kernel
theorem dX4_sets_24 : decode cX4_sets 24 = .ok (.invokevirtual 57, 3) := by decide +kernel
theorem dX4_sets_27 : decode cX4_sets 27 = .ok (.aload_n 0, 1) := by decide +kernel
theorem dX4_sets_28 : decode cX4_sets 28 = .ok (.getfield 10, 3) := by decide +kernel
theorem dX4_sets_31 : decode cX4_sets 31 = .ok (.iload_n 1, 1) := by decide +kernel
theorem dX4_sets_32 : decode cX4_sets 32 = .ok (.iload_n 2, 1) := by decide +kernel
theorem dX4_sets_33 : decode cX4_sets 33 = .ok (.iload_n 3, 1) := by decide +kernel
theorem dX4_sets_34 : decode cX4_sets 34 = .ok (.invokevirtual 71, 3) := by decide +kernel
theorem dX4_sets_37 : decode cX4_sets 37 = .ok (.ireturn, 1) := by decide +kernel
theorem dX4_weight_0 : decode cX4_weight 0 = .ok (.iload_n 1, 1) := by decide +kernel
theorem dX4_weight_1 : decode cX4_weight 1 = .ok (.invokestatic 74, 3) := by decide +kernel
theorem dX4_weight_4 : decode cX4_weight 4 = .ok (.ifCond .eq 13, 3) := by decide +kernel
theorem dX4_weight_7 : decode cX4_weight 7 = .ok (.iload_n 2, 1) := by decide +kernel
theorem dX4_weight_8 : decode cX4_weight 8 = .ok (.iconst 0, 1) := by decide +kernel
theorem dX4_weight_9 : decode cX4_weight 9 = .ok (.bipush 9, 2) := by decide +kernel
theorem dX4_weight_11 : decode cX4_weight 11 = .ok (.invokestatic 77, 3) := by decide +kernel
theorem dX4_weight_14 : decode cX4_weight 14 = .ok (.ifCond .ne 10, 3) := by decide +kernel
theorem dX4_weight_17 : decode cX4_weight 17 = .ok (.aload_n 0, 1) := by decide +kernel
theorem dX4_weight_18 : decode cX4_weight 18 = .ok (.bipush (-2), 2) := by decide +kernel
theorem dX4_weight_20 : decode cX4_weight 20 = .ok (.invokevirtual 49, 3) := by decide +kernel
theorem dX4_weight_23 : decode cX4_weight 23 = .ok (.ireturn, 1) := by decide +kernel
theorem dX4_weight_24 : decode cX4_weight 24 = .ok (.aload_n 0, 1) := by decide +kernel
theorem dX4_weight_25 : decode cX4_weight 25 = .ok (.invokevirtual 57, 3) := by decide +kernel
theorem dX4_weight_28 : decode cX4_weight 28 = .ok (.aload_n 0, 1) := by decide +kernel
theorem dX4_weight_29 : decode cX4_weight 29 = .ok (.getfield 10, 3) := by decide +kernel
theorem dX4_weight_32 : decode cX4_weight 32 = .ok (.getfield 81, 3) := by decide +kernel
theorem dX4_weight_35 : decode cX4_weight 35 = .ok (.iload_n 1, 1) := by decide +kernel
theorem dX4_weight_36 : decode cX4_weight 36 = .ok (.iaload, 1) := by decide +kernel
theorem dX4_weight_37 : decode cX4_weight 37 = .ok (.istore_n 3, 1) := by decide +kernel
theorem dX4_weight_38 : decode cX4_weight 38 = .ok (.aload_n 0, 1) := by decide +kernel
theorem dX4_weight_39 : decode cX4_weight 39 = .ok (.getfield 10, 3) := by decide +kernel
theorem dX4_weight_42 : decode cX4_weight 42 = .ok (.getfield 81, 3) := by decide +kernel
theorem dX4_weight_45 : decode cX4_weight 45 = .ok (.iload_n 1, 1) := by decide +kernel
theorem dX4_weight_46 : decode cX4_weight 46 = .ok (.iload_n 2, 1) := by decide +kernel
theorem dX4_weight_47 : decode cX4_weight 47 = .ok (.iastore, 1) := by decide +kernel
theorem dX4_weight_48 : decode cX4_weight 48 = .ok (.iload_n 3, 1) := by decide +kernel
theorem dX4_weight_49 : decode cX4_weight 49 = .ok (.ireturn, 1) := by decide +kernel
theorem dX4_fuse_0 : decode cX4_fuse 0 = .ok (.iload_n 1, 1) := by decide +kernel
theorem dX4_fuse_1 : decode cX4_fuse 1 = .ok (.iconst 1, 1) := by decide +kernel
theorem dX4_fuse_2 : decode cX4_fuse 2 = .ok (.sipush 400, 3) := by decide +kernel
theorem dX4_fuse_5 : decode cX4_fuse 5 = .ok (.invokestatic 77, 3) := by decide +kernel
theorem dX4_fuse_8 : decode cX4_fuse 8 = .ok (.ifCond .ne 10, 3) := by decide +kernel
theorem dX4_fuse_11 : decode cX4_fuse 11 = .ok (.aload_n 0, 1) := by decide +kernel
theorem dX4_fuse_12 : decode cX4_fuse 12 = .ok (.bipush (-2), 2) := by decide +kernel
theorem dX4_fuse_14 : decode cX4_fuse 14 = .ok (.invokevirtual 49, 3) := by decide +kernel
theorem dX4_fuse_17 : decode cX4_fuse 17 = .ok (.ireturn, 1) := by decide +kernel
theorem dX4_fuse_18 : decode cX4_fuse 18 = .ok (.aload_n 0, 1) := by decide +kernel
theorem dX4_fuse_19 : decode cX4_fuse 19 = .ok (.invokevirtual 57, 3) := by decide +kernel
theorem dX4_fuse_22 : decode cX4_fuse 22 = .ok (.aload_n 0, 1) := by decide +kernel
theorem dX4_fuse_23 : decode cX4_fuse 23 = .ok (.getfield 10, 3) := by decide +kernel
theorem dX4_fuse_26 : decode cX4_fuse 26 = .ok (.getfield 85, 3) := by decide +kernel
theorem dX4_fuse_29 : decode cX4_fuse 29 = .ok (.istore_n 2, 1) := by decide +kernel
theorem dX4_fuse_30 : decode cX4_fuse 30 = .ok (.aload_n 0, 1) := by decide +kernel
theorem dX4_fuse_31 : decode cX4_fuse 31 = .ok (.getfield 10, 3) := by decide +kernel
theorem dX4_fuse_34 : decode cX4_fuse 34 = .ok (.iload_n 1, 1) := by decide +kernel
theorem dX4_fuse_35 : decode cX4_fuse 35 = .ok (.putfield 85, 3) := by decide +kernel
theorem dX4_fuse_38 : decode cX4_fuse 38 = .ok (.iload_n 2, 1) := by decide +kernel
theorem dX4_fuse_39 : decode cX4_fuse 39 = .ok (.ireturn, 1) := by decide +kernel
theorem dX4_tie_0 : decode cX4_tie 0 = .ok (.aload_n 0, 1) := by decide +kernel
theorem dX4_tie_1 : decode cX4_tie 1 = .ok (.iload_n 1, 1) := by decide +kernel
theorem dX4_tie_2 : decode cX4_tie 2 = .ok (.iload_n 2, 1) := by decide +kernel
theorem dX4_tie_3 : decode cX4_tie 3 = .ok (.invokevirtual 88, 3) := by decide +kernel
theorem dX4_tie_6 : decode cX4_tie 6 = .ok (.ifCond .ne 10, 3) := by decide +kernel
theorem dX4_tie_9 : decode cX4_tie 9 = .ok (.aload_n 0, 1) := by decide +kernel
theorem dX4_tie_10 : decode cX4_tie 10 = .ok (.bipush (-2), 2) := by decide +kernel
theorem dX4_tie_12 : decode cX4_tie 12 = .ok (.invokevirtual 49, 3) := by decide +kernel
theorem dX4_tie_15 : decode cX4_tie 15 = .ok (.ireturn, 1) := by decide +kernel
theorem dX4_tie_16 : decode cX4_tie 16 = .ok (.aload_n 0, 1) := by decide +kernel
theorem dX4_tie_17 : decode cX4_tie 17 = .ok (.getfield 10, 3) := by decide +kernel
theorem dX4_tie_20 : decode cX4_tie 20 = .ok (.getfield 91, 3) := by decide +kernel
theorem dX4_tie_23 : decode cX4_tie 23 = .ok (.iload_n 1, 1) := by decide +kernel
theorem dX4_tie_24 : decode cX4_tie 24 = .ok (.iaload, 1) := by decide +kernel
theorem dX4_tie_25 : decode cX4_tie 25 = .ok (.aload_n 0, 1) := by decide +kernel
theorem dX4_tie_26 : decode cX4_tie 26 = .ok (.getfield 10, 3) := by decide +kernel
theorem dX4_tie_29 : decode cX4_tie 29 = .ok (.getfield 91, 3) := by decide +kernel
theorem dX4_tie_32 : decode cX4_tie 32 = .ok (.iload_n 2, 1) := by decide +kernel
theorem dX4_tie_33 : decode cX4_tie 33 = .ok (.iaload, 1) := by decide +kernel
theorem dX4_tie_34 : decode cX4_tie 34 = .ok (.if_icmp .ne 10, 3) := by decide +kernel
theorem dX4_tie_37 : decode cX4_tie 37 = .ok (.aload_n 0, 1) := by decide +kernel
theorem dX4_tie_38 : decode cX4_tie 38 = .ok (.bipush (-3), 2) := by decide +kernel
theorem dX4_tie_40 : decode cX4_tie 40 = .ok (.invokevirtual 49, 3) := by decide +kernel
theorem dX4_tie_43 : decode cX4_tie 43 = .ok (.ireturn, 1) := by decide +kernel
theorem dX4_tie_44 : decode cX4_tie 44 = .ok (.aload_n 0, 1) := by decide +kernel
theorem dX4_tie_45 : decode cX4_tie 45 = .ok (.getfield 10, 3) := by decide +kernel
theorem dX4_tie_48 : decode cX4_tie 48 = .ok (.getfield 94, 3) := by decide +kernel
theorem dX4_tie_51 : decode cX4_tie 51 = .ok (.bipush 6, 2) := by decide +kernel
theorem dX4_tie_53 : decode cX4_tie 53 = .ok (.if_icmp .lt 10, 3) := by decide +kernel
theorem dX4_tie_56 : decode cX4_tie 56 = .ok (.aload_n 0, 1) := by decide +kernel
theorem dX4_tie_57 : decode cX4_tie 57 = .ok (.bipush (-4), 2) := by decide +kernel
theorem dX4_tie_59 : decode cX4_tie 59 = .ok (.invokevirtual 49, 3) := by decide +kernel
theorem dX4_tie_62 : decode cX4_tie 62 = .ok (.ireturn, 1) := by decide +kernel
theorem dX4_tie_63 : decode cX4_tie 63 = .ok (.aload_n 0, 1) := by decide +kernel
theorem dX4_tie_64 : decode cX4_tie 64 = .ok (.invokevirtual 57, 3) := by decide +kernel
theorem dX4_tie_67 : decode cX4_tie 67 = .ok (.aload_n 0, 1) := by decide +kernel
theorem dX4_tie_68 : decode cX4_tie 68 = .ok (.getfield 10, 3) := by decide +kernel
theorem dX4_tie_71 : decode cX4_tie 71 = .ok (.iload_n 1, 1) := by decide +kernel
theorem dX4_tie_72 : decode cX4_tie 72 = .ok (.iload_n 2, 1) := by decide +kernel
theorem dX4_tie_73 : decode cX4_tie 73 = .ok (.invokevirtual 97, 3) := by decide +kernel
theorem dX4_tie_76 : decode cX4_tie 76 = .ok (.aload_n 0, 1) := by decide +kernel
theorem dX4_tie_77 : decode cX4_tie 77 = .ok (.getfield 10, 3) := by decide +kernel
theorem dX4_tie_80 : decode cX4_tie 80 = .ok (.getfield 94, 3) := by decide +kernel
theorem dX4_tie_83 : decode cX4_tie 83 = .ok (.ireturn, 1) := by decide +kernel
theorem dX4_loosens_0 : decode cX4_loosens 0 = .ok (.aload_n 0, 1) := by decide +kernel
theorem dX4_loosens_1 : decode cX4_loosens 1 = .ok (.invokevirtual 57, 3) := by decide +kernel
theorem dX4_loosens_4 : decode cX4_loosens 4 = .ok (.aload_n 0, 1) := by decide +kernel
theorem dX4_loosens_5 : decode cX4_loosens 5 = .ok (.getfield 10, 3) := by decide +kernel
theorem dX4_loosens_8 : decode cX4_loosens 8 = .ok (.getfield 94, 3) := by decide +kernel
theorem dX4_loosens_11 : decode cX4_loosens 11 = .ok (.istore_n 1, 1) := by decide +kernel
theorem dX4_loosens_12 : decode cX4_loosens 12 = .ok (.aload_n 0, 1) := by decide +kernel
theorem dX4_loosens_13 : decode cX4_loosens 13 = .ok (.getfield 10, 3) := by decide +kernel
theorem dX4_loosens_16 : decode cX4_loosens 16 = .ok (.invokevirtual 101, 3) := by decide +kernel
theorem dX4_loosens_19 : decode cX4_loosens 19 = .ok (.iload_n 1, 1) := by decide +kernel
theorem dX4_loosens_20 : decode cX4_loosens 20 = .ok (.ireturn, 1) := by decide +kernel
theorem dX4_anew_0 : decode cX4_anew 0 = .ok (.aload_n 0, 1) := by decide +kernel
theorem dX4_anew_1 : decode cX4_anew 1 = .ok (.invokevirtual 57, 3) := by decide +kernel
theorem dX4_anew_4 : decode cX4_anew 4 = .ok (.aload_n 0, 1) := by decide +kernel
theorem dX4_anew_5 : decode cX4_anew 5 = .ok (.getfield 10, 3) := by decide +kernel
theorem dX4_anew_8 : decode cX4_anew 8 = .ok (.getfield 53, 3) := by decide +kernel
theorem dX4_anew_11 : decode cX4_anew 11 = .ok (.istore_n 1, 1) := by decide +kernel
theorem dX4_anew_12 : decode cX4_anew 12 = .ok (.aload_n 0, 1) := by decide +kernel
theorem dX4_anew_13 : decode cX4_anew 13 = .ok (.getfield 10, 3) := by decide +kernel
theorem dX4_anew_16 : decode cX4_anew 16 = .ok (.invokevirtual 104, 3) := by decide +kernel
theorem dX4_anew_19 : decode cX4_anew 19 = .ok (.aload_n 0, 1) := by decide +kernel
theorem dX4_anew_20 : decode cX4_anew 20 = .ok (.getfield 10, 3) := by decide +kernel
theorem dX4_anew_23 : decode cX4_anew 23 = .ok (.invokevirtual 107, 3) := by decide +kernel
theorem dX4_anew_26 : decode cX4_anew 26 = .ok (.iload_n 1, 1) := by decide +kernel
theorem dX4_anew_27 : decode cX4_anew 27 = .ok (.ireturn, 1) := by decide +kernel
theorem dX4_draw_0 : decode cX4_draw 0 = .ok (.iload_n 1, 1) := by decide +kernel
theorem dX4_draw_1 : decode cX4_draw 1 = .ok (.iconst 0, 1) := by decide +kernel
theorem dX4_draw_2 : decode cX4_draw 2 = .ok (.ldc 110, 2) := by decide +kernel
theorem dX4_draw_4 : decode cX4_draw 4 = .ok (.invokestatic 77, 3) := by decide +kernel
theorem dX4_draw_7 : decode cX4_draw 7 = .ok (.ifCond .eq 13, 3) := by decide +kernel
theorem dX4_draw_10 : decode cX4_draw 10 = .ok (.iload_n 2, 1) := by decide +kernel
theorem dX4_draw_11 : decode cX4_draw 11 = .ok (.iconst 0, 1) := by decide +kernel
theorem dX4_draw_12 : decode cX4_draw 12 = .ok (.bipush 9, 2) := by decide +kernel
theorem dX4_draw_14 : decode cX4_draw 14 = .ok (.invokestatic 77, 3) := by decide +kernel
theorem dX4_draw_17 : decode cX4_draw 17 = .ok (.ifCond .ne 10, 3) := by decide +kernel
theorem dX4_draw_20 : decode cX4_draw 20 = .ok (.aload_n 0, 1) := by decide +kernel
theorem dX4_draw_21 : decode cX4_draw 21 = .ok (.bipush (-2), 2) := by decide +kernel
theorem dX4_draw_23 : decode cX4_draw 23 = .ok (.invokevirtual 49, 3) := by decide +kernel
theorem dX4_draw_26 : decode cX4_draw 26 = .ok (.ireturn, 1) := by decide +kernel
theorem dX4_draw_27 : decode cX4_draw 27 = .ok (.aload_n 0, 1) := by decide +kernel
theorem dX4_draw_28 : decode cX4_draw 28 = .ok (.invokevirtual 57, 3) := by decide +kernel
theorem dX4_draw_31 : decode cX4_draw 31 = .ok (.aload_n 0, 1) := by decide +kernel
theorem dX4_draw_32 : decode cX4_draw 32 = .ok (.getfield 10, 3) := by decide +kernel
theorem dX4_draw_35 : decode cX4_draw 35 = .ok (.invokevirtual 104, 3) := by decide +kernel
theorem dX4_draw_38 : decode cX4_draw 38 = .ok (.iload_n 1, 1) := by decide +kernel
theorem dX4_draw_39 : decode cX4_draw 39 = .ok (.i2l, 1) := by decide +kernel
theorem dX4_draw_40 : decode cX4_draw 40 = .ok (.lstore_n 3, 1) := by decide +kernel
theorem dX4_draw_41 : decode cX4_draw 41 = .ok (.iconst 0, 1) := by decide +kernel
theorem dX4_draw_42 : decode cX4_draw 42 = .ok (.istore 5, 2) := by decide +kernel
theorem dX4_draw_44 : decode cX4_draw 44 = .ok (.iload 5, 2) := by decide +kernel
theorem dX4_draw_46 : decode cX4_draw 46 = .ok (.iload_n 2, 1) := by decide +kernel
theorem dX4_draw_47 : decode cX4_draw 47 = .ok (.if_icmp .ge 63, 3) := by decide +kernel
theorem dX4_draw_50 : decode cX4_draw 50 = .ok (.lload_n 3, 1) := by decide +kernel
theorem dX4_draw_51 : decode cX4_draw 51 = .ok (.ldc2_w 111, 3) := by decide +kernel
theorem dX4_draw_54 : decode cX4_draw 54 = .ok (.lmul, 1) := by decide +kernel
theorem dX4_draw_55 : decode cX4_draw 55 = .ok (.ldc2_w 113, 3) := by decide +kernel
theorem dX4_draw_58 : decode cX4_draw 58 = .ok (.ladd, 1) := by decide +kernel
theorem dX4_draw_59 : decode cX4_draw 59 = .ok (.ldc2_w 115, 3) := by decide +kernel
theorem dX4_draw_62 : decode cX4_draw 62 = .ok (.lrem, 1) := by decide +kernel
theorem dX4_draw_63 : decode cX4_draw 63 = .ok (.lstore_n 3, 1) := by decide +kernel
theorem dX4_draw_64 : decode cX4_draw 64 = .ok (.aload_n 0, 1) := by decide +kernel
theorem dX4_draw_65 : decode cX4_draw 65 = .ok (.getfield 10, 3) := by decide +kernel
theorem dX4_draw_68 : decode cX4_draw 68 = .ok (.lload_n 3, 1) := by decide +kernel
theorem dX4_draw_69 : decode cX4_draw 69 = .ok (.ldc2_w 117, 3) := by decide +kernel
theorem dX4_draw_72 : decode cX4_draw 72 = .ok (.ldiv, 1) := by decide +kernel
theorem dX4_draw_73 : decode cX4_draw 73 = .ok (.ldc2_w 119, 3) := by decide +kernel
theorem dX4_draw_76 : decode cX4_draw 76 = .ok (.lrem, 1) := by decide +kernel
theorem dX4_draw_77 : decode cX4_draw 77 = .ok (.l2i, 1) := by decide +kernel
theorem dX4_draw_78 : decode cX4_draw 78 = .ok (.lload_n 3, 1) := by decide +kernel
theorem dX4_draw_79 : decode cX4_draw 79 = .ok (.ldc2_w 121, 3) := by decide +kernel
theorem dX4_draw_82 : decode cX4_draw 82 = .ok (.ldiv, 1) := by decide +kernel
theorem dX4_draw_83 : decode cX4_draw 83 = .ok (.ldc2_w 123, 3) := by decide +kernel
theorem dX4_draw_86 : decode cX4_draw 86 = .ok (.lrem, 1) := by decide +kernel
theorem dX4_draw_87 : decode cX4_draw 87 = .ok (.l2i, 1) := by decide +kernel
theorem dX4_draw_88 : decode cX4_draw 88 = .ok (.iconst 1, 1) := by decide +kernel
theorem dX4_draw_89 : decode cX4_draw 89 = .ok (.iadd, 1) := by decide +kernel
theorem dX4_draw_90 : decode cX4_draw 90 = .ok (.lload_n 3, 1) := by decide +kernel
theorem dX4_draw_91 : decode cX4_draw 91 = .ok (.ldc2_w 125, 3) := by decide +kernel
theorem dX4_draw_94 : decode cX4_draw 94 = .ok (.ldiv, 1) := by decide +kernel
theorem dX4_draw_95 : decode cX4_draw 95 = .ok (.ldc2_w 127, 3) := by decide +kernel
theorem dX4_draw_98 : decode cX4_draw 98 = .ok (.lrem, 1) := by decide +kernel
theorem dX4_draw_99 : decode cX4_draw 99 = .ok (.l2i, 1) := by decide +kernel
theorem dX4_draw_100 : decode cX4_draw 100 = .ok (.invokevirtual 60, 3) := by decide +kernel
theorem dX4_draw_103 : decode cX4_draw 103 = .ok (.pop, 1) := by decide +kernel
theorem dX4_draw_104 : decode cX4_draw 104 = .ok (.iinc 5 1, 3) := by decide +kernel
theorem dX4_draw_107 : decode cX4_draw 107 = .ok (.goto (-63), 3) := by decide +kernel
theorem dX4_draw_110 : decode cX4_draw 110 = .ok (.iload_n 2, 1) := by decide +kernel
theorem dX4_draw_111 : decode cX4_draw 111 = .ok (.ireturn, 1) := by decide +kernel
theorem dX4_of_0 : decode cX4_of 0 = .ok (.aload_n 0, 1) := by decide +kernel
theorem dX4_of_1 : decode cX4_of 1 = .ok (.iload_n 1, 1) := by decide +kernel
theorem dX4_of_2 : decode cX4_of 2 = .ok (.invokevirtual 64, 3) := by decide +kernel
theorem dX4_of_5 : decode cX4_of 5 = .ok (.ifCond .ne 10, 3) := by decide +kernel
theorem dX4_of_8 : decode cX4_of 8 = .ok (.aload_n 0, 1) := by decide +kernel
theorem dX4_of_9 : decode cX4_of 9 = .ok (.bipush (-2), 2) := by decide +kernel
theorem dX4_of_11 : decode cX4_of 11 = .ok (.invokevirtual 49, 3) := by decide +kernel
theorem dX4_of_14 : decode cX4_of 14 = .ok (.ireturn, 1) := by decide +kernel
theorem dX4_of_15 : decode cX4_of 15 = .ok (.iload_n 2, 1) := by decide +kernel
theorem dX4_of_16 : decode cX4_of 16 = .ok (.tableswitch 86 0 4 #[36, 46, 56, 66, 76], 36) := by decide +kernel
theorem dX4_of_52 : decode cX4_of 52 = .ok (.aload_n 0, 1) := by decide +kernel
theorem dX4_of_53 : decode cX4_of 53 = .ok (.getfield 10, 3) := by decide +kernel
theorem dX4_of_56 : decode cX4_of 56 = .ok (.getfield 129, 3) := by decide +kernel
theorem dX4_of_59 : decode cX4_of 59 = .ok (.iload_n 1, 1) := by decide +kernel
theorem dX4_of_60 : decode cX4_of 60 = .ok (.iaload, 1) := by decide +kernel
theorem dX4_of_61 : decode cX4_of 61 = .ok (.ireturn, 1) := by decide +kernel
theorem dX4_of_62 : decode cX4_of 62 = .ok (.aload_n 0, 1) := by decide +kernel
theorem dX4_of_63 : decode cX4_of 63 = .ok (.getfield 10, 3) := by decide +kernel
theorem dX4_of_66 : decode cX4_of 66 = .ok (.getfield 132, 3) := by decide +kernel
theorem dX4_of_69 : decode cX4_of 69 = .ok (.iload_n 1, 1) := by decide +kernel
theorem dX4_of_70 : decode cX4_of 70 = .ok (.iaload, 1) := by decide +kernel
theorem dX4_of_71 : decode cX4_of 71 = .ok (.ireturn, 1) := by decide +kernel
theorem dX4_of_72 : decode cX4_of 72 = .ok (.aload_n 0, 1) := by decide +kernel
theorem dX4_of_73 : decode cX4_of 73 = .ok (.getfield 10, 3) := by decide +kernel
theorem dX4_of_76 : decode cX4_of 76 = .ok (.getfield 135, 3) := by decide +kernel
theorem dX4_of_79 : decode cX4_of 79 = .ok (.iload_n 1, 1) := by decide +kernel
theorem dX4_of_80 : decode cX4_of 80 = .ok (.iaload, 1) := by decide +kernel
theorem dX4_of_81 : decode cX4_of 81 = .ok (.ireturn, 1) := by decide +kernel
theorem dX4_of_82 : decode cX4_of 82 = .ok (.aload_n 0, 1) := by decide +kernel
theorem dX4_of_83 : decode cX4_of 83 = .ok (.getfield 10, 3) := by decide +kernel
theorem dX4_of_86 : decode cX4_of 86 = .ok (.getfield 138, 3) := by decide +kernel
theorem dX4_of_89 : decode cX4_of 89 = .ok (.iload_n 1, 1) := by decide +kernel
theorem dX4_of_90 : decode cX4_of 90 = .ok (.iaload, 1) := by decide +kernel
theorem dX4_of_91 : decode cX4_of 91 = .ok (.ireturn, 1) := by decide +kernel
theorem dX4_of_92 : decode cX4_of 92 = .ok (.aload_n 0, 1) := by decide +kernel
theorem dX4_of_93 : decode cX4_of 93 = .ok (.getfield 10, 3) := by decide +kernel
theorem dX4_of_96 : decode cX4_of 96 = .ok (.getfield 91, 3) := by decide +kernel
theorem dX4_of_99 : decode cX4_of 99 = .ok (.iload_n 1, 1) := by decide +kernel
theorem dX4_of_100 : decode cX4_of 100 = .ok (.iaload, 1) := by decide +kernel
theorem dX4_of_101 : decode cX4_of 101 = .ok (.ireturn, 1) := by decide +kernel
theorem dX4_of_102 : decode cX4_of 102 = .ok (.aload_n 0, 1) := by decide +kernel
theorem dX4_of_103 : decode cX4_of 103 = .ok (.bipush (-2), 2) := by decide +kernel
theorem dX4_of_105 : decode cX4_of 105 = .ok (.invokevirtual 49, 3) := by decide +kernel
theorem dX4_of_108 : decode cX4_of 108 = .ok (.ireturn, 1) := by decide +kernel
theorem dX4_takes_0 : decode cX4_takes 0 = .ok (.aload_n 0, 1) := by decide +kernel
theorem dX4_takes_1 : decode cX4_takes 1 = .ok (.iload_n 1, 1) := by decide +kernel
theorem dX4_takes_2 : decode cX4_takes 2 = .ok (.invokevirtual 64, 3) := by decide +kernel
theorem dX4_takes_5 : decode cX4_takes 5 = .ok (.ifCond .eq 10, 3) := by decide +kernel
theorem dX4_takes_8 : decode cX4_takes 8 = .ok (.iload_n 2, 1) := by decide +kernel
theorem dX4_takes_9 : decode cX4_takes 9 = .ok (.invokestatic 74, 3) := by decide +kernel
theorem dX4_takes_12 : decode cX4_takes 12 = .ok (.ifCond .ne 10, 3) := by decide +kernel
theorem dX4_takes_15 : decode cX4_takes 15 = .ok (.aload_n 0, 1) := by decide +kernel
theorem dX4_takes_16 : decode cX4_takes 16 = .ok (.bipush (-2), 2) := by decide +kernel
theorem dX4_takes_18 : decode cX4_takes 18 = .ok (.invokevirtual 49, 3) := by decide +kernel
theorem dX4_takes_21 : decode cX4_takes 21 = .ok (.ireturn, 1) := by decide +kernel
theorem dX4_takes_22 : decode cX4_takes 22 = .ok (.aload_n 0, 1) := by decide +kernel
theorem dX4_takes_23 : decode cX4_takes 23 = .ok (.getfield 10, 3) := by decide +kernel
theorem dX4_takes_26 : decode cX4_takes 26 = .ok (.iload_n 1, 1) := by decide +kernel
theorem dX4_takes_27 : decode cX4_takes 27 = .ok (.iload_n 2, 1) := by decide +kernel
theorem dX4_takes_28 : decode cX4_takes 28 = .ok (.invokevirtual 141, 3) := by decide +kernel
theorem dX4_takes_31 : decode cX4_takes 31 = .ok (.ireturn, 1) := by decide +kernel
theorem dX4_load_0 : decode cX4_load 0 = .ok (.iload_n 1, 1) := by decide +kernel
theorem dX4_load_1 : decode cX4_load 1 = .ok (.invokestatic 46, 3) := by decide +kernel
theorem dX4_load_4 : decode cX4_load 4 = .ok (.ifCond .eq 10, 3) := by decide +kernel
theorem dX4_load_7 : decode cX4_load 7 = .ok (.iload_n 2, 1) := by decide +kernel
theorem dX4_load_8 : decode cX4_load 8 = .ok (.invokestatic 74, 3) := by decide +kernel
theorem dX4_load_11 : decode cX4_load 11 = .ok (.ifCond .ne 10, 3) := by decide +kernel
theorem dX4_load_14 : decode cX4_load 14 = .ok (.aload_n 0, 1) := by decide +kernel
theorem dX4_load_15 : decode cX4_load 15 = .ok (.bipush (-2), 2) := by decide +kernel
theorem dX4_load_17 : decode cX4_load 17 = .ok (.invokevirtual 49, 3) := by decide +kernel
theorem dX4_load_20 : decode cX4_load 20 = .ok (.ireturn, 1) := by decide +kernel
theorem dX4_load_21 : decode cX4_load 21 = .ok (.aload_n 0, 1) := by decide +kernel
theorem dX4_load_22 : decode cX4_load 22 = .ok (.getfield 10, 3) := by decide +kernel
theorem dX4_load_25 : decode cX4_load 25 = .ok (.iload_n 1, 1) := by decide +kernel
theorem dX4_load_26 : decode cX4_load 26 = .ok (.iload_n 2, 1) := by decide +kernel
theorem dX4_load_27 : decode cX4_load 27 = .ok (.invokevirtual 145, 3) := by decide +kernel
theorem dX4_load_30 : decode cX4_load 30 = .ok (.ireturn, 1) := by decide +kernel
theorem dX4_neutral_0 : decode cX4_neutral 0 = .ok (.iload_n 1, 1) := by decide +kernel
theorem dX4_neutral_1 : decode cX4_neutral 1 = .ok (.invokestatic 74, 3) := by decide +kernel
theorem dX4_neutral_4 : decode cX4_neutral 4 = .ok (.ifCond .ne 10, 3) := by decide +kernel
theorem dX4_neutral_7 : decode cX4_neutral 7 = .ok (.aload_n 0, 1) := by decide +kernel
theorem dX4_neutral_8 : decode cX4_neutral 8 = .ok (.bipush (-2), 2) := by decide +kernel
theorem dX4_neutral_10 : decode cX4_neutral 10 = .ok (.invokevirtual 49, 3) := by decide +kernel
theorem dX4_neutral_13 : decode cX4_neutral 13 = .ok (.ireturn, 1) := by decide +kernel
theorem dX4_neutral_14 : decode cX4_neutral 14 = .ok (.aload_n 0, 1) := by decide +kernel
theorem dX4_neutral_15 : decode cX4_neutral 15 = .ok (.getfield 10, 3) := by decide +kernel
theorem dX4_neutral_18 : decode cX4_neutral 18 = .ok (.iload_n 1, 1) := by decide +kernel
theorem dX4_neutral_19 : decode cX4_neutral 19 = .ok (.invokevirtual 148, 3) := by decide +kernel
theorem dX4_neutral_22 : decode cX4_neutral 22 = .ok (.ireturn, 1) := by decide +kernel
theorem dX4_grief_0 : decode cX4_grief 0 = .ok (.aload_n 0, 1) := by decide +kernel
theorem dX4_grief_1 : decode cX4_grief 1 = .ok (.getfield 10, 3) := by decide +kernel
theorem dX4_grief_4 : decode cX4_grief 4 = .ok (.invokevirtual 151, 3) := by decide +kernel
theorem dX4_grief_7 : decode cX4_grief 7 = .ok (.ireturn, 1) := by decide +kernel
theorem dX4_good_0 : decode cX4_good 0 = .ok (.iload_n 1, 1) := by decide +kernel
theorem dX4_good_1 : decode cX4_good 1 = .ok (.lookupswitch 59 #[(0, 27), (1, 43)], 27) := by decide +kernel
theorem dX4_good_28 : decode cX4_good 28 = .ok (.aload_n 0, 1) := by decide +kernel
theorem dX4_good_29 : decode cX4_good 29 = .ok (.getfield 10, 3) := by decide +kernel
theorem dX4_good_32 : decode cX4_good 32 = .ok (.invokevirtual 155, 3) := by decide +kernel
theorem dX4_good_35 : decode cX4_good 35 = .ok (.ifCond .eq 7, 3) := by decide +kernel
theorem dX4_good_38 : decode cX4_good 38 = .ok (.iconst 1, 1) := by decide +kernel
theorem dX4_good_39 : decode cX4_good 39 = .ok (.goto 4, 3) := by decide +kernel
theorem dX4_good_42 : decode cX4_good 42 = .ok (.iconst 0, 1) := by decide +kernel
theorem dX4_good_43 : decode cX4_good 43 = .ok (.ireturn, 1) := by decide +kernel
theorem dX4_good_44 : decode cX4_good 44 = .ok (.aload_n 0, 1) := by decide +kernel
theorem dX4_good_45 : decode cX4_good 45 = .ok (.getfield 10, 3) := by decide +kernel
theorem dX4_good_48 : decode cX4_good 48 = .ok (.invokevirtual 159, 3) := by decide +kernel
theorem dX4_good_51 : decode cX4_good 51 = .ok (.ifCond .eq 7, 3) := by decide +kernel
theorem dX4_good_54 : decode cX4_good 54 = .ok (.iconst 1, 1) := by decide +kernel
theorem dX4_good_55 : decode cX4_good 55 = .ok (.goto 4, 3) := by decide +kernel
theorem dX4_good_58 : decode cX4_good 58 = .ok (.iconst 0, 1) := by decide +kernel
theorem dX4_good_59 : decode cX4_good 59 = .ok (.ireturn, 1) := by decide +kernel
theorem dX4_good_60 : decode cX4_good 60 = .ok (.aload_n 0, 1) := by decide +kernel
theorem dX4_good_61 : decode cX4_good 61 = .ok (.bipush (-2), 2) := by decide +kernel
theorem dX4_good_63 : decode cX4_good 63 = .ok (.invokevirtual 49, 3) := by decide +kernel
theorem dX4_good_66 : decode cX4_good 66 = .ok (.ireturn, 1) := by decide +kernel
theorem dX4_worst_0 : decode cX4_worst 0 = .ok (.iload_n 1, 1) := by decide +kernel
theorem dX4_worst_1 : decode cX4_worst 1 = .ok (.lookupswitch 43 #[(0, 27), (1, 35)], 27) := by decide +kernel
theorem dX4_worst_28 : decode cX4_worst 28 = .ok (.aload_n 0, 1) := by decide +kernel
theorem dX4_worst_29 : decode cX4_worst 29 = .ok (.getfield 10, 3) := by decide +kernel
theorem dX4_worst_32 : decode cX4_worst 32 = .ok (.invokevirtual 162, 3) := by decide +kernel
theorem dX4_worst_35 : decode cX4_worst 35 = .ok (.ireturn, 1) := by decide +kernel
theorem dX4_worst_36 : decode cX4_worst 36 = .ok (.aload_n 0, 1) := by decide +kernel
theorem dX4_worst_37 : decode cX4_worst 37 = .ok (.getfield 10, 3) := by decide +kernel
theorem dX4_worst_40 : decode cX4_worst 40 = .ok (.invokevirtual 165, 3) := by decide +kernel
theorem dX4_worst_43 : decode cX4_worst 43 = .ok (.ireturn, 1) := by decide +kernel
theorem dX4_worst_44 : decode cX4_worst 44 = .ok (.aload_n 0, 1) := by decide +kernel
theorem dX4_worst_45 : decode cX4_worst 45 = .ok (.bipush (-2), 2) := by decide +kernel
theorem dX4_worst_47 : decode cX4_worst 47 = .ok (.invokevirtual 49, 3) := by decide +kernel
theorem dX4_worst_50 : decode cX4_worst 50 = .ok (.ireturn, 1) := by decide +kernel
theorem dX4_change_0 : decode cX4_change 0 = .ok (.aload_n 0, 1) := by decide +kernel
theorem dX4_change_1 : decode cX4_change 1 = .ok (.iload_n 1, 1) := by decide +kernel
theorem dX4_change_2 : decode cX4_change 2 = .ok (.invokevirtual 64, 3) := by decide +kernel
theorem dX4_change_5 : decode cX4_change 5 = .ok (.ifCond .eq 10, 3) := by decide +kernel
theorem dX4_change_8 : decode cX4_change 8 = .ok (.iload_n 2, 1) := by decide +kernel
theorem dX4_change_9 : decode cX4_change 9 = .ok (.invokestatic 46, 3) := by decide +kernel
theorem dX4_change_12 : decode cX4_change 12 = .ok (.ifCond .ne 10, 3) := by decide +kernel
theorem dX4_change_15 : decode cX4_change 15 = .ok (.aload_n 0, 1) := by decide +kernel
theorem dX4_change_16 : decode cX4_change 16 = .ok (.bipush (-2), 2) := by decide +kernel
theorem dX4_change_18 : decode cX4_change 18 = .ok (.invokevirtual 49, 3) := by decide +kernel
theorem dX4_change_21 : decode cX4_change 21 = .ok (.ireturn, 1) := by decide +kernel
theorem dX4_change_22 : decode cX4_change 22 = .ok (.aload_n 0, 1) := by decide +kernel
theorem dX4_change_23 : decode cX4_change 23 = .ok (.getfield 10, 3) := by decide +kernel
theorem dX4_change_26 : decode cX4_change 26 = .ok (.getfield 138, 3) := by decide +kernel
theorem dX4_change_29 : decode cX4_change 29 = .ok (.iload_n 1, 1) := by decide +kernel
theorem dX4_change_30 : decode cX4_change 30 = .ok (.iaload, 1) := by decide +kernel
theorem dX4_change_31 : decode cX4_change 31 = .ok (.iconst 1, 1) := by decide +kernel
theorem dX4_change_32 : decode cX4_change 32 = .ok (.if_icmp .ne 10, 3) := by decide +kernel
theorem dX4_change_35 : decode cX4_change 35 = .ok (.aload_n 0, 1) := by decide +kernel
theorem dX4_change_36 : decode cX4_change 36 = .ok (.bipush (-3), 2) := by decide +kernel
theorem dX4_change_38 : decode cX4_change 38 = .ok (.invokevirtual 49, 3) := by decide +kernel
theorem dX4_change_41 : decode cX4_change 41 = .ok (.ireturn, 1) := by decide +kernel
theorem dX4_change_42 : decode cX4_change 42 = .ok (.aload_n 0, 1) := by decide +kernel
theorem dX4_change_43 : decode cX4_change 43 = .ok (.invokevirtual 168, 3) := by decide +kernel
theorem dX4_change_46 : decode cX4_change 46 = .ok (.aload_n 0, 1) := by decide +kernel
theorem dX4_change_47 : decode cX4_change 47 = .ok (.getfield 10, 3) := by decide +kernel
theorem dX4_change_50 : decode cX4_change 50 = .ok (.getfield 135, 3) := by decide +kernel
theorem dX4_change_53 : decode cX4_change 53 = .ok (.iload_n 1, 1) := by decide +kernel
theorem dX4_change_54 : decode cX4_change 54 = .ok (.iaload, 1) := by decide +kernel
theorem dX4_change_55 : decode cX4_change 55 = .ok (.istore_n 3, 1) := by decide +kernel
theorem dX4_change_56 : decode cX4_change 56 = .ok (.aload_n 0, 1) := by decide +kernel
theorem dX4_change_57 : decode cX4_change 57 = .ok (.getfield 10, 3) := by decide +kernel
theorem dX4_change_60 : decode cX4_change 60 = .ok (.iload_n 1, 1) := by decide +kernel
theorem dX4_change_61 : decode cX4_change 61 = .ok (.iload_n 2, 1) := by decide +kernel
theorem dX4_change_62 : decode cX4_change 62 = .ok (.invokevirtual 171, 3) := by decide +kernel
theorem dX4_change_65 : decode cX4_change 65 = .ok (.iload_n 3, 1) := by decide +kernel
theorem dX4_change_66 : decode cX4_change 66 = .ok (.ireturn, 1) := by decide +kernel
theorem dX4_swap_0 : decode cX4_swap 0 = .ok (.aload_n 0, 1) := by decide +kernel
theorem dX4_swap_1 : decode cX4_swap 1 = .ok (.iload_n 1, 1) := by decide +kernel
theorem dX4_swap_2 : decode cX4_swap 2 = .ok (.iload_n 2, 1) := by decide +kernel
theorem dX4_swap_3 : decode cX4_swap 3 = .ok (.invokevirtual 88, 3) := by decide +kernel
theorem dX4_swap_6 : decode cX4_swap 6 = .ok (.ifCond .ne 10, 3) := by decide +kernel
theorem dX4_swap_9 : decode cX4_swap 9 = .ok (.aload_n 0, 1) := by decide +kernel
theorem dX4_swap_10 : decode cX4_swap 10 = .ok (.bipush (-2), 2) := by decide +kernel
theorem dX4_swap_12 : decode cX4_swap 12 = .ok (.invokevirtual 49, 3) := by decide +kernel
theorem dX4_swap_15 : decode cX4_swap 15 = .ok (.ireturn, 1) := by decide +kernel
theorem dX4_swap_16 : decode cX4_swap 16 = .ok (.aload_n 0, 1) := by decide +kernel
theorem dX4_swap_17 : decode cX4_swap 17 = .ok (.getfield 10, 3) := by decide +kernel
theorem dX4_swap_20 : decode cX4_swap 20 = .ok (.getfield 138, 3) := by decide +kernel
theorem dX4_swap_23 : decode cX4_swap 23 = .ok (.iload_n 1, 1) := by decide +kernel
theorem dX4_swap_24 : decode cX4_swap 24 = .ok (.iaload, 1) := by decide +kernel
theorem dX4_swap_25 : decode cX4_swap 25 = .ok (.iconst 1, 1) := by decide +kernel
theorem dX4_swap_26 : decode cX4_swap 26 = .ok (.if_icmp .eq 16, 3) := by decide +kernel
theorem dX4_swap_29 : decode cX4_swap 29 = .ok (.aload_n 0, 1) := by decide +kernel
theorem dX4_swap_30 : decode cX4_swap 30 = .ok (.getfield 10, 3) := by decide +kernel
theorem dX4_swap_33 : decode cX4_swap 33 = .ok (.getfield 138, 3) := by decide +kernel
theorem dX4_swap_36 : decode cX4_swap 36 = .ok (.iload_n 2, 1) := by decide +kernel
theorem dX4_swap_37 : decode cX4_swap 37 = .ok (.iaload, 1) := by decide +kernel
theorem dX4_swap_38 : decode cX4_swap 38 = .ok (.iconst 1, 1) := by decide +kernel
theorem dX4_swap_39 : decode cX4_swap 39 = .ok (.if_icmp .ne 10, 3) := by decide +kernel
theorem dX4_swap_42 : decode cX4_swap 42 = .ok (.aload_n 0, 1) := by decide +kernel
theorem dX4_swap_43 : decode cX4_swap 43 = .ok (.bipush (-3), 2) := by decide +kernel
theorem dX4_swap_45 : decode cX4_swap 45 = .ok (.invokevirtual 49, 3) := by decide +kernel
theorem dX4_swap_48 : decode cX4_swap 48 = .ok (.ireturn, 1) := by decide +kernel
theorem dX4_swap_49 : decode cX4_swap 49 = .ok (.aload_n 0, 1) := by decide +kernel
theorem dX4_swap_50 : decode cX4_swap 50 = .ok (.invokevirtual 168, 3) := by decide +kernel
theorem dX4_swap_53 : decode cX4_swap 53 = .ok (.aload_n 0, 1) := by decide +kernel
theorem dX4_swap_54 : decode cX4_swap 54 = .ok (.getfield 10, 3) := by decide +kernel
theorem dX4_swap_57 : decode cX4_swap 57 = .ok (.iload_n 1, 1) := by decide +kernel
theorem dX4_swap_58 : decode cX4_swap 58 = .ok (.iload_n 2, 1) := by decide +kernel
theorem dX4_swap_59 : decode cX4_swap 59 = .ok (.invokevirtual 174, 3) := by decide +kernel
theorem dX4_swap_62 : decode cX4_swap 62 = .ok (.aload_n 0, 1) := by decide +kernel
theorem dX4_swap_63 : decode cX4_swap 63 = .ok (.getfield 10, 3) := by decide +kernel
theorem dX4_swap_66 : decode cX4_swap 66 = .ok (.invokevirtual 151, 3) := by decide +kernel
theorem dX4_swap_69 : decode cX4_swap 69 = .ok (.ireturn, 1) := by decide +kernel
theorem dX4_step_0 : decode cX4_step 0 = .ok (.aload_n 0, 1) := by decide +kernel
theorem dX4_step_1 : decode cX4_step 1 = .ok (.getfield 28, 3) := by decide +kernel
theorem dX4_step_4 : decode cX4_step 4 = .ok (.invokevirtual 177, 3) := by decide +kernel
theorem dX4_step_7 : decode cX4_step 7 = .ok (.aload_n 0, 1) := by decide +kernel
theorem dX4_step_8 : decode cX4_step 8 = .ok (.getfield 28, 3) := by decide +kernel
theorem dX4_step_11 : decode cX4_step 11 = .ok (.invokevirtual 180, 3) := by decide +kernel
theorem dX4_step_14 : decode cX4_step 14 = .ok (.ifCond .ne 10, 3) := by decide +kernel
theorem dX4_step_17 : decode cX4_step 17 = .ok (.aload_n 0, 1) := by decide +kernel
theorem dX4_step_18 : decode cX4_step 18 = .ok (.bipush (-3), 2) := by decide +kernel
theorem dX4_step_20 : decode cX4_step 20 = .ok (.invokevirtual 49, 3) := by decide +kernel
theorem dX4_step_23 : decode cX4_step 23 = .ok (.ireturn, 1) := by decide +kernel
theorem dX4_step_24 : decode cX4_step 24 = .ok (.aload_n 0, 1) := by decide +kernel
theorem dX4_step_25 : decode cX4_step 25 = .ok (.invokevirtual 168, 3) := by decide +kernel
theorem dX4_step_28 : decode cX4_step 28 = .ok (.aload_n 0, 1) := by decide +kernel
theorem dX4_step_29 : decode cX4_step 29 = .ok (.getfield 28, 3) := by decide +kernel
theorem dX4_step_32 : decode cX4_step 32 = .ok (.invokevirtual 183, 3) := by decide +kernel
theorem dX4_step_35 : decode cX4_step 35 = .ok (.aload_n 0, 1) := by decide +kernel
theorem dX4_step_36 : decode cX4_step 36 = .ok (.getfield 10, 3) := by decide +kernel
theorem dX4_step_39 : decode cX4_step 39 = .ok (.invokevirtual 151, 3) := by decide +kernel
theorem dX4_step_42 : decode cX4_step 42 = .ok (.ireturn, 1) := by decide +kernel
theorem dX4_down_0 : decode cX4_down 0 = .ok (.iconst 0, 1) := by decide +kernel
theorem dX4_down_1 : decode cX4_down 1 = .ok (.istore_n 1, 1) := by decide +kernel
theorem dX4_down_2 : decode cX4_down 2 = .ok (.aload_n 0, 1) := by decide +kernel
theorem dX4_down_3 : decode cX4_down 3 = .ok (.getfield 28, 3) := by decide +kernel
theorem dX4_down_6 : decode cX4_down 6 = .ok (.invokevirtual 177, 3) := by decide +kernel
theorem dX4_down_9 : decode cX4_down 9 = .ok (.iload_n 1, 1) := by decide +kernel
theorem dX4_down_10 : decode cX4_down 10 = .ok (.sipush 19683, 3) := by decide +kernel
theorem dX4_down_13 : decode cX4_down 13 = .ok (.if_icmp .ge 41, 3) := by decide +kernel
theorem dX4_down_16 : decode cX4_down 16 = .ok (.aload_n 0, 1) := by decide +kernel
theorem dX4_down_17 : decode cX4_down 17 = .ok (.getfield 28, 3) := by decide +kernel
theorem dX4_down_20 : decode cX4_down 20 = .ok (.invokevirtual 180, 3) := by decide +kernel
theorem dX4_down_23 : decode cX4_down 23 = .ok (.ifCond .eq 31, 3) := by decide +kernel
theorem dX4_down_26 : decode cX4_down 26 = .ok (.iload_n 1, 1) := by decide +kernel
theorem dX4_down_27 : decode cX4_down 27 = .ok (.ifCond .ne 7, 3) := by decide +kernel
theorem dX4_down_30 : decode cX4_down 30 = .ok (.aload_n 0, 1) := by decide +kernel
theorem dX4_down_31 : decode cX4_down 31 = .ok (.invokevirtual 168, 3) := by decide +kernel
theorem dX4_down_34 : decode cX4_down 34 = .ok (.aload_n 0, 1) := by decide +kernel
theorem dX4_down_35 : decode cX4_down 35 = .ok (.getfield 28, 3) := by decide +kernel
theorem dX4_down_38 : decode cX4_down 38 = .ok (.invokevirtual 183, 3) := by decide +kernel
theorem dX4_down_41 : decode cX4_down 41 = .ok (.iinc 1 1, 3) := by decide +kernel
theorem dX4_down_44 : decode cX4_down 44 = .ok (.aload_n 0, 1) := by decide +kernel
theorem dX4_down_45 : decode cX4_down 45 = .ok (.getfield 28, 3) := by decide +kernel
theorem dX4_down_48 : decode cX4_down 48 = .ok (.invokevirtual 177, 3) := by decide +kernel
theorem dX4_down_51 : decode cX4_down 51 = .ok (.goto (-42), 3) := by decide +kernel
theorem dX4_down_54 : decode cX4_down 54 = .ok (.iload_n 1, 1) := by decide +kernel
theorem dX4_down_55 : decode cX4_down 55 = .ok (.ireturn, 1) := by decide +kernel
theorem dX4_lay_0 : decode cX4_lay 0 = .ok (.aload_n 0, 1) := by decide +kernel
theorem dX4_lay_1 : decode cX4_lay 1 = .ok (.getfield 21, 3) := by decide +kernel
theorem dX4_lay_4 : decode cX4_lay 4 = .ok (.bipush 9, 2) := by decide +kernel
theorem dX4_lay_6 : decode cX4_lay 6 = .ok (.invokevirtual 186, 3) := by decide +kernel
theorem dX4_lay_9 : decode cX4_lay 9 = .ok (.istore_n 1, 1) := by decide +kernel
theorem dX4_lay_10 : decode cX4_lay 10 = .ok (.iload_n 1, 1) := by decide +kernel
theorem dX4_lay_11 : decode cX4_lay 11 = .ok (.iconst (-1), 1) := by decide +kernel
theorem dX4_lay_12 : decode cX4_lay 12 = .ok (.if_icmp .ne 10, 3) := by decide +kernel
theorem dX4_lay_15 : decode cX4_lay 15 = .ok (.aload_n 0, 1) := by decide +kernel
theorem dX4_lay_16 : decode cX4_lay 16 = .ok (.bipush (-3), 2) := by decide +kernel
theorem dX4_lay_18 : decode cX4_lay 18 = .ok (.invokevirtual 49, 3) := by decide +kernel
theorem dX4_lay_21 : decode cX4_lay 21 = .ok (.ireturn, 1) := by decide +kernel
theorem dX4_lay_22 : decode cX4_lay 22 = .ok (.aload_n 0, 1) := by decide +kernel
theorem dX4_lay_23 : decode cX4_lay 23 = .ok (.getfield 21, 3) := by decide +kernel
theorem dX4_lay_26 : decode cX4_lay 26 = .ok (.getfield 189, 3) := by decide +kernel
theorem dX4_lay_29 : decode cX4_lay 29 = .ok (.iload_n 1, 1) := by decide +kernel
theorem dX4_lay_30 : decode cX4_lay 30 = .ok (.iaload, 1) := by decide +kernel
theorem dX4_lay_31 : decode cX4_lay 31 = .ok (.istore_n 2, 1) := by decide +kernel
theorem dX4_lay_32 : decode cX4_lay 32 = .ok (.aload_n 0, 1) := by decide +kernel
theorem dX4_lay_33 : decode cX4_lay 33 = .ok (.invokevirtual 168, 3) := by decide +kernel
theorem dX4_lay_36 : decode cX4_lay 36 = .ok (.aload_n 0, 1) := by decide +kernel
theorem dX4_lay_37 : decode cX4_lay 37 = .ok (.getfield 10, 3) := by decide +kernel
theorem dX4_lay_40 : decode cX4_lay 40 = .ok (.iload_n 2, 1) := by decide +kernel
theorem dX4_lay_41 : decode cX4_lay 41 = .ok (.invokevirtual 192, 3) := by decide +kernel
theorem dX4_lay_44 : decode cX4_lay 44 = .ok (.iload_n 1, 1) := by decide +kernel
theorem dX4_lay_45 : decode cX4_lay 45 = .ok (.ireturn, 1) := by decide +kernel
theorem dX4_undo_0 : decode cX4_undo 0 = .ok (.aload_n 0, 1) := by decide +kernel
theorem dX4_undo_1 : decode cX4_undo 1 = .ok (.getfield 35, 3) := by decide +kernel
theorem dX4_undo_4 : decode cX4_undo 4 = .ok (.getfield 196, 3) := by decide +kernel
theorem dX4_undo_7 : decode cX4_undo 7 = .ok (.ifCond .ne 10, 3) := by decide +kernel
theorem dX4_undo_10 : decode cX4_undo 10 = .ok (.aload_n 0, 1) := by decide +kernel
theorem dX4_undo_11 : decode cX4_undo 11 = .ok (.bipush (-3), 2) := by decide +kernel
theorem dX4_undo_13 : decode cX4_undo 13 = .ok (.invokevirtual 49, 3) := by decide +kernel
theorem dX4_undo_16 : decode cX4_undo 16 = .ok (.ireturn, 1) := by decide +kernel
theorem dX4_undo_17 : decode cX4_undo 17 = .ok (.aload_n 0, 1) := by decide +kernel
theorem dX4_undo_18 : decode cX4_undo 18 = .ok (.getfield 10, 3) := by decide +kernel
theorem dX4_undo_21 : decode cX4_undo 21 = .ok (.aload_n 0, 1) := by decide +kernel
theorem dX4_undo_22 : decode cX4_undo 22 = .ok (.getfield 35, 3) := by decide +kernel
theorem dX4_undo_25 : decode cX4_undo 25 = .ok (.invokevirtual 199, 3) := by decide +kernel
theorem dX4_undo_28 : decode cX4_undo 28 = .ok (.invokevirtual 192, 3) := by decide +kernel
theorem dX4_undo_31 : decode cX4_undo 31 = .ok (.aload_n 0, 1) := by decide +kernel
theorem dX4_undo_32 : decode cX4_undo 32 = .ok (.getfield 21, 3) := by decide +kernel
theorem dX4_undo_35 : decode cX4_undo 35 = .ok (.invokevirtual 202, 3) := by decide +kernel
theorem dX4_undo_38 : decode cX4_undo 38 = .ok (.aload_n 0, 1) := by decide +kernel
theorem dX4_undo_39 : decode cX4_undo 39 = .ok (.getfield 35, 3) := by decide +kernel
theorem dX4_undo_42 : decode cX4_undo 42 = .ok (.getfield 196, 3) := by decide +kernel
theorem dX4_undo_45 : decode cX4_undo 45 = .ok (.ireturn, 1) := by decide +kernel
theorem dX4_best_0 : decode cX4_best 0 = .ok (.iload_n 1, 1) := by decide +kernel
theorem dX4_best_1 : decode cX4_best 1 = .ok (.iconst 0, 1) := by decide +kernel
theorem dX4_best_2 : decode cX4_best 2 = .ok (.iconst 2, 1) := by decide +kernel
theorem dX4_best_3 : decode cX4_best 3 = .ok (.invokestatic 77, 3) := by decide +kernel
theorem dX4_best_6 : decode cX4_best 6 = .ok (.ifCond .ne 10, 3) := by decide +kernel
theorem dX4_best_9 : decode cX4_best 9 = .ok (.aload_n 0, 1) := by decide +kernel
theorem dX4_best_10 : decode cX4_best 10 = .ok (.bipush (-2), 2) := by decide +kernel
theorem dX4_best_12 : decode cX4_best 12 = .ok (.invokevirtual 49, 3) := by decide +kernel
theorem dX4_best_15 : decode cX4_best 15 = .ok (.ireturn, 1) := by decide +kernel
theorem dX4_best_16 : decode cX4_best 16 = .ok (.aload_n 0, 1) := by decide +kernel
theorem dX4_best_17 : decode cX4_best 17 = .ok (.getfield 21, 3) := by decide +kernel
theorem dX4_best_20 : decode cX4_best 20 = .ok (.bipush 9, 2) := by decide +kernel
theorem dX4_best_22 : decode cX4_best 22 = .ok (.invokevirtual 186, 3) := by decide +kernel
theorem dX4_best_25 : decode cX4_best 25 = .ok (.istore_n 2, 1) := by decide +kernel
theorem dX4_best_26 : decode cX4_best 26 = .ok (.iload_n 2, 1) := by decide +kernel
theorem dX4_best_27 : decode cX4_best 27 = .ok (.iconst (-1), 1) := by decide +kernel
theorem dX4_best_28 : decode cX4_best 28 = .ok (.if_icmp .ne 10, 3) := by decide +kernel
theorem dX4_best_31 : decode cX4_best 31 = .ok (.aload_n 0, 1) := by decide +kernel
theorem dX4_best_32 : decode cX4_best 32 = .ok (.bipush (-3), 2) := by decide +kernel
theorem dX4_best_34 : decode cX4_best 34 = .ok (.invokevirtual 49, 3) := by decide +kernel
theorem dX4_best_37 : decode cX4_best 37 = .ok (.ireturn, 1) := by decide +kernel
theorem dX4_best_38 : decode cX4_best 38 = .ok (.iload_n 1, 1) := by decide +kernel
theorem dX4_best_39 : decode cX4_best 39 = .ok (.lookupswitch 37 #[(0, 25), (1, 35)], 25) := by decide +kernel
theorem dX4_best_64 : decode cX4_best 64 = .ok (.aload_n 0, 1) := by decide +kernel
theorem dX4_best_65 : decode cX4_best 65 = .ok (.getfield 21, 3) := by decide +kernel
theorem dX4_best_68 : decode cX4_best 68 = .ok (.getfield 205, 3) := by decide +kernel
theorem dX4_best_71 : decode cX4_best 71 = .ok (.iload_n 2, 1) := by decide +kernel
theorem dX4_best_72 : decode cX4_best 72 = .ok (.iaload, 1) := by decide +kernel
theorem dX4_best_73 : decode cX4_best 73 = .ok (.ireturn, 1) := by decide +kernel
theorem dX4_best_74 : decode cX4_best 74 = .ok (.iload_n 2, 1) := by decide +kernel
theorem dX4_best_75 : decode cX4_best 75 = .ok (.ireturn, 1) := by decide +kernel
theorem dX4_best_76 : decode cX4_best 76 = .ok (.aload_n 0, 1) := by decide +kernel
theorem dX4_best_77 : decode cX4_best 77 = .ok (.getfield 21, 3) := by decide +kernel
theorem dX4_best_80 : decode cX4_best 80 = .ok (.getfield 208, 3) := by decide +kernel
theorem dX4_best_83 : decode cX4_best 83 = .ok (.ireturn, 1) := by decide +kernel
theorem dX4_phase_0 : decode cX4_phase 0 = .ok (.aload_n 0, 1) := by decide +kernel
theorem dX4_phase_1 : decode cX4_phase 1 = .ok (.iload_n 1, 1) := by decide +kernel
theorem dX4_phase_2 : decode cX4_phase 2 = .ok (.invokevirtual 64, 3) := by decide +kernel
theorem dX4_phase_5 : decode cX4_phase 5 = .ok (.ifCond .ne 10, 3) := by decide +kernel
theorem dX4_phase_8 : decode cX4_phase 8 = .ok (.aload_n 0, 1) := by decide +kernel
theorem dX4_phase_9 : decode cX4_phase 9 = .ok (.bipush (-2), 2) := by decide +kernel
theorem dX4_phase_11 : decode cX4_phase 11 = .ok (.invokevirtual 49, 3) := by decide +kernel
theorem dX4_phase_14 : decode cX4_phase 14 = .ok (.ireturn, 1) := by decide +kernel
theorem dX4_phase_15 : decode cX4_phase 15 = .ok (.aload_n 0, 1) := by decide +kernel
theorem dX4_phase_16 : decode cX4_phase 16 = .ok (.getfield 21, 3) := by decide +kernel
theorem dX4_phase_19 : decode cX4_phase 19 = .ok (.bipush 9, 2) := by decide +kernel
theorem dX4_phase_21 : decode cX4_phase 21 = .ok (.invokevirtual 186, 3) := by decide +kernel
theorem dX4_phase_24 : decode cX4_phase 24 = .ok (.istore_n 2, 1) := by decide +kernel
theorem dX4_phase_25 : decode cX4_phase 25 = .ok (.iload_n 2, 1) := by decide +kernel
theorem dX4_phase_26 : decode cX4_phase 26 = .ok (.iconst (-1), 1) := by decide +kernel
theorem dX4_phase_27 : decode cX4_phase 27 = .ok (.if_icmp .ne 10, 3) := by decide +kernel
theorem dX4_phase_30 : decode cX4_phase 30 = .ok (.aload_n 0, 1) := by decide +kernel
theorem dX4_phase_31 : decode cX4_phase 31 = .ok (.bipush (-3), 2) := by decide +kernel
theorem dX4_phase_33 : decode cX4_phase 33 = .ok (.invokevirtual 49, 3) := by decide +kernel
theorem dX4_phase_36 : decode cX4_phase 36 = .ok (.ireturn, 1) := by decide +kernel
theorem dX4_phase_37 : decode cX4_phase 37 = .ok (.aload_n 0, 1) := by decide +kernel
theorem dX4_phase_38 : decode cX4_phase 38 = .ok (.getfield 21, 3) := by decide +kernel
theorem dX4_phase_41 : decode cX4_phase 41 = .ok (.getfield 189, 3) := by decide +kernel
theorem dX4_phase_44 : decode cX4_phase 44 = .ok (.iload_n 2, 1) := by decide +kernel
theorem dX4_phase_45 : decode cX4_phase 45 = .ok (.iaload, 1) := by decide +kernel
theorem dX4_phase_46 : decode cX4_phase 46 = .ok (.iload_n 1, 1) := by decide +kernel
theorem dX4_phase_47 : decode cX4_phase 47 = .ok (.invokestatic 211, 3) := by decide +kernel
theorem dX4_phase_50 : decode cX4_phase 50 = .ok (.ireturn, 1) := by decide +kernel
theorem dX4_by_0 : decode cX4_by 0 = .ok (.iload_n 1, 1) := by decide +kernel
theorem dX4_by_1 : decode cX4_by 1 = .ok (.iconst 0, 1) := by decide +kernel
theorem dX4_by_2 : decode cX4_by 2 = .ok (.bipush 9, 2) := by decide +kernel
theorem dX4_by_4 : decode cX4_by 4 = .ok (.invokestatic 77, 3) := by decide +kernel
theorem dX4_by_7 : decode cX4_by 7 = .ok (.ifCond .ne 10, 3) := by decide +kernel
theorem dX4_by_10 : decode cX4_by 10 = .ok (.aload_n 0, 1) := by decide +kernel
theorem dX4_by_11 : decode cX4_by 11 = .ok (.bipush (-2), 2) := by decide +kernel
theorem dX4_by_13 : decode cX4_by 13 = .ok (.invokevirtual 49, 3) := by decide +kernel
theorem dX4_by_16 : decode cX4_by 16 = .ok (.ireturn, 1) := by decide +kernel
theorem dX4_by_17 : decode cX4_by 17 = .ok (.aload_n 0, 1) := by decide +kernel
theorem dX4_by_18 : decode cX4_by 18 = .ok (.getfield 21, 3) := by decide +kernel
theorem dX4_by_21 : decode cX4_by 21 = .ok (.iload_n 1, 1) := by decide +kernel
theorem dX4_by_22 : decode cX4_by 22 = .ok (.invokevirtual 186, 3) := by decide +kernel
theorem dX4_by_25 : decode cX4_by 25 = .ok (.istore_n 2, 1) := by decide +kernel
theorem dX4_by_26 : decode cX4_by 26 = .ok (.iload_n 2, 1) := by decide +kernel
theorem dX4_by_27 : decode cX4_by 27 = .ok (.iconst (-1), 1) := by decide +kernel
theorem dX4_by_28 : decode cX4_by 28 = .ok (.if_icmp .ne 10, 3) := by decide +kernel
theorem dX4_by_31 : decode cX4_by 31 = .ok (.aload_n 0, 1) := by decide +kernel
theorem dX4_by_32 : decode cX4_by 32 = .ok (.bipush (-3), 2) := by decide +kernel
theorem dX4_by_34 : decode cX4_by 34 = .ok (.invokevirtual 49, 3) := by decide +kernel
theorem dX4_by_37 : decode cX4_by 37 = .ok (.ireturn, 1) := by decide +kernel
theorem dX4_by_38 : decode cX4_by 38 = .ok (.aload_n 0, 1) := by decide +kernel
theorem dX4_by_39 : decode cX4_by 39 = .ok (.getfield 21, 3) := by decide +kernel
theorem dX4_by_42 : decode cX4_by 42 = .ok (.getfield 205, 3) := by decide +kernel
theorem dX4_by_45 : decode cX4_by 45 = .ok (.iload_n 2, 1) := by decide +kernel
theorem dX4_by_46 : decode cX4_by 46 = .ok (.iaload, 1) := by decide +kernel
theorem dX4_by_47 : decode cX4_by 47 = .ok (.ireturn, 1) := by decide +kernel
theorem dX4_fewest_0 : decode cX4_fewest 0 = .ok (.iload_n 1, 1) := by decide +kernel
theorem dX4_fewest_1 : decode cX4_fewest 1 = .ok (.ifCond .ge 10, 3) := by decide +kernel
theorem dX4_fewest_4 : decode cX4_fewest 4 = .ok (.aload_n 0, 1) := by decide +kernel
theorem dX4_fewest_5 : decode cX4_fewest 5 = .ok (.bipush (-2), 2) := by decide +kernel
theorem dX4_fewest_7 : decode cX4_fewest 7 = .ok (.invokevirtual 49, 3) := by decide +kernel
theorem dX4_fewest_10 : decode cX4_fewest 10 = .ok (.ireturn, 1) := by decide +kernel
theorem dX4_fewest_11 : decode cX4_fewest 11 = .ok (.aload_n 0, 1) := by decide +kernel
theorem dX4_fewest_12 : decode cX4_fewest 12 = .ok (.getfield 21, 3) := by decide +kernel
theorem dX4_fewest_15 : decode cX4_fewest 15 = .ok (.iload_n 1, 1) := by decide +kernel
theorem dX4_fewest_16 : decode cX4_fewest 16 = .ok (.invokevirtual 214, 3) := by decide +kernel
theorem dX4_fewest_19 : decode cX4_fewest 19 = .ok (.ireturn, 1) := by decide +kernel
theorem dX4_many_0 : decode cX4_many 0 = .ok (.aload_n 0, 1) := by decide +kernel
theorem dX4_many_1 : decode cX4_many 1 = .ok (.getfield 21, 3) := by decide +kernel
theorem dX4_many_4 : decode cX4_many 4 = .ok (.invokevirtual 217, 3) := by decide +kernel
theorem dX4_many_7 : decode cX4_many 7 = .ok (.ireturn, 1) := by decide +kernel
theorem dX4_next_0 : decode cX4_next 0 = .ok (.iload_n 1, 1) := by decide +kernel
theorem dX4_next_1 : decode cX4_next 1 = .ok (.iconst 0, 1) := by decide +kernel
theorem dX4_next_2 : decode cX4_next 2 = .ok (.iconst 3, 1) := by decide +kernel
theorem dX4_next_3 : decode cX4_next 3 = .ok (.invokestatic 77, 3) := by decide +kernel
theorem dX4_next_6 : decode cX4_next 6 = .ok (.ifCond .ne 10, 3) := by decide +kernel
theorem dX4_next_9 : decode cX4_next 9 = .ok (.aload_n 0, 1) := by decide +kernel
theorem dX4_next_10 : decode cX4_next 10 = .ok (.bipush (-2), 2) := by decide +kernel
theorem dX4_next_12 : decode cX4_next 12 = .ok (.invokevirtual 49, 3) := by decide +kernel
theorem dX4_next_15 : decode cX4_next 15 = .ok (.ireturn, 1) := by decide +kernel
theorem dX4_next_16 : decode cX4_next 16 = .ok (.aload_n 0, 1) := by decide +kernel
theorem dX4_next_17 : decode cX4_next 17 = .ok (.getfield 28, 3) := by decide +kernel
theorem dX4_next_20 : decode cX4_next 20 = .ok (.invokevirtual 177, 3) := by decide +kernel
theorem dX4_next_23 : decode cX4_next 23 = .ok (.aload_n 0, 1) := by decide +kernel
theorem dX4_next_24 : decode cX4_next 24 = .ok (.getfield 28, 3) := by decide +kernel
theorem dX4_next_27 : decode cX4_next 27 = .ok (.getfield 220, 3) := by decide +kernel
theorem dX4_next_30 : decode cX4_next 30 = .ok (.ifCond .ne 10, 3) := by decide +kernel
theorem dX4_next_33 : decode cX4_next 33 = .ok (.aload_n 0, 1) := by decide +kernel
theorem dX4_next_34 : decode cX4_next 34 = .ok (.bipush (-3), 2) := by decide +kernel
theorem dX4_next_36 : decode cX4_next 36 = .ok (.invokevirtual 49, 3) := by decide +kernel
theorem dX4_next_39 : decode cX4_next 39 = .ok (.ireturn, 1) := by decide +kernel
theorem dX4_next_40 : decode cX4_next 40 = .ok (.iload_n 1, 1) := by decide +kernel
theorem dX4_next_41 : decode cX4_next 41 = .ok (.tableswitch 51 0 2 #[27, 35, 43], 27) := by decide +kernel
theorem dX4_next_68 : decode cX4_next 68 = .ok (.aload_n 0, 1) := by decide +kernel
theorem dX4_next_69 : decode cX4_next 69 = .ok (.getfield 28, 3) := by decide +kernel
theorem dX4_next_72 : decode cX4_next 72 = .ok (.getfield 224, 3) := by decide +kernel
theorem dX4_next_75 : decode cX4_next 75 = .ok (.ireturn, 1) := by decide +kernel
theorem dX4_next_76 : decode cX4_next 76 = .ok (.aload_n 0, 1) := by decide +kernel
theorem dX4_next_77 : decode cX4_next 77 = .ok (.getfield 28, 3) := by decide +kernel
theorem dX4_next_80 : decode cX4_next 80 = .ok (.getfield 227, 3) := by decide +kernel
theorem dX4_next_83 : decode cX4_next 83 = .ok (.ireturn, 1) := by decide +kernel
theorem dX4_next_84 : decode cX4_next 84 = .ok (.aload_n 0, 1) := by decide +kernel
theorem dX4_next_85 : decode cX4_next 85 = .ok (.getfield 28, 3) := by decide +kernel
theorem dX4_next_88 : decode cX4_next 88 = .ok (.getfield 230, 3) := by decide +kernel
theorem dX4_next_91 : decode cX4_next 91 = .ok (.ireturn, 1) := by decide +kernel
theorem dX4_next_92 : decode cX4_next 92 = .ok (.aload_n 0, 1) := by decide +kernel
theorem dX4_next_93 : decode cX4_next 93 = .ok (.getfield 28, 3) := by decide +kernel
theorem dX4_next_96 : decode cX4_next 96 = .ok (.getfield 233, 3) := by decide +kernel
theorem dX4_next_99 : decode cX4_next 99 = .ok (.ireturn, 1) := by decide +kernel
theorem dX4_told_0 : decode cX4_told 0 = .ok (.iload_n 1, 1) := by decide +kernel
theorem dX4_told_1 : decode cX4_told 1 = .ok (.iconst 0, 1) := by decide +kernel
theorem dX4_told_2 : decode cX4_told 2 = .ok (.bipush 7, 2) := by decide +kernel
theorem dX4_told_4 : decode cX4_told 4 = .ok (.invokestatic 77, 3) := by decide +kernel
theorem dX4_told_7 : decode cX4_told 7 = .ok (.ifCond .eq 11, 3) := by decide +kernel
theorem dX4_told_10 : decode cX4_told 10 = .ok (.aload_n 0, 1) := by decide +kernel
theorem dX4_told_11 : decode cX4_told 11 = .ok (.iload_n 1, 1) := by decide +kernel
theorem dX4_told_12 : decode cX4_told 12 = .ok (.invokevirtual 236, 3) := by decide +kernel
theorem dX4_told_15 : decode cX4_told 15 = .ok (.goto 9, 3) := by decide +kernel
theorem dX4_told_18 : decode cX4_told 18 = .ok (.aload_n 0, 1) := by decide +kernel
theorem dX4_told_19 : decode cX4_told 19 = .ok (.bipush (-2), 2) := by decide +kernel
theorem dX4_told_21 : decode cX4_told 21 = .ok (.invokevirtual 49, 3) := by decide +kernel
theorem dX4_told_24 : decode cX4_told 24 = .ok (.ireturn, 1) := by decide +kernel
theorem dX4_digest_0 : decode cX4_digest 0 = .ok (.ldc2_w 239, 3) := by decide +kernel
theorem dX4_digest_3 : decode cX4_digest 3 = .ok (.lstore_n 1, 1) := by decide +kernel
theorem dX4_digest_4 : decode cX4_digest 4 = .ok (.iconst 0, 1) := by decide +kernel
theorem dX4_digest_5 : decode cX4_digest 5 = .ok (.istore_n 3, 1) := by decide +kernel
theorem dX4_digest_6 : decode cX4_digest 6 = .ok (.iload_n 3, 1) := by decide +kernel
theorem dX4_digest_7 : decode cX4_digest 7 = .ok (.bipush 7, 2) := by decide +kernel
theorem dX4_digest_9 : decode cX4_digest 9 = .ok (.if_icmp .gt 22, 3) := by decide +kernel
theorem dX4_digest_12 : decode cX4_digest 12 = .ok (.ldc2_w 241, 3) := by decide +kernel
theorem dX4_digest_15 : decode cX4_digest 15 = .ok (.lload_n 1, 1) := by decide +kernel
theorem dX4_digest_16 : decode cX4_digest 16 = .ok (.lmul, 1) := by decide +kernel
theorem dX4_digest_17 : decode cX4_digest 17 = .ok (.aload_n 0, 1) := by decide +kernel
theorem dX4_digest_18 : decode cX4_digest 18 = .ok (.iload_n 3, 1) := by decide +kernel
theorem dX4_digest_19 : decode cX4_digest 19 = .ok (.invokevirtual 236, 3) := by decide +kernel
theorem dX4_digest_22 : decode cX4_digest 22 = .ok (.i2l, 1) := by decide +kernel
theorem dX4_digest_23 : decode cX4_digest 23 = .ok (.ladd, 1) := by decide +kernel
theorem dX4_digest_24 : decode cX4_digest 24 = .ok (.lstore_n 1, 1) := by decide +kernel
theorem dX4_digest_25 : decode cX4_digest 25 = .ok (.iinc 3 1, 3) := by decide +kernel
theorem dX4_digest_28 : decode cX4_digest 28 = .ok (.goto (-22), 3) := by decide +kernel
theorem dX4_digest_31 : decode cX4_digest 31 = .ok (.iconst 0, 1) := by decide +kernel
theorem dX4_digest_32 : decode cX4_digest 32 = .ok (.istore_n 3, 1) := by decide +kernel
theorem dX4_digest_33 : decode cX4_digest 33 = .ok (.iload_n 3, 1) := by decide +kernel
theorem dX4_digest_34 : decode cX4_digest 34 = .ok (.aload_n 0, 1) := by decide +kernel
theorem dX4_digest_35 : decode cX4_digest 35 = .ok (.getfield 10, 3) := by decide +kernel
theorem dX4_digest_38 : decode cX4_digest 38 = .ok (.getfield 53, 3) := by decide +kernel
theorem dX4_digest_41 : decode cX4_digest 41 = .ok (.if_icmp .ge 60, 3) := by decide +kernel
theorem dX4_digest_44 : decode cX4_digest 44 = .ok (.ldc2_w 241, 3) := by decide +kernel
theorem dX4_digest_47 : decode cX4_digest 47 = .ok (.lload_n 1, 1) := by decide +kernel
theorem dX4_digest_48 : decode cX4_digest 48 = .ok (.lmul, 1) := by decide +kernel
theorem dX4_digest_49 : decode cX4_digest 49 = .ok (.aload_n 0, 1) := by decide +kernel
theorem dX4_digest_50 : decode cX4_digest 50 = .ok (.getfield 10, 3) := by decide +kernel
theorem dX4_digest_53 : decode cX4_digest 53 = .ok (.getfield 129, 3) := by decide +kernel
theorem dX4_digest_56 : decode cX4_digest 56 = .ok (.iload_n 3, 1) := by decide +kernel
theorem dX4_digest_57 : decode cX4_digest 57 = .ok (.iaload, 1) := by decide +kernel
theorem dX4_digest_58 : decode cX4_digest 58 = .ok (.i2l, 1) := by decide +kernel
theorem dX4_digest_59 : decode cX4_digest 59 = .ok (.ladd, 1) := by decide +kernel
theorem dX4_digest_60 : decode cX4_digest 60 = .ok (.lstore_n 1, 1) := by decide +kernel
theorem dX4_digest_61 : decode cX4_digest 61 = .ok (.ldc2_w 241, 3) := by decide +kernel
theorem dX4_digest_64 : decode cX4_digest 64 = .ok (.lload_n 1, 1) := by decide +kernel
theorem dX4_digest_65 : decode cX4_digest 65 = .ok (.lmul, 1) := by decide +kernel
theorem dX4_digest_66 : decode cX4_digest 66 = .ok (.aload_n 0, 1) := by decide +kernel
theorem dX4_digest_67 : decode cX4_digest 67 = .ok (.getfield 10, 3) := by decide +kernel
theorem dX4_digest_70 : decode cX4_digest 70 = .ok (.getfield 132, 3) := by decide +kernel
theorem dX4_digest_73 : decode cX4_digest 73 = .ok (.iload_n 3, 1) := by decide +kernel
theorem dX4_digest_74 : decode cX4_digest 74 = .ok (.iaload, 1) := by decide +kernel
theorem dX4_digest_75 : decode cX4_digest 75 = .ok (.i2l, 1) := by decide +kernel
theorem dX4_digest_76 : decode cX4_digest 76 = .ok (.ladd, 1) := by decide +kernel
theorem dX4_digest_77 : decode cX4_digest 77 = .ok (.lstore_n 1, 1) := by decide +kernel
theorem dX4_digest_78 : decode cX4_digest 78 = .ok (.ldc2_w 241, 3) := by decide +kernel
theorem dX4_digest_81 : decode cX4_digest 81 = .ok (.lload_n 1, 1) := by decide +kernel
theorem dX4_digest_82 : decode cX4_digest 82 = .ok (.lmul, 1) := by decide +kernel
theorem dX4_digest_83 : decode cX4_digest 83 = .ok (.aload_n 0, 1) := by decide +kernel
theorem dX4_digest_84 : decode cX4_digest 84 = .ok (.getfield 10, 3) := by decide +kernel
theorem dX4_digest_87 : decode cX4_digest 87 = .ok (.getfield 135, 3) := by decide +kernel
theorem dX4_digest_90 : decode cX4_digest 90 = .ok (.iload_n 3, 1) := by decide +kernel
theorem dX4_digest_91 : decode cX4_digest 91 = .ok (.iaload, 1) := by decide +kernel
theorem dX4_digest_92 : decode cX4_digest 92 = .ok (.i2l, 1) := by decide +kernel
theorem dX4_digest_93 : decode cX4_digest 93 = .ok (.ladd, 1) := by decide +kernel
theorem dX4_digest_94 : decode cX4_digest 94 = .ok (.lstore_n 1, 1) := by decide +kernel
theorem dX4_digest_95 : decode cX4_digest 95 = .ok (.iinc 3 1, 3) := by decide +kernel
theorem dX4_digest_98 : decode cX4_digest 98 = .ok (.goto (-65), 3) := by decide +kernel
theorem dX4_digest_101 : decode cX4_digest 101 = .ok (.iconst 0, 1) := by decide +kernel
theorem dX4_digest_102 : decode cX4_digest 102 = .ok (.istore_n 3, 1) := by decide +kernel
theorem dX4_digest_103 : decode cX4_digest 103 = .ok (.iload_n 3, 1) := by decide +kernel
theorem dX4_digest_104 : decode cX4_digest 104 = .ok (.bipush 6, 2) := by decide +kernel
theorem dX4_digest_106 : decode cX4_digest 106 = .ok (.if_icmp .ge 26, 3) := by decide +kernel
theorem dX4_digest_109 : decode cX4_digest 109 = .ok (.ldc2_w 241, 3) := by decide +kernel
theorem dX4_digest_112 : decode cX4_digest 112 = .ok (.lload_n 1, 1) := by decide +kernel
theorem dX4_digest_113 : decode cX4_digest 113 = .ok (.lmul, 1) := by decide +kernel
theorem dX4_digest_114 : decode cX4_digest 114 = .ok (.aload_n 0, 1) := by decide +kernel
theorem dX4_digest_115 : decode cX4_digest 115 = .ok (.getfield 10, 3) := by decide +kernel
theorem dX4_digest_118 : decode cX4_digest 118 = .ok (.getfield 81, 3) := by decide +kernel
theorem dX4_digest_121 : decode cX4_digest 121 = .ok (.iload_n 3, 1) := by decide +kernel
theorem dX4_digest_122 : decode cX4_digest 122 = .ok (.iaload, 1) := by decide +kernel
theorem dX4_digest_123 : decode cX4_digest 123 = .ok (.i2l, 1) := by decide +kernel
theorem dX4_digest_124 : decode cX4_digest 124 = .ok (.ladd, 1) := by decide +kernel
theorem dX4_digest_125 : decode cX4_digest 125 = .ok (.lstore_n 1, 1) := by decide +kernel
theorem dX4_digest_126 : decode cX4_digest 126 = .ok (.iinc 3 1, 3) := by decide +kernel
theorem dX4_digest_129 : decode cX4_digest 129 = .ok (.goto (-26), 3) := by decide +kernel
theorem dX4_digest_132 : decode cX4_digest 132 = .ok (.iconst 0, 1) := by decide +kernel
theorem dX4_digest_133 : decode cX4_digest 133 = .ok (.istore_n 3, 1) := by decide +kernel
theorem dX4_digest_134 : decode cX4_digest 134 = .ok (.iload_n 3, 1) := by decide +kernel
theorem dX4_digest_135 : decode cX4_digest 135 = .ok (.aload_n 0, 1) := by decide +kernel
theorem dX4_digest_136 : decode cX4_digest 136 = .ok (.getfield 10, 3) := by decide +kernel
theorem dX4_digest_139 : decode cX4_digest 139 = .ok (.getfield 94, 3) := by decide +kernel
theorem dX4_digest_142 : decode cX4_digest 142 = .ok (.if_icmp .ge 43, 3) := by decide +kernel
theorem dX4_digest_145 : decode cX4_digest 145 = .ok (.ldc2_w 241, 3) := by decide +kernel
theorem dX4_digest_148 : decode cX4_digest 148 = .ok (.lload_n 1, 1) := by decide +kernel
theorem dX4_digest_149 : decode cX4_digest 149 = .ok (.lmul, 1) := by decide +kernel
theorem dX4_digest_150 : decode cX4_digest 150 = .ok (.aload_n 0, 1) := by decide +kernel
theorem dX4_digest_151 : decode cX4_digest 151 = .ok (.getfield 10, 3) := by decide +kernel
theorem dX4_digest_154 : decode cX4_digest 154 = .ok (.getfield 243, 3) := by decide +kernel
theorem dX4_digest_157 : decode cX4_digest 157 = .ok (.iload_n 3, 1) := by decide +kernel
theorem dX4_digest_158 : decode cX4_digest 158 = .ok (.iaload, 1) := by decide +kernel
theorem dX4_digest_159 : decode cX4_digest 159 = .ok (.i2l, 1) := by decide +kernel
theorem dX4_digest_160 : decode cX4_digest 160 = .ok (.ladd, 1) := by decide +kernel
theorem dX4_digest_161 : decode cX4_digest 161 = .ok (.lstore_n 1, 1) := by decide +kernel
theorem dX4_digest_162 : decode cX4_digest 162 = .ok (.ldc2_w 241, 3) := by decide +kernel
theorem dX4_digest_165 : decode cX4_digest 165 = .ok (.lload_n 1, 1) := by decide +kernel
theorem dX4_digest_166 : decode cX4_digest 166 = .ok (.lmul, 1) := by decide +kernel
theorem dX4_digest_167 : decode cX4_digest 167 = .ok (.aload_n 0, 1) := by decide +kernel
theorem dX4_digest_168 : decode cX4_digest 168 = .ok (.getfield 10, 3) := by decide +kernel
theorem dX4_digest_171 : decode cX4_digest 171 = .ok (.getfield 246, 3) := by decide +kernel
theorem dX4_digest_174 : decode cX4_digest 174 = .ok (.iload_n 3, 1) := by decide +kernel
theorem dX4_digest_175 : decode cX4_digest 175 = .ok (.iaload, 1) := by decide +kernel
theorem dX4_digest_176 : decode cX4_digest 176 = .ok (.i2l, 1) := by decide +kernel
theorem dX4_digest_177 : decode cX4_digest 177 = .ok (.ladd, 1) := by decide +kernel
theorem dX4_digest_178 : decode cX4_digest 178 = .ok (.lstore_n 1, 1) := by decide +kernel
theorem dX4_digest_179 : decode cX4_digest 179 = .ok (.iinc 3 1, 3) := by decide +kernel
theorem dX4_digest_182 : decode cX4_digest 182 = .ok (.goto (-48), 3) := by decide +kernel
theorem dX4_digest_185 : decode cX4_digest 185 = .ok (.ldc2_w 241, 3) := by decide +kernel
theorem dX4_digest_188 : decode cX4_digest 188 = .ok (.lload_n 1, 1) := by decide +kernel
theorem dX4_digest_189 : decode cX4_digest 189 = .ok (.lmul, 1) := by decide +kernel
theorem dX4_digest_190 : decode cX4_digest 190 = .ok (.aload_n 0, 1) := by decide +kernel
theorem dX4_digest_191 : decode cX4_digest 191 = .ok (.getfield 10, 3) := by decide +kernel
theorem dX4_digest_194 : decode cX4_digest 194 = .ok (.invokevirtual 151, 3) := by decide +kernel
theorem dX4_digest_197 : decode cX4_digest 197 = .ok (.i2l, 1) := by decide +kernel
theorem dX4_digest_198 : decode cX4_digest 198 = .ok (.ladd, 1) := by decide +kernel
theorem dX4_digest_199 : decode cX4_digest 199 = .ok (.lreturn, 1) := by decide +kernel
theorem dX4_toldOf_0 : decode cX4_toldOf 0 = .ok (.iload_n 1, 1) := by decide +kernel
theorem dX4_toldOf_1 : decode cX4_toldOf 1 = .ok (.tableswitch 90 0 6 #[43, 48, 53, 58, 66, 74, 82], 43) := by decide +kernel
theorem dX4_toldOf_44 : decode cX4_toldOf 44 = .ok (.aload_n 0, 1) := by decide +kernel
theorem dX4_toldOf_45 : decode cX4_toldOf 45 = .ok (.getfield 249, 3) := by decide +kernel
theorem dX4_toldOf_48 : decode cX4_toldOf 48 = .ok (.ireturn, 1) := by decide +kernel
theorem dX4_toldOf_49 : decode cX4_toldOf 49 = .ok (.aload_n 0, 1) := by decide +kernel
theorem dX4_toldOf_50 : decode cX4_toldOf 50 = .ok (.getfield 252, 3) := by decide +kernel
theorem dX4_toldOf_53 : decode cX4_toldOf 53 = .ok (.ireturn, 1) := by decide +kernel
theorem dX4_toldOf_54 : decode cX4_toldOf 54 = .ok (.aload_n 0, 1) := by decide +kernel
theorem dX4_toldOf_55 : decode cX4_toldOf 55 = .ok (.getfield 255, 3) := by decide +kernel
theorem dX4_toldOf_58 : decode cX4_toldOf 58 = .ok (.ireturn, 1) := by decide +kernel
theorem dX4_toldOf_59 : decode cX4_toldOf 59 = .ok (.aload_n 0, 1) := by decide +kernel
theorem dX4_toldOf_60 : decode cX4_toldOf 60 = .ok (.getfield 10, 3) := by decide +kernel
theorem dX4_toldOf_63 : decode cX4_toldOf 63 = .ok (.getfield 53, 3) := by decide +kernel
theorem dX4_toldOf_66 : decode cX4_toldOf 66 = .ok (.ireturn, 1) := by decide +kernel
theorem dX4_toldOf_67 : decode cX4_toldOf 67 = .ok (.aload_n 0, 1) := by decide +kernel
theorem dX4_toldOf_68 : decode cX4_toldOf 68 = .ok (.getfield 10, 3) := by decide +kernel
theorem dX4_toldOf_71 : decode cX4_toldOf 71 = .ok (.getfield 94, 3) := by decide +kernel
theorem dX4_toldOf_74 : decode cX4_toldOf 74 = .ok (.ireturn, 1) := by decide +kernel
theorem dX4_toldOf_75 : decode cX4_toldOf 75 = .ok (.aload_n 0, 1) := by decide +kernel
theorem dX4_toldOf_76 : decode cX4_toldOf 76 = .ok (.getfield 10, 3) := by decide +kernel
theorem dX4_toldOf_79 : decode cX4_toldOf 79 = .ok (.getfield 85, 3) := by decide +kernel
theorem dX4_toldOf_82 : decode cX4_toldOf 82 = .ok (.ireturn, 1) := by decide +kernel
theorem dX4_toldOf_83 : decode cX4_toldOf 83 = .ok (.aload_n 0, 1) := by decide +kernel
theorem dX4_toldOf_84 : decode cX4_toldOf 84 = .ok (.getfield 35, 3) := by decide +kernel
theorem dX4_toldOf_87 : decode cX4_toldOf 87 = .ok (.getfield 196, 3) := by decide +kernel
theorem dX4_toldOf_90 : decode cX4_toldOf 90 = .ok (.ireturn, 1) := by decide +kernel
theorem dX4_toldOf_91 : decode cX4_toldOf 91 = .ok (.aload_n 0, 1) := by decide +kernel
theorem dX4_toldOf_92 : decode cX4_toldOf 92 = .ok (.getfield 10, 3) := by decide +kernel
theorem dX4_toldOf_95 : decode cX4_toldOf 95 = .ok (.invokevirtual 258, 3) := by decide +kernel
theorem dX4_toldOf_98 : decode cX4_toldOf 98 = .ok (.ireturn, 1) := by decide +kernel
theorem dX4_refuse_0 : decode cX4_refuse 0 = .ok (.iload_n 1, 1) := by decide +kernel
theorem dX4_refuse_1 : decode cX4_refuse 1 = .ok (.bipush (-2), 2) := by decide +kernel
theorem dX4_refuse_3 : decode cX4_refuse 3 = .ok (.if_icmp .ne 16, 3) := by decide +kernel
theorem dX4_refuse_6 : decode cX4_refuse 6 = .ok (.aload_n 0, 1) := by decide +kernel
theorem dX4_refuse_7 : decode cX4_refuse 7 = .ok (.dup, 1) := by decide +kernel
theorem dX4_refuse_8 : decode cX4_refuse 8 = .ok (.getfield 249, 3) := by decide +kernel
theorem dX4_refuse_11 : decode cX4_refuse 11 = .ok (.iconst 1, 1) := by decide +kernel
theorem dX4_refuse_12 : decode cX4_refuse 12 = .ok (.iadd, 1) := by decide +kernel
theorem dX4_refuse_13 : decode cX4_refuse 13 = .ok (.putfield 249, 3) := by decide +kernel
theorem dX4_refuse_16 : decode cX4_refuse 16 = .ok (.goto 32, 3) := by decide +kernel
theorem dX4_refuse_19 : decode cX4_refuse 19 = .ok (.iload_n 1, 1) := by decide +kernel
theorem dX4_refuse_20 : decode cX4_refuse 20 = .ok (.bipush (-3), 2) := by decide +kernel
theorem dX4_refuse_22 : decode cX4_refuse 22 = .ok (.if_icmp .ne 16, 3) := by decide +kernel
theorem dX4_refuse_25 : decode cX4_refuse 25 = .ok (.aload_n 0, 1) := by decide +kernel
theorem dX4_refuse_26 : decode cX4_refuse 26 = .ok (.dup, 1) := by decide +kernel
theorem dX4_refuse_27 : decode cX4_refuse 27 = .ok (.getfield 252, 3) := by decide +kernel
theorem dX4_refuse_30 : decode cX4_refuse 30 = .ok (.iconst 1, 1) := by decide +kernel
theorem dX4_refuse_31 : decode cX4_refuse 31 = .ok (.iadd, 1) := by decide +kernel
theorem dX4_refuse_32 : decode cX4_refuse 32 = .ok (.putfield 252, 3) := by decide +kernel
theorem dX4_refuse_35 : decode cX4_refuse 35 = .ok (.goto 13, 3) := by decide +kernel
theorem dX4_refuse_38 : decode cX4_refuse 38 = .ok (.aload_n 0, 1) := by decide +kernel
theorem dX4_refuse_39 : decode cX4_refuse 39 = .ok (.dup, 1) := by decide +kernel
theorem dX4_refuse_40 : decode cX4_refuse 40 = .ok (.getfield 255, 3) := by decide +kernel
theorem dX4_refuse_43 : decode cX4_refuse 43 = .ok (.iconst 1, 1) := by decide +kernel
theorem dX4_refuse_44 : decode cX4_refuse 44 = .ok (.iadd, 1) := by decide +kernel
theorem dX4_refuse_45 : decode cX4_refuse 45 = .ok (.putfield 255, 3) := by decide +kernel
theorem dX4_refuse_48 : decode cX4_refuse 48 = .ok (.iload_n 1, 1) := by decide +kernel
theorem dX4_refuse_49 : decode cX4_refuse 49 = .ok (.ireturn, 1) := by decide +kernel
theorem dX4_streetChanges_0 : decode cX4_streetChanges 0 = .ok (.aload_n 0, 1) := by decide +kernel
theorem dX4_streetChanges_1 : decode cX4_streetChanges 1 = .ok (.getfield 35, 3) := by decide +kernel
theorem dX4_streetChanges_4 : decode cX4_streetChanges 4 = .ok (.iconst 0, 1) := by decide +kernel
theorem dX4_streetChanges_5 : decode cX4_streetChanges 5 = .ok (.putfield 196, 3) := by decide +kernel
theorem dX4_streetChanges_8 : decode cX4_streetChanges 8 = .ok (.aload_n 0, 1) := by decide +kernel
theorem dX4_streetChanges_9 : decode cX4_streetChanges 9 = .ok (.getfield 21, 3) := by decide +kernel
theorem dX4_streetChanges_12 : decode cX4_streetChanges 12 = .ok (.invokevirtual 202, 3) := by decide +kernel
theorem dX4_streetChanges_15 : decode cX4_streetChanges 15 = .ok (.return_, 1) := by decide +kernel
theorem dX4_phasesChange_0 : decode cX4_phasesChange 0 = .ok (.aload_n 0, 1) := by decide +kernel
theorem dX4_phasesChange_1 : decode cX4_phasesChange 1 = .ok (.getfield 35, 3) := by decide +kernel
theorem dX4_phasesChange_4 : decode cX4_phasesChange 4 = .ok (.aload_n 0, 1) := by decide +kernel
theorem dX4_phasesChange_5 : decode cX4_phasesChange 5 = .ok (.getfield 10, 3) := by decide +kernel
theorem dX4_phasesChange_8 : decode cX4_phasesChange 8 = .ok (.invokevirtual 261, 3) := by decide +kernel
theorem dX4_phasesChange_11 : decode cX4_phasesChange 11 = .ok (.invokevirtual 264, 3) := by decide +kernel
theorem dX4_phasesChange_14 : decode cX4_phasesChange 14 = .ok (.aload_n 0, 1) := by decide +kernel
theorem dX4_phasesChange_15 : decode cX4_phasesChange 15 = .ok (.getfield 21, 3) := by decide +kernel
theorem dX4_phasesChange_18 : decode cX4_phasesChange 18 = .ok (.invokevirtual 202, 3) := by decide +kernel
theorem dX4_phasesChange_21 : decode cX4_phasesChange 21 = .ok (.return_, 1) := by decide +kernel
theorem dX4_isHouse_0 : decode cX4_isHouse 0 = .ok (.iload_n 1, 1) := by decide +kernel
theorem dX4_isHouse_1 : decode cX4_isHouse 1 = .ok (.iconst 0, 1) := by decide +kernel
theorem dX4_isHouse_2 : decode cX4_isHouse 2 = .ok (.aload_n 0, 1) := by decide +kernel
theorem dX4_isHouse_3 : decode cX4_isHouse 3 = .ok (.getfield 10, 3) := by decide +kernel
theorem dX4_isHouse_6 : decode cX4_isHouse 6 = .ok (.getfield 53, 3) := by decide +kernel
theorem dX4_isHouse_9 : decode cX4_isHouse 9 = .ok (.iconst 1, 1) := by decide +kernel
theorem dX4_isHouse_10 : decode cX4_isHouse 10 = .ok (.isub, 1) := by decide +kernel
theorem dX4_isHouse_11 : decode cX4_isHouse 11 = .ok (.invokestatic 77, 3) := by decide +kernel
theorem dX4_isHouse_14 : decode cX4_isHouse 14 = .ok (.ireturn, 1) := by decide +kernel
theorem dX4_areTwoHouses_0 : decode cX4_areTwoHouses 0 = .ok (.aload_n 0, 1) := by decide +kernel
theorem dX4_areTwoHouses_1 : decode cX4_areTwoHouses 1 = .ok (.iload_n 1, 1) := by decide +kernel
theorem dX4_areTwoHouses_2 : decode cX4_areTwoHouses 2 = .ok (.invokevirtual 64, 3) := by decide +kernel
theorem dX4_areTwoHouses_5 : decode cX4_areTwoHouses 5 = .ok (.ifCond .eq 20, 3) := by decide +kernel
theorem dX4_areTwoHouses_8 : decode cX4_areTwoHouses 8 = .ok (.aload_n 0, 1) := by decide +kernel
theorem dX4_areTwoHouses_9 : decode cX4_areTwoHouses 9 = .ok (.iload_n 2, 1) := by decide +kernel
theorem dX4_areTwoHouses_10 : decode cX4_areTwoHouses 10 = .ok (.invokevirtual 64, 3) := by decide +kernel
theorem dX4_areTwoHouses_13 : decode cX4_areTwoHouses 13 = .ok (.ifCond .eq 12, 3) := by decide +kernel
theorem dX4_areTwoHouses_16 : decode cX4_areTwoHouses 16 = .ok (.iload_n 1, 1) := by decide +kernel
theorem dX4_areTwoHouses_17 : decode cX4_areTwoHouses 17 = .ok (.iload_n 2, 1) := by decide +kernel
theorem dX4_areTwoHouses_18 : decode cX4_areTwoHouses 18 = .ok (.if_icmp .eq 7, 3) := by decide +kernel
theorem dX4_areTwoHouses_21 : decode cX4_areTwoHouses 21 = .ok (.iconst 1, 1) := by decide +kernel
theorem dX4_areTwoHouses_22 : decode cX4_areTwoHouses 22 = .ok (.goto 4, 3) := by decide +kernel
theorem dX4_areTwoHouses_25 : decode cX4_areTwoHouses 25 = .ok (.iconst 0, 1) := by decide +kernel
theorem dX4_areTwoHouses_26 : decode cX4_areTwoHouses 26 = .ok (.ireturn, 1) := by decide +kernel
theorem dX4_isSetting_0 : decode cX4_isSetting 0 = .ok (.iload_n 0, 1) := by decide +kernel
theorem dX4_isSetting_1 : decode cX4_isSetting 1 = .ok (.tableswitch 44 0 2 #[27, 32, 37], 27) := by decide +kernel
theorem dX4_isSetting_28 : decode cX4_isSetting 28 = .ok (.iload_n 1, 1) := by decide +kernel
theorem dX4_isSetting_29 : decode cX4_isSetting 29 = .ok (.invokestatic 39, 3) := by decide +kernel
theorem dX4_isSetting_32 : decode cX4_isSetting 32 = .ok (.ireturn, 1) := by decide +kernel
theorem dX4_isSetting_33 : decode cX4_isSetting 33 = .ok (.iload_n 1, 1) := by decide +kernel
theorem dX4_isSetting_34 : decode cX4_isSetting 34 = .ok (.invokestatic 43, 3) := by decide +kernel
theorem dX4_isSetting_37 : decode cX4_isSetting 37 = .ok (.ireturn, 1) := by decide +kernel
theorem dX4_isSetting_38 : decode cX4_isSetting 38 = .ok (.iload_n 1, 1) := by decide +kernel
theorem dX4_isSetting_39 : decode cX4_isSetting 39 = .ok (.iconst 0, 1) := by decide +kernel
theorem dX4_isSetting_40 : decode cX4_isSetting 40 = .ok (.iconst 1, 1) := by decide +kernel
theorem dX4_isSetting_41 : decode cX4_isSetting 41 = .ok (.invokestatic 77, 3) := by decide +kernel
theorem dX4_isSetting_44 : decode cX4_isSetting 44 = .ok (.ireturn, 1) := by decide +kernel
theorem dX4_isSetting_45 : decode cX4_isSetting 45 = .ok (.iconst 0, 1) := by decide +kernel
theorem dX4_isSetting_46 : decode cX4_isSetting 46 = .ok (.ireturn, 1) := by decide +kernel
theorem dX4_isSort_0 : decode cX4_isSort 0 = .ok (.iload_n 0, 1) := by decide +kernel
theorem dX4_isSort_1 : decode cX4_isSort 1 = .ok (.iconst 0, 1) := by decide +kernel
theorem dX4_isSort_2 : decode cX4_isSort 2 = .ok (.iconst 5, 1) := by decide +kernel
theorem dX4_isSort_3 : decode cX4_isSort 3 = .ok (.invokestatic 77, 3) := by decide +kernel
theorem dX4_isSort_6 : decode cX4_isSort 6 = .ok (.ireturn, 1) := by decide +kernel
theorem dX4_isSize_0 : decode cX4_isSize 0 = .ok (.iload_n 0, 1) := by decide +kernel
theorem dX4_isSize_1 : decode cX4_isSize 1 = .ok (.iconst 1, 1) := by decide +kernel
theorem dX4_isSize_2 : decode cX4_isSize 2 = .ok (.bipush 20, 2) := by decide +kernel
theorem dX4_isSize_4 : decode cX4_isSize 4 = .ok (.invokestatic 77, 3) := by decide +kernel
theorem dX4_isSize_7 : decode cX4_isSize 7 = .ok (.ireturn, 1) := by decide +kernel
theorem dX4_isPhase_0 : decode cX4_isPhase 0 = .ok (.iload_n 0, 1) := by decide +kernel
theorem dX4_isPhase_1 : decode cX4_isPhase 1 = .ok (.iconst 0, 1) := by decide +kernel
theorem dX4_isPhase_2 : decode cX4_isPhase 2 = .ok (.iconst 2, 1) := by decide +kernel
theorem dX4_isPhase_3 : decode cX4_isPhase 3 = .ok (.invokestatic 77, 3) := by decide +kernel
theorem dX4_isPhase_6 : decode cX4_isPhase 6 = .ok (.ireturn, 1) := by decide +kernel
theorem dX4_isHour_0 : decode cX4_isHour 0 = .ok (.iload_n 0, 1) := by decide +kernel
theorem dX4_isHour_1 : decode cX4_isHour 1 = .ok (.iconst 0, 1) := by decide +kernel
theorem dX4_isHour_2 : decode cX4_isHour 2 = .ok (.iconst 5, 1) := by decide +kernel
theorem dX4_isHour_3 : decode cX4_isHour 3 = .ok (.invokestatic 77, 3) := by decide +kernel
theorem dX4_isHour_6 : decode cX4_isHour 6 = .ok (.ireturn, 1) := by decide +kernel
theorem dX4_isIn_0 : decode cX4_isIn 0 = .ok (.iload_n 0, 1) := by decide +kernel
theorem dX4_isIn_1 : decode cX4_isIn 1 = .ok (.iload_n 1, 1) := by decide +kernel
theorem dX4_isIn_2 : decode cX4_isIn 2 = .ok (.if_icmp .lt 12, 3) := by decide +kernel
theorem dX4_isIn_5 : decode cX4_isIn 5 = .ok (.iload_n 0, 1) := by decide +kernel
theorem dX4_isIn_6 : decode cX4_isIn 6 = .ok (.iload_n 2, 1) := by decide +kernel
theorem dX4_isIn_7 : decode cX4_isIn 7 = .ok (.if_icmp .gt 7, 3) := by decide +kernel
theorem dX4_isIn_10 : decode cX4_isIn 10 = .ok (.iconst 1, 1) := by decide +kernel
theorem dX4_isIn_11 : decode cX4_isIn 11 = .ok (.goto 4, 3) := by decide +kernel
theorem dX4_isIn_14 : decode cX4_isIn 14 = .ok (.iconst 0, 1) := by decide +kernel
theorem dX4_isIn_15 : decode cX4_isIn 15 = .ok (.ireturn, 1) := by decide +kernel
theorem dX4_phaseIn_0 : decode cX4_phaseIn 0 = .ok (.iload_n 0, 1) := by decide +kernel
theorem dX4_phaseIn_1 : decode cX4_phaseIn 1 = .ok (.iconst 2, 1) := by decide +kernel
theorem dX4_phaseIn_2 : decode cX4_phaseIn 2 = .ok (.iload_n 1, 1) := by decide +kernel
theorem dX4_phaseIn_3 : decode cX4_phaseIn 3 = .ok (.imul, 1) := by decide +kernel
theorem dX4_phaseIn_4 : decode cX4_phaseIn 4 = .ok (.iushr, 1) := by decide +kernel
theorem dX4_phaseIn_5 : decode cX4_phaseIn 5 = .ok (.iconst 3, 1) := by decide +kernel
theorem dX4_phaseIn_6 : decode cX4_phaseIn 6 = .ok (.iand, 1) := by decide +kernel
theorem dX4_phaseIn_7 : decode cX4_phaseIn 7 = .ok (.ireturn, 1) := by decide +kernel
theorem dX4_pack_0 : decode cX4_pack 0 = .ok (.iconst 0, 1) := by decide +kernel
theorem dX4_pack_1 : decode cX4_pack 1 = .ok (.istore_n 2, 1) := by decide +kernel
theorem dX4_pack_2 : decode cX4_pack 2 = .ok (.iconst 0, 1) := by decide +kernel
theorem dX4_pack_3 : decode cX4_pack 3 = .ok (.istore_n 3, 1) := by decide +kernel
theorem dX4_pack_4 : decode cX4_pack 4 = .ok (.iload_n 3, 1) := by decide +kernel
theorem dX4_pack_5 : decode cX4_pack 5 = .ok (.iload_n 1, 1) := by decide +kernel
theorem dX4_pack_6 : decode cX4_pack 6 = .ok (.if_icmp .ge 19, 3) := by decide +kernel
theorem dX4_pack_9 : decode cX4_pack 9 = .ok (.iload_n 2, 1) := by decide +kernel
theorem dX4_pack_10 : decode cX4_pack 10 = .ok (.aload_n 0, 1) := by decide +kernel
theorem dX4_pack_11 : decode cX4_pack 11 = .ok (.iload_n 3, 1) := by decide +kernel
theorem dX4_pack_12 : decode cX4_pack 12 = .ok (.iaload, 1) := by decide +kernel
theorem dX4_pack_13 : decode cX4_pack 13 = .ok (.iconst 2, 1) := by decide +kernel
theorem dX4_pack_14 : decode cX4_pack 14 = .ok (.iload_n 3, 1) := by decide +kernel
theorem dX4_pack_15 : decode cX4_pack 15 = .ok (.imul, 1) := by decide +kernel
theorem dX4_pack_16 : decode cX4_pack 16 = .ok (.ishl, 1) := by decide +kernel
theorem dX4_pack_17 : decode cX4_pack 17 = .ok (.ior, 1) := by decide +kernel
theorem dX4_pack_18 : decode cX4_pack 18 = .ok (.istore_n 2, 1) := by decide +kernel
theorem dX4_pack_19 : decode cX4_pack 19 = .ok (.iinc 3 1, 3) := by decide +kernel
theorem dX4_pack_22 : decode cX4_pack 22 = .ok (.goto (-18), 3) := by decide +kernel
theorem dX4_pack_25 : decode cX4_pack 25 = .ok (.iload_n 2, 1) := by decide +kernel
theorem dX4_pack_26 : decode cX4_pack 26 = .ok (.ireturn, 1) := by decide +kernel
end
section
theorem dX5_init_0 : decode cX5_init 0 = .ok (.aload_n 0, 1) := by decide +kernel
theorem dX5_init_1 : decode cX5_init 1 = .ok (.invokespecial 1, 3) := by decide +kernel
theorem dX5_init_4 : decode cX5_init 4 = .ok (.aload_n 0, 1) := by decide +kernel
theorem dX5_init_5 : decode cX5_init 5 = .ok (.bipush 9, 2) := by decide +kernel
theorem dX5_init_7 : decode cX5_init 7 = .ok (.newarray .int, 2) := by decide +kernel
theorem dX5_init_9 : decode cX5_init 9 = .ok (.putfield 7, 3) := by decide +kernel
theorem dX5_init_12 : decode cX5_init 12 = .ok (.aload_n 0, 1) := by decide +kernel
theorem dX5_init_13 : decode cX5_init 13 = .ok (.bipush 9, 2) := by decide +kernel
theorem dX5_init_15 : decode cX5_init 15 = .ok (.newarray .int, 2) := by decide +kernel
theorem dX5_init_17 : decode cX5_init 17 = .ok (.putfield 13, 3) := by decide +kernel
theorem dX5_init_20 : decode cX5_init 20 = .ok (.aload_n 0, 1) := by decide +kernel
theorem dX5_init_21 : decode cX5_init 21 = .ok (.bipush 9, 2) := by decide +kernel
theorem dX5_init_23 : decode cX5_init 23 = .ok (.newarray .int, 2) := by decide +kernel
theorem dX5_init_25 : decode cX5_init 25 = .ok (.putfield 16, 3) := by decide +kernel
theorem dX5_init_28 : decode cX5_init 28 = .ok (.aload_n 0, 1) := by decide +kernel
theorem dX5_init_29 : decode cX5_init 29 = .ok (.bipush 9, 2) := by decide +kernel
theorem dX5_init_31 : decode cX5_init 31 = .ok (.newarray .int, 2) := by decide +kernel
theorem dX5_init_33 : decode cX5_init 33 = .ok (.putfield 19, 3) := by decide +kernel
theorem dX5_init_36 : decode cX5_init 36 = .ok (.aload_n 0, 1) := by decide +kernel
theorem dX5_init_37 : decode cX5_init 37 = .ok (.bipush 6, 2) := by decide +kernel
theorem dX5_init_39 : decode cX5_init 39 = .ok (.newarray .int, 2) := by decide +kernel
theorem dX5_init_41 : decode cX5_init 41 = .ok (.dup, 1) := by decide +kernel
theorem dX5_init_42 : decode cX5_init 42 = .ok (.iconst 0, 1) := by decide +kernel
theorem dX5_init_43 : decode cX5_init 43 = .ok (.iconst 1, 1) := by decide +kernel
theorem dX5_init_44 : decode cX5_init 44 = .ok (.iastore, 1) := by decide +kernel
theorem dX5_init_45 : decode cX5_init 45 = .ok (.dup, 1) := by decide +kernel
theorem dX5_init_46 : decode cX5_init 46 = .ok (.iconst 1, 1) := by decide +kernel
theorem dX5_init_47 : decode cX5_init 47 = .ok (.iconst 1, 1) := by decide +kernel
theorem dX5_init_48 : decode cX5_init 48 = .ok (.iastore, 1) := by decide +kernel
theorem dX5_init_49 : decode cX5_init 49 = .ok (.dup, 1) := by decide +kernel
theorem dX5_init_50 : decode cX5_init 50 = .ok (.iconst 2, 1) := by decide +kernel
theorem dX5_init_51 : decode cX5_init 51 = .ok (.iconst 1, 1) := by decide +kernel
theorem dX5_init_52 : decode cX5_init 52 = .ok (.iastore, 1) := by decide +kernel
theorem dX5_init_53 : decode cX5_init 53 = .ok (.dup, 1) := by decide +kernel
theorem dX5_init_54 : decode cX5_init 54 = .ok (.iconst 3, 1) := by decide +kernel
theorem dX5_init_55 : decode cX5_init 55 = .ok (.iconst 1, 1) := by decide +kernel
theorem dX5_init_56 : decode cX5_init 56 = .ok (.iastore, 1) := by decide +kernel
theorem dX5_init_57 : decode cX5_init 57 = .ok (.dup, 1) := by decide +kernel
theorem dX5_init_58 : decode cX5_init 58 = .ok (.iconst 4, 1) := by decide +kernel
theorem dX5_init_59 : decode cX5_init 59 = .ok (.iconst 1, 1) := by decide +kernel
theorem dX5_init_60 : decode cX5_init 60 = .ok (.iastore, 1) := by decide +kernel
theorem dX5_init_61 : decode cX5_init 61 = .ok (.dup, 1) := by decide +kernel
theorem dX5_init_62 : decode cX5_init 62 = .ok (.iconst 5, 1) := by decide +kernel
theorem dX5_init_63 : decode cX5_init 63 = .ok (.iconst 1, 1) := by decide +kernel
theorem dX5_init_64 : decode cX5_init 64 = .ok (.iastore, 1) := by decide +kernel
theorem dX5_init_65 : decode cX5_init 65 = .ok (.putfield 22, 3) := by decide +kernel
theorem dX5_init_68 : decode cX5_init 68 = .ok (.aload_n 0, 1) := by decide +kernel
theorem dX5_init_69 : decode cX5_init 69 = .ok (.sipush 400, 3) := by decide +kernel
theorem dX5_init_72 : decode cX5_init 72 = .ok (.putfield 25, 3) := by decide +kernel
theorem dX5_init_75 : decode cX5_init 75 = .ok (.aload_n 0, 1) := by decide +kernel
theorem dX5_init_76 : decode cX5_init 76 = .ok (.bipush 12, 2) := by decide +kernel
theorem dX5_init_78 : decode cX5_init 78 = .ok (.newarray .int, 2) := by decide +kernel
theorem dX5_init_80 : decode cX5_init 80 = .ok (.putfield 29, 3) := by decide +kernel
theorem dX5_init_83 : decode cX5_init 83 = .ok (.aload_n 0, 1) := by decide +kernel
theorem dX5_init_84 : decode cX5_init 84 = .ok (.bipush 72, 2) := by decide +kernel
theorem dX5_init_86 : decode cX5_init 86 = .ok (.newarray .int, 2) := by decide +kernel
theorem dX5_init_88 : decode cX5_init 88 = .ok (.putfield 32, 3) := by decide +kernel
theorem dX5_init_91 : decode cX5_init 91 = .ok (.aload_n 0, 1) := by decide +kernel
theorem dX5_init_92 : decode cX5_init 92 = .ok (.iconst 3, 1) := by decide +kernel
theorem dX5_init_93 : decode cX5_init 93 = .ok (.newarray .int, 2) := by decide +kernel
theorem dX5_init_95 : decode cX5_init 95 = .ok (.putfield 35, 3) := by decide +kernel
theorem dX5_init_98 : decode cX5_init 98 = .ok (.aload_n 0, 1) := by decide +kernel
theorem dX5_init_99 : decode cX5_init 99 = .ok (.bipush 54, 2) := by decide +kernel
theorem dX5_init_101 : decode cX5_init 101 = .ok (.newarray .int, 2) := by decide +kernel
theorem dX5_init_103 : decode cX5_init 103 = .ok (.putfield 38, 3) := by decide +kernel
theorem dX5_init_106 : decode cX5_init 106 = .ok (.aload_n 0, 1) := by decide +kernel
theorem dX5_init_107 : decode cX5_init 107 = .ok (.bipush 18, 2) := by decide +kernel
theorem dX5_init_109 : decode cX5_init 109 = .ok (.newarray .int, 2) := by decide +kernel
theorem dX5_init_111 : decode cX5_init 111 = .ok (.putfield 41, 3) := by decide +kernel
theorem dX5_init_114 : decode cX5_init 114 = .ok (.aload_n 0, 1) := by decide +kernel
theorem dX5_init_115 : decode cX5_init 115 = .ok (.bipush 9, 2) := by decide +kernel
theorem dX5_init_117 : decode cX5_init 117 = .ok (.newarray .int, 2) := by decide +kernel
theorem dX5_init_119 : decode cX5_init 119 = .ok (.putfield 44, 3) := by decide +kernel
theorem dX5_init_122 : decode cX5_init 122 = .ok (.aload_n 0, 1) := by decide +kernel
theorem dX5_init_123 : decode cX5_init 123 = .ok (.bipush 90, 2) := by decide +kernel
theorem dX5_init_125 : decode cX5_init 125 = .ok (.newarray .int, 2) := by decide +kernel
theorem dX5_init_127 : decode cX5_init 127 = .ok (.putfield 47, 3) := by decide +kernel
theorem dX5_init_130 : decode cX5_init 130 = .ok (.aload_n 0, 1) := by decide +kernel
theorem dX5_init_131 : decode cX5_init 131 = .ok (.bipush 10, 2) := by decide +kernel
theorem dX5_init_133 : decode cX5_init 133 = .ok (.newarray .int, 2) := by decide +kernel
theorem dX5_init_135 : decode cX5_init 135 = .ok (.putfield 50, 3) := by decide +kernel
theorem dX5_init_138 : decode cX5_init 138 = .ok (.aload_n 0, 1) := by decide +kernel
theorem dX5_init_139 : decode cX5_init 139 = .ok (.iconst 4, 1) := by decide +kernel
theorem dX5_init_140 : decode cX5_init 140 = .ok (.newarray .int, 2) := by decide +kernel
theorem dX5_init_142 : decode cX5_init 142 = .ok (.putfield 53, 3) := by decide +kernel
theorem dX5_init_145 : decode cX5_init 145 = .ok (.return_, 1) := by decide +kernel
theorem dX5_in_0 : decode cX5_in 0 = .ok (.iload_n 0, 1) := by decide +kernel
theorem dX5_in_1 : decode cX5_in 1 = .ok (.iload_n 1, 1) := by decide +kernel
theorem dX5_in_2 : decode cX5_in 2 = .ok (.if_icmp .lt 12, 3) := by decide +kernel
theorem dX5_in_5 : decode cX5_in 5 = .ok (.iload_n 0, 1) := by decide +kernel
theorem dX5_in_6 : decode cX5_in 6 = .ok (.iload_n 2, 1) := by decide +kernel
theorem dX5_in_7 : decode cX5_in 7 = .ok (.if_icmp .gt 7, 3) := by decide +kernel
theorem dX5_in_10 : decode cX5_in 10 = .ok (.iconst 1, 1) := by decide +kernel
theorem dX5_in_11 : decode cX5_in 11 = .ok (.goto 4, 3) := by decide +kernel
theorem dX5_in_14 : decode cX5_in 14 = .ok (.iconst 0, 1) := by decide +kernel
theorem dX5_in_15 : decode cX5_in 15 = .ok (.ireturn, 1) := by decide +kernel
theorem dX5_refuses_0 : decode cX5_refuses 0 = .ok (.aload_n 0, 1) := by decide +kernel
theorem dX5_refuses_1 : decode cX5_refuses 1 = .ok (.getfield 35, 3) := by decide +kernel
theorem dX5_refuses_4 : decode cX5_refuses 4 = .ok (.bipush (-2), 2) := by decide +kernel
theorem dX5_refuses_6 : decode cX5_refuses 6 = .ok (.iload_n 1, 1) := by decide +kernel
theorem dX5_refuses_7 : decode cX5_refuses 7 = .ok (.isub, 1) := by decide +kernel
theorem dX5_refuses_8 : decode cX5_refuses 8 = .ok (.dup2, 1) := by decide +kernel
theorem dX5_refuses_9 : decode cX5_refuses 9 = .ok (.iaload, 1) := by decide +kernel
theorem dX5_refuses_10 : decode cX5_refuses 10 = .ok (.iconst 1, 1) := by decide +kernel
theorem dX5_refuses_11 : decode cX5_refuses 11 = .ok (.iadd, 1) := by decide +kernel
theorem dX5_refuses_12 : decode cX5_refuses 12 = .ok (.iastore, 1) := by decide +kernel
theorem dX5_refuses_13 : decode cX5_refuses 13 = .ok (.iload_n 1, 1) := by decide +kernel
theorem dX5_refuses_14 : decode cX5_refuses 14 = .ok (.ireturn, 1) := by decide +kernel
theorem dX5_isHouse_0 : decode cX5_isHouse 0 = .ok (.iload_n 1, 1) := by decide +kernel
theorem dX5_isHouse_1 : decode cX5_isHouse 1 = .ok (.iconst 0, 1) := by decide +kernel
theorem dX5_isHouse_2 : decode cX5_isHouse 2 = .ok (.aload_n 0, 1) := by decide +kernel
theorem dX5_isHouse_3 : decode cX5_isHouse 3 = .ok (.getfield 56, 3) := by decide +kernel
theorem dX5_isHouse_6 : decode cX5_isHouse 6 = .ok (.iconst 1, 1) := by decide +kernel
theorem dX5_isHouse_7 : decode cX5_isHouse 7 = .ok (.isub, 1) := by decide +kernel
theorem dX5_isHouse_8 : decode cX5_isHouse 8 = .ok (.invokestatic 59, 3) := by decide +kernel
theorem dX5_isHouse_11 : decode cX5_isHouse 11 = .ok (.ireturn, 1) := by decide +kernel
theorem dX5_isHour_0 : decode cX5_isHour 0 = .ok (.iload_n 0, 1) := by decide +kernel
theorem dX5_isHour_1 : decode cX5_isHour 1 = .ok (.iconst 0, 1) := by decide +kernel
theorem dX5_isHour_2 : decode cX5_isHour 2 = .ok (.iconst 5, 1) := by decide +kernel
theorem dX5_isHour_3 : decode cX5_isHour 3 = .ok (.invokestatic 59, 3) := by decide +kernel
theorem dX5_isHour_6 : decode cX5_isHour 6 = .ok (.ireturn, 1) := by decide +kernel
theorem dX5_house_0 : decode cX5_house 0 = .ok (.iload_n 1, 1) := by decide +kernel
theorem dX5_house_1 : decode cX5_house 1 = .ok (.iconst 0, 1) := by decide +kernel
theorem dX5_house_2 : decode cX5_house 2 = .ok (.iconst 5, 1) := by decide +kernel
theorem dX5_house_3 : decode cX5_house 3 = .ok (.invokestatic 59, 3) := by decide +kernel
theorem dX5_house_6 : decode cX5_house 6 = .ok (.ifCond .eq 22, 3) := by decide +kernel
theorem dX5_house_9 : decode cX5_house 9 = .ok (.iload_n 2, 1) := by decide +kernel
theorem dX5_house_10 : decode cX5_house 10 = .ok (.iconst 1, 1) := by decide +kernel
theorem dX5_house_11 : decode cX5_house 11 = .ok (.bipush 20, 2) := by decide +kernel
theorem dX5_house_13 : decode cX5_house 13 = .ok (.invokestatic 59, 3) := by decide +kernel
theorem dX5_house_16 : decode cX5_house 16 = .ok (.ifCond .eq 12, 3) := by decide +kernel
theorem dX5_house_19 : decode cX5_house 19 = .ok (.iload_n 3, 1) := by decide +kernel
theorem dX5_house_20 : decode cX5_house 20 = .ok (.iconst 0, 1) := by decide +kernel
theorem dX5_house_21 : decode cX5_house 21 = .ok (.iconst 2, 1) := by decide +kernel
theorem dX5_house_22 : decode cX5_house 22 = .ok (.invokestatic 59, 3) := by decide +kernel
theorem dX5_house_25 : decode cX5_house 25 = .ok (.ifCond .ne 10, 3) := by decide +kernel
theorem dX5_house_28 : decode cX5_house 28 = .ok (.aload_n 0, 1) := by decide +kernel
theorem dX5_house_29 : decode cX5_house 29 = .ok (.bipush (-2), 2) := by decide +kernel
theorem dX5_house_31 : decode cX5_house 31 = .ok (.invokevirtual 63, 3) := by decide +kernel
theorem dX5_house_34 : decode cX5_house 34 = .ok (.ireturn, 1) := by decide +kernel
theorem dX5_house_35 : decode cX5_house 35 = .ok (.aload_n 0, 1) := by decide +kernel
theorem dX5_house_36 : decode cX5_house 36 = .ok (.getfield 56, 3) := by decide +kernel
theorem dX5_house_39 : decode cX5_house 39 = .ok (.bipush 9, 2) := by decide +kernel
theorem dX5_house_41 : decode cX5_house 41 = .ok (.if_icmp .ne 10, 3) := by decide +kernel
theorem dX5_house_44 : decode cX5_house 44 = .ok (.aload_n 0, 1) := by decide +kernel
theorem dX5_house_45 : decode cX5_house 45 = .ok (.bipush (-4), 2) := by decide +kernel
theorem dX5_house_47 : decode cX5_house 47 = .ok (.invokevirtual 63, 3) := by decide +kernel
theorem dX5_house_50 : decode cX5_house 50 = .ok (.ireturn, 1) := by decide +kernel
theorem dX5_house_51 : decode cX5_house 51 = .ok (.aload_n 0, 1) := by decide +kernel
theorem dX5_house_52 : decode cX5_house 52 = .ok (.getfield 7, 3) := by decide +kernel
theorem dX5_house_55 : decode cX5_house 55 = .ok (.aload_n 0, 1) := by decide +kernel
theorem dX5_house_56 : decode cX5_house 56 = .ok (.getfield 56, 3) := by decide +kernel
theorem dX5_house_59 : decode cX5_house 59 = .ok (.iload_n 1, 1) := by decide +kernel
theorem dX5_house_60 : decode cX5_house 60 = .ok (.iastore, 1) := by decide +kernel
theorem dX5_house_61 : decode cX5_house 61 = .ok (.aload_n 0, 1) := by decide +kernel
theorem dX5_house_62 : decode cX5_house 62 = .ok (.getfield 13, 3) := by decide +kernel
theorem dX5_house_65 : decode cX5_house 65 = .ok (.aload_n 0, 1) := by decide +kernel
theorem dX5_house_66 : decode cX5_house 66 = .ok (.getfield 56, 3) := by decide +kernel
theorem dX5_house_69 : decode cX5_house 69 = .ok (.iload_n 2, 1) := by decide +kernel
theorem dX5_house_70 : decode cX5_house 70 = .ok (.iastore, 1) := by decide +kernel
theorem dX5_house_71 : decode cX5_house 71 = .ok (.aload_n 0, 1) := by decide +kernel
theorem dX5_house_72 : decode cX5_house 72 = .ok (.getfield 16, 3) := by decide +kernel
theorem dX5_house_75 : decode cX5_house 75 = .ok (.aload_n 0, 1) := by decide +kernel
theorem dX5_house_76 : decode cX5_house 76 = .ok (.getfield 56, 3) := by decide +kernel
theorem dX5_house_79 : decode cX5_house 79 = .ok (.iload_n 3, 1) := by decide +kernel
theorem dX5_house_80 : decode cX5_house 80 = .ok (.iastore, 1) := by decide +kernel
theorem dX5_house_81 : decode cX5_house 81 = .ok (.aload_n 0, 1) := by decide +kernel
theorem dX5_house_82 : decode cX5_house 82 = .ok (.getfield 19, 3) := by decide +kernel
theorem dX5_house_85 : decode cX5_house 85 = .ok (.aload_n 0, 1) := by decide +kernel
theorem dX5_house_86 : decode cX5_house 86 = .ok (.getfield 56, 3) := by decide +kernel
theorem dX5_house_89 : decode cX5_house 89 = .ok (.iconst 0, 1) := by decide +kernel
theorem dX5_house_90 : decode cX5_house 90 = .ok (.iastore, 1) := by decide +kernel
theorem dX5_house_91 : decode cX5_house 91 = .ok (.aload_n 0, 1) := by decide +kernel
theorem dX5_house_92 : decode cX5_house 92 = .ok (.dup, 1) := by decide +kernel
theorem dX5_house_93 : decode cX5_house 93 = .ok (.getfield 56, 3) := by decide +kernel
theorem dX5_house_96 : decode cX5_house 96 = .ok (.iconst 1, 1) := by decide +kernel
theorem dX5_house_97 : decode cX5_house 97 = .ok (.iadd, 1) := by decide +kernel
theorem dX5_house_98 : decode cX5_house 98 = .ok (.putfield 56, 3) := by decide +kernel
theorem dX5_house_101 : decode cX5_house 101 = .ok (.aload_n 0, 1) := by decide +kernel
theorem dX5_house_102 : decode cX5_house 102 = .ok (.iconst 0, 1) := by decide +kernel
theorem dX5_house_103 : decode cX5_house 103 = .ok (.putfield 67, 3) := by decide +kernel
theorem dX5_house_106 : decode cX5_house 106 = .ok (.aload_n 0, 1) := by decide +kernel
theorem dX5_house_107 : decode cX5_house 107 = .ok (.getfield 56, 3) := by decide +kernel
theorem dX5_house_110 : decode cX5_house 110 = .ok (.iconst 1, 1) := by decide +kernel
theorem dX5_house_111 : decode cX5_house 111 = .ok (.isub, 1) := by decide +kernel
theorem dX5_house_112 : decode cX5_house 112 = .ok (.ireturn, 1) := by decide +kernel
theorem dX5_sets_0 : decode cX5_sets 0 = .ok (.aload_n 0, 1) := by decide +kernel
theorem dX5_sets_1 : decode cX5_sets 1 = .ok (.iload_n 1, 1) := by decide +kernel
theorem dX5_sets_2 : decode cX5_sets 2 = .ok (.invokevirtual 70, 3) := by decide +kernel
theorem dX5_sets_5 : decode cX5_sets 5 = .ok (.ifCond .eq 48, 3) := by decide +kernel
theorem dX5_sets_8 : decode cX5_sets 8 = .ok (.iload_n 2, 1) := by decide +kernel
theorem dX5_sets_9 : decode cX5_sets 9 = .ok (.iconst 0, 1) := by decide +kernel
theorem dX5_sets_10 : decode cX5_sets 10 = .ok (.iconst 2, 1) := by decide +kernel
theorem dX5_sets_11 : decode cX5_sets 11 = .ok (.invokestatic 59, 3) := by decide +kernel
theorem dX5_sets_14 : decode cX5_sets 14 = .ok (.ifCond .eq 39, 3) := by decide +kernel
theorem dX5_sets_17 : decode cX5_sets 17 = .ok (.iload_n 3, 1) := by decide +kernel
theorem dX5_sets_18 : decode cX5_sets 18 = .ok (.iload_n 2, 1) := by decide +kernel
theorem dX5_sets_19 : decode cX5_sets 19 = .ok (.iconst 1, 1) := by decide +kernel
theorem dX5_sets_20 : decode cX5_sets 20 = .ok (.if_icmp .ne 7, 3) := by decide +kernel
theorem dX5_sets_23 : decode cX5_sets 23 = .ok (.iconst 1, 1) := by decide +kernel
theorem dX5_sets_24 : decode cX5_sets 24 = .ok (.goto 4, 3) := by decide +kernel
theorem dX5_sets_27 : decode cX5_sets 27 = .ok (.iconst 0, 1) := by decide +kernel
theorem dX5_sets_28 : decode cX5_sets 28 = .ok (.iload_n 2, 1) := by decide +kernel
theorem dX5_sets_29 : decode cX5_sets 29 = .ok (.ifCond .ne 7, 3) := by decide +kernel
theorem dX5_sets_32 : decode cX5_sets 32 = .ok (.iconst 5, 1) := by decide +kernel
theorem dX5_sets_33 : decode cX5_sets 33 = .ok (.goto 14, 3) := by decide +kernel
theorem dX5_sets_36 : decode cX5_sets 36 = .ok (.iload_n 2, 1) := by decide +kernel
theorem dX5_sets_37 : decode cX5_sets 37 = .ok (.iconst 1, 1) := by decide +kernel
theorem dX5_sets_38 : decode cX5_sets 38 = .ok (.if_icmp .ne 8, 3) := by decide +kernel
theorem dX5_sets_41 : decode cX5_sets 41 = .ok (.bipush 20, 2) := by decide +kernel
theorem dX5_sets_43 : decode cX5_sets 43 = .ok (.goto 4, 3) := by decide +kernel
theorem dX5_sets_46 : decode cX5_sets 46 = .ok (.iconst 1, 1) := by decide +kernel
theorem dX5_sets_47 : decode cX5_sets 47 = .ok (.invokestatic 59, 3) := by decide +kernel
theorem dX5_sets_50 : decode cX5_sets 50 = .ok (.ifCond .ne 10, 3) := by decide +kernel
theorem dX5_sets_53 : decode cX5_sets 53 = .ok (.aload_n 0, 1) := by decide +kernel
theorem dX5_sets_54 : decode cX5_sets 54 = .ok (.bipush (-2), 2) := by decide +kernel
theorem dX5_sets_56 : decode cX5_sets 56 = .ok (.invokevirtual 63, 3) := by decide +kernel
theorem dX5_sets_59 : decode cX5_sets 59 = .ok (.ireturn, 1) := by decide +kernel
theorem dX5_sets_60 : decode cX5_sets 60 = .ok (.iload_n 2, 1) := by decide +kernel
theorem dX5_sets_61 : decode cX5_sets 61 = .ok (.ifCond .ne 12, 3) := by decide +kernel
theorem dX5_sets_64 : decode cX5_sets 64 = .ok (.aload_n 0, 1) := by decide +kernel
theorem dX5_sets_65 : decode cX5_sets 65 = .ok (.getfield 7, 3) := by decide +kernel
theorem dX5_sets_68 : decode cX5_sets 68 = .ok (.iload_n 1, 1) := by decide +kernel
theorem dX5_sets_69 : decode cX5_sets 69 = .ok (.iaload, 1) := by decide +kernel
theorem dX5_sets_70 : decode cX5_sets 70 = .ok (.goto 23, 3) := by decide +kernel
theorem dX5_sets_73 : decode cX5_sets 73 = .ok (.iload_n 2, 1) := by decide +kernel
theorem dX5_sets_74 : decode cX5_sets 74 = .ok (.iconst 1, 1) := by decide +kernel
theorem dX5_sets_75 : decode cX5_sets 75 = .ok (.if_icmp .ne 12, 3) := by decide +kernel
theorem dX5_sets_78 : decode cX5_sets 78 = .ok (.aload_n 0, 1) := by decide +kernel
theorem dX5_sets_79 : decode cX5_sets 79 = .ok (.getfield 13, 3) := by decide +kernel
theorem dX5_sets_82 : decode cX5_sets 82 = .ok (.iload_n 1, 1) := by decide +kernel
theorem dX5_sets_83 : decode cX5_sets 83 = .ok (.iaload, 1) := by decide +kernel
theorem dX5_sets_84 : decode cX5_sets 84 = .ok (.goto 9, 3) := by decide +kernel
theorem dX5_sets_87 : decode cX5_sets 87 = .ok (.aload_n 0, 1) := by decide +kernel
theorem dX5_sets_88 : decode cX5_sets 88 = .ok (.getfield 19, 3) := by decide +kernel
theorem dX5_sets_91 : decode cX5_sets 91 = .ok (.iload_n 1, 1) := by decide +kernel
theorem dX5_sets_92 : decode cX5_sets 92 = .ok (.iaload, 1) := by decide +kernel
theorem dX5_sets_93 : decode cX5_sets 93 = .ok (.istore 4, 2) := by decide +kernel
theorem dX5_sets_95 : decode cX5_sets 95 = .ok (.iload_n 2, 1) := by decide +kernel
theorem dX5_sets_96 : decode cX5_sets 96 = .ok (.ifCond .ne 13, 3) := by decide +kernel
theorem dX5_sets_99 : decode cX5_sets 99 = .ok (.aload_n 0, 1) := by decide +kernel
theorem dX5_sets_100 : decode cX5_sets 100 = .ok (.getfield 7, 3) := by decide +kernel
theorem dX5_sets_103 : decode cX5_sets 103 = .ok (.iload_n 1, 1) := by decide +kernel
theorem dX5_sets_104 : decode cX5_sets 104 = .ok (.iload_n 3, 1) := by decide +kernel
theorem dX5_sets_105 : decode cX5_sets 105 = .ok (.iastore, 1) := by decide +kernel
theorem dX5_sets_106 : decode cX5_sets 106 = .ok (.goto 25, 3) := by decide +kernel
theorem dX5_sets_109 : decode cX5_sets 109 = .ok (.iload_n 2, 1) := by decide +kernel
theorem dX5_sets_110 : decode cX5_sets 110 = .ok (.iconst 1, 1) := by decide +kernel
theorem dX5_sets_111 : decode cX5_sets 111 = .ok (.if_icmp .ne 13, 3) := by decide +kernel
theorem dX5_sets_114 : decode cX5_sets 114 = .ok (.aload_n 0, 1) := by decide +kernel
theorem dX5_sets_115 : decode cX5_sets 115 = .ok (.getfield 13, 3) := by decide +kernel
theorem dX5_sets_118 : decode cX5_sets 118 = .ok (.iload_n 1, 1) := by decide +kernel
theorem dX5_sets_119 : decode cX5_sets 119 = .ok (.iload_n 3, 1) := by decide +kernel
theorem dX5_sets_120 : decode cX5_sets 120 = .ok (.iastore, 1) := by decide +kernel
theorem dX5_sets_121 : decode cX5_sets 121 = .ok (.goto 10, 3) := by decide +kernel
theorem dX5_sets_124 : decode cX5_sets 124 = .ok (.aload_n 0, 1) := by decide +kernel
theorem dX5_sets_125 : decode cX5_sets 125 = .ok (.getfield 19, 3) := by decide +kernel
theorem dX5_sets_128 : decode cX5_sets 128 = .ok (.iload_n 1, 1) := by decide +kernel
theorem dX5_sets_129 : decode cX5_sets 129 = .ok (.iload_n 3, 1) := by decide +kernel
theorem dX5_sets_130 : decode cX5_sets 130 = .ok (.iastore, 1) := by decide +kernel
theorem dX5_sets_131 : decode cX5_sets 131 = .ok (.aload_n 0, 1) := by decide +kernel
theorem dX5_sets_132 : decode cX5_sets 132 = .ok (.iconst 0, 1) := by decide +kernel
theorem dX5_sets_133 : decode cX5_sets 133 = .ok (.putfield 67, 3) := by decide +kernel
theorem dX5_sets_136 : decode cX5_sets 136 = .ok (.iload 4, 2) := by decide +kernel
theorem dX5_sets_138 : decode cX5_sets 138 = .ok (.ireturn, 1) := by decide +kernel
theorem dX5_weight_0 : decode cX5_weight 0 = .ok (.iload_n 1, 1) := by decide +kernel
theorem dX5_weight_1 : decode cX5_weight 1 = .ok (.invokestatic 74, 3) := by decide +kernel
theorem dX5_weight_4 : decode cX5_weight 4 = .ok (.ifCond .eq 13, 3) := by decide +kernel
theorem dX5_weight_7 : decode cX5_weight 7 = .ok (.iload_n 2, 1) := by decide +kernel
theorem dX5_weight_8 : decode cX5_weight 8 = .ok (.iconst 0, 1) := by decide +kernel
theorem dX5_weight_9 : decode cX5_weight 9 = .ok (.bipush 9, 2) := by decide +kernel
theorem dX5_weight_11 : decode cX5_weight 11 = .ok (.invokestatic 59, 3) := by decide +kernel
theorem dX5_weight_14 : decode cX5_weight 14 = .ok (.ifCond .ne 10, 3) := by decide +kernel
theorem dX5_weight_17 : decode cX5_weight 17 = .ok (.aload_n 0, 1) := by decide +kernel
theorem dX5_weight_18 : decode cX5_weight 18 = .ok (.bipush (-2), 2) := by decide +kernel
theorem dX5_weight_20 : decode cX5_weight 20 = .ok (.invokevirtual 63, 3) := by decide +kernel
theorem dX5_weight_23 : decode cX5_weight 23 = .ok (.ireturn, 1) := by decide +kernel
theorem dX5_weight_24 : decode cX5_weight 24 = .ok (.aload_n 0, 1) := by decide +kernel
theorem dX5_weight_25 : decode cX5_weight 25 = .ok (.getfield 22, 3) := by decide +kernel
theorem dX5_weight_28 : decode cX5_weight 28 = .ok (.iload_n 1, 1) := by decide +kernel
theorem dX5_weight_29 : decode cX5_weight 29 = .ok (.iaload, 1) := by decide +kernel
theorem dX5_weight_30 : decode cX5_weight 30 = .ok (.istore_n 3, 1) := by decide +kernel
theorem dX5_weight_31 : decode cX5_weight 31 = .ok (.aload_n 0, 1) := by decide +kernel
theorem dX5_weight_32 : decode cX5_weight 32 = .ok (.getfield 22, 3) := by decide +kernel
theorem dX5_weight_35 : decode cX5_weight 35 = .ok (.iload_n 1, 1) := by decide +kernel
theorem dX5_weight_36 : decode cX5_weight 36 = .ok (.iload_n 2, 1) := by decide +kernel
theorem dX5_weight_37 : decode cX5_weight 37 = .ok (.iastore, 1) := by decide +kernel
theorem dX5_weight_38 : decode cX5_weight 38 = .ok (.aload_n 0, 1) := by decide +kernel
theorem dX5_weight_39 : decode cX5_weight 39 = .ok (.iconst 0, 1) := by decide +kernel
theorem dX5_weight_40 : decode cX5_weight 40 = .ok (.putfield 67, 3) := by decide +kernel
theorem dX5_weight_43 : decode cX5_weight 43 = .ok (.iload_n 3, 1) := by decide +kernel
theorem dX5_weight_44 : decode cX5_weight 44 = .ok (.ireturn, 1) := by decide +kernel
theorem dX5_fuse_0 : decode cX5_fuse 0 = .ok (.iload_n 1, 1) := by decide +kernel
theorem dX5_fuse_1 : decode cX5_fuse 1 = .ok (.iconst 1, 1) := by decide +kernel
theorem dX5_fuse_2 : decode cX5_fuse 2 = .ok (.sipush 400, 3) := by decide +kernel
theorem dX5_fuse_5 : decode cX5_fuse 5 = .ok (.invokestatic 59, 3) := by decide +kernel
theorem dX5_fuse_8 : decode cX5_fuse 8 = .ok (.ifCond .ne 10, 3) := by decide +kernel
theorem dX5_fuse_11 : decode cX5_fuse 11 = .ok (.aload_n 0, 1) := by decide +kernel
theorem dX5_fuse_12 : decode cX5_fuse 12 = .ok (.bipush (-2), 2) := by decide +kernel
theorem dX5_fuse_14 : decode cX5_fuse 14 = .ok (.invokevirtual 63, 3) := by decide +kernel
theorem dX5_fuse_17 : decode cX5_fuse 17 = .ok (.ireturn, 1) := by decide +kernel
theorem dX5_fuse_18 : decode cX5_fuse 18 = .ok (.aload_n 0, 1) := by decide +kernel
theorem dX5_fuse_19 : decode cX5_fuse 19 = .ok (.getfield 25, 3) := by decide +kernel
theorem dX5_fuse_22 : decode cX5_fuse 22 = .ok (.istore_n 2, 1) := by decide +kernel
theorem dX5_fuse_23 : decode cX5_fuse 23 = .ok (.aload_n 0, 1) := by decide +kernel
theorem dX5_fuse_24 : decode cX5_fuse 24 = .ok (.iload_n 1, 1) := by decide +kernel
theorem dX5_fuse_25 : decode cX5_fuse 25 = .ok (.putfield 25, 3) := by decide +kernel
theorem dX5_fuse_28 : decode cX5_fuse 28 = .ok (.aload_n 0, 1) := by decide +kernel
theorem dX5_fuse_29 : decode cX5_fuse 29 = .ok (.iconst 0, 1) := by decide +kernel
theorem dX5_fuse_30 : decode cX5_fuse 30 = .ok (.putfield 67, 3) := by decide +kernel
theorem dX5_fuse_33 : decode cX5_fuse 33 = .ok (.iload_n 2, 1) := by decide +kernel
theorem dX5_fuse_34 : decode cX5_fuse 34 = .ok (.ireturn, 1) := by decide +kernel
theorem dX5_leastOf_0 : decode cX5_leastOf 0 = .ok (.iconst 1, 1) := by decide +kernel
theorem dX5_leastOf_1 : decode cX5_leastOf 1 = .ok (.iload_n 1, 1) := by decide +kernel
theorem dX5_leastOf_2 : decode cX5_leastOf 2 = .ok (.ishl, 1) := by decide +kernel
theorem dX5_leastOf_3 : decode cX5_leastOf 3 = .ok (.istore_n 2, 1) := by decide +kernel
theorem dX5_leastOf_4 : decode cX5_leastOf 4 = .ok (.iconst 0, 1) := by decide +kernel
theorem dX5_leastOf_5 : decode cX5_leastOf 5 = .ok (.istore_n 3, 1) := by decide +kernel
theorem dX5_leastOf_6 : decode cX5_leastOf 6 = .ok (.iload_n 3, 1) := by decide +kernel
theorem dX5_leastOf_7 : decode cX5_leastOf 7 = .ok (.bipush 6, 2) := by decide +kernel
theorem dX5_leastOf_9 : decode cX5_leastOf 9 = .ok (.if_icmp .ge 70, 3) := by decide +kernel
theorem dX5_leastOf_12 : decode cX5_leastOf 12 = .ok (.iconst 0, 1) := by decide +kernel
theorem dX5_leastOf_13 : decode cX5_leastOf 13 = .ok (.istore 4, 2) := by decide +kernel
theorem dX5_leastOf_15 : decode cX5_leastOf 15 = .ok (.iload 4, 2) := by decide +kernel
theorem dX5_leastOf_17 : decode cX5_leastOf 17 = .ok (.aload_n 0, 1) := by decide +kernel
theorem dX5_leastOf_18 : decode cX5_leastOf 18 = .ok (.getfield 77, 3) := by decide +kernel
theorem dX5_leastOf_21 : decode cX5_leastOf 21 = .ok (.if_icmp .ge 52, 3) := by decide +kernel
theorem dX5_leastOf_24 : decode cX5_leastOf 24 = .ok (.iconst 1, 1) := by decide +kernel
theorem dX5_leastOf_25 : decode cX5_leastOf 25 = .ok (.aload_n 0, 1) := by decide +kernel
theorem dX5_leastOf_26 : decode cX5_leastOf 26 = .ok (.getfield 29, 3) := by decide +kernel
theorem dX5_leastOf_29 : decode cX5_leastOf 29 = .ok (.iconst 2, 1) := by decide +kernel
theorem dX5_leastOf_30 : decode cX5_leastOf 30 = .ok (.iload 4, 2) := by decide +kernel
theorem dX5_leastOf_32 : decode cX5_leastOf 32 = .ok (.imul, 1) := by decide +kernel
theorem dX5_leastOf_33 : decode cX5_leastOf 33 = .ok (.iaload, 1) := by decide +kernel
theorem dX5_leastOf_34 : decode cX5_leastOf 34 = .ok (.ishl, 1) := by decide +kernel
theorem dX5_leastOf_35 : decode cX5_leastOf 35 = .ok (.iconst 1, 1) := by decide +kernel
theorem dX5_leastOf_36 : decode cX5_leastOf 36 = .ok (.aload_n 0, 1) := by decide +kernel
theorem dX5_leastOf_37 : decode cX5_leastOf 37 = .ok (.getfield 29, 3) := by decide +kernel
theorem dX5_leastOf_40 : decode cX5_leastOf 40 = .ok (.iconst 2, 1) := by decide +kernel
theorem dX5_leastOf_41 : decode cX5_leastOf 41 = .ok (.iload 4, 2) := by decide +kernel
theorem dX5_leastOf_43 : decode cX5_leastOf 43 = .ok (.imul, 1) := by decide +kernel
theorem dX5_leastOf_44 : decode cX5_leastOf 44 = .ok (.iconst 1, 1) := by decide +kernel
theorem dX5_leastOf_45 : decode cX5_leastOf 45 = .ok (.iadd, 1) := by decide +kernel
theorem dX5_leastOf_46 : decode cX5_leastOf 46 = .ok (.iaload, 1) := by decide +kernel
theorem dX5_leastOf_47 : decode cX5_leastOf 47 = .ok (.ishl, 1) := by decide +kernel
theorem dX5_leastOf_48 : decode cX5_leastOf 48 = .ok (.ior, 1) := by decide +kernel
theorem dX5_leastOf_49 : decode cX5_leastOf 49 = .ok (.istore 5, 2) := by decide +kernel
theorem dX5_leastOf_51 : decode cX5_leastOf 51 = .ok (.iload_n 2, 1) := by decide +kernel
theorem dX5_leastOf_52 : decode cX5_leastOf 52 = .ok (.iload_n 2, 1) := by decide +kernel
theorem dX5_leastOf_53 : decode cX5_leastOf 53 = .ok (.iload 5, 2) := by decide +kernel
theorem dX5_leastOf_55 : decode cX5_leastOf 55 = .ok (.iand, 1) := by decide +kernel
theorem dX5_leastOf_56 : decode cX5_leastOf 56 = .ok (.ifCond .eq 8, 3) := by decide +kernel
theorem dX5_leastOf_59 : decode cX5_leastOf 59 = .ok (.iload 5, 2) := by decide +kernel
theorem dX5_leastOf_61 : decode cX5_leastOf 61 = .ok (.goto 4, 3) := by decide +kernel
theorem dX5_leastOf_64 : decode cX5_leastOf 64 = .ok (.iconst 0, 1) := by decide +kernel
theorem dX5_leastOf_65 : decode cX5_leastOf 65 = .ok (.ior, 1) := by decide +kernel
theorem dX5_leastOf_66 : decode cX5_leastOf 66 = .ok (.istore_n 2, 1) := by decide +kernel
theorem dX5_leastOf_67 : decode cX5_leastOf 67 = .ok (.iinc 4 1, 3) := by decide +kernel
theorem dX5_leastOf_70 : decode cX5_leastOf 70 = .ok (.goto (-55), 3) := by decide +kernel
theorem dX5_leastOf_73 : decode cX5_leastOf 73 = .ok (.iinc 3 1, 3) := by decide +kernel
theorem dX5_leastOf_76 : decode cX5_leastOf 76 = .ok (.goto (-70), 3) := by decide +kernel
theorem dX5_leastOf_79 : decode cX5_leastOf 79 = .ok (.iconst 0, 1) := by decide +kernel
theorem dX5_leastOf_80 : decode cX5_leastOf 80 = .ok (.istore_n 3, 1) := by decide +kernel
theorem dX5_leastOf_81 : decode cX5_leastOf 81 = .ok (.iload_n 2, 1) := by decide +kernel
theorem dX5_leastOf_82 : decode cX5_leastOf 82 = .ok (.iload_n 3, 1) := by decide +kernel
theorem dX5_leastOf_83 : decode cX5_leastOf 83 = .ok (.ishr, 1) := by decide +kernel
theorem dX5_leastOf_84 : decode cX5_leastOf 84 = .ok (.iconst 1, 1) := by decide +kernel
theorem dX5_leastOf_85 : decode cX5_leastOf 85 = .ok (.iand, 1) := by decide +kernel
theorem dX5_leastOf_86 : decode cX5_leastOf 86 = .ok (.ifCond .ne 9, 3) := by decide +kernel
theorem dX5_leastOf_89 : decode cX5_leastOf 89 = .ok (.iinc 3 1, 3) := by decide +kernel
theorem dX5_leastOf_92 : decode cX5_leastOf 92 = .ok (.goto (-11), 3) := by decide +kernel
theorem dX5_leastOf_95 : decode cX5_leastOf 95 = .ok (.iload_n 3, 1) := by decide +kernel
theorem dX5_leastOf_96 : decode cX5_leastOf 96 = .ok (.ireturn, 1) := by decide +kernel
theorem dX5_isTied_0 : decode cX5_isTied 0 = .ok (.iconst 0, 1) := by decide +kernel
theorem dX5_isTied_1 : decode cX5_isTied 1 = .ok (.istore_n 2, 1) := by decide +kernel
theorem dX5_isTied_2 : decode cX5_isTied 2 = .ok (.iconst 0, 1) := by decide +kernel
theorem dX5_isTied_3 : decode cX5_isTied 3 = .ok (.istore_n 3, 1) := by decide +kernel
theorem dX5_isTied_4 : decode cX5_isTied 4 = .ok (.iload_n 3, 1) := by decide +kernel
theorem dX5_isTied_5 : decode cX5_isTied 5 = .ok (.iconst 2, 1) := by decide +kernel
theorem dX5_isTied_6 : decode cX5_isTied 6 = .ok (.aload_n 0, 1) := by decide +kernel
theorem dX5_isTied_7 : decode cX5_isTied 7 = .ok (.getfield 77, 3) := by decide +kernel
theorem dX5_isTied_10 : decode cX5_isTied 10 = .ok (.imul, 1) := by decide +kernel
theorem dX5_isTied_11 : decode cX5_isTied 11 = .ok (.if_icmp .ge 29, 3) := by decide +kernel
theorem dX5_isTied_14 : decode cX5_isTied 14 = .ok (.iload_n 2, 1) := by decide +kernel
theorem dX5_isTied_15 : decode cX5_isTied 15 = .ok (.ifCond .ne 13, 3) := by decide +kernel
theorem dX5_isTied_18 : decode cX5_isTied 18 = .ok (.aload_n 0, 1) := by decide +kernel
theorem dX5_isTied_19 : decode cX5_isTied 19 = .ok (.getfield 29, 3) := by decide +kernel
theorem dX5_isTied_22 : decode cX5_isTied 22 = .ok (.iload_n 3, 1) := by decide +kernel
theorem dX5_isTied_23 : decode cX5_isTied 23 = .ok (.iaload, 1) := by decide +kernel
theorem dX5_isTied_24 : decode cX5_isTied 24 = .ok (.iload_n 1, 1) := by decide +kernel
theorem dX5_isTied_25 : decode cX5_isTied 25 = .ok (.if_icmp .ne 7, 3) := by decide +kernel
theorem dX5_isTied_28 : decode cX5_isTied 28 = .ok (.iconst 1, 1) := by decide +kernel
theorem dX5_isTied_29 : decode cX5_isTied 29 = .ok (.goto 4, 3) := by decide +kernel
theorem dX5_isTied_32 : decode cX5_isTied 32 = .ok (.iconst 0, 1) := by decide +kernel
theorem dX5_isTied_33 : decode cX5_isTied 33 = .ok (.istore_n 2, 1) := by decide +kernel
theorem dX5_isTied_34 : decode cX5_isTied 34 = .ok (.iinc 3 1, 3) := by decide +kernel
theorem dX5_isTied_37 : decode cX5_isTied 37 = .ok (.goto (-33), 3) := by decide +kernel
theorem dX5_isTied_40 : decode cX5_isTied 40 = .ok (.iload_n 2, 1) := by decide +kernel
theorem dX5_isTied_41 : decode cX5_isTied 41 = .ok (.ireturn, 1) := by decide +kernel
theorem dX5_tie_0 : decode cX5_tie 0 = .ok (.aload_n 0, 1) := by decide +kernel
theorem dX5_tie_1 : decode cX5_tie 1 = .ok (.iload_n 1, 1) := by decide +kernel
theorem dX5_tie_2 : decode cX5_tie 2 = .ok (.invokevirtual 70, 3) := by decide +kernel
theorem dX5_tie_5 : decode cX5_tie 5 = .ok (.ifCond .eq 16, 3) := by decide +kernel
theorem dX5_tie_8 : decode cX5_tie 8 = .ok (.aload_n 0, 1) := by decide +kernel
theorem dX5_tie_9 : decode cX5_tie 9 = .ok (.iload_n 2, 1) := by decide +kernel
theorem dX5_tie_10 : decode cX5_tie 10 = .ok (.invokevirtual 70, 3) := by decide +kernel
theorem dX5_tie_13 : decode cX5_tie 13 = .ok (.ifCond .eq 8, 3) := by decide +kernel
theorem dX5_tie_16 : decode cX5_tie 16 = .ok (.iload_n 1, 1) := by decide +kernel
theorem dX5_tie_17 : decode cX5_tie 17 = .ok (.iload_n 2, 1) := by decide +kernel
theorem dX5_tie_18 : decode cX5_tie 18 = .ok (.if_icmp .ne 10, 3) := by decide +kernel
theorem dX5_tie_21 : decode cX5_tie 21 = .ok (.aload_n 0, 1) := by decide +kernel
theorem dX5_tie_22 : decode cX5_tie 22 = .ok (.bipush (-2), 2) := by decide +kernel
theorem dX5_tie_24 : decode cX5_tie 24 = .ok (.invokevirtual 63, 3) := by decide +kernel
theorem dX5_tie_27 : decode cX5_tie 27 = .ok (.ireturn, 1) := by decide +kernel
theorem dX5_tie_28 : decode cX5_tie 28 = .ok (.aload_n 0, 1) := by decide +kernel
theorem dX5_tie_29 : decode cX5_tie 29 = .ok (.iload_n 1, 1) := by decide +kernel
theorem dX5_tie_30 : decode cX5_tie 30 = .ok (.invokevirtual 80, 3) := by decide +kernel
theorem dX5_tie_33 : decode cX5_tie 33 = .ok (.aload_n 0, 1) := by decide +kernel
theorem dX5_tie_34 : decode cX5_tie 34 = .ok (.iload_n 2, 1) := by decide +kernel
theorem dX5_tie_35 : decode cX5_tie 35 = .ok (.invokevirtual 80, 3) := by decide +kernel
theorem dX5_tie_38 : decode cX5_tie 38 = .ok (.if_icmp .ne 10, 3) := by decide +kernel
theorem dX5_tie_41 : decode cX5_tie 41 = .ok (.aload_n 0, 1) := by decide +kernel
theorem dX5_tie_42 : decode cX5_tie 42 = .ok (.bipush (-3), 2) := by decide +kernel
theorem dX5_tie_44 : decode cX5_tie 44 = .ok (.invokevirtual 63, 3) := by decide +kernel
theorem dX5_tie_47 : decode cX5_tie 47 = .ok (.ireturn, 1) := by decide +kernel
theorem dX5_tie_48 : decode cX5_tie 48 = .ok (.aload_n 0, 1) := by decide +kernel
theorem dX5_tie_49 : decode cX5_tie 49 = .ok (.getfield 77, 3) := by decide +kernel
theorem dX5_tie_52 : decode cX5_tie 52 = .ok (.bipush 6, 2) := by decide +kernel
theorem dX5_tie_54 : decode cX5_tie 54 = .ok (.if_icmp .ne 10, 3) := by decide +kernel
theorem dX5_tie_57 : decode cX5_tie 57 = .ok (.aload_n 0, 1) := by decide +kernel
theorem dX5_tie_58 : decode cX5_tie 58 = .ok (.bipush (-4), 2) := by decide +kernel
theorem dX5_tie_60 : decode cX5_tie 60 = .ok (.invokevirtual 63, 3) := by decide +kernel
theorem dX5_tie_63 : decode cX5_tie 63 = .ok (.ireturn, 1) := by decide +kernel
theorem dX5_tie_64 : decode cX5_tie 64 = .ok (.aload_n 0, 1) := by decide +kernel
theorem dX5_tie_65 : decode cX5_tie 65 = .ok (.getfield 29, 3) := by decide +kernel
theorem dX5_tie_68 : decode cX5_tie 68 = .ok (.iconst 2, 1) := by decide +kernel
theorem dX5_tie_69 : decode cX5_tie 69 = .ok (.aload_n 0, 1) := by decide +kernel
theorem dX5_tie_70 : decode cX5_tie 70 = .ok (.getfield 77, 3) := by decide +kernel
theorem dX5_tie_73 : decode cX5_tie 73 = .ok (.imul, 1) := by decide +kernel
theorem dX5_tie_74 : decode cX5_tie 74 = .ok (.iload_n 1, 1) := by decide +kernel
theorem dX5_tie_75 : decode cX5_tie 75 = .ok (.iastore, 1) := by decide +kernel
theorem dX5_tie_76 : decode cX5_tie 76 = .ok (.aload_n 0, 1) := by decide +kernel
theorem dX5_tie_77 : decode cX5_tie 77 = .ok (.getfield 29, 3) := by decide +kernel
theorem dX5_tie_80 : decode cX5_tie 80 = .ok (.iconst 2, 1) := by decide +kernel
theorem dX5_tie_81 : decode cX5_tie 81 = .ok (.aload_n 0, 1) := by decide +kernel
theorem dX5_tie_82 : decode cX5_tie 82 = .ok (.getfield 77, 3) := by decide +kernel
theorem dX5_tie_85 : decode cX5_tie 85 = .ok (.imul, 1) := by decide +kernel
theorem dX5_tie_86 : decode cX5_tie 86 = .ok (.iconst 1, 1) := by decide +kernel
theorem dX5_tie_87 : decode cX5_tie 87 = .ok (.iadd, 1) := by decide +kernel
theorem dX5_tie_88 : decode cX5_tie 88 = .ok (.iload_n 2, 1) := by decide +kernel
theorem dX5_tie_89 : decode cX5_tie 89 = .ok (.iastore, 1) := by decide +kernel
theorem dX5_tie_90 : decode cX5_tie 90 = .ok (.aload_n 0, 1) := by decide +kernel
theorem dX5_tie_91 : decode cX5_tie 91 = .ok (.dup, 1) := by decide +kernel
theorem dX5_tie_92 : decode cX5_tie 92 = .ok (.getfield 77, 3) := by decide +kernel
theorem dX5_tie_95 : decode cX5_tie 95 = .ok (.iconst 1, 1) := by decide +kernel
theorem dX5_tie_96 : decode cX5_tie 96 = .ok (.iadd, 1) := by decide +kernel
theorem dX5_tie_97 : decode cX5_tie 97 = .ok (.putfield 77, 3) := by decide +kernel
theorem dX5_tie_100 : decode cX5_tie 100 = .ok (.aload_n 0, 1) := by decide +kernel
theorem dX5_tie_101 : decode cX5_tie 101 = .ok (.iconst 0, 1) := by decide +kernel
theorem dX5_tie_102 : decode cX5_tie 102 = .ok (.putfield 67, 3) := by decide +kernel
theorem dX5_tie_105 : decode cX5_tie 105 = .ok (.aload_n 0, 1) := by decide +kernel
theorem dX5_tie_106 : decode cX5_tie 106 = .ok (.getfield 77, 3) := by decide +kernel
theorem dX5_tie_109 : decode cX5_tie 109 = .ok (.ireturn, 1) := by decide +kernel
theorem dX5_loosens_0 : decode cX5_loosens 0 = .ok (.aload_n 0, 1) := by decide +kernel
theorem dX5_loosens_1 : decode cX5_loosens 1 = .ok (.getfield 77, 3) := by decide +kernel
theorem dX5_loosens_4 : decode cX5_loosens 4 = .ok (.istore_n 1, 1) := by decide +kernel
theorem dX5_loosens_5 : decode cX5_loosens 5 = .ok (.aload_n 0, 1) := by decide +kernel
theorem dX5_loosens_6 : decode cX5_loosens 6 = .ok (.iconst 0, 1) := by decide +kernel
theorem dX5_loosens_7 : decode cX5_loosens 7 = .ok (.putfield 77, 3) := by decide +kernel
theorem dX5_loosens_10 : decode cX5_loosens 10 = .ok (.aload_n 0, 1) := by decide +kernel
theorem dX5_loosens_11 : decode cX5_loosens 11 = .ok (.iconst 0, 1) := by decide +kernel
theorem dX5_loosens_12 : decode cX5_loosens 12 = .ok (.putfield 67, 3) := by decide +kernel
theorem dX5_loosens_15 : decode cX5_loosens 15 = .ok (.iload_n 1, 1) := by decide +kernel
theorem dX5_loosens_16 : decode cX5_loosens 16 = .ok (.ireturn, 1) := by decide +kernel
theorem dX5_anew_0 : decode cX5_anew 0 = .ok (.aload_n 0, 1) := by decide +kernel
theorem dX5_anew_1 : decode cX5_anew 1 = .ok (.getfield 56, 3) := by decide +kernel
theorem dX5_anew_4 : decode cX5_anew 4 = .ok (.istore_n 1, 1) := by decide +kernel
theorem dX5_anew_5 : decode cX5_anew 5 = .ok (.aload_n 0, 1) := by decide +kernel
theorem dX5_anew_6 : decode cX5_anew 6 = .ok (.iconst 0, 1) := by decide +kernel
theorem dX5_anew_7 : decode cX5_anew 7 = .ok (.putfield 56, 3) := by decide +kernel
theorem dX5_anew_10 : decode cX5_anew 10 = .ok (.aload_n 0, 1) := by decide +kernel
theorem dX5_anew_11 : decode cX5_anew 11 = .ok (.iconst 0, 1) := by decide +kernel
theorem dX5_anew_12 : decode cX5_anew 12 = .ok (.putfield 77, 3) := by decide +kernel
theorem dX5_anew_15 : decode cX5_anew 15 = .ok (.aload_n 0, 1) := by decide +kernel
theorem dX5_anew_16 : decode cX5_anew 16 = .ok (.iconst 0, 1) := by decide +kernel
theorem dX5_anew_17 : decode cX5_anew 17 = .ok (.putfield 67, 3) := by decide +kernel
theorem dX5_anew_20 : decode cX5_anew 20 = .ok (.aload_n 0, 1) := by decide +kernel
theorem dX5_anew_21 : decode cX5_anew 21 = .ok (.sipush 400, 3) := by decide +kernel
theorem dX5_anew_24 : decode cX5_anew 24 = .ok (.putfield 25, 3) := by decide +kernel
theorem dX5_anew_27 : decode cX5_anew 27 = .ok (.iconst 0, 1) := by decide +kernel
theorem dX5_anew_28 : decode cX5_anew 28 = .ok (.istore_n 2, 1) := by decide +kernel
theorem dX5_anew_29 : decode cX5_anew 29 = .ok (.iload_n 2, 1) := by decide +kernel
theorem dX5_anew_30 : decode cX5_anew 30 = .ok (.bipush 6, 2) := by decide +kernel
theorem dX5_anew_32 : decode cX5_anew 32 = .ok (.if_icmp .ge 16, 3) := by decide +kernel
theorem dX5_anew_35 : decode cX5_anew 35 = .ok (.aload_n 0, 1) := by decide +kernel
theorem dX5_anew_36 : decode cX5_anew 36 = .ok (.getfield 22, 3) := by decide +kernel
theorem dX5_anew_39 : decode cX5_anew 39 = .ok (.iload_n 2, 1) := by decide +kernel
theorem dX5_anew_40 : decode cX5_anew 40 = .ok (.iconst 1, 1) := by decide +kernel
theorem dX5_anew_41 : decode cX5_anew 41 = .ok (.iastore, 1) := by decide +kernel
theorem dX5_anew_42 : decode cX5_anew 42 = .ok (.iinc 2 1, 3) := by decide +kernel
theorem dX5_anew_45 : decode cX5_anew 45 = .ok (.goto (-16), 3) := by decide +kernel
theorem dX5_anew_48 : decode cX5_anew 48 = .ok (.iload_n 1, 1) := by decide +kernel
theorem dX5_anew_49 : decode cX5_anew 49 = .ok (.ireturn, 1) := by decide +kernel
theorem dX5_draw_0 : decode cX5_draw 0 = .ok (.iload_n 1, 1) := by decide +kernel
theorem dX5_draw_1 : decode cX5_draw 1 = .ok (.iconst 0, 1) := by decide +kernel
theorem dX5_draw_2 : decode cX5_draw 2 = .ok (.ldc 83, 2) := by decide +kernel
theorem dX5_draw_4 : decode cX5_draw 4 = .ok (.invokestatic 59, 3) := by decide +kernel
theorem dX5_draw_7 : decode cX5_draw 7 = .ok (.ifCond .eq 13, 3) := by decide +kernel
theorem dX5_draw_10 : decode cX5_draw 10 = .ok (.iload_n 2, 1) := by decide +kernel
theorem dX5_draw_11 : decode cX5_draw 11 = .ok (.iconst 0, 1) := by decide +kernel
theorem dX5_draw_12 : decode cX5_draw 12 = .ok (.bipush 9, 2) := by decide +kernel
theorem dX5_draw_14 : decode cX5_draw 14 = .ok (.invokestatic 59, 3) := by decide +kernel
theorem dX5_draw_17 : decode cX5_draw 17 = .ok (.ifCond .ne 10, 3) := by decide +kernel
theorem dX5_draw_20 : decode cX5_draw 20 = .ok (.aload_n 0, 1) := by decide +kernel
theorem dX5_draw_21 : decode cX5_draw 21 = .ok (.bipush (-2), 2) := by decide +kernel
theorem dX5_draw_23 : decode cX5_draw 23 = .ok (.invokevirtual 63, 3) := by decide +kernel
theorem dX5_draw_26 : decode cX5_draw 26 = .ok (.ireturn, 1) := by decide +kernel
theorem dX5_draw_27 : decode cX5_draw 27 = .ok (.aload_n 0, 1) := by decide +kernel
theorem dX5_draw_28 : decode cX5_draw 28 = .ok (.iload_n 2, 1) := by decide +kernel
theorem dX5_draw_29 : decode cX5_draw 29 = .ok (.putfield 56, 3) := by decide +kernel
theorem dX5_draw_32 : decode cX5_draw 32 = .ok (.aload_n 0, 1) := by decide +kernel
theorem dX5_draw_33 : decode cX5_draw 33 = .ok (.iconst 0, 1) := by decide +kernel
theorem dX5_draw_34 : decode cX5_draw 34 = .ok (.putfield 77, 3) := by decide +kernel
theorem dX5_draw_37 : decode cX5_draw 37 = .ok (.aload_n 0, 1) := by decide +kernel
theorem dX5_draw_38 : decode cX5_draw 38 = .ok (.iconst 0, 1) := by decide +kernel
theorem dX5_draw_39 : decode cX5_draw 39 = .ok (.putfield 67, 3) := by decide +kernel
theorem dX5_draw_42 : decode cX5_draw 42 = .ok (.iload_n 1, 1) := by decide +kernel
theorem dX5_draw_43 : decode cX5_draw 43 = .ok (.i2l, 1) := by decide +kernel
theorem dX5_draw_44 : decode cX5_draw 44 = .ok (.lstore_n 3, 1) := by decide +kernel
theorem dX5_draw_45 : decode cX5_draw 45 = .ok (.iconst 0, 1) := by decide +kernel
theorem dX5_draw_46 : decode cX5_draw 46 = .ok (.istore 5, 2) := by decide +kernel
theorem dX5_draw_48 : decode cX5_draw 48 = .ok (.iload 5, 2) := by decide +kernel
theorem dX5_draw_50 : decode cX5_draw 50 = .ok (.iload_n 2, 1) := by decide +kernel
theorem dX5_draw_51 : decode cX5_draw 51 = .ok (.if_icmp .ge 84, 3) := by decide +kernel
theorem dX5_draw_54 : decode cX5_draw 54 = .ok (.lload_n 3, 1) := by decide +kernel
theorem dX5_draw_55 : decode cX5_draw 55 = .ok (.ldc2_w 84, 3) := by decide +kernel
theorem dX5_draw_58 : decode cX5_draw 58 = .ok (.lmul, 1) := by decide +kernel
theorem dX5_draw_59 : decode cX5_draw 59 = .ok (.ldc2_w 86, 3) := by decide +kernel
theorem dX5_draw_62 : decode cX5_draw 62 = .ok (.ladd, 1) := by decide +kernel
theorem dX5_draw_63 : decode cX5_draw 63 = .ok (.ldc2_w 88, 3) := by decide +kernel
theorem dX5_draw_66 : decode cX5_draw 66 = .ok (.lrem, 1) := by decide +kernel
theorem dX5_draw_67 : decode cX5_draw 67 = .ok (.lstore_n 3, 1) := by decide +kernel
theorem dX5_draw_68 : decode cX5_draw 68 = .ok (.aload_n 0, 1) := by decide +kernel
theorem dX5_draw_69 : decode cX5_draw 69 = .ok (.getfield 7, 3) := by decide +kernel
theorem dX5_draw_72 : decode cX5_draw 72 = .ok (.iload 5, 2) := by decide +kernel
theorem dX5_draw_74 : decode cX5_draw 74 = .ok (.lload_n 3, 1) := by decide +kernel
theorem dX5_draw_75 : decode cX5_draw 75 = .ok (.ldc2_w 90, 3) := by decide +kernel
theorem dX5_draw_78 : decode cX5_draw 78 = .ok (.ldiv, 1) := by decide +kernel
theorem dX5_draw_79 : decode cX5_draw 79 = .ok (.ldc2_w 92, 3) := by decide +kernel
theorem dX5_draw_82 : decode cX5_draw 82 = .ok (.lrem, 1) := by decide +kernel
theorem dX5_draw_83 : decode cX5_draw 83 = .ok (.l2i, 1) := by decide +kernel
theorem dX5_draw_84 : decode cX5_draw 84 = .ok (.iastore, 1) := by decide +kernel
theorem dX5_draw_85 : decode cX5_draw 85 = .ok (.aload_n 0, 1) := by decide +kernel
theorem dX5_draw_86 : decode cX5_draw 86 = .ok (.getfield 13, 3) := by decide +kernel
theorem dX5_draw_89 : decode cX5_draw 89 = .ok (.iload 5, 2) := by decide +kernel
theorem dX5_draw_91 : decode cX5_draw 91 = .ok (.lload_n 3, 1) := by decide +kernel
theorem dX5_draw_92 : decode cX5_draw 92 = .ok (.ldc2_w 94, 3) := by decide +kernel
theorem dX5_draw_95 : decode cX5_draw 95 = .ok (.ldiv, 1) := by decide +kernel
theorem dX5_draw_96 : decode cX5_draw 96 = .ok (.ldc2_w 96, 3) := by decide +kernel
theorem dX5_draw_99 : decode cX5_draw 99 = .ok (.lrem, 1) := by decide +kernel
theorem dX5_draw_100 : decode cX5_draw 100 = .ok (.l2i, 1) := by decide +kernel
theorem dX5_draw_101 : decode cX5_draw 101 = .ok (.iconst 1, 1) := by decide +kernel
theorem dX5_draw_102 : decode cX5_draw 102 = .ok (.iadd, 1) := by decide +kernel
theorem dX5_draw_103 : decode cX5_draw 103 = .ok (.iastore, 1) := by decide +kernel
theorem dX5_draw_104 : decode cX5_draw 104 = .ok (.aload_n 0, 1) := by decide +kernel
theorem dX5_draw_105 : decode cX5_draw 105 = .ok (.getfield 16, 3) := by decide +kernel
theorem dX5_draw_108 : decode cX5_draw 108 = .ok (.iload 5, 2) := by decide +kernel
theorem dX5_draw_110 : decode cX5_draw 110 = .ok (.lload_n 3, 1) := by decide +kernel
theorem dX5_draw_111 : decode cX5_draw 111 = .ok (.ldc2_w 98, 3) := by decide +kernel
theorem dX5_draw_114 : decode cX5_draw 114 = .ok (.ldiv, 1) := by decide +kernel
theorem dX5_draw_115 : decode cX5_draw 115 = .ok (.ldc2_w 100, 3) := by decide +kernel
theorem dX5_draw_118 : decode cX5_draw 118 = .ok (.lrem, 1) := by decide +kernel
theorem dX5_draw_119 : decode cX5_draw 119 = .ok (.l2i, 1) := by decide +kernel
theorem dX5_draw_120 : decode cX5_draw 120 = .ok (.iastore, 1) := by decide +kernel
theorem dX5_draw_121 : decode cX5_draw 121 = .ok (.aload_n 0, 1) := by decide +kernel
theorem dX5_draw_122 : decode cX5_draw 122 = .ok (.getfield 19, 3) := by decide +kernel
theorem dX5_draw_125 : decode cX5_draw 125 = .ok (.iload 5, 2) := by decide +kernel
theorem dX5_draw_127 : decode cX5_draw 127 = .ok (.iconst 0, 1) := by decide +kernel
theorem dX5_draw_128 : decode cX5_draw 128 = .ok (.iastore, 1) := by decide +kernel
theorem dX5_draw_129 : decode cX5_draw 129 = .ok (.iinc 5 1, 3) := by decide +kernel
theorem dX5_draw_132 : decode cX5_draw 132 = .ok (.goto (-84), 3) := by decide +kernel
theorem dX5_draw_135 : decode cX5_draw 135 = .ok (.iload_n 2, 1) := by decide +kernel
theorem dX5_draw_136 : decode cX5_draw 136 = .ok (.ireturn, 1) := by decide +kernel
theorem dX5_of_0 : decode cX5_of 0 = .ok (.aload_n 0, 1) := by decide +kernel
theorem dX5_of_1 : decode cX5_of 1 = .ok (.iload_n 1, 1) := by decide +kernel
theorem dX5_of_2 : decode cX5_of 2 = .ok (.invokevirtual 70, 3) := by decide +kernel
theorem dX5_of_5 : decode cX5_of 5 = .ok (.ifCond .eq 12, 3) := by decide +kernel
theorem dX5_of_8 : decode cX5_of 8 = .ok (.iload_n 2, 1) := by decide +kernel
theorem dX5_of_9 : decode cX5_of 9 = .ok (.iconst 0, 1) := by decide +kernel
theorem dX5_of_10 : decode cX5_of 10 = .ok (.iconst 4, 1) := by decide +kernel
theorem dX5_of_11 : decode cX5_of 11 = .ok (.invokestatic 59, 3) := by decide +kernel
theorem dX5_of_14 : decode cX5_of 14 = .ok (.ifCond .ne 10, 3) := by decide +kernel
theorem dX5_of_17 : decode cX5_of 17 = .ok (.aload_n 0, 1) := by decide +kernel
theorem dX5_of_18 : decode cX5_of 18 = .ok (.bipush (-2), 2) := by decide +kernel
theorem dX5_of_20 : decode cX5_of 20 = .ok (.invokevirtual 63, 3) := by decide +kernel
theorem dX5_of_23 : decode cX5_of 23 = .ok (.ireturn, 1) := by decide +kernel
theorem dX5_of_24 : decode cX5_of 24 = .ok (.iload_n 2, 1) := by decide +kernel
theorem dX5_of_25 : decode cX5_of 25 = .ok (.ifCond .ne 12, 3) := by decide +kernel
theorem dX5_of_28 : decode cX5_of 28 = .ok (.aload_n 0, 1) := by decide +kernel
theorem dX5_of_29 : decode cX5_of 29 = .ok (.getfield 7, 3) := by decide +kernel
theorem dX5_of_32 : decode cX5_of 32 = .ok (.iload_n 1, 1) := by decide +kernel
theorem dX5_of_33 : decode cX5_of 33 = .ok (.iaload, 1) := by decide +kernel
theorem dX5_of_34 : decode cX5_of 34 = .ok (.goto 50, 3) := by decide +kernel
theorem dX5_of_37 : decode cX5_of 37 = .ok (.iload_n 2, 1) := by decide +kernel
theorem dX5_of_38 : decode cX5_of 38 = .ok (.iconst 1, 1) := by decide +kernel
theorem dX5_of_39 : decode cX5_of 39 = .ok (.if_icmp .ne 12, 3) := by decide +kernel
theorem dX5_of_42 : decode cX5_of 42 = .ok (.aload_n 0, 1) := by decide +kernel
theorem dX5_of_43 : decode cX5_of 43 = .ok (.getfield 13, 3) := by decide +kernel
theorem dX5_of_46 : decode cX5_of 46 = .ok (.iload_n 1, 1) := by decide +kernel
theorem dX5_of_47 : decode cX5_of 47 = .ok (.iaload, 1) := by decide +kernel
theorem dX5_of_48 : decode cX5_of 48 = .ok (.goto 36, 3) := by decide +kernel
theorem dX5_of_51 : decode cX5_of 51 = .ok (.iload_n 2, 1) := by decide +kernel
theorem dX5_of_52 : decode cX5_of 52 = .ok (.iconst 2, 1) := by decide +kernel
theorem dX5_of_53 : decode cX5_of 53 = .ok (.if_icmp .ne 12, 3) := by decide +kernel
theorem dX5_of_56 : decode cX5_of 56 = .ok (.aload_n 0, 1) := by decide +kernel
theorem dX5_of_57 : decode cX5_of 57 = .ok (.getfield 16, 3) := by decide +kernel
theorem dX5_of_60 : decode cX5_of 60 = .ok (.iload_n 1, 1) := by decide +kernel
theorem dX5_of_61 : decode cX5_of 61 = .ok (.iaload, 1) := by decide +kernel
theorem dX5_of_62 : decode cX5_of 62 = .ok (.goto 22, 3) := by decide +kernel
theorem dX5_of_65 : decode cX5_of 65 = .ok (.iload_n 2, 1) := by decide +kernel
theorem dX5_of_66 : decode cX5_of 66 = .ok (.iconst 3, 1) := by decide +kernel
theorem dX5_of_67 : decode cX5_of 67 = .ok (.if_icmp .ne 12, 3) := by decide +kernel
theorem dX5_of_70 : decode cX5_of 70 = .ok (.aload_n 0, 1) := by decide +kernel
theorem dX5_of_71 : decode cX5_of 71 = .ok (.getfield 19, 3) := by decide +kernel
theorem dX5_of_74 : decode cX5_of 74 = .ok (.iload_n 1, 1) := by decide +kernel
theorem dX5_of_75 : decode cX5_of 75 = .ok (.iaload, 1) := by decide +kernel
theorem dX5_of_76 : decode cX5_of 76 = .ok (.goto 8, 3) := by decide +kernel
theorem dX5_of_79 : decode cX5_of 79 = .ok (.aload_n 0, 1) := by decide +kernel
theorem dX5_of_80 : decode cX5_of 80 = .ok (.iload_n 1, 1) := by decide +kernel
theorem dX5_of_81 : decode cX5_of 81 = .ok (.invokevirtual 80, 3) := by decide +kernel
theorem dX5_of_84 : decode cX5_of 84 = .ok (.ireturn, 1) := by decide +kernel
theorem dX5_takesOf_0 : decode cX5_takesOf 0 = .ok (.aload_n 0, 1) := by decide +kernel
theorem dX5_takesOf_1 : decode cX5_takesOf 1 = .ok (.getfield 13, 3) := by decide +kernel
theorem dX5_takesOf_4 : decode cX5_takesOf 4 = .ok (.iload_n 1, 1) := by decide +kernel
theorem dX5_takesOf_5 : decode cX5_takesOf 5 = .ok (.iaload, 1) := by decide +kernel
theorem dX5_takesOf_6 : decode cX5_takesOf 6 = .ok (.istore_n 3, 1) := by decide +kernel
theorem dX5_takesOf_7 : decode cX5_takesOf 7 = .ok (.iload_n 2, 1) := by decide +kernel
theorem dX5_takesOf_8 : decode cX5_takesOf 8 = .ok (.iconst 2, 1) := by decide +kernel
theorem dX5_takesOf_9 : decode cX5_takesOf 9 = .ok (.if_icmp .eq 8, 3) := by decide +kernel
theorem dX5_takesOf_12 : decode cX5_takesOf 12 = .ok (.iload_n 2, 1) := by decide +kernel
theorem dX5_takesOf_13 : decode cX5_takesOf 13 = .ok (.iconst 3, 1) := by decide +kernel
theorem dX5_takesOf_14 : decode cX5_takesOf 14 = .ok (.if_icmp .ne 7, 3) := by decide +kernel
theorem dX5_takesOf_17 : decode cX5_takesOf 17 = .ok (.iconst 1, 1) := by decide +kernel
theorem dX5_takesOf_18 : decode cX5_takesOf 18 = .ok (.goto 4, 3) := by decide +kernel
theorem dX5_takesOf_21 : decode cX5_takesOf 21 = .ok (.iconst 0, 1) := by decide +kernel
theorem dX5_takesOf_22 : decode cX5_takesOf 22 = .ok (.istore 4, 2) := by decide +kernel
theorem dX5_takesOf_24 : decode cX5_takesOf 24 = .ok (.aload_n 0, 1) := by decide +kernel
theorem dX5_takesOf_25 : decode cX5_takesOf 25 = .ok (.getfield 7, 3) := by decide +kernel
theorem dX5_takesOf_28 : decode cX5_takesOf 28 = .ok (.iload_n 1, 1) := by decide +kernel
theorem dX5_takesOf_29 : decode cX5_takesOf 29 = .ok (.iaload, 1) := by decide +kernel
theorem dX5_takesOf_30 : decode cX5_takesOf 30 = .ok (.tableswitch 104 0 4 #[34, 36, 49, 60, 86], 34) := by decide +kernel
theorem dX5_takesOf_64 : decode cX5_takesOf 64 = .ok (.iload_n 3, 1) := by decide +kernel
theorem dX5_takesOf_65 : decode cX5_takesOf 65 = .ok (.ireturn, 1) := by decide +kernel
theorem dX5_takesOf_66 : decode cX5_takesOf 66 = .ok (.iload 4, 2) := by decide +kernel
theorem dX5_takesOf_68 : decode cX5_takesOf 68 = .ok (.ifCond .eq 9, 3) := by decide +kernel
theorem dX5_takesOf_71 : decode cX5_takesOf 71 = .ok (.iconst 2, 1) := by decide +kernel
theorem dX5_takesOf_72 : decode cX5_takesOf 72 = .ok (.iload_n 3, 1) := by decide +kernel
theorem dX5_takesOf_73 : decode cX5_takesOf 73 = .ok (.imul, 1) := by decide +kernel
theorem dX5_takesOf_74 : decode cX5_takesOf 74 = .ok (.goto 4, 3) := by decide +kernel
theorem dX5_takesOf_77 : decode cX5_takesOf 77 = .ok (.iload_n 3, 1) := by decide +kernel
theorem dX5_takesOf_78 : decode cX5_takesOf 78 = .ok (.ireturn, 1) := by decide +kernel
theorem dX5_takesOf_79 : decode cX5_takesOf 79 = .ok (.iload 4, 2) := by decide +kernel
theorem dX5_takesOf_81 : decode cX5_takesOf 81 = .ok (.ifCond .eq 7, 3) := by decide +kernel
theorem dX5_takesOf_84 : decode cX5_takesOf 84 = .ok (.iconst 0, 1) := by decide +kernel
theorem dX5_takesOf_85 : decode cX5_takesOf 85 = .ok (.goto 4, 3) := by decide +kernel
theorem dX5_takesOf_88 : decode cX5_takesOf 88 = .ok (.iload_n 3, 1) := by decide +kernel
theorem dX5_takesOf_89 : decode cX5_takesOf 89 = .ok (.ireturn, 1) := by decide +kernel
theorem dX5_takesOf_90 : decode cX5_takesOf 90 = .ok (.iload_n 2, 1) := by decide +kernel
theorem dX5_takesOf_91 : decode cX5_takesOf 91 = .ok (.ifCond .eq 8, 3) := by decide +kernel
theorem dX5_takesOf_94 : decode cX5_takesOf 94 = .ok (.iload_n 2, 1) := by decide +kernel
theorem dX5_takesOf_95 : decode cX5_takesOf 95 = .ok (.iconst 5, 1) := by decide +kernel
theorem dX5_takesOf_96 : decode cX5_takesOf 96 = .ok (.if_icmp .ne 7, 3) := by decide +kernel
theorem dX5_takesOf_99 : decode cX5_takesOf 99 = .ok (.iconst 0, 1) := by decide +kernel
theorem dX5_takesOf_100 : decode cX5_takesOf 100 = .ok (.goto 15, 3) := by decide +kernel
theorem dX5_takesOf_103 : decode cX5_takesOf 103 = .ok (.iload 4, 2) := by decide +kernel
theorem dX5_takesOf_105 : decode cX5_takesOf 105 = .ok (.ifCond .eq 9, 3) := by decide +kernel
theorem dX5_takesOf_108 : decode cX5_takesOf 108 = .ok (.iconst 2, 1) := by decide +kernel
theorem dX5_takesOf_109 : decode cX5_takesOf 109 = .ok (.iload_n 3, 1) := by decide +kernel
theorem dX5_takesOf_110 : decode cX5_takesOf 110 = .ok (.imul, 1) := by decide +kernel
theorem dX5_takesOf_111 : decode cX5_takesOf 111 = .ok (.goto 4, 3) := by decide +kernel
theorem dX5_takesOf_114 : decode cX5_takesOf 114 = .ok (.iload_n 3, 1) := by decide +kernel
theorem dX5_takesOf_115 : decode cX5_takesOf 115 = .ok (.ireturn, 1) := by decide +kernel
theorem dX5_takesOf_116 : decode cX5_takesOf 116 = .ok (.iload_n 2, 1) := by decide +kernel
theorem dX5_takesOf_117 : decode cX5_takesOf 117 = .ok (.iconst 1, 1) := by decide +kernel
theorem dX5_takesOf_118 : decode cX5_takesOf 118 = .ok (.if_icmp .eq 8, 3) := by decide +kernel
theorem dX5_takesOf_121 : decode cX5_takesOf 121 = .ok (.iload_n 2, 1) := by decide +kernel
theorem dX5_takesOf_122 : decode cX5_takesOf 122 = .ok (.iconst 4, 1) := by decide +kernel
theorem dX5_takesOf_123 : decode cX5_takesOf 123 = .ok (.if_icmp .ne 9, 3) := by decide +kernel
theorem dX5_takesOf_126 : decode cX5_takesOf 126 = .ok (.iconst 3, 1) := by decide +kernel
theorem dX5_takesOf_127 : decode cX5_takesOf 127 = .ok (.iload_n 3, 1) := by decide +kernel
theorem dX5_takesOf_128 : decode cX5_takesOf 128 = .ok (.imul, 1) := by decide +kernel
theorem dX5_takesOf_129 : decode cX5_takesOf 129 = .ok (.goto 4, 3) := by decide +kernel
theorem dX5_takesOf_132 : decode cX5_takesOf 132 = .ok (.iconst 0, 1) := by decide +kernel
theorem dX5_takesOf_133 : decode cX5_takesOf 133 = .ok (.ireturn, 1) := by decide +kernel
theorem dX5_takesOf_134 : decode cX5_takesOf 134 = .ok (.iload_n 2, 1) := by decide +kernel
theorem dX5_takesOf_135 : decode cX5_takesOf 135 = .ok (.ifCond .eq 8, 3) := by decide +kernel
theorem dX5_takesOf_138 : decode cX5_takesOf 138 = .ok (.iload_n 2, 1) := by decide +kernel
theorem dX5_takesOf_139 : decode cX5_takesOf 139 = .ok (.iconst 1, 1) := by decide +kernel
theorem dX5_takesOf_140 : decode cX5_takesOf 140 = .ok (.if_icmp .ne 7, 3) := by decide +kernel
theorem dX5_takesOf_143 : decode cX5_takesOf 143 = .ok (.iconst 0, 1) := by decide +kernel
theorem dX5_takesOf_144 : decode cX5_takesOf 144 = .ok (.goto 5, 3) := by decide +kernel
theorem dX5_takesOf_147 : decode cX5_takesOf 147 = .ok (.iload_n 3, 1) := by decide +kernel
theorem dX5_takesOf_148 : decode cX5_takesOf 148 = .ok (.ineg, 1) := by decide +kernel
theorem dX5_takesOf_149 : decode cX5_takesOf 149 = .ok (.ireturn, 1) := by decide +kernel
theorem dX5_takes_0 : decode cX5_takes 0 = .ok (.aload_n 0, 1) := by decide +kernel
theorem dX5_takes_1 : decode cX5_takes 1 = .ok (.iload_n 1, 1) := by decide +kernel
theorem dX5_takes_2 : decode cX5_takes 2 = .ok (.invokevirtual 70, 3) := by decide +kernel
theorem dX5_takes_5 : decode cX5_takes 5 = .ok (.ifCond .eq 19, 3) := by decide +kernel
theorem dX5_takes_8 : decode cX5_takes 8 = .ok (.iload_n 2, 1) := by decide +kernel
theorem dX5_takes_9 : decode cX5_takes 9 = .ok (.invokestatic 74, 3) := by decide +kernel
theorem dX5_takes_12 : decode cX5_takes 12 = .ok (.ifCond .eq 12, 3) := by decide +kernel
theorem dX5_takes_15 : decode cX5_takes 15 = .ok (.aload_n 0, 1) := by decide +kernel
theorem dX5_takes_16 : decode cX5_takes 16 = .ok (.iload_n 1, 1) := by decide +kernel
theorem dX5_takes_17 : decode cX5_takes 17 = .ok (.iload_n 2, 1) := by decide +kernel
theorem dX5_takes_18 : decode cX5_takes 18 = .ok (.invokevirtual 102, 3) := by decide +kernel
theorem dX5_takes_21 : decode cX5_takes 21 = .ok (.goto 9, 3) := by decide +kernel
theorem dX5_takes_24 : decode cX5_takes 24 = .ok (.aload_n 0, 1) := by decide +kernel
theorem dX5_takes_25 : decode cX5_takes 25 = .ok (.bipush (-2), 2) := by decide +kernel
theorem dX5_takes_27 : decode cX5_takes 27 = .ok (.invokevirtual 63, 3) := by decide +kernel
theorem dX5_takes_30 : decode cX5_takes 30 = .ok (.ireturn, 1) := by decide +kernel
theorem dX5_table_0 : decode cX5_table 0 = .ok (.iconst 0, 1) := by decide +kernel
theorem dX5_table_1 : decode cX5_table 1 = .ok (.istore_n 1, 1) := by decide +kernel
theorem dX5_table_2 : decode cX5_table 2 = .ok (.iload_n 1, 1) := by decide +kernel
theorem dX5_table_3 : decode cX5_table 3 = .ok (.aload_n 0, 1) := by decide +kernel
theorem dX5_table_4 : decode cX5_table 4 = .ok (.getfield 56, 3) := by decide +kernel
theorem dX5_table_7 : decode cX5_table 7 = .ok (.if_icmp .ge 40, 3) := by decide +kernel
theorem dX5_table_10 : decode cX5_table 10 = .ok (.iconst 0, 1) := by decide +kernel
theorem dX5_table_11 : decode cX5_table 11 = .ok (.istore_n 2, 1) := by decide +kernel
theorem dX5_table_12 : decode cX5_table 12 = .ok (.iload_n 2, 1) := by decide +kernel
theorem dX5_table_13 : decode cX5_table 13 = .ok (.bipush 6, 2) := by decide +kernel
theorem dX5_table_15 : decode cX5_table 15 = .ok (.if_icmp .ge 26, 3) := by decide +kernel
theorem dX5_table_18 : decode cX5_table 18 = .ok (.aload_n 0, 1) := by decide +kernel
theorem dX5_table_19 : decode cX5_table 19 = .ok (.getfield 38, 3) := by decide +kernel
theorem dX5_table_22 : decode cX5_table 22 = .ok (.bipush 6, 2) := by decide +kernel
theorem dX5_table_24 : decode cX5_table 24 = .ok (.iload_n 1, 1) := by decide +kernel
theorem dX5_table_25 : decode cX5_table 25 = .ok (.imul, 1) := by decide +kernel
theorem dX5_table_26 : decode cX5_table 26 = .ok (.iload_n 2, 1) := by decide +kernel
theorem dX5_table_27 : decode cX5_table 27 = .ok (.iadd, 1) := by decide +kernel
theorem dX5_table_28 : decode cX5_table 28 = .ok (.aload_n 0, 1) := by decide +kernel
theorem dX5_table_29 : decode cX5_table 29 = .ok (.iload_n 1, 1) := by decide +kernel
theorem dX5_table_30 : decode cX5_table 30 = .ok (.iload_n 2, 1) := by decide +kernel
theorem dX5_table_31 : decode cX5_table 31 = .ok (.invokevirtual 102, 3) := by decide +kernel
theorem dX5_table_34 : decode cX5_table 34 = .ok (.iastore, 1) := by decide +kernel
theorem dX5_table_35 : decode cX5_table 35 = .ok (.iinc 2 1, 3) := by decide +kernel
theorem dX5_table_38 : decode cX5_table 38 = .ok (.goto (-26), 3) := by decide +kernel
theorem dX5_table_41 : decode cX5_table 41 = .ok (.iinc 1 1, 3) := by decide +kernel
theorem dX5_table_44 : decode cX5_table 44 = .ok (.goto (-42), 3) := by decide +kernel
theorem dX5_table_47 : decode cX5_table 47 = .ok (.return_, 1) := by decide +kernel
theorem dX5_loadsNow_0 : decode cX5_loadsNow 0 = .ok (.iconst 0, 1) := by decide +kernel
theorem dX5_loadsNow_1 : decode cX5_loadsNow 1 = .ok (.istore_n 1, 1) := by decide +kernel
theorem dX5_loadsNow_2 : decode cX5_loadsNow 2 = .ok (.iload_n 1, 1) := by decide +kernel
theorem dX5_loadsNow_3 : decode cX5_loadsNow 3 = .ok (.bipush 18, 2) := by decide +kernel
theorem dX5_loadsNow_5 : decode cX5_loadsNow 5 = .ok (.if_icmp .ge 16, 3) := by decide +kernel
theorem dX5_loadsNow_8 : decode cX5_loadsNow 8 = .ok (.aload_n 0, 1) := by decide +kernel
theorem dX5_loadsNow_9 : decode cX5_loadsNow 9 = .ok (.getfield 41, 3) := by decide +kernel
theorem dX5_loadsNow_12 : decode cX5_loadsNow 12 = .ok (.iload_n 1, 1) := by decide +kernel
theorem dX5_loadsNow_13 : decode cX5_loadsNow 13 = .ok (.iconst 0, 1) := by decide +kernel
theorem dX5_loadsNow_14 : decode cX5_loadsNow 14 = .ok (.iastore, 1) := by decide +kernel
theorem dX5_loadsNow_15 : decode cX5_loadsNow 15 = .ok (.iinc 1 1, 3) := by decide +kernel
theorem dX5_loadsNow_18 : decode cX5_loadsNow 18 = .ok (.goto (-16), 3) := by decide +kernel
theorem dX5_loadsNow_21 : decode cX5_loadsNow 21 = .ok (.iconst 0, 1) := by decide +kernel
theorem dX5_loadsNow_22 : decode cX5_loadsNow 22 = .ok (.istore_n 1, 1) := by decide +kernel
theorem dX5_loadsNow_23 : decode cX5_loadsNow 23 = .ok (.iload_n 1, 1) := by decide +kernel
theorem dX5_loadsNow_24 : decode cX5_loadsNow 24 = .ok (.aload_n 0, 1) := by decide +kernel
theorem dX5_loadsNow_25 : decode cX5_loadsNow 25 = .ok (.getfield 56, 3) := by decide +kernel
theorem dX5_loadsNow_28 : decode cX5_loadsNow 28 = .ok (.if_icmp .ge 52, 3) := by decide +kernel
theorem dX5_loadsNow_31 : decode cX5_loadsNow 31 = .ok (.iconst 0, 1) := by decide +kernel
theorem dX5_loadsNow_32 : decode cX5_loadsNow 32 = .ok (.istore_n 2, 1) := by decide +kernel
theorem dX5_loadsNow_33 : decode cX5_loadsNow 33 = .ok (.iload_n 2, 1) := by decide +kernel
theorem dX5_loadsNow_34 : decode cX5_loadsNow 34 = .ok (.bipush 6, 2) := by decide +kernel
theorem dX5_loadsNow_36 : decode cX5_loadsNow 36 = .ok (.if_icmp .ge 38, 3) := by decide +kernel
theorem dX5_loadsNow_39 : decode cX5_loadsNow 39 = .ok (.aload_n 0, 1) := by decide +kernel
theorem dX5_loadsNow_40 : decode cX5_loadsNow 40 = .ok (.getfield 41, 3) := by decide +kernel
theorem dX5_loadsNow_43 : decode cX5_loadsNow 43 = .ok (.iconst 3, 1) := by decide +kernel
theorem dX5_loadsNow_44 : decode cX5_loadsNow 44 = .ok (.iload_n 2, 1) := by decide +kernel
theorem dX5_loadsNow_45 : decode cX5_loadsNow 45 = .ok (.imul, 1) := by decide +kernel
theorem dX5_loadsNow_46 : decode cX5_loadsNow 46 = .ok (.aload_n 0, 1) := by decide +kernel
theorem dX5_loadsNow_47 : decode cX5_loadsNow 47 = .ok (.getfield 44, 3) := by decide +kernel
theorem dX5_loadsNow_50 : decode cX5_loadsNow 50 = .ok (.iload_n 1, 1) := by decide +kernel
theorem dX5_loadsNow_51 : decode cX5_loadsNow 51 = .ok (.iaload, 1) := by decide +kernel
theorem dX5_loadsNow_52 : decode cX5_loadsNow 52 = .ok (.iadd, 1) := by decide +kernel
theorem dX5_loadsNow_53 : decode cX5_loadsNow 53 = .ok (.dup2, 1) := by decide +kernel
theorem dX5_loadsNow_54 : decode cX5_loadsNow 54 = .ok (.iaload, 1) := by decide +kernel
theorem dX5_loadsNow_55 : decode cX5_loadsNow 55 = .ok (.aload_n 0, 1) := by decide +kernel
theorem dX5_loadsNow_56 : decode cX5_loadsNow 56 = .ok (.getfield 38, 3) := by decide +kernel
theorem dX5_loadsNow_59 : decode cX5_loadsNow 59 = .ok (.bipush 6, 2) := by decide +kernel
theorem dX5_loadsNow_61 : decode cX5_loadsNow 61 = .ok (.iload_n 1, 1) := by decide +kernel
theorem dX5_loadsNow_62 : decode cX5_loadsNow 62 = .ok (.imul, 1) := by decide +kernel
theorem dX5_loadsNow_63 : decode cX5_loadsNow 63 = .ok (.iload_n 2, 1) := by decide +kernel
theorem dX5_loadsNow_64 : decode cX5_loadsNow 64 = .ok (.iadd, 1) := by decide +kernel
theorem dX5_loadsNow_65 : decode cX5_loadsNow 65 = .ok (.iaload, 1) := by decide +kernel
theorem dX5_loadsNow_66 : decode cX5_loadsNow 66 = .ok (.iadd, 1) := by decide +kernel
theorem dX5_loadsNow_67 : decode cX5_loadsNow 67 = .ok (.iastore, 1) := by decide +kernel
theorem dX5_loadsNow_68 : decode cX5_loadsNow 68 = .ok (.iinc 2 1, 3) := by decide +kernel
theorem dX5_loadsNow_71 : decode cX5_loadsNow 71 = .ok (.goto (-38), 3) := by decide +kernel
theorem dX5_loadsNow_74 : decode cX5_loadsNow 74 = .ok (.iinc 1 1, 3) := by decide +kernel
theorem dX5_loadsNow_77 : decode cX5_loadsNow 77 = .ok (.goto (-54), 3) := by decide +kernel
theorem dX5_loadsNow_80 : decode cX5_loadsNow 80 = .ok (.return_, 1) := by decide +kernel
theorem dX5_asIs_0 : decode cX5_asIs 0 = .ok (.aload_n 0, 1) := by decide +kernel
theorem dX5_asIs_1 : decode cX5_asIs 1 = .ok (.invokevirtual 106, 3) := by decide +kernel
theorem dX5_asIs_4 : decode cX5_asIs 4 = .ok (.iconst 0, 1) := by decide +kernel
theorem dX5_asIs_5 : decode cX5_asIs 5 = .ok (.istore_n 1, 1) := by decide +kernel
theorem dX5_asIs_6 : decode cX5_asIs 6 = .ok (.iload_n 1, 1) := by decide +kernel
theorem dX5_asIs_7 : decode cX5_asIs 7 = .ok (.aload_n 0, 1) := by decide +kernel
theorem dX5_asIs_8 : decode cX5_asIs 8 = .ok (.getfield 56, 3) := by decide +kernel
theorem dX5_asIs_11 : decode cX5_asIs 11 = .ok (.if_icmp .ge 21, 3) := by decide +kernel
theorem dX5_asIs_14 : decode cX5_asIs 14 = .ok (.aload_n 0, 1) := by decide +kernel
theorem dX5_asIs_15 : decode cX5_asIs 15 = .ok (.getfield 44, 3) := by decide +kernel
theorem dX5_asIs_18 : decode cX5_asIs 18 = .ok (.iload_n 1, 1) := by decide +kernel
theorem dX5_asIs_19 : decode cX5_asIs 19 = .ok (.aload_n 0, 1) := by decide +kernel
theorem dX5_asIs_20 : decode cX5_asIs 20 = .ok (.getfield 16, 3) := by decide +kernel
theorem dX5_asIs_23 : decode cX5_asIs 23 = .ok (.iload_n 1, 1) := by decide +kernel
theorem dX5_asIs_24 : decode cX5_asIs 24 = .ok (.iaload, 1) := by decide +kernel
theorem dX5_asIs_25 : decode cX5_asIs 25 = .ok (.iastore, 1) := by decide +kernel
theorem dX5_asIs_26 : decode cX5_asIs 26 = .ok (.iinc 1 1, 3) := by decide +kernel
theorem dX5_asIs_29 : decode cX5_asIs 29 = .ok (.goto (-23), 3) := by decide +kernel
theorem dX5_asIs_32 : decode cX5_asIs 32 = .ok (.aload_n 0, 1) := by decide +kernel
theorem dX5_asIs_33 : decode cX5_asIs 33 = .ok (.invokevirtual 109, 3) := by decide +kernel
theorem dX5_asIs_36 : decode cX5_asIs 36 = .ok (.return_, 1) := by decide +kernel
theorem dX5_neutralNow_0 : decode cX5_neutralNow 0 = .ok (.aload_n 0, 1) := by decide +kernel
theorem dX5_neutralNow_1 : decode cX5_neutralNow 1 = .ok (.getfield 41, 3) := by decide +kernel
theorem dX5_neutralNow_4 : decode cX5_neutralNow 4 = .ok (.iconst 3, 1) := by decide +kernel
theorem dX5_neutralNow_5 : decode cX5_neutralNow 5 = .ok (.iload_n 1, 1) := by decide +kernel
theorem dX5_neutralNow_6 : decode cX5_neutralNow 6 = .ok (.imul, 1) := by decide +kernel
theorem dX5_neutralNow_7 : decode cX5_neutralNow 7 = .ok (.iaload, 1) := by decide +kernel
theorem dX5_neutralNow_8 : decode cX5_neutralNow 8 = .ok (.istore_n 2, 1) := by decide +kernel
theorem dX5_neutralNow_9 : decode cX5_neutralNow 9 = .ok (.aload_n 0, 1) := by decide +kernel
theorem dX5_neutralNow_10 : decode cX5_neutralNow 10 = .ok (.getfield 41, 3) := by decide +kernel
theorem dX5_neutralNow_13 : decode cX5_neutralNow 13 = .ok (.iconst 3, 1) := by decide +kernel
theorem dX5_neutralNow_14 : decode cX5_neutralNow 14 = .ok (.iload_n 1, 1) := by decide +kernel
theorem dX5_neutralNow_15 : decode cX5_neutralNow 15 = .ok (.imul, 1) := by decide +kernel
theorem dX5_neutralNow_16 : decode cX5_neutralNow 16 = .ok (.iconst 1, 1) := by decide +kernel
theorem dX5_neutralNow_17 : decode cX5_neutralNow 17 = .ok (.iadd, 1) := by decide +kernel
theorem dX5_neutralNow_18 : decode cX5_neutralNow 18 = .ok (.iaload, 1) := by decide +kernel
theorem dX5_neutralNow_19 : decode cX5_neutralNow 19 = .ok (.istore_n 3, 1) := by decide +kernel
theorem dX5_neutralNow_20 : decode cX5_neutralNow 20 = .ok (.aload_n 0, 1) := by decide +kernel
theorem dX5_neutralNow_21 : decode cX5_neutralNow 21 = .ok (.getfield 41, 3) := by decide +kernel
theorem dX5_neutralNow_24 : decode cX5_neutralNow 24 = .ok (.iconst 3, 1) := by decide +kernel
theorem dX5_neutralNow_25 : decode cX5_neutralNow 25 = .ok (.iload_n 1, 1) := by decide +kernel
theorem dX5_neutralNow_26 : decode cX5_neutralNow 26 = .ok (.imul, 1) := by decide +kernel
theorem dX5_neutralNow_27 : decode cX5_neutralNow 27 = .ok (.iconst 2, 1) := by decide +kernel
theorem dX5_neutralNow_28 : decode cX5_neutralNow 28 = .ok (.iadd, 1) := by decide +kernel
theorem dX5_neutralNow_29 : decode cX5_neutralNow 29 = .ok (.iaload, 1) := by decide +kernel
theorem dX5_neutralNow_30 : decode cX5_neutralNow 30 = .ok (.istore 4, 2) := by decide +kernel
theorem dX5_neutralNow_32 : decode cX5_neutralNow 32 = .ok (.iload_n 2, 1) := by decide +kernel
theorem dX5_neutralNow_33 : decode cX5_neutralNow 33 = .ok (.iload_n 2, 1) := by decide +kernel
theorem dX5_neutralNow_34 : decode cX5_neutralNow 34 = .ok (.imul, 1) := by decide +kernel
theorem dX5_neutralNow_35 : decode cX5_neutralNow 35 = .ok (.iload_n 3, 1) := by decide +kernel
theorem dX5_neutralNow_36 : decode cX5_neutralNow 36 = .ok (.iload_n 3, 1) := by decide +kernel
theorem dX5_neutralNow_37 : decode cX5_neutralNow 37 = .ok (.imul, 1) := by decide +kernel
theorem dX5_neutralNow_38 : decode cX5_neutralNow 38 = .ok (.iadd, 1) := by decide +kernel
theorem dX5_neutralNow_39 : decode cX5_neutralNow 39 = .ok (.iload 4, 2) := by decide +kernel
theorem dX5_neutralNow_41 : decode cX5_neutralNow 41 = .ok (.iload 4, 2) := by decide +kernel
theorem dX5_neutralNow_43 : decode cX5_neutralNow 43 = .ok (.imul, 1) := by decide +kernel
theorem dX5_neutralNow_44 : decode cX5_neutralNow 44 = .ok (.iadd, 1) := by decide +kernel
theorem dX5_neutralNow_45 : decode cX5_neutralNow 45 = .ok (.iload_n 2, 1) := by decide +kernel
theorem dX5_neutralNow_46 : decode cX5_neutralNow 46 = .ok (.iload_n 3, 1) := by decide +kernel
theorem dX5_neutralNow_47 : decode cX5_neutralNow 47 = .ok (.imul, 1) := by decide +kernel
theorem dX5_neutralNow_48 : decode cX5_neutralNow 48 = .ok (.isub, 1) := by decide +kernel
theorem dX5_neutralNow_49 : decode cX5_neutralNow 49 = .ok (.iload_n 3, 1) := by decide +kernel
theorem dX5_neutralNow_50 : decode cX5_neutralNow 50 = .ok (.iload 4, 2) := by decide +kernel
theorem dX5_neutralNow_52 : decode cX5_neutralNow 52 = .ok (.imul, 1) := by decide +kernel
theorem dX5_neutralNow_53 : decode cX5_neutralNow 53 = .ok (.isub, 1) := by decide +kernel
theorem dX5_neutralNow_54 : decode cX5_neutralNow 54 = .ok (.iload 4, 2) := by decide +kernel
theorem dX5_neutralNow_56 : decode cX5_neutralNow 56 = .ok (.iload_n 2, 1) := by decide +kernel
theorem dX5_neutralNow_57 : decode cX5_neutralNow 57 = .ok (.imul, 1) := by decide +kernel
theorem dX5_neutralNow_58 : decode cX5_neutralNow 58 = .ok (.isub, 1) := by decide +kernel
theorem dX5_neutralNow_59 : decode cX5_neutralNow 59 = .ok (.ireturn, 1) := by decide +kernel
theorem dX5_griefNow_0 : decode cX5_griefNow 0 = .ok (.iconst 0, 1) := by decide +kernel
theorem dX5_griefNow_1 : decode cX5_griefNow 1 = .ok (.istore_n 1, 1) := by decide +kernel
theorem dX5_griefNow_2 : decode cX5_griefNow 2 = .ok (.iconst 0, 1) := by decide +kernel
theorem dX5_griefNow_3 : decode cX5_griefNow 3 = .ok (.istore_n 2, 1) := by decide +kernel
theorem dX5_griefNow_4 : decode cX5_griefNow 4 = .ok (.iload_n 2, 1) := by decide +kernel
theorem dX5_griefNow_5 : decode cX5_griefNow 5 = .ok (.bipush 6, 2) := by decide +kernel
theorem dX5_griefNow_7 : decode cX5_griefNow 7 = .ok (.if_icmp .ge 24, 3) := by decide +kernel
theorem dX5_griefNow_10 : decode cX5_griefNow 10 = .ok (.iload_n 1, 1) := by decide +kernel
theorem dX5_griefNow_11 : decode cX5_griefNow 11 = .ok (.aload_n 0, 1) := by decide +kernel
theorem dX5_griefNow_12 : decode cX5_griefNow 12 = .ok (.getfield 22, 3) := by decide +kernel
theorem dX5_griefNow_15 : decode cX5_griefNow 15 = .ok (.iload_n 2, 1) := by decide +kernel
theorem dX5_griefNow_16 : decode cX5_griefNow 16 = .ok (.iaload, 1) := by decide +kernel
theorem dX5_griefNow_17 : decode cX5_griefNow 17 = .ok (.aload_n 0, 1) := by decide +kernel
theorem dX5_griefNow_18 : decode cX5_griefNow 18 = .ok (.iload_n 2, 1) := by decide +kernel
theorem dX5_griefNow_19 : decode cX5_griefNow 19 = .ok (.invokevirtual 112, 3) := by decide +kernel
theorem dX5_griefNow_22 : decode cX5_griefNow 22 = .ok (.imul, 1) := by decide +kernel
theorem dX5_griefNow_23 : decode cX5_griefNow 23 = .ok (.iadd, 1) := by decide +kernel
theorem dX5_griefNow_24 : decode cX5_griefNow 24 = .ok (.istore_n 1, 1) := by decide +kernel
theorem dX5_griefNow_25 : decode cX5_griefNow 25 = .ok (.iinc 2 1, 3) := by decide +kernel
theorem dX5_griefNow_28 : decode cX5_griefNow 28 = .ok (.goto (-24), 3) := by decide +kernel
theorem dX5_griefNow_31 : decode cX5_griefNow 31 = .ok (.iload_n 1, 1) := by decide +kernel
theorem dX5_griefNow_32 : decode cX5_griefNow 32 = .ok (.ireturn, 1) := by decide +kernel
theorem dX5_isSafe_0 : decode cX5_isSafe 0 = .ok (.iconst 1, 1) := by decide +kernel
theorem dX5_isSafe_1 : decode cX5_isSafe 1 = .ok (.istore_n 1, 1) := by decide +kernel
theorem dX5_isSafe_2 : decode cX5_isSafe 2 = .ok (.iconst 0, 1) := by decide +kernel
theorem dX5_isSafe_3 : decode cX5_isSafe 3 = .ok (.istore_n 2, 1) := by decide +kernel
theorem dX5_isSafe_4 : decode cX5_isSafe 4 = .ok (.iload_n 2, 1) := by decide +kernel
theorem dX5_isSafe_5 : decode cX5_isSafe 5 = .ok (.bipush 18, 2) := by decide +kernel
theorem dX5_isSafe_7 : decode cX5_isSafe 7 = .ok (.if_icmp .ge 40, 3) := by decide +kernel
theorem dX5_isSafe_10 : decode cX5_isSafe 10 = .ok (.iload_n 1, 1) := by decide +kernel
theorem dX5_isSafe_11 : decode cX5_isSafe 11 = .ok (.ifCond .eq 28, 3) := by decide +kernel
theorem dX5_isSafe_14 : decode cX5_isSafe 14 = .ok (.aload_n 0, 1) := by decide +kernel
theorem dX5_isSafe_15 : decode cX5_isSafe 15 = .ok (.getfield 41, 3) := by decide +kernel
theorem dX5_isSafe_18 : decode cX5_isSafe 18 = .ok (.iload_n 2, 1) := by decide +kernel
theorem dX5_isSafe_19 : decode cX5_isSafe 19 = .ok (.iaload, 1) := by decide +kernel
theorem dX5_isSafe_20 : decode cX5_isSafe 20 = .ok (.aload_n 0, 1) := by decide +kernel
theorem dX5_isSafe_21 : decode cX5_isSafe 21 = .ok (.getfield 25, 3) := by decide +kernel
theorem dX5_isSafe_24 : decode cX5_isSafe 24 = .ok (.ineg, 1) := by decide +kernel
theorem dX5_isSafe_25 : decode cX5_isSafe 25 = .ok (.aload_n 0, 1) := by decide +kernel
theorem dX5_isSafe_26 : decode cX5_isSafe 26 = .ok (.getfield 25, 3) := by decide +kernel
theorem dX5_isSafe_29 : decode cX5_isSafe 29 = .ok (.invokestatic 59, 3) := by decide +kernel
theorem dX5_isSafe_32 : decode cX5_isSafe 32 = .ok (.ifCond .eq 7, 3) := by decide +kernel
theorem dX5_isSafe_35 : decode cX5_isSafe 35 = .ok (.iconst 1, 1) := by decide +kernel
theorem dX5_isSafe_36 : decode cX5_isSafe 36 = .ok (.goto 4, 3) := by decide +kernel
theorem dX5_isSafe_39 : decode cX5_isSafe 39 = .ok (.iconst 0, 1) := by decide +kernel
theorem dX5_isSafe_40 : decode cX5_isSafe 40 = .ok (.istore_n 1, 1) := by decide +kernel
theorem dX5_isSafe_41 : decode cX5_isSafe 41 = .ok (.iinc 2 1, 3) := by decide +kernel
theorem dX5_isSafe_44 : decode cX5_isSafe 44 = .ok (.goto (-40), 3) := by decide +kernel
theorem dX5_isSafe_47 : decode cX5_isSafe 47 = .ok (.iload_n 1, 1) := by decide +kernel
theorem dX5_isSafe_48 : decode cX5_isSafe 48 = .ok (.ireturn, 1) := by decide +kernel
theorem dX5_isKept_0 : decode cX5_isKept 0 = .ok (.iconst 1, 1) := by decide +kernel
theorem dX5_isKept_1 : decode cX5_isKept 1 = .ok (.istore_n 1, 1) := by decide +kernel
theorem dX5_isKept_2 : decode cX5_isKept 2 = .ok (.iconst 0, 1) := by decide +kernel
theorem dX5_isKept_3 : decode cX5_isKept 3 = .ok (.istore_n 2, 1) := by decide +kernel
theorem dX5_isKept_4 : decode cX5_isKept 4 = .ok (.iload_n 2, 1) := by decide +kernel
theorem dX5_isKept_5 : decode cX5_isKept 5 = .ok (.aload_n 0, 1) := by decide +kernel
theorem dX5_isKept_6 : decode cX5_isKept 6 = .ok (.getfield 77, 3) := by decide +kernel
theorem dX5_isKept_9 : decode cX5_isKept 9 = .ok (.if_icmp .ge 50, 3) := by decide +kernel
theorem dX5_isKept_12 : decode cX5_isKept 12 = .ok (.iload_n 1, 1) := by decide +kernel
theorem dX5_isKept_13 : decode cX5_isKept 13 = .ok (.ifCond .eq 38, 3) := by decide +kernel
theorem dX5_isKept_16 : decode cX5_isKept 16 = .ok (.aload_n 0, 1) := by decide +kernel
theorem dX5_isKept_17 : decode cX5_isKept 17 = .ok (.getfield 44, 3) := by decide +kernel
theorem dX5_isKept_20 : decode cX5_isKept 20 = .ok (.aload_n 0, 1) := by decide +kernel
theorem dX5_isKept_21 : decode cX5_isKept 21 = .ok (.getfield 29, 3) := by decide +kernel
theorem dX5_isKept_24 : decode cX5_isKept 24 = .ok (.iconst 2, 1) := by decide +kernel
theorem dX5_isKept_25 : decode cX5_isKept 25 = .ok (.iload_n 2, 1) := by decide +kernel
theorem dX5_isKept_26 : decode cX5_isKept 26 = .ok (.imul, 1) := by decide +kernel
theorem dX5_isKept_27 : decode cX5_isKept 27 = .ok (.iaload, 1) := by decide +kernel
theorem dX5_isKept_28 : decode cX5_isKept 28 = .ok (.iaload, 1) := by decide +kernel
theorem dX5_isKept_29 : decode cX5_isKept 29 = .ok (.aload_n 0, 1) := by decide +kernel
theorem dX5_isKept_30 : decode cX5_isKept 30 = .ok (.getfield 44, 3) := by decide +kernel
theorem dX5_isKept_33 : decode cX5_isKept 33 = .ok (.aload_n 0, 1) := by decide +kernel
theorem dX5_isKept_34 : decode cX5_isKept 34 = .ok (.getfield 29, 3) := by decide +kernel
theorem dX5_isKept_37 : decode cX5_isKept 37 = .ok (.iconst 2, 1) := by decide +kernel
theorem dX5_isKept_38 : decode cX5_isKept 38 = .ok (.iload_n 2, 1) := by decide +kernel
theorem dX5_isKept_39 : decode cX5_isKept 39 = .ok (.imul, 1) := by decide +kernel
theorem dX5_isKept_40 : decode cX5_isKept 40 = .ok (.iconst 1, 1) := by decide +kernel
theorem dX5_isKept_41 : decode cX5_isKept 41 = .ok (.iadd, 1) := by decide +kernel
theorem dX5_isKept_42 : decode cX5_isKept 42 = .ok (.iaload, 1) := by decide +kernel
theorem dX5_isKept_43 : decode cX5_isKept 43 = .ok (.iaload, 1) := by decide +kernel
theorem dX5_isKept_44 : decode cX5_isKept 44 = .ok (.if_icmp .ne 7, 3) := by decide +kernel
theorem dX5_isKept_47 : decode cX5_isKept 47 = .ok (.iconst 1, 1) := by decide +kernel
theorem dX5_isKept_48 : decode cX5_isKept 48 = .ok (.goto 4, 3) := by decide +kernel
theorem dX5_isKept_51 : decode cX5_isKept 51 = .ok (.iconst 0, 1) := by decide +kernel
theorem dX5_isKept_52 : decode cX5_isKept 52 = .ok (.istore_n 1, 1) := by decide +kernel
theorem dX5_isKept_53 : decode cX5_isKept 53 = .ok (.iinc 2 1, 3) := by decide +kernel
theorem dX5_isKept_56 : decode cX5_isKept 56 = .ok (.goto (-52), 3) := by decide +kernel
theorem dX5_isKept_59 : decode cX5_isKept 59 = .ok (.iload_n 1, 1) := by decide +kernel
theorem dX5_isKept_60 : decode cX5_isKept 60 = .ok (.ireturn, 1) := by decide +kernel
theorem dX5_load_0 : decode cX5_load 0 = .ok (.aload_n 0, 1) := by decide +kernel
theorem dX5_load_1 : decode cX5_load 1 = .ok (.invokevirtual 115, 3) := by decide +kernel
theorem dX5_load_4 : decode cX5_load 4 = .ok (.iload_n 1, 1) := by decide +kernel
theorem dX5_load_5 : decode cX5_load 5 = .ok (.iconst 0, 1) := by decide +kernel
theorem dX5_load_6 : decode cX5_load 6 = .ok (.iconst 2, 1) := by decide +kernel
theorem dX5_load_7 : decode cX5_load 7 = .ok (.invokestatic 59, 3) := by decide +kernel
theorem dX5_load_10 : decode cX5_load 10 = .ok (.ifCond .eq 23, 3) := by decide +kernel
theorem dX5_load_13 : decode cX5_load 13 = .ok (.iload_n 2, 1) := by decide +kernel
theorem dX5_load_14 : decode cX5_load 14 = .ok (.invokestatic 74, 3) := by decide +kernel
theorem dX5_load_17 : decode cX5_load 17 = .ok (.ifCond .eq 16, 3) := by decide +kernel
theorem dX5_load_20 : decode cX5_load 20 = .ok (.aload_n 0, 1) := by decide +kernel
theorem dX5_load_21 : decode cX5_load 21 = .ok (.getfield 41, 3) := by decide +kernel
theorem dX5_load_24 : decode cX5_load 24 = .ok (.iconst 3, 1) := by decide +kernel
theorem dX5_load_25 : decode cX5_load 25 = .ok (.iload_n 2, 1) := by decide +kernel
theorem dX5_load_26 : decode cX5_load 26 = .ok (.imul, 1) := by decide +kernel
theorem dX5_load_27 : decode cX5_load 27 = .ok (.iload_n 1, 1) := by decide +kernel
theorem dX5_load_28 : decode cX5_load 28 = .ok (.iadd, 1) := by decide +kernel
theorem dX5_load_29 : decode cX5_load 29 = .ok (.iaload, 1) := by decide +kernel
theorem dX5_load_30 : decode cX5_load 30 = .ok (.goto 9, 3) := by decide +kernel
theorem dX5_load_33 : decode cX5_load 33 = .ok (.aload_n 0, 1) := by decide +kernel
theorem dX5_load_34 : decode cX5_load 34 = .ok (.bipush (-2), 2) := by decide +kernel
theorem dX5_load_36 : decode cX5_load 36 = .ok (.invokevirtual 63, 3) := by decide +kernel
theorem dX5_load_39 : decode cX5_load 39 = .ok (.ireturn, 1) := by decide +kernel
theorem dX5_neutral_0 : decode cX5_neutral 0 = .ok (.aload_n 0, 1) := by decide +kernel
theorem dX5_neutral_1 : decode cX5_neutral 1 = .ok (.invokevirtual 115, 3) := by decide +kernel
theorem dX5_neutral_4 : decode cX5_neutral 4 = .ok (.iload_n 1, 1) := by decide +kernel
theorem dX5_neutral_5 : decode cX5_neutral 5 = .ok (.invokestatic 74, 3) := by decide +kernel
theorem dX5_neutral_8 : decode cX5_neutral 8 = .ok (.ifCond .eq 11, 3) := by decide +kernel
theorem dX5_neutral_11 : decode cX5_neutral 11 = .ok (.aload_n 0, 1) := by decide +kernel
theorem dX5_neutral_12 : decode cX5_neutral 12 = .ok (.iload_n 1, 1) := by decide +kernel
theorem dX5_neutral_13 : decode cX5_neutral 13 = .ok (.invokevirtual 112, 3) := by decide +kernel
theorem dX5_neutral_16 : decode cX5_neutral 16 = .ok (.goto 9, 3) := by decide +kernel
theorem dX5_neutral_19 : decode cX5_neutral 19 = .ok (.aload_n 0, 1) := by decide +kernel
theorem dX5_neutral_20 : decode cX5_neutral 20 = .ok (.bipush (-2), 2) := by decide +kernel
theorem dX5_neutral_22 : decode cX5_neutral 22 = .ok (.invokevirtual 63, 3) := by decide +kernel
theorem dX5_neutral_25 : decode cX5_neutral 25 = .ok (.ireturn, 1) := by decide +kernel
theorem dX5_griefOf_0 : decode cX5_griefOf 0 = .ok (.aload_n 0, 1) := by decide +kernel
theorem dX5_griefOf_1 : decode cX5_griefOf 1 = .ok (.invokevirtual 115, 3) := by decide +kernel
theorem dX5_griefOf_4 : decode cX5_griefOf 4 = .ok (.aload_n 0, 1) := by decide +kernel
theorem dX5_griefOf_5 : decode cX5_griefOf 5 = .ok (.invokevirtual 118, 3) := by decide +kernel
theorem dX5_griefOf_8 : decode cX5_griefOf 8 = .ok (.ireturn, 1) := by decide +kernel
theorem dX5_grief_0 : decode cX5_grief 0 = .ok (.aload_n 0, 1) := by decide +kernel
theorem dX5_grief_1 : decode cX5_grief 1 = .ok (.invokevirtual 122, 3) := by decide +kernel
theorem dX5_grief_4 : decode cX5_grief 4 = .ok (.ireturn, 1) := by decide +kernel
theorem dX5_good_0 : decode cX5_good 0 = .ok (.aload_n 0, 1) := by decide +kernel
theorem dX5_good_1 : decode cX5_good 1 = .ok (.invokevirtual 115, 3) := by decide +kernel
theorem dX5_good_4 : decode cX5_good 4 = .ok (.iload_n 1, 1) := by decide +kernel
theorem dX5_good_5 : decode cX5_good 5 = .ok (.iconst 0, 1) := by decide +kernel
theorem dX5_good_6 : decode cX5_good 6 = .ok (.iconst 1, 1) := by decide +kernel
theorem dX5_good_7 : decode cX5_good 7 = .ok (.invokestatic 59, 3) := by decide +kernel
theorem dX5_good_10 : decode cX5_good 10 = .ok (.ifCond .eq 32, 3) := by decide +kernel
theorem dX5_good_13 : decode cX5_good 13 = .ok (.iload_n 1, 1) := by decide +kernel
theorem dX5_good_14 : decode cX5_good 14 = .ok (.ifCond .ne 13, 3) := by decide +kernel
theorem dX5_good_17 : decode cX5_good 17 = .ok (.aload_n 0, 1) := by decide +kernel
theorem dX5_good_18 : decode cX5_good 18 = .ok (.invokevirtual 125, 3) := by decide +kernel
theorem dX5_good_21 : decode cX5_good 21 = .ok (.ifCond .eq 17, 3) := by decide +kernel
theorem dX5_good_24 : decode cX5_good 24 = .ok (.goto 10, 3) := by decide +kernel
theorem dX5_good_27 : decode cX5_good 27 = .ok (.aload_n 0, 1) := by decide +kernel
theorem dX5_good_28 : decode cX5_good 28 = .ok (.invokevirtual 129, 3) := by decide +kernel
theorem dX5_good_31 : decode cX5_good 31 = .ok (.ifCond .eq 7, 3) := by decide +kernel
theorem dX5_good_34 : decode cX5_good 34 = .ok (.iconst 1, 1) := by decide +kernel
theorem dX5_good_35 : decode cX5_good 35 = .ok (.goto 13, 3) := by decide +kernel
theorem dX5_good_38 : decode cX5_good 38 = .ok (.iconst 0, 1) := by decide +kernel
theorem dX5_good_39 : decode cX5_good 39 = .ok (.goto 9, 3) := by decide +kernel
theorem dX5_good_42 : decode cX5_good 42 = .ok (.aload_n 0, 1) := by decide +kernel
theorem dX5_good_43 : decode cX5_good 43 = .ok (.bipush (-2), 2) := by decide +kernel
theorem dX5_good_45 : decode cX5_good 45 = .ok (.invokevirtual 63, 3) := by decide +kernel
theorem dX5_good_48 : decode cX5_good 48 = .ok (.ireturn, 1) := by decide +kernel
theorem dX5_size_0 : decode cX5_size 0 = .ok (.iload_n 0, 1) := by decide +kernel
theorem dX5_size_1 : decode cX5_size 1 = .ok (.ifCond .ge 8, 3) := by decide +kernel
theorem dX5_size_4 : decode cX5_size 4 = .ok (.iload_n 0, 1) := by decide +kernel
theorem dX5_size_5 : decode cX5_size 5 = .ok (.ineg, 1) := by decide +kernel
theorem dX5_size_6 : decode cX5_size 6 = .ok (.goto 4, 3) := by decide +kernel
theorem dX5_size_9 : decode cX5_size 9 = .ok (.iload_n 0, 1) := by decide +kernel
theorem dX5_size_10 : decode cX5_size 10 = .ok (.ireturn, 1) := by decide +kernel
theorem dX5_worst_0 : decode cX5_worst 0 = .ok (.iload_n 1, 1) := by decide +kernel
theorem dX5_worst_1 : decode cX5_worst 1 = .ok (.iconst 0, 1) := by decide +kernel
theorem dX5_worst_2 : decode cX5_worst 2 = .ok (.iconst 1, 1) := by decide +kernel
theorem dX5_worst_3 : decode cX5_worst 3 = .ok (.invokestatic 59, 3) := by decide +kernel
theorem dX5_worst_6 : decode cX5_worst 6 = .ok (.ifCond .ne 10, 3) := by decide +kernel
theorem dX5_worst_9 : decode cX5_worst 9 = .ok (.aload_n 0, 1) := by decide +kernel
theorem dX5_worst_10 : decode cX5_worst 10 = .ok (.bipush (-2), 2) := by decide +kernel
theorem dX5_worst_12 : decode cX5_worst 12 = .ok (.invokevirtual 63, 3) := by decide +kernel
theorem dX5_worst_15 : decode cX5_worst 15 = .ok (.ireturn, 1) := by decide +kernel
theorem dX5_worst_16 : decode cX5_worst 16 = .ok (.aload_n 0, 1) := by decide +kernel
theorem dX5_worst_17 : decode cX5_worst 17 = .ok (.invokevirtual 115, 3) := by decide +kernel
theorem dX5_worst_20 : decode cX5_worst 20 = .ok (.iconst 0, 1) := by decide +kernel
theorem dX5_worst_21 : decode cX5_worst 21 = .ok (.istore_n 2, 1) := by decide +kernel
theorem dX5_worst_22 : decode cX5_worst 22 = .ok (.iconst 0, 1) := by decide +kernel
theorem dX5_worst_23 : decode cX5_worst 23 = .ok (.istore_n 3, 1) := by decide +kernel
theorem dX5_worst_24 : decode cX5_worst 24 = .ok (.iconst 1, 1) := by decide +kernel
theorem dX5_worst_25 : decode cX5_worst 25 = .ok (.istore 4, 2) := by decide +kernel
theorem dX5_worst_27 : decode cX5_worst 27 = .ok (.iload 4, 2) := by decide +kernel
theorem dX5_worst_29 : decode cX5_worst 29 = .ok (.bipush 6, 2) := by decide +kernel
theorem dX5_worst_31 : decode cX5_worst 31 = .ok (.if_icmp .ge 30, 3) := by decide +kernel
theorem dX5_worst_34 : decode cX5_worst 34 = .ok (.aload_n 0, 1) := by decide +kernel
theorem dX5_worst_35 : decode cX5_worst 35 = .ok (.iload 4, 2) := by decide +kernel
theorem dX5_worst_37 : decode cX5_worst 37 = .ok (.invokevirtual 112, 3) := by decide +kernel
theorem dX5_worst_40 : decode cX5_worst 40 = .ok (.aload_n 0, 1) := by decide +kernel
theorem dX5_worst_41 : decode cX5_worst 41 = .ok (.iload_n 2, 1) := by decide +kernel
theorem dX5_worst_42 : decode cX5_worst 42 = .ok (.invokevirtual 112, 3) := by decide +kernel
theorem dX5_worst_45 : decode cX5_worst 45 = .ok (.if_icmp .le 8, 3) := by decide +kernel
theorem dX5_worst_48 : decode cX5_worst 48 = .ok (.iload 4, 2) := by decide +kernel
theorem dX5_worst_50 : decode cX5_worst 50 = .ok (.goto 4, 3) := by decide +kernel
theorem dX5_worst_53 : decode cX5_worst 53 = .ok (.iload_n 2, 1) := by decide +kernel
theorem dX5_worst_54 : decode cX5_worst 54 = .ok (.istore_n 2, 1) := by decide +kernel
theorem dX5_worst_55 : decode cX5_worst 55 = .ok (.iinc 4 1, 3) := by decide +kernel
theorem dX5_worst_58 : decode cX5_worst 58 = .ok (.goto (-31), 3) := by decide +kernel
theorem dX5_worst_61 : decode cX5_worst 61 = .ok (.iconst 1, 1) := by decide +kernel
theorem dX5_worst_62 : decode cX5_worst 62 = .ok (.istore 4, 2) := by decide +kernel
theorem dX5_worst_64 : decode cX5_worst 64 = .ok (.iload 4, 2) := by decide +kernel
theorem dX5_worst_66 : decode cX5_worst 66 = .ok (.bipush 18, 2) := by decide +kernel
theorem dX5_worst_68 : decode cX5_worst 68 = .ok (.if_icmp .ge 38, 3) := by decide +kernel
theorem dX5_worst_71 : decode cX5_worst 71 = .ok (.aload_n 0, 1) := by decide +kernel
theorem dX5_worst_72 : decode cX5_worst 72 = .ok (.getfield 41, 3) := by decide +kernel
theorem dX5_worst_75 : decode cX5_worst 75 = .ok (.iload 4, 2) := by decide +kernel
theorem dX5_worst_77 : decode cX5_worst 77 = .ok (.iaload, 1) := by decide +kernel
theorem dX5_worst_78 : decode cX5_worst 78 = .ok (.invokestatic 132, 3) := by decide +kernel
theorem dX5_worst_81 : decode cX5_worst 81 = .ok (.aload_n 0, 1) := by decide +kernel
theorem dX5_worst_82 : decode cX5_worst 82 = .ok (.getfield 41, 3) := by decide +kernel
theorem dX5_worst_85 : decode cX5_worst 85 = .ok (.iload_n 3, 1) := by decide +kernel
theorem dX5_worst_86 : decode cX5_worst 86 = .ok (.iaload, 1) := by decide +kernel
theorem dX5_worst_87 : decode cX5_worst 87 = .ok (.invokestatic 132, 3) := by decide +kernel
theorem dX5_worst_90 : decode cX5_worst 90 = .ok (.if_icmp .le 8, 3) := by decide +kernel
theorem dX5_worst_93 : decode cX5_worst 93 = .ok (.iload 4, 2) := by decide +kernel
theorem dX5_worst_95 : decode cX5_worst 95 = .ok (.goto 4, 3) := by decide +kernel
theorem dX5_worst_98 : decode cX5_worst 98 = .ok (.iload_n 3, 1) := by decide +kernel
theorem dX5_worst_99 : decode cX5_worst 99 = .ok (.istore_n 3, 1) := by decide +kernel
theorem dX5_worst_100 : decode cX5_worst 100 = .ok (.iinc 4 1, 3) := by decide +kernel
theorem dX5_worst_103 : decode cX5_worst 103 = .ok (.goto (-39), 3) := by decide +kernel
theorem dX5_worst_106 : decode cX5_worst 106 = .ok (.iload_n 1, 1) := by decide +kernel
theorem dX5_worst_107 : decode cX5_worst 107 = .ok (.ifCond .ne 7, 3) := by decide +kernel
theorem dX5_worst_110 : decode cX5_worst 110 = .ok (.iload_n 2, 1) := by decide +kernel
theorem dX5_worst_111 : decode cX5_worst 111 = .ok (.goto 9, 3) := by decide +kernel
theorem dX5_worst_114 : decode cX5_worst 114 = .ok (.aload_n 0, 1) := by decide +kernel
theorem dX5_worst_115 : decode cX5_worst 115 = .ok (.getfield 41, 3) := by decide +kernel
theorem dX5_worst_118 : decode cX5_worst 118 = .ok (.iload_n 3, 1) := by decide +kernel
theorem dX5_worst_119 : decode cX5_worst 119 = .ok (.iaload, 1) := by decide +kernel
theorem dX5_worst_120 : decode cX5_worst 120 = .ok (.ireturn, 1) := by decide +kernel
theorem dX5_keeps_0 : decode cX5_keeps 0 = .ok (.aload_n 0, 1) := by decide +kernel
theorem dX5_keeps_1 : decode cX5_keeps 1 = .ok (.getfield 67, 3) := by decide +kernel
theorem dX5_keeps_4 : decode cX5_keeps 4 = .ok (.bipush 8, 2) := by decide +kernel
theorem dX5_keeps_6 : decode cX5_keeps 6 = .ok (.if_icmp .ne 42, 3) := by decide +kernel
theorem dX5_keeps_9 : decode cX5_keeps 9 = .ok (.iconst 0, 1) := by decide +kernel
theorem dX5_keeps_10 : decode cX5_keeps 10 = .ok (.istore_n 1, 1) := by decide +kernel
theorem dX5_keeps_11 : decode cX5_keeps 11 = .ok (.iload_n 1, 1) := by decide +kernel
theorem dX5_keeps_12 : decode cX5_keeps 12 = .ok (.bipush 63, 2) := by decide +kernel
theorem dX5_keeps_14 : decode cX5_keeps 14 = .ok (.if_icmp .ge 24, 3) := by decide +kernel
theorem dX5_keeps_17 : decode cX5_keeps 17 = .ok (.aload_n 0, 1) := by decide +kernel
theorem dX5_keeps_18 : decode cX5_keeps 18 = .ok (.getfield 32, 3) := by decide +kernel
theorem dX5_keeps_21 : decode cX5_keeps 21 = .ok (.iload_n 1, 1) := by decide +kernel
theorem dX5_keeps_22 : decode cX5_keeps 22 = .ok (.aload_n 0, 1) := by decide +kernel
theorem dX5_keeps_23 : decode cX5_keeps 23 = .ok (.getfield 32, 3) := by decide +kernel
theorem dX5_keeps_26 : decode cX5_keeps 26 = .ok (.iload_n 1, 1) := by decide +kernel
theorem dX5_keeps_27 : decode cX5_keeps 27 = .ok (.bipush 9, 2) := by decide +kernel
theorem dX5_keeps_29 : decode cX5_keeps 29 = .ok (.iadd, 1) := by decide +kernel
theorem dX5_keeps_30 : decode cX5_keeps 30 = .ok (.iaload, 1) := by decide +kernel
theorem dX5_keeps_31 : decode cX5_keeps 31 = .ok (.iastore, 1) := by decide +kernel
theorem dX5_keeps_32 : decode cX5_keeps 32 = .ok (.iinc 1 1, 3) := by decide +kernel
theorem dX5_keeps_35 : decode cX5_keeps 35 = .ok (.goto (-24), 3) := by decide +kernel
theorem dX5_keeps_38 : decode cX5_keeps 38 = .ok (.aload_n 0, 1) := by decide +kernel
theorem dX5_keeps_39 : decode cX5_keeps 39 = .ok (.dup, 1) := by decide +kernel
theorem dX5_keeps_40 : decode cX5_keeps 40 = .ok (.getfield 67, 3) := by decide +kernel
theorem dX5_keeps_43 : decode cX5_keeps 43 = .ok (.iconst 1, 1) := by decide +kernel
theorem dX5_keeps_44 : decode cX5_keeps 44 = .ok (.isub, 1) := by decide +kernel
theorem dX5_keeps_45 : decode cX5_keeps 45 = .ok (.putfield 67, 3) := by decide +kernel
theorem dX5_keeps_48 : decode cX5_keeps 48 = .ok (.iconst 0, 1) := by decide +kernel
theorem dX5_keeps_49 : decode cX5_keeps 49 = .ok (.istore_n 1, 1) := by decide +kernel
theorem dX5_keeps_50 : decode cX5_keeps 50 = .ok (.iload_n 1, 1) := by decide +kernel
theorem dX5_keeps_51 : decode cX5_keeps 51 = .ok (.bipush 9, 2) := by decide +kernel
theorem dX5_keeps_53 : decode cX5_keeps 53 = .ok (.if_icmp .ge 29, 3) := by decide +kernel
theorem dX5_keeps_56 : decode cX5_keeps 56 = .ok (.aload_n 0, 1) := by decide +kernel
theorem dX5_keeps_57 : decode cX5_keeps 57 = .ok (.getfield 32, 3) := by decide +kernel
theorem dX5_keeps_60 : decode cX5_keeps 60 = .ok (.bipush 9, 2) := by decide +kernel
theorem dX5_keeps_62 : decode cX5_keeps 62 = .ok (.aload_n 0, 1) := by decide +kernel
theorem dX5_keeps_63 : decode cX5_keeps 63 = .ok (.getfield 67, 3) := by decide +kernel
theorem dX5_keeps_66 : decode cX5_keeps 66 = .ok (.imul, 1) := by decide +kernel
theorem dX5_keeps_67 : decode cX5_keeps 67 = .ok (.iload_n 1, 1) := by decide +kernel
theorem dX5_keeps_68 : decode cX5_keeps 68 = .ok (.iadd, 1) := by decide +kernel
theorem dX5_keeps_69 : decode cX5_keeps 69 = .ok (.aload_n 0, 1) := by decide +kernel
theorem dX5_keeps_70 : decode cX5_keeps 70 = .ok (.getfield 16, 3) := by decide +kernel
theorem dX5_keeps_73 : decode cX5_keeps 73 = .ok (.iload_n 1, 1) := by decide +kernel
theorem dX5_keeps_74 : decode cX5_keeps 74 = .ok (.iaload, 1) := by decide +kernel
theorem dX5_keeps_75 : decode cX5_keeps 75 = .ok (.iastore, 1) := by decide +kernel
theorem dX5_keeps_76 : decode cX5_keeps 76 = .ok (.iinc 1 1, 3) := by decide +kernel
theorem dX5_keeps_79 : decode cX5_keeps 79 = .ok (.goto (-29), 3) := by decide +kernel
theorem dX5_keeps_82 : decode cX5_keeps 82 = .ok (.aload_n 0, 1) := by decide +kernel
theorem dX5_keeps_83 : decode cX5_keeps 83 = .ok (.dup, 1) := by decide +kernel
theorem dX5_keeps_84 : decode cX5_keeps 84 = .ok (.getfield 67, 3) := by decide +kernel
theorem dX5_keeps_87 : decode cX5_keeps 87 = .ok (.iconst 1, 1) := by decide +kernel
theorem dX5_keeps_88 : decode cX5_keeps 88 = .ok (.iadd, 1) := by decide +kernel
theorem dX5_keeps_89 : decode cX5_keeps 89 = .ok (.putfield 67, 3) := by decide +kernel
theorem dX5_keeps_92 : decode cX5_keeps 92 = .ok (.return_, 1) := by decide +kernel
theorem dX5_change_0 : decode cX5_change 0 = .ok (.aload_n 0, 1) := by decide +kernel
theorem dX5_change_1 : decode cX5_change 1 = .ok (.iload_n 1, 1) := by decide +kernel
theorem dX5_change_2 : decode cX5_change 2 = .ok (.invokevirtual 70, 3) := by decide +kernel
theorem dX5_change_5 : decode cX5_change 5 = .ok (.ifCond .eq 12, 3) := by decide +kernel
theorem dX5_change_8 : decode cX5_change 8 = .ok (.iload_n 2, 1) := by decide +kernel
theorem dX5_change_9 : decode cX5_change 9 = .ok (.iconst 0, 1) := by decide +kernel
theorem dX5_change_10 : decode cX5_change 10 = .ok (.iconst 2, 1) := by decide +kernel
theorem dX5_change_11 : decode cX5_change 11 = .ok (.invokestatic 59, 3) := by decide +kernel
theorem dX5_change_14 : decode cX5_change 14 = .ok (.ifCond .ne 10, 3) := by decide +kernel
theorem dX5_change_17 : decode cX5_change 17 = .ok (.aload_n 0, 1) := by decide +kernel
theorem dX5_change_18 : decode cX5_change 18 = .ok (.bipush (-2), 2) := by decide +kernel
theorem dX5_change_20 : decode cX5_change 20 = .ok (.invokevirtual 63, 3) := by decide +kernel
theorem dX5_change_23 : decode cX5_change 23 = .ok (.ireturn, 1) := by decide +kernel
theorem dX5_change_24 : decode cX5_change 24 = .ok (.aload_n 0, 1) := by decide +kernel
theorem dX5_change_25 : decode cX5_change 25 = .ok (.getfield 19, 3) := by decide +kernel
theorem dX5_change_28 : decode cX5_change 28 = .ok (.iload_n 1, 1) := by decide +kernel
theorem dX5_change_29 : decode cX5_change 29 = .ok (.iaload, 1) := by decide +kernel
theorem dX5_change_30 : decode cX5_change 30 = .ok (.iconst 1, 1) := by decide +kernel
theorem dX5_change_31 : decode cX5_change 31 = .ok (.if_icmp .ne 10, 3) := by decide +kernel
theorem dX5_change_34 : decode cX5_change 34 = .ok (.aload_n 0, 1) := by decide +kernel
theorem dX5_change_35 : decode cX5_change 35 = .ok (.bipush (-3), 2) := by decide +kernel
theorem dX5_change_37 : decode cX5_change 37 = .ok (.invokevirtual 63, 3) := by decide +kernel
theorem dX5_change_40 : decode cX5_change 40 = .ok (.ireturn, 1) := by decide +kernel
theorem dX5_change_41 : decode cX5_change 41 = .ok (.aload_n 0, 1) := by decide +kernel
theorem dX5_change_42 : decode cX5_change 42 = .ok (.invokevirtual 135, 3) := by decide +kernel
theorem dX5_change_45 : decode cX5_change 45 = .ok (.aload_n 0, 1) := by decide +kernel
theorem dX5_change_46 : decode cX5_change 46 = .ok (.getfield 16, 3) := by decide +kernel
theorem dX5_change_49 : decode cX5_change 49 = .ok (.iload_n 1, 1) := by decide +kernel
theorem dX5_change_50 : decode cX5_change 50 = .ok (.iaload, 1) := by decide +kernel
theorem dX5_change_51 : decode cX5_change 51 = .ok (.istore_n 3, 1) := by decide +kernel
theorem dX5_change_52 : decode cX5_change 52 = .ok (.aload_n 0, 1) := by decide +kernel
theorem dX5_change_53 : decode cX5_change 53 = .ok (.getfield 16, 3) := by decide +kernel
theorem dX5_change_56 : decode cX5_change 56 = .ok (.iload_n 1, 1) := by decide +kernel
theorem dX5_change_57 : decode cX5_change 57 = .ok (.iload_n 2, 1) := by decide +kernel
theorem dX5_change_58 : decode cX5_change 58 = .ok (.iastore, 1) := by decide +kernel
theorem dX5_change_59 : decode cX5_change 59 = .ok (.iload_n 3, 1) := by decide +kernel
theorem dX5_change_60 : decode cX5_change 60 = .ok (.ireturn, 1) := by decide +kernel
theorem dX5_swaps_0 : decode cX5_swaps 0 = .ok (.aload_n 0, 1) := by decide +kernel
theorem dX5_swaps_1 : decode cX5_swaps 1 = .ok (.getfield 16, 3) := by decide +kernel
theorem dX5_swaps_4 : decode cX5_swaps 4 = .ok (.iload_n 1, 1) := by decide +kernel
theorem dX5_swaps_5 : decode cX5_swaps 5 = .ok (.iaload, 1) := by decide +kernel
theorem dX5_swaps_6 : decode cX5_swaps 6 = .ok (.istore_n 3, 1) := by decide +kernel
theorem dX5_swaps_7 : decode cX5_swaps 7 = .ok (.aload_n 0, 1) := by decide +kernel
theorem dX5_swaps_8 : decode cX5_swaps 8 = .ok (.getfield 16, 3) := by decide +kernel
theorem dX5_swaps_11 : decode cX5_swaps 11 = .ok (.iload_n 1, 1) := by decide +kernel
theorem dX5_swaps_12 : decode cX5_swaps 12 = .ok (.aload_n 0, 1) := by decide +kernel
theorem dX5_swaps_13 : decode cX5_swaps 13 = .ok (.getfield 16, 3) := by decide +kernel
theorem dX5_swaps_16 : decode cX5_swaps 16 = .ok (.iload_n 2, 1) := by decide +kernel
theorem dX5_swaps_17 : decode cX5_swaps 17 = .ok (.iaload, 1) := by decide +kernel
theorem dX5_swaps_18 : decode cX5_swaps 18 = .ok (.iastore, 1) := by decide +kernel
theorem dX5_swaps_19 : decode cX5_swaps 19 = .ok (.aload_n 0, 1) := by decide +kernel
theorem dX5_swaps_20 : decode cX5_swaps 20 = .ok (.getfield 16, 3) := by decide +kernel
theorem dX5_swaps_23 : decode cX5_swaps 23 = .ok (.iload_n 2, 1) := by decide +kernel
theorem dX5_swaps_24 : decode cX5_swaps 24 = .ok (.iload_n 3, 1) := by decide +kernel
theorem dX5_swaps_25 : decode cX5_swaps 25 = .ok (.iastore, 1) := by decide +kernel
theorem dX5_swaps_26 : decode cX5_swaps 26 = .ok (.return_, 1) := by decide +kernel
theorem dX5_swap_0 : decode cX5_swap 0 = .ok (.aload_n 0, 1) := by decide +kernel
theorem dX5_swap_1 : decode cX5_swap 1 = .ok (.iload_n 1, 1) := by decide +kernel
theorem dX5_swap_2 : decode cX5_swap 2 = .ok (.invokevirtual 70, 3) := by decide +kernel
theorem dX5_swap_5 : decode cX5_swap 5 = .ok (.ifCond .eq 16, 3) := by decide +kernel
theorem dX5_swap_8 : decode cX5_swap 8 = .ok (.aload_n 0, 1) := by decide +kernel
theorem dX5_swap_9 : decode cX5_swap 9 = .ok (.iload_n 2, 1) := by decide +kernel
theorem dX5_swap_10 : decode cX5_swap 10 = .ok (.invokevirtual 70, 3) := by decide +kernel
theorem dX5_swap_13 : decode cX5_swap 13 = .ok (.ifCond .eq 8, 3) := by decide +kernel
theorem dX5_swap_16 : decode cX5_swap 16 = .ok (.iload_n 1, 1) := by decide +kernel
theorem dX5_swap_17 : decode cX5_swap 17 = .ok (.iload_n 2, 1) := by decide +kernel
theorem dX5_swap_18 : decode cX5_swap 18 = .ok (.if_icmp .ne 10, 3) := by decide +kernel
theorem dX5_swap_21 : decode cX5_swap 21 = .ok (.aload_n 0, 1) := by decide +kernel
theorem dX5_swap_22 : decode cX5_swap 22 = .ok (.bipush (-2), 2) := by decide +kernel
theorem dX5_swap_24 : decode cX5_swap 24 = .ok (.invokevirtual 63, 3) := by decide +kernel
theorem dX5_swap_27 : decode cX5_swap 27 = .ok (.ireturn, 1) := by decide +kernel
theorem dX5_swap_28 : decode cX5_swap 28 = .ok (.aload_n 0, 1) := by decide +kernel
theorem dX5_swap_29 : decode cX5_swap 29 = .ok (.getfield 19, 3) := by decide +kernel
theorem dX5_swap_32 : decode cX5_swap 32 = .ok (.iload_n 1, 1) := by decide +kernel
theorem dX5_swap_33 : decode cX5_swap 33 = .ok (.iaload, 1) := by decide +kernel
theorem dX5_swap_34 : decode cX5_swap 34 = .ok (.iconst 1, 1) := by decide +kernel
theorem dX5_swap_35 : decode cX5_swap 35 = .ok (.if_icmp .eq 13, 3) := by decide +kernel
theorem dX5_swap_38 : decode cX5_swap 38 = .ok (.aload_n 0, 1) := by decide +kernel
theorem dX5_swap_39 : decode cX5_swap 39 = .ok (.getfield 19, 3) := by decide +kernel
theorem dX5_swap_42 : decode cX5_swap 42 = .ok (.iload_n 2, 1) := by decide +kernel
theorem dX5_swap_43 : decode cX5_swap 43 = .ok (.iaload, 1) := by decide +kernel
theorem dX5_swap_44 : decode cX5_swap 44 = .ok (.iconst 1, 1) := by decide +kernel
theorem dX5_swap_45 : decode cX5_swap 45 = .ok (.if_icmp .ne 10, 3) := by decide +kernel
theorem dX5_swap_48 : decode cX5_swap 48 = .ok (.aload_n 0, 1) := by decide +kernel
theorem dX5_swap_49 : decode cX5_swap 49 = .ok (.bipush (-3), 2) := by decide +kernel
theorem dX5_swap_51 : decode cX5_swap 51 = .ok (.invokevirtual 63, 3) := by decide +kernel
theorem dX5_swap_54 : decode cX5_swap 54 = .ok (.ireturn, 1) := by decide +kernel
theorem dX5_swap_55 : decode cX5_swap 55 = .ok (.aload_n 0, 1) := by decide +kernel
theorem dX5_swap_56 : decode cX5_swap 56 = .ok (.invokevirtual 135, 3) := by decide +kernel
theorem dX5_swap_59 : decode cX5_swap 59 = .ok (.aload_n 0, 1) := by decide +kernel
theorem dX5_swap_60 : decode cX5_swap 60 = .ok (.iload_n 1, 1) := by decide +kernel
theorem dX5_swap_61 : decode cX5_swap 61 = .ok (.iload_n 2, 1) := by decide +kernel
theorem dX5_swap_62 : decode cX5_swap 62 = .ok (.invokevirtual 138, 3) := by decide +kernel
theorem dX5_swap_65 : decode cX5_swap 65 = .ok (.aload_n 0, 1) := by decide +kernel
theorem dX5_swap_66 : decode cX5_swap 66 = .ok (.invokevirtual 122, 3) := by decide +kernel
theorem dX5_swap_69 : decode cX5_swap 69 = .ok (.ireturn, 1) := by decide +kernel
theorem dX5_isFree_0 : decode cX5_isFree 0 = .ok (.aload_n 0, 1) := by decide +kernel
theorem dX5_isFree_1 : decode cX5_isFree 1 = .ok (.getfield 19, 3) := by decide +kernel
theorem dX5_isFree_4 : decode cX5_isFree 4 = .ok (.iload_n 1, 1) := by decide +kernel
theorem dX5_isFree_5 : decode cX5_isFree 5 = .ok (.iaload, 1) := by decide +kernel
theorem dX5_isFree_6 : decode cX5_isFree 6 = .ok (.ifCond .ne 15, 3) := by decide +kernel
theorem dX5_isFree_9 : decode cX5_isFree 9 = .ok (.aload_n 0, 1) := by decide +kernel
theorem dX5_isFree_10 : decode cX5_isFree 10 = .ok (.iload_n 1, 1) := by decide +kernel
theorem dX5_isFree_11 : decode cX5_isFree 11 = .ok (.invokevirtual 142, 3) := by decide +kernel
theorem dX5_isFree_14 : decode cX5_isFree 14 = .ok (.ifCond .ne 7, 3) := by decide +kernel
theorem dX5_isFree_17 : decode cX5_isFree 17 = .ok (.iconst 1, 1) := by decide +kernel
theorem dX5_isFree_18 : decode cX5_isFree 18 = .ok (.goto 4, 3) := by decide +kernel
theorem dX5_isFree_21 : decode cX5_isFree 21 = .ok (.iconst 0, 1) := by decide +kernel
theorem dX5_isFree_22 : decode cX5_isFree 22 = .ok (.ireturn, 1) := by decide +kernel
theorem dX5_looks_0 : decode cX5_looks 0 = .ok (.aload_n 0, 1) := by decide +kernel
theorem dX5_looks_1 : decode cX5_looks 1 = .ok (.invokevirtual 109, 3) := by decide +kernel
theorem dX5_looks_4 : decode cX5_looks 4 = .ok (.aload_n 0, 1) := by decide +kernel
theorem dX5_looks_5 : decode cX5_looks 5 = .ok (.invokevirtual 118, 3) := by decide +kernel
theorem dX5_looks_8 : decode cX5_looks 8 = .ok (.istore 4, 2) := by decide +kernel
theorem dX5_looks_10 : decode cX5_looks 10 = .ok (.aload_n 0, 1) := by decide +kernel
theorem dX5_looks_11 : decode cX5_looks 11 = .ok (.invokevirtual 125, 3) := by decide +kernel
theorem dX5_looks_14 : decode cX5_looks 14 = .ok (.ifCond .eq 52, 3) := by decide +kernel
theorem dX5_looks_17 : decode cX5_looks 17 = .ok (.aload_n 0, 1) := by decide +kernel
theorem dX5_looks_18 : decode cX5_looks 18 = .ok (.getfield 53, 3) := by decide +kernel
theorem dX5_looks_21 : decode cX5_looks 21 = .ok (.iconst 0, 1) := by decide +kernel
theorem dX5_looks_22 : decode cX5_looks 22 = .ok (.iaload, 1) := by decide +kernel
theorem dX5_looks_23 : decode cX5_looks 23 = .ok (.ifCond .lt 14, 3) := by decide +kernel
theorem dX5_looks_26 : decode cX5_looks 26 = .ok (.iload 4, 2) := by decide +kernel
theorem dX5_looks_28 : decode cX5_looks 28 = .ok (.aload_n 0, 1) := by decide +kernel
theorem dX5_looks_29 : decode cX5_looks 29 = .ok (.getfield 53, 3) := by decide +kernel
theorem dX5_looks_32 : decode cX5_looks 32 = .ok (.iconst 0, 1) := by decide +kernel
theorem dX5_looks_33 : decode cX5_looks 33 = .ok (.iaload, 1) := by decide +kernel
theorem dX5_looks_34 : decode cX5_looks 34 = .ok (.if_icmp .ge 32, 3) := by decide +kernel
theorem dX5_looks_37 : decode cX5_looks 37 = .ok (.aload_n 0, 1) := by decide +kernel
theorem dX5_looks_38 : decode cX5_looks 38 = .ok (.getfield 53, 3) := by decide +kernel
theorem dX5_looks_41 : decode cX5_looks 41 = .ok (.iconst 0, 1) := by decide +kernel
theorem dX5_looks_42 : decode cX5_looks 42 = .ok (.iload 4, 2) := by decide +kernel
theorem dX5_looks_44 : decode cX5_looks 44 = .ok (.iastore, 1) := by decide +kernel
theorem dX5_looks_45 : decode cX5_looks 45 = .ok (.aload_n 0, 1) := by decide +kernel
theorem dX5_looks_46 : decode cX5_looks 46 = .ok (.getfield 53, 3) := by decide +kernel
theorem dX5_looks_49 : decode cX5_looks 49 = .ok (.iconst 1, 1) := by decide +kernel
theorem dX5_looks_50 : decode cX5_looks 50 = .ok (.iload_n 1, 1) := by decide +kernel
theorem dX5_looks_51 : decode cX5_looks 51 = .ok (.iastore, 1) := by decide +kernel
theorem dX5_looks_52 : decode cX5_looks 52 = .ok (.aload_n 0, 1) := by decide +kernel
theorem dX5_looks_53 : decode cX5_looks 53 = .ok (.getfield 53, 3) := by decide +kernel
theorem dX5_looks_56 : decode cX5_looks 56 = .ok (.iconst 2, 1) := by decide +kernel
theorem dX5_looks_57 : decode cX5_looks 57 = .ok (.iload_n 2, 1) := by decide +kernel
theorem dX5_looks_58 : decode cX5_looks 58 = .ok (.iastore, 1) := by decide +kernel
theorem dX5_looks_59 : decode cX5_looks 59 = .ok (.aload_n 0, 1) := by decide +kernel
theorem dX5_looks_60 : decode cX5_looks 60 = .ok (.getfield 53, 3) := by decide +kernel
theorem dX5_looks_63 : decode cX5_looks 63 = .ok (.iconst 3, 1) := by decide +kernel
theorem dX5_looks_64 : decode cX5_looks 64 = .ok (.iload_n 3, 1) := by decide +kernel
theorem dX5_looks_65 : decode cX5_looks 65 = .ok (.iastore, 1) := by decide +kernel
theorem dX5_looks_66 : decode cX5_looks 66 = .ok (.return_, 1) := by decide +kernel
theorem dX5_finds_0 : decode cX5_finds 0 = .ok (.aload_n 0, 1) := by decide +kernel
theorem dX5_finds_1 : decode cX5_finds 1 = .ok (.getfield 53, 3) := by decide +kernel
theorem dX5_finds_4 : decode cX5_finds 4 = .ok (.iconst 0, 1) := by decide +kernel
theorem dX5_finds_5 : decode cX5_finds 5 = .ok (.iconst (-1), 1) := by decide +kernel
theorem dX5_finds_6 : decode cX5_finds 6 = .ok (.iastore, 1) := by decide +kernel
theorem dX5_finds_7 : decode cX5_finds 7 = .ok (.aload_n 0, 1) := by decide +kernel
theorem dX5_finds_8 : decode cX5_finds 8 = .ok (.invokevirtual 115, 3) := by decide +kernel
theorem dX5_finds_11 : decode cX5_finds 11 = .ok (.iconst 0, 1) := by decide +kernel
theorem dX5_finds_12 : decode cX5_finds 12 = .ok (.istore_n 1, 1) := by decide +kernel
theorem dX5_finds_13 : decode cX5_finds 13 = .ok (.iload_n 1, 1) := by decide +kernel
theorem dX5_finds_14 : decode cX5_finds 14 = .ok (.aload_n 0, 1) := by decide +kernel
theorem dX5_finds_15 : decode cX5_finds 15 = .ok (.getfield 56, 3) := by decide +kernel
theorem dX5_finds_18 : decode cX5_finds 18 = .ok (.if_icmp .ge 66, 3) := by decide +kernel
theorem dX5_finds_21 : decode cX5_finds 21 = .ok (.iconst 0, 1) := by decide +kernel
theorem dX5_finds_22 : decode cX5_finds 22 = .ok (.istore_n 2, 1) := by decide +kernel
theorem dX5_finds_23 : decode cX5_finds 23 = .ok (.iload_n 2, 1) := by decide +kernel
theorem dX5_finds_24 : decode cX5_finds 24 = .ok (.iconst 3, 1) := by decide +kernel
theorem dX5_finds_25 : decode cX5_finds 25 = .ok (.if_icmp .ge 53, 3) := by decide +kernel
theorem dX5_finds_28 : decode cX5_finds 28 = .ok (.aload_n 0, 1) := by decide +kernel
theorem dX5_finds_29 : decode cX5_finds 29 = .ok (.iload_n 1, 1) := by decide +kernel
theorem dX5_finds_30 : decode cX5_finds 30 = .ok (.invokevirtual 145, 3) := by decide +kernel
theorem dX5_finds_33 : decode cX5_finds 33 = .ok (.ifCond .eq 39, 3) := by decide +kernel
theorem dX5_finds_36 : decode cX5_finds 36 = .ok (.iload_n 2, 1) := by decide +kernel
theorem dX5_finds_37 : decode cX5_finds 37 = .ok (.aload_n 0, 1) := by decide +kernel
theorem dX5_finds_38 : decode cX5_finds 38 = .ok (.getfield 16, 3) := by decide +kernel
theorem dX5_finds_41 : decode cX5_finds 41 = .ok (.iload_n 1, 1) := by decide +kernel
theorem dX5_finds_42 : decode cX5_finds 42 = .ok (.iaload, 1) := by decide +kernel
theorem dX5_finds_43 : decode cX5_finds 43 = .ok (.if_icmp .eq 29, 3) := by decide +kernel
theorem dX5_finds_46 : decode cX5_finds 46 = .ok (.aload_n 0, 1) := by decide +kernel
theorem dX5_finds_47 : decode cX5_finds 47 = .ok (.getfield 44, 3) := by decide +kernel
theorem dX5_finds_50 : decode cX5_finds 50 = .ok (.iload_n 1, 1) := by decide +kernel
theorem dX5_finds_51 : decode cX5_finds 51 = .ok (.iload_n 2, 1) := by decide +kernel
theorem dX5_finds_52 : decode cX5_finds 52 = .ok (.iastore, 1) := by decide +kernel
theorem dX5_finds_53 : decode cX5_finds 53 = .ok (.aload_n 0, 1) := by decide +kernel
theorem dX5_finds_54 : decode cX5_finds 54 = .ok (.iconst 0, 1) := by decide +kernel
theorem dX5_finds_55 : decode cX5_finds 55 = .ok (.iload_n 1, 1) := by decide +kernel
theorem dX5_finds_56 : decode cX5_finds 56 = .ok (.iload_n 2, 1) := by decide +kernel
theorem dX5_finds_57 : decode cX5_finds 57 = .ok (.invokevirtual 148, 3) := by decide +kernel
theorem dX5_finds_60 : decode cX5_finds 60 = .ok (.aload_n 0, 1) := by decide +kernel
theorem dX5_finds_61 : decode cX5_finds 61 = .ok (.getfield 44, 3) := by decide +kernel
theorem dX5_finds_64 : decode cX5_finds 64 = .ok (.iload_n 1, 1) := by decide +kernel
theorem dX5_finds_65 : decode cX5_finds 65 = .ok (.aload_n 0, 1) := by decide +kernel
theorem dX5_finds_66 : decode cX5_finds 66 = .ok (.getfield 16, 3) := by decide +kernel
theorem dX5_finds_69 : decode cX5_finds 69 = .ok (.iload_n 1, 1) := by decide +kernel
theorem dX5_finds_70 : decode cX5_finds 70 = .ok (.iaload, 1) := by decide +kernel
theorem dX5_finds_71 : decode cX5_finds 71 = .ok (.iastore, 1) := by decide +kernel
theorem dX5_finds_72 : decode cX5_finds 72 = .ok (.iinc 2 1, 3) := by decide +kernel
theorem dX5_finds_75 : decode cX5_finds 75 = .ok (.goto (-52), 3) := by decide +kernel
theorem dX5_finds_78 : decode cX5_finds 78 = .ok (.iinc 1 1, 3) := by decide +kernel
theorem dX5_finds_81 : decode cX5_finds 81 = .ok (.goto (-68), 3) := by decide +kernel
theorem dX5_finds_84 : decode cX5_finds 84 = .ok (.iconst 0, 1) := by decide +kernel
theorem dX5_finds_85 : decode cX5_finds 85 = .ok (.istore_n 1, 1) := by decide +kernel
theorem dX5_finds_86 : decode cX5_finds 86 = .ok (.iload_n 1, 1) := by decide +kernel
theorem dX5_finds_87 : decode cX5_finds 87 = .ok (.aload_n 0, 1) := by decide +kernel
theorem dX5_finds_88 : decode cX5_finds 88 = .ok (.getfield 56, 3) := by decide +kernel
theorem dX5_finds_91 : decode cX5_finds 91 = .ok (.if_icmp .ge 113, 3) := by decide +kernel
theorem dX5_finds_94 : decode cX5_finds 94 = .ok (.iload_n 1, 1) := by decide +kernel
theorem dX5_finds_95 : decode cX5_finds 95 = .ok (.iconst 1, 1) := by decide +kernel
theorem dX5_finds_96 : decode cX5_finds 96 = .ok (.iadd, 1) := by decide +kernel
theorem dX5_finds_97 : decode cX5_finds 97 = .ok (.istore_n 2, 1) := by decide +kernel
theorem dX5_finds_98 : decode cX5_finds 98 = .ok (.iload_n 2, 1) := by decide +kernel
theorem dX5_finds_99 : decode cX5_finds 99 = .ok (.aload_n 0, 1) := by decide +kernel
theorem dX5_finds_100 : decode cX5_finds 100 = .ok (.getfield 56, 3) := by decide +kernel
theorem dX5_finds_103 : decode cX5_finds 103 = .ok (.if_icmp .ge 95, 3) := by decide +kernel
theorem dX5_finds_106 : decode cX5_finds 106 = .ok (.aload_n 0, 1) := by decide +kernel
theorem dX5_finds_107 : decode cX5_finds 107 = .ok (.iload_n 1, 1) := by decide +kernel
theorem dX5_finds_108 : decode cX5_finds 108 = .ok (.invokevirtual 145, 3) := by decide +kernel
theorem dX5_finds_111 : decode cX5_finds 111 = .ok (.ifCond .eq 81, 3) := by decide +kernel
theorem dX5_finds_114 : decode cX5_finds 114 = .ok (.aload_n 0, 1) := by decide +kernel
theorem dX5_finds_115 : decode cX5_finds 115 = .ok (.iload_n 2, 1) := by decide +kernel
theorem dX5_finds_116 : decode cX5_finds 116 = .ok (.invokevirtual 145, 3) := by decide +kernel
theorem dX5_finds_119 : decode cX5_finds 119 = .ok (.ifCond .eq 73, 3) := by decide +kernel
theorem dX5_finds_122 : decode cX5_finds 122 = .ok (.aload_n 0, 1) := by decide +kernel
theorem dX5_finds_123 : decode cX5_finds 123 = .ok (.getfield 16, 3) := by decide +kernel
theorem dX5_finds_126 : decode cX5_finds 126 = .ok (.iload_n 1, 1) := by decide +kernel
theorem dX5_finds_127 : decode cX5_finds 127 = .ok (.iaload, 1) := by decide +kernel
theorem dX5_finds_128 : decode cX5_finds 128 = .ok (.aload_n 0, 1) := by decide +kernel
theorem dX5_finds_129 : decode cX5_finds 129 = .ok (.getfield 16, 3) := by decide +kernel
theorem dX5_finds_132 : decode cX5_finds 132 = .ok (.iload_n 2, 1) := by decide +kernel
theorem dX5_finds_133 : decode cX5_finds 133 = .ok (.iaload, 1) := by decide +kernel
theorem dX5_finds_134 : decode cX5_finds 134 = .ok (.if_icmp .eq 58, 3) := by decide +kernel
theorem dX5_finds_137 : decode cX5_finds 137 = .ok (.aload_n 0, 1) := by decide +kernel
theorem dX5_finds_138 : decode cX5_finds 138 = .ok (.getfield 44, 3) := by decide +kernel
theorem dX5_finds_141 : decode cX5_finds 141 = .ok (.iload_n 1, 1) := by decide +kernel
theorem dX5_finds_142 : decode cX5_finds 142 = .ok (.aload_n 0, 1) := by decide +kernel
theorem dX5_finds_143 : decode cX5_finds 143 = .ok (.getfield 16, 3) := by decide +kernel
theorem dX5_finds_146 : decode cX5_finds 146 = .ok (.iload_n 2, 1) := by decide +kernel
theorem dX5_finds_147 : decode cX5_finds 147 = .ok (.iaload, 1) := by decide +kernel
theorem dX5_finds_148 : decode cX5_finds 148 = .ok (.iastore, 1) := by decide +kernel
theorem dX5_finds_149 : decode cX5_finds 149 = .ok (.aload_n 0, 1) := by decide +kernel
theorem dX5_finds_150 : decode cX5_finds 150 = .ok (.getfield 44, 3) := by decide +kernel
theorem dX5_finds_153 : decode cX5_finds 153 = .ok (.iload_n 2, 1) := by decide +kernel
theorem dX5_finds_154 : decode cX5_finds 154 = .ok (.aload_n 0, 1) := by decide +kernel
theorem dX5_finds_155 : decode cX5_finds 155 = .ok (.getfield 16, 3) := by decide +kernel
theorem dX5_finds_158 : decode cX5_finds 158 = .ok (.iload_n 1, 1) := by decide +kernel
theorem dX5_finds_159 : decode cX5_finds 159 = .ok (.iaload, 1) := by decide +kernel
theorem dX5_finds_160 : decode cX5_finds 160 = .ok (.iastore, 1) := by decide +kernel
theorem dX5_finds_161 : decode cX5_finds 161 = .ok (.aload_n 0, 1) := by decide +kernel
theorem dX5_finds_162 : decode cX5_finds 162 = .ok (.iconst 1, 1) := by decide +kernel
theorem dX5_finds_163 : decode cX5_finds 163 = .ok (.iload_n 1, 1) := by decide +kernel
theorem dX5_finds_164 : decode cX5_finds 164 = .ok (.iload_n 2, 1) := by decide +kernel
theorem dX5_finds_165 : decode cX5_finds 165 = .ok (.invokevirtual 148, 3) := by decide +kernel
theorem dX5_finds_168 : decode cX5_finds 168 = .ok (.aload_n 0, 1) := by decide +kernel
theorem dX5_finds_169 : decode cX5_finds 169 = .ok (.getfield 44, 3) := by decide +kernel
theorem dX5_finds_172 : decode cX5_finds 172 = .ok (.iload_n 1, 1) := by decide +kernel
theorem dX5_finds_173 : decode cX5_finds 173 = .ok (.aload_n 0, 1) := by decide +kernel
theorem dX5_finds_174 : decode cX5_finds 174 = .ok (.getfield 16, 3) := by decide +kernel
theorem dX5_finds_177 : decode cX5_finds 177 = .ok (.iload_n 1, 1) := by decide +kernel
theorem dX5_finds_178 : decode cX5_finds 178 = .ok (.iaload, 1) := by decide +kernel
theorem dX5_finds_179 : decode cX5_finds 179 = .ok (.iastore, 1) := by decide +kernel
theorem dX5_finds_180 : decode cX5_finds 180 = .ok (.aload_n 0, 1) := by decide +kernel
theorem dX5_finds_181 : decode cX5_finds 181 = .ok (.getfield 44, 3) := by decide +kernel
theorem dX5_finds_184 : decode cX5_finds 184 = .ok (.iload_n 2, 1) := by decide +kernel
theorem dX5_finds_185 : decode cX5_finds 185 = .ok (.aload_n 0, 1) := by decide +kernel
theorem dX5_finds_186 : decode cX5_finds 186 = .ok (.getfield 16, 3) := by decide +kernel
theorem dX5_finds_189 : decode cX5_finds 189 = .ok (.iload_n 2, 1) := by decide +kernel
theorem dX5_finds_190 : decode cX5_finds 190 = .ok (.iaload, 1) := by decide +kernel
theorem dX5_finds_191 : decode cX5_finds 191 = .ok (.iastore, 1) := by decide +kernel
theorem dX5_finds_192 : decode cX5_finds 192 = .ok (.iinc 2 1, 3) := by decide +kernel
theorem dX5_finds_195 : decode cX5_finds 195 = .ok (.goto (-97), 3) := by decide +kernel
theorem dX5_finds_198 : decode cX5_finds 198 = .ok (.iinc 1 1, 3) := by decide +kernel
theorem dX5_finds_201 : decode cX5_finds 201 = .ok (.goto (-115), 3) := by decide +kernel
theorem dX5_finds_204 : decode cX5_finds 204 = .ok (.aload_n 0, 1) := by decide +kernel
theorem dX5_finds_205 : decode cX5_finds 205 = .ok (.getfield 53, 3) := by decide +kernel
theorem dX5_finds_208 : decode cX5_finds 208 = .ok (.iconst 0, 1) := by decide +kernel
theorem dX5_finds_209 : decode cX5_finds 209 = .ok (.iaload, 1) := by decide +kernel
theorem dX5_finds_210 : decode cX5_finds 210 = .ok (.ifCond .lt 7, 3) := by decide +kernel
theorem dX5_finds_213 : decode cX5_finds 213 = .ok (.iconst 1, 1) := by decide +kernel
theorem dX5_finds_214 : decode cX5_finds 214 = .ok (.goto 4, 3) := by decide +kernel
theorem dX5_finds_217 : decode cX5_finds 217 = .ok (.iconst 0, 1) := by decide +kernel
theorem dX5_finds_218 : decode cX5_finds 218 = .ok (.ireturn, 1) := by decide +kernel
theorem dX5_lessens_0 : decode cX5_lessens 0 = .ok (.aload_n 0, 1) := by decide +kernel
theorem dX5_lessens_1 : decode cX5_lessens 1 = .ok (.invokevirtual 152, 3) := by decide +kernel
theorem dX5_lessens_4 : decode cX5_lessens 4 = .ok (.ifCond .eq 20, 3) := by decide +kernel
theorem dX5_lessens_7 : decode cX5_lessens 7 = .ok (.aload_n 0, 1) := by decide +kernel
theorem dX5_lessens_8 : decode cX5_lessens 8 = .ok (.getfield 53, 3) := by decide +kernel
theorem dX5_lessens_11 : decode cX5_lessens 11 = .ok (.iconst 0, 1) := by decide +kernel
theorem dX5_lessens_12 : decode cX5_lessens 12 = .ok (.iaload, 1) := by decide +kernel
theorem dX5_lessens_13 : decode cX5_lessens 13 = .ok (.aload_n 0, 1) := by decide +kernel
theorem dX5_lessens_14 : decode cX5_lessens 14 = .ok (.invokevirtual 122, 3) := by decide +kernel
theorem dX5_lessens_17 : decode cX5_lessens 17 = .ok (.if_icmp .ge 7, 3) := by decide +kernel
theorem dX5_lessens_20 : decode cX5_lessens 20 = .ok (.iconst 1, 1) := by decide +kernel
theorem dX5_lessens_21 : decode cX5_lessens 21 = .ok (.goto 4, 3) := by decide +kernel
theorem dX5_lessens_24 : decode cX5_lessens 24 = .ok (.iconst 0, 1) := by decide +kernel
theorem dX5_lessens_25 : decode cX5_lessens 25 = .ok (.ireturn, 1) := by decide +kernel
theorem dX5_steps_0 : decode cX5_steps 0 = .ok (.aload_n 0, 1) := by decide +kernel
theorem dX5_steps_1 : decode cX5_steps 1 = .ok (.getfield 53, 3) := by decide +kernel
theorem dX5_steps_4 : decode cX5_steps 4 = .ok (.iconst 1, 1) := by decide +kernel
theorem dX5_steps_5 : decode cX5_steps 5 = .ok (.iaload, 1) := by decide +kernel
theorem dX5_steps_6 : decode cX5_steps 6 = .ok (.ifCond .ne 23, 3) := by decide +kernel
theorem dX5_steps_9 : decode cX5_steps 9 = .ok (.aload_n 0, 1) := by decide +kernel
theorem dX5_steps_10 : decode cX5_steps 10 = .ok (.getfield 16, 3) := by decide +kernel
theorem dX5_steps_13 : decode cX5_steps 13 = .ok (.aload_n 0, 1) := by decide +kernel
theorem dX5_steps_14 : decode cX5_steps 14 = .ok (.getfield 53, 3) := by decide +kernel
theorem dX5_steps_17 : decode cX5_steps 17 = .ok (.iconst 2, 1) := by decide +kernel
theorem dX5_steps_18 : decode cX5_steps 18 = .ok (.iaload, 1) := by decide +kernel
theorem dX5_steps_19 : decode cX5_steps 19 = .ok (.aload_n 0, 1) := by decide +kernel
theorem dX5_steps_20 : decode cX5_steps 20 = .ok (.getfield 53, 3) := by decide +kernel
theorem dX5_steps_23 : decode cX5_steps 23 = .ok (.iconst 3, 1) := by decide +kernel
theorem dX5_steps_24 : decode cX5_steps 24 = .ok (.iaload, 1) := by decide +kernel
theorem dX5_steps_25 : decode cX5_steps 25 = .ok (.iastore, 1) := by decide +kernel
theorem dX5_steps_26 : decode cX5_steps 26 = .ok (.goto 19, 3) := by decide +kernel
theorem dX5_steps_29 : decode cX5_steps 29 = .ok (.aload_n 0, 1) := by decide +kernel
theorem dX5_steps_30 : decode cX5_steps 30 = .ok (.aload_n 0, 1) := by decide +kernel
theorem dX5_steps_31 : decode cX5_steps 31 = .ok (.getfield 53, 3) := by decide +kernel
theorem dX5_steps_34 : decode cX5_steps 34 = .ok (.iconst 2, 1) := by decide +kernel
theorem dX5_steps_35 : decode cX5_steps 35 = .ok (.iaload, 1) := by decide +kernel
theorem dX5_steps_36 : decode cX5_steps 36 = .ok (.aload_n 0, 1) := by decide +kernel
theorem dX5_steps_37 : decode cX5_steps 37 = .ok (.getfield 53, 3) := by decide +kernel
theorem dX5_steps_40 : decode cX5_steps 40 = .ok (.iconst 3, 1) := by decide +kernel
theorem dX5_steps_41 : decode cX5_steps 41 = .ok (.iaload, 1) := by decide +kernel
theorem dX5_steps_42 : decode cX5_steps 42 = .ok (.invokevirtual 138, 3) := by decide +kernel
theorem dX5_steps_45 : decode cX5_steps 45 = .ok (.return_, 1) := by decide +kernel
theorem dX5_step_0 : decode cX5_step 0 = .ok (.aload_n 0, 1) := by decide +kernel
theorem dX5_step_1 : decode cX5_step 1 = .ok (.invokevirtual 155, 3) := by decide +kernel
theorem dX5_step_4 : decode cX5_step 4 = .ok (.ifCond .ne 10, 3) := by decide +kernel
theorem dX5_step_7 : decode cX5_step 7 = .ok (.aload_n 0, 1) := by decide +kernel
theorem dX5_step_8 : decode cX5_step 8 = .ok (.bipush (-3), 2) := by decide +kernel
theorem dX5_step_10 : decode cX5_step 10 = .ok (.invokevirtual 63, 3) := by decide +kernel
theorem dX5_step_13 : decode cX5_step 13 = .ok (.ireturn, 1) := by decide +kernel
theorem dX5_step_14 : decode cX5_step 14 = .ok (.aload_n 0, 1) := by decide +kernel
theorem dX5_step_15 : decode cX5_step 15 = .ok (.invokevirtual 135, 3) := by decide +kernel
theorem dX5_step_18 : decode cX5_step 18 = .ok (.aload_n 0, 1) := by decide +kernel
theorem dX5_step_19 : decode cX5_step 19 = .ok (.invokevirtual 158, 3) := by decide +kernel
theorem dX5_step_22 : decode cX5_step 22 = .ok (.aload_n 0, 1) := by decide +kernel
theorem dX5_step_23 : decode cX5_step 23 = .ok (.getfield 53, 3) := by decide +kernel
theorem dX5_step_26 : decode cX5_step 26 = .ok (.iconst 0, 1) := by decide +kernel
theorem dX5_step_27 : decode cX5_step 27 = .ok (.iaload, 1) := by decide +kernel
theorem dX5_step_28 : decode cX5_step 28 = .ok (.ireturn, 1) := by decide +kernel
theorem dX5_down_0 : decode cX5_down 0 = .ok (.iconst 0, 1) := by decide +kernel
theorem dX5_down_1 : decode cX5_down 1 = .ok (.istore_n 1, 1) := by decide +kernel
theorem dX5_down_2 : decode cX5_down 2 = .ok (.aload_n 0, 1) := by decide +kernel
theorem dX5_down_3 : decode cX5_down 3 = .ok (.invokevirtual 155, 3) := by decide +kernel
theorem dX5_down_6 : decode cX5_down 6 = .ok (.ifCond .eq 21, 3) := by decide +kernel
theorem dX5_down_9 : decode cX5_down 9 = .ok (.iload_n 1, 1) := by decide +kernel
theorem dX5_down_10 : decode cX5_down 10 = .ok (.ifCond .ne 7, 3) := by decide +kernel
theorem dX5_down_13 : decode cX5_down 13 = .ok (.aload_n 0, 1) := by decide +kernel
theorem dX5_down_14 : decode cX5_down 14 = .ok (.invokevirtual 135, 3) := by decide +kernel
theorem dX5_down_17 : decode cX5_down 17 = .ok (.aload_n 0, 1) := by decide +kernel
theorem dX5_down_18 : decode cX5_down 18 = .ok (.invokevirtual 158, 3) := by decide +kernel
theorem dX5_down_21 : decode cX5_down 21 = .ok (.iinc 1 1, 3) := by decide +kernel
theorem dX5_down_24 : decode cX5_down 24 = .ok (.goto (-22), 3) := by decide +kernel
theorem dX5_down_27 : decode cX5_down 27 = .ok (.iload_n 1, 1) := by decide +kernel
theorem dX5_down_28 : decode cX5_down 28 = .ok (.ireturn, 1) := by decide +kernel
theorem dX5_undo_0 : decode cX5_undo 0 = .ok (.aload_n 0, 1) := by decide +kernel
theorem dX5_undo_1 : decode cX5_undo 1 = .ok (.getfield 67, 3) := by decide +kernel
theorem dX5_undo_4 : decode cX5_undo 4 = .ok (.ifCond .ne 10, 3) := by decide +kernel
theorem dX5_undo_7 : decode cX5_undo 7 = .ok (.aload_n 0, 1) := by decide +kernel
theorem dX5_undo_8 : decode cX5_undo 8 = .ok (.bipush (-3), 2) := by decide +kernel
theorem dX5_undo_10 : decode cX5_undo 10 = .ok (.invokevirtual 63, 3) := by decide +kernel
theorem dX5_undo_13 : decode cX5_undo 13 = .ok (.ireturn, 1) := by decide +kernel
theorem dX5_undo_14 : decode cX5_undo 14 = .ok (.aload_n 0, 1) := by decide +kernel
theorem dX5_undo_15 : decode cX5_undo 15 = .ok (.dup, 1) := by decide +kernel
theorem dX5_undo_16 : decode cX5_undo 16 = .ok (.getfield 67, 3) := by decide +kernel
theorem dX5_undo_19 : decode cX5_undo 19 = .ok (.iconst 1, 1) := by decide +kernel
theorem dX5_undo_20 : decode cX5_undo 20 = .ok (.isub, 1) := by decide +kernel
theorem dX5_undo_21 : decode cX5_undo 21 = .ok (.putfield 67, 3) := by decide +kernel
theorem dX5_undo_24 : decode cX5_undo 24 = .ok (.iconst 0, 1) := by decide +kernel
theorem dX5_undo_25 : decode cX5_undo 25 = .ok (.istore_n 1, 1) := by decide +kernel
theorem dX5_undo_26 : decode cX5_undo 26 = .ok (.iload_n 1, 1) := by decide +kernel
theorem dX5_undo_27 : decode cX5_undo 27 = .ok (.bipush 9, 2) := by decide +kernel
theorem dX5_undo_29 : decode cX5_undo 29 = .ok (.if_icmp .ge 29, 3) := by decide +kernel
theorem dX5_undo_32 : decode cX5_undo 32 = .ok (.aload_n 0, 1) := by decide +kernel
theorem dX5_undo_33 : decode cX5_undo 33 = .ok (.getfield 16, 3) := by decide +kernel
theorem dX5_undo_36 : decode cX5_undo 36 = .ok (.iload_n 1, 1) := by decide +kernel
theorem dX5_undo_37 : decode cX5_undo 37 = .ok (.aload_n 0, 1) := by decide +kernel
theorem dX5_undo_38 : decode cX5_undo 38 = .ok (.getfield 32, 3) := by decide +kernel
theorem dX5_undo_41 : decode cX5_undo 41 = .ok (.bipush 9, 2) := by decide +kernel
theorem dX5_undo_43 : decode cX5_undo 43 = .ok (.aload_n 0, 1) := by decide +kernel
theorem dX5_undo_44 : decode cX5_undo 44 = .ok (.getfield 67, 3) := by decide +kernel
theorem dX5_undo_47 : decode cX5_undo 47 = .ok (.imul, 1) := by decide +kernel
theorem dX5_undo_48 : decode cX5_undo 48 = .ok (.iload_n 1, 1) := by decide +kernel
theorem dX5_undo_49 : decode cX5_undo 49 = .ok (.iadd, 1) := by decide +kernel
theorem dX5_undo_50 : decode cX5_undo 50 = .ok (.iaload, 1) := by decide +kernel
theorem dX5_undo_51 : decode cX5_undo 51 = .ok (.iastore, 1) := by decide +kernel
theorem dX5_undo_52 : decode cX5_undo 52 = .ok (.iinc 1 1, 3) := by decide +kernel
theorem dX5_undo_55 : decode cX5_undo 55 = .ok (.goto (-29), 3) := by decide +kernel
theorem dX5_undo_58 : decode cX5_undo 58 = .ok (.aload_n 0, 1) := by decide +kernel
theorem dX5_undo_59 : decode cX5_undo 59 = .ok (.getfield 67, 3) := by decide +kernel
theorem dX5_undo_62 : decode cX5_undo 62 = .ok (.ireturn, 1) := by decide +kernel
theorem dX5_goes_0 : decode cX5_goes 0 = .ok (.aload_n 0, 1) := by decide +kernel
theorem dX5_goes_1 : decode cX5_goes 1 = .ok (.invokevirtual 106, 3) := by decide +kernel
theorem dX5_goes_4 : decode cX5_goes 4 = .ok (.aload_n 0, 1) := by decide +kernel
theorem dX5_goes_5 : decode cX5_goes 5 = .ok (.iconst 0, 1) := by decide +kernel
theorem dX5_goes_6 : decode cX5_goes 6 = .ok (.putfield 161, 3) := by decide +kernel
theorem dX5_goes_9 : decode cX5_goes 9 = .ok (.aload_n 0, 1) := by decide +kernel
theorem dX5_goes_10 : decode cX5_goes 10 = .ok (.iconst (-1), 1) := by decide +kernel
theorem dX5_goes_11 : decode cX5_goes 11 = .ok (.putfield 164, 3) := by decide +kernel
theorem dX5_goes_14 : decode cX5_goes 14 = .ok (.aload_n 0, 1) := by decide +kernel
theorem dX5_goes_15 : decode cX5_goes 15 = .ok (.iconst 0, 1) := by decide +kernel
theorem dX5_goes_16 : decode cX5_goes 16 = .ok (.putfield 167, 3) := by decide +kernel
theorem dX5_goes_19 : decode cX5_goes 19 = .ok (.iconst 0, 1) := by decide +kernel
theorem dX5_goes_20 : decode cX5_goes 20 = .ok (.istore_n 1, 1) := by decide +kernel
theorem dX5_goes_21 : decode cX5_goes 21 = .ok (.iload_n 1, 1) := by decide +kernel
theorem dX5_goes_22 : decode cX5_goes 22 = .ok (.bipush 10, 2) := by decide +kernel
theorem dX5_goes_24 : decode cX5_goes 24 = .ok (.if_icmp .ge 16, 3) := by decide +kernel
theorem dX5_goes_27 : decode cX5_goes 27 = .ok (.aload_n 0, 1) := by decide +kernel
theorem dX5_goes_28 : decode cX5_goes 28 = .ok (.getfield 50, 3) := by decide +kernel
theorem dX5_goes_31 : decode cX5_goes 31 = .ok (.iload_n 1, 1) := by decide +kernel
theorem dX5_goes_32 : decode cX5_goes 32 = .ok (.iconst (-1), 1) := by decide +kernel
theorem dX5_goes_33 : decode cX5_goes 33 = .ok (.iastore, 1) := by decide +kernel
theorem dX5_goes_34 : decode cX5_goes 34 = .ok (.iinc 1 1, 3) := by decide +kernel
theorem dX5_goes_37 : decode cX5_goes 37 = .ok (.goto (-16), 3) := by decide +kernel
theorem dX5_goes_40 : decode cX5_goes 40 = .ok (.iconst 0, 1) := by decide +kernel
theorem dX5_goes_41 : decode cX5_goes 41 = .ok (.istore_n 1, 1) := by decide +kernel
theorem dX5_goes_42 : decode cX5_goes 42 = .ok (.iload_n 1, 1) := by decide +kernel
theorem dX5_goes_43 : decode cX5_goes 43 = .ok (.aload_n 0, 1) := by decide +kernel
theorem dX5_goes_44 : decode cX5_goes 44 = .ok (.getfield 56, 3) := by decide +kernel
theorem dX5_goes_47 : decode cX5_goes 47 = .ok (.if_icmp .ge 35, 3) := by decide +kernel
theorem dX5_goes_50 : decode cX5_goes 50 = .ok (.aload_n 0, 1) := by decide +kernel
theorem dX5_goes_51 : decode cX5_goes 51 = .ok (.getfield 44, 3) := by decide +kernel
theorem dX5_goes_54 : decode cX5_goes 54 = .ok (.iload_n 1, 1) := by decide +kernel
theorem dX5_goes_55 : decode cX5_goes 55 = .ok (.aload_n 0, 1) := by decide +kernel
theorem dX5_goes_56 : decode cX5_goes 56 = .ok (.getfield 19, 3) := by decide +kernel
theorem dX5_goes_59 : decode cX5_goes 59 = .ok (.iload_n 1, 1) := by decide +kernel
theorem dX5_goes_60 : decode cX5_goes 60 = .ok (.iaload, 1) := by decide +kernel
theorem dX5_goes_61 : decode cX5_goes 61 = .ok (.iconst 1, 1) := by decide +kernel
theorem dX5_goes_62 : decode cX5_goes 62 = .ok (.if_icmp .ne 12, 3) := by decide +kernel
theorem dX5_goes_65 : decode cX5_goes 65 = .ok (.aload_n 0, 1) := by decide +kernel
theorem dX5_goes_66 : decode cX5_goes 66 = .ok (.getfield 16, 3) := by decide +kernel
theorem dX5_goes_69 : decode cX5_goes 69 = .ok (.iload_n 1, 1) := by decide +kernel
theorem dX5_goes_70 : decode cX5_goes 70 = .ok (.iaload, 1) := by decide +kernel
theorem dX5_goes_71 : decode cX5_goes 71 = .ok (.goto 4, 3) := by decide +kernel
theorem dX5_goes_74 : decode cX5_goes 74 = .ok (.iconst 0, 1) := by decide +kernel
theorem dX5_goes_75 : decode cX5_goes 75 = .ok (.iastore, 1) := by decide +kernel
theorem dX5_goes_76 : decode cX5_goes 76 = .ok (.iinc 1 1, 3) := by decide +kernel
theorem dX5_goes_79 : decode cX5_goes 79 = .ok (.goto (-37), 3) := by decide +kernel
theorem dX5_goes_82 : decode cX5_goes 82 = .ok (.iconst 1, 1) := by decide +kernel
theorem dX5_goes_83 : decode cX5_goes 83 = .ok (.istore_n 1, 1) := by decide +kernel
theorem dX5_goes_84 : decode cX5_goes 84 = .ok (.iload_n 1, 1) := by decide +kernel
theorem dX5_goes_85 : decode cX5_goes 85 = .ok (.ifCond .eq 104, 3) := by decide +kernel
theorem dX5_goes_88 : decode cX5_goes 88 = .ok (.aload_n 0, 1) := by decide +kernel
theorem dX5_goes_89 : decode cX5_goes 89 = .ok (.invokevirtual 129, 3) := by decide +kernel
theorem dX5_goes_92 : decode cX5_goes 92 = .ok (.ifCond .eq 7, 3) := by decide +kernel
theorem dX5_goes_95 : decode cX5_goes 95 = .ok (.aload_n 0, 1) := by decide +kernel
theorem dX5_goes_96 : decode cX5_goes 96 = .ok (.invokevirtual 170, 3) := by decide +kernel
theorem dX5_goes_99 : decode cX5_goes 99 = .ok (.aload_n 0, 1) := by decide +kernel
theorem dX5_goes_100 : decode cX5_goes 100 = .ok (.getfield 56, 3) := by decide +kernel
theorem dX5_goes_103 : decode cX5_goes 103 = .ok (.iconst 1, 1) := by decide +kernel
theorem dX5_goes_104 : decode cX5_goes 104 = .ok (.isub, 1) := by decide +kernel
theorem dX5_goes_105 : decode cX5_goes 105 = .ok (.istore_n 2, 1) := by decide +kernel
theorem dX5_goes_106 : decode cX5_goes 106 = .ok (.iload_n 2, 1) := by decide +kernel
theorem dX5_goes_107 : decode cX5_goes 107 = .ok (.ifCond .lt 55, 3) := by decide +kernel
theorem dX5_goes_110 : decode cX5_goes 110 = .ok (.aload_n 0, 1) := by decide +kernel
theorem dX5_goes_111 : decode cX5_goes 111 = .ok (.getfield 19, 3) := by decide +kernel
theorem dX5_goes_114 : decode cX5_goes 114 = .ok (.iload_n 2, 1) := by decide +kernel
theorem dX5_goes_115 : decode cX5_goes 115 = .ok (.iaload, 1) := by decide +kernel
theorem dX5_goes_116 : decode cX5_goes 116 = .ok (.iconst 1, 1) := by decide +kernel
theorem dX5_goes_117 : decode cX5_goes 117 = .ok (.if_icmp .eq 13, 3) := by decide +kernel
theorem dX5_goes_120 : decode cX5_goes 120 = .ok (.aload_n 0, 1) := by decide +kernel
theorem dX5_goes_121 : decode cX5_goes 121 = .ok (.getfield 44, 3) := by decide +kernel
theorem dX5_goes_124 : decode cX5_goes 124 = .ok (.iload_n 2, 1) := by decide +kernel
theorem dX5_goes_125 : decode cX5_goes 125 = .ok (.iaload, 1) := by decide +kernel
theorem dX5_goes_126 : decode cX5_goes 126 = .ok (.iconst 2, 1) := by decide +kernel
theorem dX5_goes_127 : decode cX5_goes 127 = .ok (.if_icmp .ne 35, 3) := by decide +kernel
theorem dX5_goes_130 : decode cX5_goes 130 = .ok (.aload_n 0, 1) := by decide +kernel
theorem dX5_goes_131 : decode cX5_goes 131 = .ok (.getfield 44, 3) := by decide +kernel
theorem dX5_goes_134 : decode cX5_goes 134 = .ok (.iload_n 2, 1) := by decide +kernel
theorem dX5_goes_135 : decode cX5_goes 135 = .ok (.aload_n 0, 1) := by decide +kernel
theorem dX5_goes_136 : decode cX5_goes 136 = .ok (.getfield 19, 3) := by decide +kernel
theorem dX5_goes_139 : decode cX5_goes 139 = .ok (.iload_n 2, 1) := by decide +kernel
theorem dX5_goes_140 : decode cX5_goes 140 = .ok (.iaload, 1) := by decide +kernel
theorem dX5_goes_141 : decode cX5_goes 141 = .ok (.iconst 1, 1) := by decide +kernel
theorem dX5_goes_142 : decode cX5_goes 142 = .ok (.if_icmp .ne 12, 3) := by decide +kernel
theorem dX5_goes_145 : decode cX5_goes 145 = .ok (.aload_n 0, 1) := by decide +kernel
theorem dX5_goes_146 : decode cX5_goes 146 = .ok (.getfield 44, 3) := by decide +kernel
theorem dX5_goes_149 : decode cX5_goes 149 = .ok (.iload_n 2, 1) := by decide +kernel
theorem dX5_goes_150 : decode cX5_goes 150 = .ok (.iaload, 1) := by decide +kernel
theorem dX5_goes_151 : decode cX5_goes 151 = .ok (.goto 4, 3) := by decide +kernel
theorem dX5_goes_154 : decode cX5_goes 154 = .ok (.iconst 0, 1) := by decide +kernel
theorem dX5_goes_155 : decode cX5_goes 155 = .ok (.iastore, 1) := by decide +kernel
theorem dX5_goes_156 : decode cX5_goes 156 = .ok (.iinc 2 (-1), 3) := by decide +kernel
theorem dX5_goes_159 : decode cX5_goes 159 = .ok (.goto (-53), 3) := by decide +kernel
theorem dX5_goes_162 : decode cX5_goes 162 = .ok (.iload_n 2, 1) := by decide +kernel
theorem dX5_goes_163 : decode cX5_goes 163 = .ok (.ifCond .lt 7, 3) := by decide +kernel
theorem dX5_goes_166 : decode cX5_goes 166 = .ok (.iconst 1, 1) := by decide +kernel
theorem dX5_goes_167 : decode cX5_goes 167 = .ok (.goto 4, 3) := by decide +kernel
theorem dX5_goes_170 : decode cX5_goes 170 = .ok (.iconst 0, 1) := by decide +kernel
theorem dX5_goes_171 : decode cX5_goes 171 = .ok (.istore_n 1, 1) := by decide +kernel
theorem dX5_goes_172 : decode cX5_goes 172 = .ok (.iload_n 1, 1) := by decide +kernel
theorem dX5_goes_173 : decode cX5_goes 173 = .ok (.ifCond .eq 13, 3) := by decide +kernel
theorem dX5_goes_176 : decode cX5_goes 176 = .ok (.aload_n 0, 1) := by decide +kernel
theorem dX5_goes_177 : decode cX5_goes 177 = .ok (.getfield 44, 3) := by decide +kernel
theorem dX5_goes_180 : decode cX5_goes 180 = .ok (.iload_n 2, 1) := by decide +kernel
theorem dX5_goes_181 : decode cX5_goes 181 = .ok (.dup2, 1) := by decide +kernel
theorem dX5_goes_182 : decode cX5_goes 182 = .ok (.iaload, 1) := by decide +kernel
theorem dX5_goes_183 : decode cX5_goes 183 = .ok (.iconst 1, 1) := by decide +kernel
theorem dX5_goes_184 : decode cX5_goes 184 = .ok (.iadd, 1) := by decide +kernel
theorem dX5_goes_185 : decode cX5_goes 185 = .ok (.iastore, 1) := by decide +kernel
theorem dX5_goes_186 : decode cX5_goes 186 = .ok (.goto (-102), 3) := by decide +kernel
theorem dX5_goes_189 : decode cX5_goes 189 = .ok (.return_, 1) := by decide +kernel
theorem dX5_meets_0 : decode cX5_meets 0 = .ok (.aload_n 0, 1) := by decide +kernel
theorem dX5_meets_1 : decode cX5_meets 1 = .ok (.invokevirtual 109, 3) := by decide +kernel
theorem dX5_meets_4 : decode cX5_meets 4 = .ok (.aload_n 0, 1) := by decide +kernel
theorem dX5_meets_5 : decode cX5_meets 5 = .ok (.invokevirtual 125, 3) := by decide +kernel
theorem dX5_meets_8 : decode cX5_meets 8 = .ok (.ifCond .ne 4, 3) := by decide +kernel
theorem dX5_meets_11 : decode cX5_meets 11 = .ok (.return_, 1) := by decide +kernel
theorem dX5_meets_12 : decode cX5_meets 12 = .ok (.aload_n 0, 1) := by decide +kernel
theorem dX5_meets_13 : decode cX5_meets 13 = .ok (.dup, 1) := by decide +kernel
theorem dX5_meets_14 : decode cX5_meets 14 = .ok (.getfield 161, 3) := by decide +kernel
theorem dX5_meets_17 : decode cX5_meets 17 = .ok (.iconst 1, 1) := by decide +kernel
theorem dX5_meets_18 : decode cX5_meets 18 = .ok (.iadd, 1) := by decide +kernel
theorem dX5_meets_19 : decode cX5_meets 19 = .ok (.putfield 161, 3) := by decide +kernel
theorem dX5_meets_22 : decode cX5_meets 22 = .ok (.aload_n 0, 1) := by decide +kernel
theorem dX5_meets_23 : decode cX5_meets 23 = .ok (.invokevirtual 118, 3) := by decide +kernel
theorem dX5_meets_26 : decode cX5_meets 26 = .ok (.istore_n 1, 1) := by decide +kernel
theorem dX5_meets_27 : decode cX5_meets 27 = .ok (.iconst 0, 1) := by decide +kernel
theorem dX5_meets_28 : decode cX5_meets 28 = .ok (.istore_n 2, 1) := by decide +kernel
theorem dX5_meets_29 : decode cX5_meets 29 = .ok (.iconst 0, 1) := by decide +kernel
theorem dX5_meets_30 : decode cX5_meets 30 = .ok (.istore_n 3, 1) := by decide +kernel
theorem dX5_meets_31 : decode cX5_meets 31 = .ok (.iload_n 3, 1) := by decide +kernel
theorem dX5_meets_32 : decode cX5_meets 32 = .ok (.aload_n 0, 1) := by decide +kernel
theorem dX5_meets_33 : decode cX5_meets 33 = .ok (.getfield 56, 3) := by decide +kernel
theorem dX5_meets_36 : decode cX5_meets 36 = .ok (.if_icmp .ge 32, 3) := by decide +kernel
theorem dX5_meets_39 : decode cX5_meets 39 = .ok (.iload_n 2, 1) := by decide +kernel
theorem dX5_meets_40 : decode cX5_meets 40 = .ok (.aload_n 0, 1) := by decide +kernel
theorem dX5_meets_41 : decode cX5_meets 41 = .ok (.getfield 44, 3) := by decide +kernel
theorem dX5_meets_44 : decode cX5_meets 44 = .ok (.iload_n 3, 1) := by decide +kernel
theorem dX5_meets_45 : decode cX5_meets 45 = .ok (.iaload, 1) := by decide +kernel
theorem dX5_meets_46 : decode cX5_meets 46 = .ok (.aload_n 0, 1) := by decide +kernel
theorem dX5_meets_47 : decode cX5_meets 47 = .ok (.getfield 16, 3) := by decide +kernel
theorem dX5_meets_50 : decode cX5_meets 50 = .ok (.iload_n 3, 1) := by decide +kernel
theorem dX5_meets_51 : decode cX5_meets 51 = .ok (.iaload, 1) := by decide +kernel
theorem dX5_meets_52 : decode cX5_meets 52 = .ok (.if_icmp .ne 7, 3) := by decide +kernel
theorem dX5_meets_55 : decode cX5_meets 55 = .ok (.iconst 0, 1) := by decide +kernel
theorem dX5_meets_56 : decode cX5_meets 56 = .ok (.goto 4, 3) := by decide +kernel
theorem dX5_meets_59 : decode cX5_meets 59 = .ok (.iconst 1, 1) := by decide +kernel
theorem dX5_meets_60 : decode cX5_meets 60 = .ok (.iadd, 1) := by decide +kernel
theorem dX5_meets_61 : decode cX5_meets 61 = .ok (.istore_n 2, 1) := by decide +kernel
theorem dX5_meets_62 : decode cX5_meets 62 = .ok (.iinc 3 1, 3) := by decide +kernel
theorem dX5_meets_65 : decode cX5_meets 65 = .ok (.goto (-34), 3) := by decide +kernel
theorem dX5_meets_68 : decode cX5_meets 68 = .ok (.aload_n 0, 1) := by decide +kernel
theorem dX5_meets_69 : decode cX5_meets 69 = .ok (.aload_n 0, 1) := by decide +kernel
theorem dX5_meets_70 : decode cX5_meets 70 = .ok (.getfield 164, 3) := by decide +kernel
theorem dX5_meets_73 : decode cX5_meets 73 = .ok (.ifCond .lt 11, 3) := by decide +kernel
theorem dX5_meets_76 : decode cX5_meets 76 = .ok (.iload_n 1, 1) := by decide +kernel
theorem dX5_meets_77 : decode cX5_meets 77 = .ok (.aload_n 0, 1) := by decide +kernel
theorem dX5_meets_78 : decode cX5_meets 78 = .ok (.getfield 164, 3) := by decide +kernel
theorem dX5_meets_81 : decode cX5_meets 81 = .ok (.if_icmp .ge 7, 3) := by decide +kernel
theorem dX5_meets_84 : decode cX5_meets 84 = .ok (.iconst 1, 1) := by decide +kernel
theorem dX5_meets_85 : decode cX5_meets 85 = .ok (.goto 24, 3) := by decide +kernel
theorem dX5_meets_88 : decode cX5_meets 88 = .ok (.iload_n 1, 1) := by decide +kernel
theorem dX5_meets_89 : decode cX5_meets 89 = .ok (.aload_n 0, 1) := by decide +kernel
theorem dX5_meets_90 : decode cX5_meets 90 = .ok (.getfield 164, 3) := by decide +kernel
theorem dX5_meets_93 : decode cX5_meets 93 = .ok (.if_icmp .ne 12, 3) := by decide +kernel
theorem dX5_meets_96 : decode cX5_meets 96 = .ok (.aload_n 0, 1) := by decide +kernel
theorem dX5_meets_97 : decode cX5_meets 97 = .ok (.getfield 167, 3) := by decide +kernel
theorem dX5_meets_100 : decode cX5_meets 100 = .ok (.iconst 1, 1) := by decide +kernel
theorem dX5_meets_101 : decode cX5_meets 101 = .ok (.iadd, 1) := by decide +kernel
theorem dX5_meets_102 : decode cX5_meets 102 = .ok (.goto 7, 3) := by decide +kernel
theorem dX5_meets_105 : decode cX5_meets 105 = .ok (.aload_n 0, 1) := by decide +kernel
theorem dX5_meets_106 : decode cX5_meets 106 = .ok (.getfield 167, 3) := by decide +kernel
theorem dX5_meets_109 : decode cX5_meets 109 = .ok (.putfield 167, 3) := by decide +kernel
theorem dX5_meets_112 : decode cX5_meets 112 = .ok (.aload_n 0, 1) := by decide +kernel
theorem dX5_meets_113 : decode cX5_meets 113 = .ok (.aload_n 0, 1) := by decide +kernel
theorem dX5_meets_114 : decode cX5_meets 114 = .ok (.getfield 164, 3) := by decide +kernel
theorem dX5_meets_117 : decode cX5_meets 117 = .ok (.ifCond .lt 11, 3) := by decide +kernel
theorem dX5_meets_120 : decode cX5_meets 120 = .ok (.iload_n 1, 1) := by decide +kernel
theorem dX5_meets_121 : decode cX5_meets 121 = .ok (.aload_n 0, 1) := by decide +kernel
theorem dX5_meets_122 : decode cX5_meets 122 = .ok (.getfield 164, 3) := by decide +kernel
theorem dX5_meets_125 : decode cX5_meets 125 = .ok (.if_icmp .ge 7, 3) := by decide +kernel
theorem dX5_meets_128 : decode cX5_meets 128 = .ok (.iload_n 1, 1) := by decide +kernel
theorem dX5_meets_129 : decode cX5_meets 129 = .ok (.goto 7, 3) := by decide +kernel
theorem dX5_meets_132 : decode cX5_meets 132 = .ok (.aload_n 0, 1) := by decide +kernel
theorem dX5_meets_133 : decode cX5_meets 133 = .ok (.getfield 164, 3) := by decide +kernel
theorem dX5_meets_136 : decode cX5_meets 136 = .ok (.putfield 164, 3) := by decide +kernel
theorem dX5_meets_139 : decode cX5_meets 139 = .ok (.aload_n 0, 1) := by decide +kernel
theorem dX5_meets_140 : decode cX5_meets 140 = .ok (.getfield 50, 3) := by decide +kernel
theorem dX5_meets_143 : decode cX5_meets 143 = .ok (.iload_n 2, 1) := by decide +kernel
theorem dX5_meets_144 : decode cX5_meets 144 = .ok (.iaload, 1) := by decide +kernel
theorem dX5_meets_145 : decode cX5_meets 145 = .ok (.ifCond .lt 13, 3) := by decide +kernel
theorem dX5_meets_148 : decode cX5_meets 148 = .ok (.iload_n 1, 1) := by decide +kernel
theorem dX5_meets_149 : decode cX5_meets 149 = .ok (.aload_n 0, 1) := by decide +kernel
theorem dX5_meets_150 : decode cX5_meets 150 = .ok (.getfield 50, 3) := by decide +kernel
theorem dX5_meets_153 : decode cX5_meets 153 = .ok (.iload_n 2, 1) := by decide +kernel
theorem dX5_meets_154 : decode cX5_meets 154 = .ok (.iaload, 1) := by decide +kernel
theorem dX5_meets_155 : decode cX5_meets 155 = .ok (.if_icmp .ge 43, 3) := by decide +kernel
theorem dX5_meets_158 : decode cX5_meets 158 = .ok (.aload_n 0, 1) := by decide +kernel
theorem dX5_meets_159 : decode cX5_meets 159 = .ok (.getfield 50, 3) := by decide +kernel
theorem dX5_meets_162 : decode cX5_meets 162 = .ok (.iload_n 2, 1) := by decide +kernel
theorem dX5_meets_163 : decode cX5_meets 163 = .ok (.iload_n 1, 1) := by decide +kernel
theorem dX5_meets_164 : decode cX5_meets 164 = .ok (.iastore, 1) := by decide +kernel
theorem dX5_meets_165 : decode cX5_meets 165 = .ok (.iconst 0, 1) := by decide +kernel
theorem dX5_meets_166 : decode cX5_meets 166 = .ok (.istore_n 3, 1) := by decide +kernel
theorem dX5_meets_167 : decode cX5_meets 167 = .ok (.iload_n 3, 1) := by decide +kernel
theorem dX5_meets_168 : decode cX5_meets 168 = .ok (.aload_n 0, 1) := by decide +kernel
theorem dX5_meets_169 : decode cX5_meets 169 = .ok (.getfield 56, 3) := by decide +kernel
theorem dX5_meets_172 : decode cX5_meets 172 = .ok (.if_icmp .ge 26, 3) := by decide +kernel
theorem dX5_meets_175 : decode cX5_meets 175 = .ok (.aload_n 0, 1) := by decide +kernel
theorem dX5_meets_176 : decode cX5_meets 176 = .ok (.getfield 47, 3) := by decide +kernel
theorem dX5_meets_179 : decode cX5_meets 179 = .ok (.bipush 9, 2) := by decide +kernel
theorem dX5_meets_181 : decode cX5_meets 181 = .ok (.iload_n 2, 1) := by decide +kernel
theorem dX5_meets_182 : decode cX5_meets 182 = .ok (.imul, 1) := by decide +kernel
theorem dX5_meets_183 : decode cX5_meets 183 = .ok (.iload_n 3, 1) := by decide +kernel
theorem dX5_meets_184 : decode cX5_meets 184 = .ok (.iadd, 1) := by decide +kernel
theorem dX5_meets_185 : decode cX5_meets 185 = .ok (.aload_n 0, 1) := by decide +kernel
theorem dX5_meets_186 : decode cX5_meets 186 = .ok (.getfield 44, 3) := by decide +kernel
theorem dX5_meets_189 : decode cX5_meets 189 = .ok (.iload_n 3, 1) := by decide +kernel
theorem dX5_meets_190 : decode cX5_meets 190 = .ok (.iaload, 1) := by decide +kernel
theorem dX5_meets_191 : decode cX5_meets 191 = .ok (.iastore, 1) := by decide +kernel
theorem dX5_meets_192 : decode cX5_meets 192 = .ok (.iinc 3 1, 3) := by decide +kernel
theorem dX5_meets_195 : decode cX5_meets 195 = .ok (.goto (-28), 3) := by decide +kernel
theorem dX5_meets_198 : decode cX5_meets 198 = .ok (.return_, 1) := by decide +kernel
theorem dX5_bestBy_0 : decode cX5_bestBy 0 = .ok (.iconst (-1), 1) := by decide +kernel
theorem dX5_bestBy_1 : decode cX5_bestBy 1 = .ok (.istore_n 2, 1) := by decide +kernel
theorem dX5_bestBy_2 : decode cX5_bestBy 2 = .ok (.iconst 0, 1) := by decide +kernel
theorem dX5_bestBy_3 : decode cX5_bestBy 3 = .ok (.istore_n 3, 1) := by decide +kernel
theorem dX5_bestBy_4 : decode cX5_bestBy 4 = .ok (.iload_n 3, 1) := by decide +kernel
theorem dX5_bestBy_5 : decode cX5_bestBy 5 = .ok (.iload_n 1, 1) := by decide +kernel
theorem dX5_bestBy_6 : decode cX5_bestBy 6 = .ok (.if_icmp .gt 44, 3) := by decide +kernel
theorem dX5_bestBy_9 : decode cX5_bestBy 9 = .ok (.aload_n 0, 1) := by decide +kernel
theorem dX5_bestBy_10 : decode cX5_bestBy 10 = .ok (.getfield 50, 3) := by decide +kernel
theorem dX5_bestBy_13 : decode cX5_bestBy 13 = .ok (.iload_n 3, 1) := by decide +kernel
theorem dX5_bestBy_14 : decode cX5_bestBy 14 = .ok (.iaload, 1) := by decide +kernel
theorem dX5_bestBy_15 : decode cX5_bestBy 15 = .ok (.ifCond .lt 27, 3) := by decide +kernel
theorem dX5_bestBy_18 : decode cX5_bestBy 18 = .ok (.iload_n 2, 1) := by decide +kernel
theorem dX5_bestBy_19 : decode cX5_bestBy 19 = .ok (.iconst (-1), 1) := by decide +kernel
theorem dX5_bestBy_20 : decode cX5_bestBy 20 = .ok (.if_icmp .eq 18, 3) := by decide +kernel
theorem dX5_bestBy_23 : decode cX5_bestBy 23 = .ok (.aload_n 0, 1) := by decide +kernel
theorem dX5_bestBy_24 : decode cX5_bestBy 24 = .ok (.getfield 50, 3) := by decide +kernel
theorem dX5_bestBy_27 : decode cX5_bestBy 27 = .ok (.iload_n 3, 1) := by decide +kernel
theorem dX5_bestBy_28 : decode cX5_bestBy 28 = .ok (.iaload, 1) := by decide +kernel
theorem dX5_bestBy_29 : decode cX5_bestBy 29 = .ok (.aload_n 0, 1) := by decide +kernel
theorem dX5_bestBy_30 : decode cX5_bestBy 30 = .ok (.getfield 50, 3) := by decide +kernel
theorem dX5_bestBy_33 : decode cX5_bestBy 33 = .ok (.iload_n 2, 1) := by decide +kernel
theorem dX5_bestBy_34 : decode cX5_bestBy 34 = .ok (.iaload, 1) := by decide +kernel
theorem dX5_bestBy_35 : decode cX5_bestBy 35 = .ok (.if_icmp .ge 7, 3) := by decide +kernel
theorem dX5_bestBy_38 : decode cX5_bestBy 38 = .ok (.iload_n 3, 1) := by decide +kernel
theorem dX5_bestBy_39 : decode cX5_bestBy 39 = .ok (.goto 4, 3) := by decide +kernel
theorem dX5_bestBy_42 : decode cX5_bestBy 42 = .ok (.iload_n 2, 1) := by decide +kernel
theorem dX5_bestBy_43 : decode cX5_bestBy 43 = .ok (.istore_n 2, 1) := by decide +kernel
theorem dX5_bestBy_44 : decode cX5_bestBy 44 = .ok (.iinc 3 1, 3) := by decide +kernel
theorem dX5_bestBy_47 : decode cX5_bestBy 47 = .ok (.goto (-43), 3) := by decide +kernel
theorem dX5_bestBy_50 : decode cX5_bestBy 50 = .ok (.iload_n 2, 1) := by decide +kernel
theorem dX5_bestBy_51 : decode cX5_bestBy 51 = .ok (.ireturn, 1) := by decide +kernel
theorem dX5_lay_0 : decode cX5_lay 0 = .ok (.aload_n 0, 1) := by decide +kernel
theorem dX5_lay_1 : decode cX5_lay 1 = .ok (.invokevirtual 173, 3) := by decide +kernel
theorem dX5_lay_4 : decode cX5_lay 4 = .ok (.aload_n 0, 1) := by decide +kernel
theorem dX5_lay_5 : decode cX5_lay 5 = .ok (.bipush 9, 2) := by decide +kernel
theorem dX5_lay_7 : decode cX5_lay 7 = .ok (.invokevirtual 176, 3) := by decide +kernel
theorem dX5_lay_10 : decode cX5_lay 10 = .ok (.istore_n 1, 1) := by decide +kernel
theorem dX5_lay_11 : decode cX5_lay 11 = .ok (.iload_n 1, 1) := by decide +kernel
theorem dX5_lay_12 : decode cX5_lay 12 = .ok (.iconst (-1), 1) := by decide +kernel
theorem dX5_lay_13 : decode cX5_lay 13 = .ok (.if_icmp .ne 10, 3) := by decide +kernel
theorem dX5_lay_16 : decode cX5_lay 16 = .ok (.aload_n 0, 1) := by decide +kernel
theorem dX5_lay_17 : decode cX5_lay 17 = .ok (.bipush (-3), 2) := by decide +kernel
theorem dX5_lay_19 : decode cX5_lay 19 = .ok (.invokevirtual 63, 3) := by decide +kernel
theorem dX5_lay_22 : decode cX5_lay 22 = .ok (.ireturn, 1) := by decide +kernel
theorem dX5_lay_23 : decode cX5_lay 23 = .ok (.aload_n 0, 1) := by decide +kernel
theorem dX5_lay_24 : decode cX5_lay 24 = .ok (.invokevirtual 135, 3) := by decide +kernel
theorem dX5_lay_27 : decode cX5_lay 27 = .ok (.iconst 0, 1) := by decide +kernel
theorem dX5_lay_28 : decode cX5_lay 28 = .ok (.istore_n 2, 1) := by decide +kernel
theorem dX5_lay_29 : decode cX5_lay 29 = .ok (.iload_n 2, 1) := by decide +kernel
theorem dX5_lay_30 : decode cX5_lay 30 = .ok (.aload_n 0, 1) := by decide +kernel
theorem dX5_lay_31 : decode cX5_lay 31 = .ok (.getfield 56, 3) := by decide +kernel
theorem dX5_lay_34 : decode cX5_lay 34 = .ok (.if_icmp .ge 26, 3) := by decide +kernel
theorem dX5_lay_37 : decode cX5_lay 37 = .ok (.aload_n 0, 1) := by decide +kernel
theorem dX5_lay_38 : decode cX5_lay 38 = .ok (.getfield 16, 3) := by decide +kernel
theorem dX5_lay_41 : decode cX5_lay 41 = .ok (.iload_n 2, 1) := by decide +kernel
theorem dX5_lay_42 : decode cX5_lay 42 = .ok (.aload_n 0, 1) := by decide +kernel
theorem dX5_lay_43 : decode cX5_lay 43 = .ok (.getfield 47, 3) := by decide +kernel
theorem dX5_lay_46 : decode cX5_lay 46 = .ok (.bipush 9, 2) := by decide +kernel
theorem dX5_lay_48 : decode cX5_lay 48 = .ok (.iload_n 1, 1) := by decide +kernel
theorem dX5_lay_49 : decode cX5_lay 49 = .ok (.imul, 1) := by decide +kernel
theorem dX5_lay_50 : decode cX5_lay 50 = .ok (.iload_n 2, 1) := by decide +kernel
theorem dX5_lay_51 : decode cX5_lay 51 = .ok (.iadd, 1) := by decide +kernel
theorem dX5_lay_52 : decode cX5_lay 52 = .ok (.iaload, 1) := by decide +kernel
theorem dX5_lay_53 : decode cX5_lay 53 = .ok (.iastore, 1) := by decide +kernel
theorem dX5_lay_54 : decode cX5_lay 54 = .ok (.iinc 2 1, 3) := by decide +kernel
theorem dX5_lay_57 : decode cX5_lay 57 = .ok (.goto (-28), 3) := by decide +kernel
theorem dX5_lay_60 : decode cX5_lay 60 = .ok (.iload_n 1, 1) := by decide +kernel
theorem dX5_lay_61 : decode cX5_lay 61 = .ok (.ireturn, 1) := by decide +kernel
theorem dX5_best_0 : decode cX5_best 0 = .ok (.iload_n 1, 1) := by decide +kernel
theorem dX5_best_1 : decode cX5_best 1 = .ok (.iconst 0, 1) := by decide +kernel
theorem dX5_best_2 : decode cX5_best 2 = .ok (.iconst 2, 1) := by decide +kernel
theorem dX5_best_3 : decode cX5_best 3 = .ok (.invokestatic 59, 3) := by decide +kernel
theorem dX5_best_6 : decode cX5_best 6 = .ok (.ifCond .ne 10, 3) := by decide +kernel
theorem dX5_best_9 : decode cX5_best 9 = .ok (.aload_n 0, 1) := by decide +kernel
theorem dX5_best_10 : decode cX5_best 10 = .ok (.bipush (-2), 2) := by decide +kernel
theorem dX5_best_12 : decode cX5_best 12 = .ok (.invokevirtual 63, 3) := by decide +kernel
theorem dX5_best_15 : decode cX5_best 15 = .ok (.ireturn, 1) := by decide +kernel
theorem dX5_best_16 : decode cX5_best 16 = .ok (.aload_n 0, 1) := by decide +kernel
theorem dX5_best_17 : decode cX5_best 17 = .ok (.invokevirtual 173, 3) := by decide +kernel
theorem dX5_best_20 : decode cX5_best 20 = .ok (.aload_n 0, 1) := by decide +kernel
theorem dX5_best_21 : decode cX5_best 21 = .ok (.bipush 9, 2) := by decide +kernel
theorem dX5_best_23 : decode cX5_best 23 = .ok (.invokevirtual 176, 3) := by decide +kernel
theorem dX5_best_26 : decode cX5_best 26 = .ok (.istore_n 2, 1) := by decide +kernel
theorem dX5_best_27 : decode cX5_best 27 = .ok (.iload_n 2, 1) := by decide +kernel
theorem dX5_best_28 : decode cX5_best 28 = .ok (.iconst (-1), 1) := by decide +kernel
theorem dX5_best_29 : decode cX5_best 29 = .ok (.if_icmp .ne 12, 3) := by decide +kernel
theorem dX5_best_32 : decode cX5_best 32 = .ok (.aload_n 0, 1) := by decide +kernel
theorem dX5_best_33 : decode cX5_best 33 = .ok (.bipush (-3), 2) := by decide +kernel
theorem dX5_best_35 : decode cX5_best 35 = .ok (.invokevirtual 63, 3) := by decide +kernel
theorem dX5_best_38 : decode cX5_best 38 = .ok (.goto 27, 3) := by decide +kernel
theorem dX5_best_41 : decode cX5_best 41 = .ok (.iload_n 1, 1) := by decide +kernel
theorem dX5_best_42 : decode cX5_best 42 = .ok (.ifCond .ne 10, 3) := by decide +kernel
theorem dX5_best_45 : decode cX5_best 45 = .ok (.aload_n 0, 1) := by decide +kernel
theorem dX5_best_46 : decode cX5_best 46 = .ok (.getfield 164, 3) := by decide +kernel
theorem dX5_best_49 : decode cX5_best 49 = .ok (.goto 16, 3) := by decide +kernel
theorem dX5_best_52 : decode cX5_best 52 = .ok (.iload_n 1, 1) := by decide +kernel
theorem dX5_best_53 : decode cX5_best 53 = .ok (.iconst 1, 1) := by decide +kernel
theorem dX5_best_54 : decode cX5_best 54 = .ok (.if_icmp .ne 7, 3) := by decide +kernel
theorem dX5_best_57 : decode cX5_best 57 = .ok (.iload_n 2, 1) := by decide +kernel
theorem dX5_best_58 : decode cX5_best 58 = .ok (.goto 7, 3) := by decide +kernel
theorem dX5_best_61 : decode cX5_best 61 = .ok (.aload_n 0, 1) := by decide +kernel
theorem dX5_best_62 : decode cX5_best 62 = .ok (.getfield 167, 3) := by decide +kernel
theorem dX5_best_65 : decode cX5_best 65 = .ok (.ireturn, 1) := by decide +kernel
theorem dX5_phase_0 : decode cX5_phase 0 = .ok (.aload_n 0, 1) := by decide +kernel
theorem dX5_phase_1 : decode cX5_phase 1 = .ok (.iload_n 1, 1) := by decide +kernel
theorem dX5_phase_2 : decode cX5_phase 2 = .ok (.invokevirtual 70, 3) := by decide +kernel
theorem dX5_phase_5 : decode cX5_phase 5 = .ok (.ifCond .ne 10, 3) := by decide +kernel
theorem dX5_phase_8 : decode cX5_phase 8 = .ok (.aload_n 0, 1) := by decide +kernel
theorem dX5_phase_9 : decode cX5_phase 9 = .ok (.bipush (-2), 2) := by decide +kernel
theorem dX5_phase_11 : decode cX5_phase 11 = .ok (.invokevirtual 63, 3) := by decide +kernel
theorem dX5_phase_14 : decode cX5_phase 14 = .ok (.ireturn, 1) := by decide +kernel
theorem dX5_phase_15 : decode cX5_phase 15 = .ok (.aload_n 0, 1) := by decide +kernel
theorem dX5_phase_16 : decode cX5_phase 16 = .ok (.invokevirtual 173, 3) := by decide +kernel
theorem dX5_phase_19 : decode cX5_phase 19 = .ok (.aload_n 0, 1) := by decide +kernel
theorem dX5_phase_20 : decode cX5_phase 20 = .ok (.bipush 9, 2) := by decide +kernel
theorem dX5_phase_22 : decode cX5_phase 22 = .ok (.invokevirtual 176, 3) := by decide +kernel
theorem dX5_phase_25 : decode cX5_phase 25 = .ok (.istore_n 2, 1) := by decide +kernel
theorem dX5_phase_26 : decode cX5_phase 26 = .ok (.iload_n 2, 1) := by decide +kernel
theorem dX5_phase_27 : decode cX5_phase 27 = .ok (.iconst (-1), 1) := by decide +kernel
theorem dX5_phase_28 : decode cX5_phase 28 = .ok (.if_icmp .ne 12, 3) := by decide +kernel
theorem dX5_phase_31 : decode cX5_phase 31 = .ok (.aload_n 0, 1) := by decide +kernel
theorem dX5_phase_32 : decode cX5_phase 32 = .ok (.bipush (-3), 2) := by decide +kernel
theorem dX5_phase_34 : decode cX5_phase 34 = .ok (.invokevirtual 63, 3) := by decide +kernel
theorem dX5_phase_37 : decode cX5_phase 37 = .ok (.goto 14, 3) := by decide +kernel
theorem dX5_phase_40 : decode cX5_phase 40 = .ok (.aload_n 0, 1) := by decide +kernel
theorem dX5_phase_41 : decode cX5_phase 41 = .ok (.getfield 47, 3) := by decide +kernel
theorem dX5_phase_44 : decode cX5_phase 44 = .ok (.bipush 9, 2) := by decide +kernel
theorem dX5_phase_46 : decode cX5_phase 46 = .ok (.iload_n 2, 1) := by decide +kernel
theorem dX5_phase_47 : decode cX5_phase 47 = .ok (.imul, 1) := by decide +kernel
theorem dX5_phase_48 : decode cX5_phase 48 = .ok (.iload_n 1, 1) := by decide +kernel
theorem dX5_phase_49 : decode cX5_phase 49 = .ok (.iadd, 1) := by decide +kernel
theorem dX5_phase_50 : decode cX5_phase 50 = .ok (.iaload, 1) := by decide +kernel
theorem dX5_phase_51 : decode cX5_phase 51 = .ok (.ireturn, 1) := by decide +kernel
theorem dX5_by_0 : decode cX5_by 0 = .ok (.iload_n 1, 1) := by decide +kernel
theorem dX5_by_1 : decode cX5_by 1 = .ok (.iconst 0, 1) := by decide +kernel
theorem dX5_by_2 : decode cX5_by 2 = .ok (.bipush 9, 2) := by decide +kernel
theorem dX5_by_4 : decode cX5_by 4 = .ok (.invokestatic 59, 3) := by decide +kernel
theorem dX5_by_7 : decode cX5_by 7 = .ok (.ifCond .ne 10, 3) := by decide +kernel
theorem dX5_by_10 : decode cX5_by 10 = .ok (.aload_n 0, 1) := by decide +kernel
theorem dX5_by_11 : decode cX5_by 11 = .ok (.bipush (-2), 2) := by decide +kernel
theorem dX5_by_13 : decode cX5_by 13 = .ok (.invokevirtual 63, 3) := by decide +kernel
theorem dX5_by_16 : decode cX5_by 16 = .ok (.ireturn, 1) := by decide +kernel
theorem dX5_by_17 : decode cX5_by 17 = .ok (.aload_n 0, 1) := by decide +kernel
theorem dX5_by_18 : decode cX5_by 18 = .ok (.invokevirtual 173, 3) := by decide +kernel
theorem dX5_by_21 : decode cX5_by 21 = .ok (.aload_n 0, 1) := by decide +kernel
theorem dX5_by_22 : decode cX5_by 22 = .ok (.iload_n 1, 1) := by decide +kernel
theorem dX5_by_23 : decode cX5_by 23 = .ok (.invokevirtual 176, 3) := by decide +kernel
theorem dX5_by_26 : decode cX5_by 26 = .ok (.istore_n 2, 1) := by decide +kernel
theorem dX5_by_27 : decode cX5_by 27 = .ok (.iload_n 2, 1) := by decide +kernel
theorem dX5_by_28 : decode cX5_by 28 = .ok (.iconst (-1), 1) := by decide +kernel
theorem dX5_by_29 : decode cX5_by 29 = .ok (.if_icmp .ne 12, 3) := by decide +kernel
theorem dX5_by_32 : decode cX5_by 32 = .ok (.aload_n 0, 1) := by decide +kernel
theorem dX5_by_33 : decode cX5_by 33 = .ok (.bipush (-3), 2) := by decide +kernel
theorem dX5_by_35 : decode cX5_by 35 = .ok (.invokevirtual 63, 3) := by decide +kernel
theorem dX5_by_38 : decode cX5_by 38 = .ok (.goto 9, 3) := by decide +kernel
theorem dX5_by_41 : decode cX5_by 41 = .ok (.aload_n 0, 1) := by decide +kernel
theorem dX5_by_42 : decode cX5_by 42 = .ok (.getfield 50, 3) := by decide +kernel
theorem dX5_by_45 : decode cX5_by 45 = .ok (.iload_n 2, 1) := by decide +kernel
theorem dX5_by_46 : decode cX5_by 46 = .ok (.iaload, 1) := by decide +kernel
theorem dX5_by_47 : decode cX5_by 47 = .ok (.ireturn, 1) := by decide +kernel
theorem dX5_fewest_0 : decode cX5_fewest 0 = .ok (.iload_n 1, 1) := by decide +kernel
theorem dX5_fewest_1 : decode cX5_fewest 1 = .ok (.ifCond .ge 10, 3) := by decide +kernel
theorem dX5_fewest_4 : decode cX5_fewest 4 = .ok (.aload_n 0, 1) := by decide +kernel
theorem dX5_fewest_5 : decode cX5_fewest 5 = .ok (.bipush (-2), 2) := by decide +kernel
theorem dX5_fewest_7 : decode cX5_fewest 7 = .ok (.invokevirtual 63, 3) := by decide +kernel
theorem dX5_fewest_10 : decode cX5_fewest 10 = .ok (.ireturn, 1) := by decide +kernel
theorem dX5_fewest_11 : decode cX5_fewest 11 = .ok (.aload_n 0, 1) := by decide +kernel
theorem dX5_fewest_12 : decode cX5_fewest 12 = .ok (.invokevirtual 173, 3) := by decide +kernel
theorem dX5_fewest_15 : decode cX5_fewest 15 = .ok (.iconst 0, 1) := by decide +kernel
theorem dX5_fewest_16 : decode cX5_fewest 16 = .ok (.istore_n 2, 1) := by decide +kernel
theorem dX5_fewest_17 : decode cX5_fewest 17 = .ok (.iload_n 2, 1) := by decide +kernel
theorem dX5_fewest_18 : decode cX5_fewest 18 = .ok (.bipush 10, 2) := by decide +kernel
theorem dX5_fewest_20 : decode cX5_fewest 20 = .ok (.if_icmp .ge 28, 3) := by decide +kernel
theorem dX5_fewest_23 : decode cX5_fewest 23 = .ok (.aload_n 0, 1) := by decide +kernel
theorem dX5_fewest_24 : decode cX5_fewest 24 = .ok (.getfield 50, 3) := by decide +kernel
theorem dX5_fewest_27 : decode cX5_fewest 27 = .ok (.iload_n 2, 1) := by decide +kernel
theorem dX5_fewest_28 : decode cX5_fewest 28 = .ok (.iaload, 1) := by decide +kernel
theorem dX5_fewest_29 : decode cX5_fewest 29 = .ok (.ifCond .lt 13, 3) := by decide +kernel
theorem dX5_fewest_32 : decode cX5_fewest 32 = .ok (.aload_n 0, 1) := by decide +kernel
theorem dX5_fewest_33 : decode cX5_fewest 33 = .ok (.getfield 50, 3) := by decide +kernel
theorem dX5_fewest_36 : decode cX5_fewest 36 = .ok (.iload_n 2, 1) := by decide +kernel
theorem dX5_fewest_37 : decode cX5_fewest 37 = .ok (.iaload, 1) := by decide +kernel
theorem dX5_fewest_38 : decode cX5_fewest 38 = .ok (.iload_n 1, 1) := by decide +kernel
theorem dX5_fewest_39 : decode cX5_fewest 39 = .ok (.if_icmp .le 9, 3) := by decide +kernel
theorem dX5_fewest_42 : decode cX5_fewest 42 = .ok (.iinc 2 1, 3) := by decide +kernel
theorem dX5_fewest_45 : decode cX5_fewest 45 = .ok (.goto (-28), 3) := by decide +kernel
theorem dX5_fewest_48 : decode cX5_fewest 48 = .ok (.iload_n 2, 1) := by decide +kernel
theorem dX5_fewest_49 : decode cX5_fewest 49 = .ok (.bipush 10, 2) := by decide +kernel
theorem dX5_fewest_51 : decode cX5_fewest 51 = .ok (.if_icmp .ge 7, 3) := by decide +kernel
theorem dX5_fewest_54 : decode cX5_fewest 54 = .ok (.iload_n 2, 1) := by decide +kernel
theorem dX5_fewest_55 : decode cX5_fewest 55 = .ok (.goto 4, 3) := by decide +kernel
theorem dX5_fewest_58 : decode cX5_fewest 58 = .ok (.iconst (-1), 1) := by decide +kernel
theorem dX5_fewest_59 : decode cX5_fewest 59 = .ok (.ireturn, 1) := by decide +kernel
theorem dX5_many_0 : decode cX5_many 0 = .ok (.aload_n 0, 1) := by decide +kernel
theorem dX5_many_1 : decode cX5_many 1 = .ok (.invokevirtual 173, 3) := by decide +kernel
theorem dX5_many_4 : decode cX5_many 4 = .ok (.aload_n 0, 1) := by decide +kernel
theorem dX5_many_5 : decode cX5_many 5 = .ok (.getfield 161, 3) := by decide +kernel
theorem dX5_many_8 : decode cX5_many 8 = .ok (.ireturn, 1) := by decide +kernel
theorem dX5_next_0 : decode cX5_next 0 = .ok (.iload_n 1, 1) := by decide +kernel
theorem dX5_next_1 : decode cX5_next 1 = .ok (.iconst 0, 1) := by decide +kernel
theorem dX5_next_2 : decode cX5_next 2 = .ok (.iconst 3, 1) := by decide +kernel
theorem dX5_next_3 : decode cX5_next 3 = .ok (.invokestatic 59, 3) := by decide +kernel
theorem dX5_next_6 : decode cX5_next 6 = .ok (.ifCond .ne 10, 3) := by decide +kernel
theorem dX5_next_9 : decode cX5_next 9 = .ok (.aload_n 0, 1) := by decide +kernel
theorem dX5_next_10 : decode cX5_next 10 = .ok (.bipush (-2), 2) := by decide +kernel
theorem dX5_next_12 : decode cX5_next 12 = .ok (.invokevirtual 63, 3) := by decide +kernel
theorem dX5_next_15 : decode cX5_next 15 = .ok (.ireturn, 1) := by decide +kernel
theorem dX5_next_16 : decode cX5_next 16 = .ok (.aload_n 0, 1) := by decide +kernel
theorem dX5_next_17 : decode cX5_next 17 = .ok (.invokevirtual 152, 3) := by decide +kernel
theorem dX5_next_20 : decode cX5_next 20 = .ok (.ifCond .eq 12, 3) := by decide +kernel
theorem dX5_next_23 : decode cX5_next 23 = .ok (.aload_n 0, 1) := by decide +kernel
theorem dX5_next_24 : decode cX5_next 24 = .ok (.getfield 53, 3) := by decide +kernel
theorem dX5_next_27 : decode cX5_next 27 = .ok (.iload_n 1, 1) := by decide +kernel
theorem dX5_next_28 : decode cX5_next 28 = .ok (.iaload, 1) := by decide +kernel
theorem dX5_next_29 : decode cX5_next 29 = .ok (.goto 9, 3) := by decide +kernel
theorem dX5_next_32 : decode cX5_next 32 = .ok (.aload_n 0, 1) := by decide +kernel
theorem dX5_next_33 : decode cX5_next 33 = .ok (.bipush (-3), 2) := by decide +kernel
theorem dX5_next_35 : decode cX5_next 35 = .ok (.invokevirtual 63, 3) := by decide +kernel
theorem dX5_next_38 : decode cX5_next 38 = .ok (.ireturn, 1) := by decide +kernel
theorem dX5_toldOf_0 : decode cX5_toldOf 0 = .ok (.iconst 0, 1) := by decide +kernel
theorem dX5_toldOf_1 : decode cX5_toldOf 1 = .ok (.istore_n 2, 1) := by decide +kernel
theorem dX5_toldOf_2 : decode cX5_toldOf 2 = .ok (.iload_n 1, 1) := by decide +kernel
theorem dX5_toldOf_3 : decode cX5_toldOf 3 = .ok (.tableswitch 68 0 6 #[41, 41, 41, 48, 53, 58, 63], 41) := by decide +kernel
theorem dX5_toldOf_44 : decode cX5_toldOf 44 = .ok (.aload_n 0, 1) := by decide +kernel
theorem dX5_toldOf_45 : decode cX5_toldOf 45 = .ok (.getfield 35, 3) := by decide +kernel
theorem dX5_toldOf_48 : decode cX5_toldOf 48 = .ok (.iload_n 1, 1) := by decide +kernel
theorem dX5_toldOf_49 : decode cX5_toldOf 49 = .ok (.iaload, 1) := by decide +kernel
theorem dX5_toldOf_50 : decode cX5_toldOf 50 = .ok (.ireturn, 1) := by decide +kernel
theorem dX5_toldOf_51 : decode cX5_toldOf 51 = .ok (.aload_n 0, 1) := by decide +kernel
theorem dX5_toldOf_52 : decode cX5_toldOf 52 = .ok (.getfield 56, 3) := by decide +kernel
theorem dX5_toldOf_55 : decode cX5_toldOf 55 = .ok (.ireturn, 1) := by decide +kernel
theorem dX5_toldOf_56 : decode cX5_toldOf 56 = .ok (.aload_n 0, 1) := by decide +kernel
theorem dX5_toldOf_57 : decode cX5_toldOf 57 = .ok (.getfield 77, 3) := by decide +kernel
theorem dX5_toldOf_60 : decode cX5_toldOf 60 = .ok (.ireturn, 1) := by decide +kernel
theorem dX5_toldOf_61 : decode cX5_toldOf 61 = .ok (.aload_n 0, 1) := by decide +kernel
theorem dX5_toldOf_62 : decode cX5_toldOf 62 = .ok (.getfield 25, 3) := by decide +kernel
theorem dX5_toldOf_65 : decode cX5_toldOf 65 = .ok (.ireturn, 1) := by decide +kernel
theorem dX5_toldOf_66 : decode cX5_toldOf 66 = .ok (.aload_n 0, 1) := by decide +kernel
theorem dX5_toldOf_67 : decode cX5_toldOf 67 = .ok (.getfield 67, 3) := by decide +kernel
theorem dX5_toldOf_70 : decode cX5_toldOf 70 = .ok (.ireturn, 1) := by decide +kernel
theorem dX5_toldOf_71 : decode cX5_toldOf 71 = .ok (.iconst 0, 1) := by decide +kernel
theorem dX5_toldOf_72 : decode cX5_toldOf 72 = .ok (.istore_n 3, 1) := by decide +kernel
theorem dX5_toldOf_73 : decode cX5_toldOf 73 = .ok (.iload_n 3, 1) := by decide +kernel
theorem dX5_toldOf_74 : decode cX5_toldOf 74 = .ok (.aload_n 0, 1) := by decide +kernel
theorem dX5_toldOf_75 : decode cX5_toldOf 75 = .ok (.getfield 56, 3) := by decide +kernel
theorem dX5_toldOf_78 : decode cX5_toldOf 78 = .ok (.if_icmp .ge 20, 3) := by decide +kernel
theorem dX5_toldOf_81 : decode cX5_toldOf 81 = .ok (.iload_n 2, 1) := by decide +kernel
theorem dX5_toldOf_82 : decode cX5_toldOf 82 = .ok (.aload_n 0, 1) := by decide +kernel
theorem dX5_toldOf_83 : decode cX5_toldOf 83 = .ok (.getfield 19, 3) := by decide +kernel
theorem dX5_toldOf_86 : decode cX5_toldOf 86 = .ok (.iload_n 3, 1) := by decide +kernel
theorem dX5_toldOf_87 : decode cX5_toldOf 87 = .ok (.iaload, 1) := by decide +kernel
theorem dX5_toldOf_88 : decode cX5_toldOf 88 = .ok (.iload_n 3, 1) := by decide +kernel
theorem dX5_toldOf_89 : decode cX5_toldOf 89 = .ok (.ishl, 1) := by decide +kernel
theorem dX5_toldOf_90 : decode cX5_toldOf 90 = .ok (.ior, 1) := by decide +kernel
theorem dX5_toldOf_91 : decode cX5_toldOf 91 = .ok (.istore_n 2, 1) := by decide +kernel
theorem dX5_toldOf_92 : decode cX5_toldOf 92 = .ok (.iinc 3 1, 3) := by decide +kernel
theorem dX5_toldOf_95 : decode cX5_toldOf 95 = .ok (.goto (-22), 3) := by decide +kernel
theorem dX5_toldOf_98 : decode cX5_toldOf 98 = .ok (.iload_n 2, 1) := by decide +kernel
theorem dX5_toldOf_99 : decode cX5_toldOf 99 = .ok (.ireturn, 1) := by decide +kernel
theorem dX5_told_0 : decode cX5_told 0 = .ok (.iload_n 1, 1) := by decide +kernel
theorem dX5_told_1 : decode cX5_told 1 = .ok (.iconst 0, 1) := by decide +kernel
theorem dX5_told_2 : decode cX5_told 2 = .ok (.bipush 7, 2) := by decide +kernel
theorem dX5_told_4 : decode cX5_told 4 = .ok (.invokestatic 59, 3) := by decide +kernel
theorem dX5_told_7 : decode cX5_told 7 = .ok (.ifCond .eq 11, 3) := by decide +kernel
theorem dX5_told_10 : decode cX5_told 10 = .ok (.aload_n 0, 1) := by decide +kernel
theorem dX5_told_11 : decode cX5_told 11 = .ok (.iload_n 1, 1) := by decide +kernel
theorem dX5_told_12 : decode cX5_told 12 = .ok (.invokevirtual 179, 3) := by decide +kernel
theorem dX5_told_15 : decode cX5_told 15 = .ok (.goto 9, 3) := by decide +kernel
theorem dX5_told_18 : decode cX5_told 18 = .ok (.aload_n 0, 1) := by decide +kernel
theorem dX5_told_19 : decode cX5_told 19 = .ok (.bipush (-2), 2) := by decide +kernel
theorem dX5_told_21 : decode cX5_told 21 = .ok (.invokevirtual 63, 3) := by decide +kernel
theorem dX5_told_24 : decode cX5_told 24 = .ok (.ireturn, 1) := by decide +kernel
theorem dX5_digest_0 : decode cX5_digest 0 = .ok (.ldc2_w 182, 3) := by decide +kernel
theorem dX5_digest_3 : decode cX5_digest 3 = .ok (.lstore_n 1, 1) := by decide +kernel
theorem dX5_digest_4 : decode cX5_digest 4 = .ok (.iconst 0, 1) := by decide +kernel
theorem dX5_digest_5 : decode cX5_digest 5 = .ok (.istore_n 3, 1) := by decide +kernel
theorem dX5_digest_6 : decode cX5_digest 6 = .ok (.iload_n 3, 1) := by decide +kernel
theorem dX5_digest_7 : decode cX5_digest 7 = .ok (.bipush 8, 2) := by decide +kernel
theorem dX5_digest_9 : decode cX5_digest 9 = .ok (.if_icmp .ge 22, 3) := by decide +kernel
theorem dX5_digest_12 : decode cX5_digest 12 = .ok (.ldc2_w 184, 3) := by decide +kernel
theorem dX5_digest_15 : decode cX5_digest 15 = .ok (.lload_n 1, 1) := by decide +kernel
theorem dX5_digest_16 : decode cX5_digest 16 = .ok (.lmul, 1) := by decide +kernel
theorem dX5_digest_17 : decode cX5_digest 17 = .ok (.aload_n 0, 1) := by decide +kernel
theorem dX5_digest_18 : decode cX5_digest 18 = .ok (.iload_n 3, 1) := by decide +kernel
theorem dX5_digest_19 : decode cX5_digest 19 = .ok (.invokevirtual 179, 3) := by decide +kernel
theorem dX5_digest_22 : decode cX5_digest 22 = .ok (.i2l, 1) := by decide +kernel
theorem dX5_digest_23 : decode cX5_digest 23 = .ok (.ladd, 1) := by decide +kernel
theorem dX5_digest_24 : decode cX5_digest 24 = .ok (.lstore_n 1, 1) := by decide +kernel
theorem dX5_digest_25 : decode cX5_digest 25 = .ok (.iinc 3 1, 3) := by decide +kernel
theorem dX5_digest_28 : decode cX5_digest 28 = .ok (.goto (-22), 3) := by decide +kernel
theorem dX5_digest_31 : decode cX5_digest 31 = .ok (.iconst 0, 1) := by decide +kernel
theorem dX5_digest_32 : decode cX5_digest 32 = .ok (.istore_n 3, 1) := by decide +kernel
theorem dX5_digest_33 : decode cX5_digest 33 = .ok (.iload_n 3, 1) := by decide +kernel
theorem dX5_digest_34 : decode cX5_digest 34 = .ok (.aload_n 0, 1) := by decide +kernel
theorem dX5_digest_35 : decode cX5_digest 35 = .ok (.getfield 56, 3) := by decide +kernel
theorem dX5_digest_38 : decode cX5_digest 38 = .ok (.if_icmp .ge 51, 3) := by decide +kernel
theorem dX5_digest_41 : decode cX5_digest 41 = .ok (.ldc2_w 184, 3) := by decide +kernel
theorem dX5_digest_44 : decode cX5_digest 44 = .ok (.lload_n 1, 1) := by decide +kernel
theorem dX5_digest_45 : decode cX5_digest 45 = .ok (.lmul, 1) := by decide +kernel
theorem dX5_digest_46 : decode cX5_digest 46 = .ok (.aload_n 0, 1) := by decide +kernel
theorem dX5_digest_47 : decode cX5_digest 47 = .ok (.getfield 7, 3) := by decide +kernel
theorem dX5_digest_50 : decode cX5_digest 50 = .ok (.iload_n 3, 1) := by decide +kernel
theorem dX5_digest_51 : decode cX5_digest 51 = .ok (.iaload, 1) := by decide +kernel
theorem dX5_digest_52 : decode cX5_digest 52 = .ok (.i2l, 1) := by decide +kernel
theorem dX5_digest_53 : decode cX5_digest 53 = .ok (.ladd, 1) := by decide +kernel
theorem dX5_digest_54 : decode cX5_digest 54 = .ok (.lstore_n 1, 1) := by decide +kernel
theorem dX5_digest_55 : decode cX5_digest 55 = .ok (.ldc2_w 184, 3) := by decide +kernel
theorem dX5_digest_58 : decode cX5_digest 58 = .ok (.lload_n 1, 1) := by decide +kernel
theorem dX5_digest_59 : decode cX5_digest 59 = .ok (.lmul, 1) := by decide +kernel
theorem dX5_digest_60 : decode cX5_digest 60 = .ok (.aload_n 0, 1) := by decide +kernel
theorem dX5_digest_61 : decode cX5_digest 61 = .ok (.getfield 13, 3) := by decide +kernel
theorem dX5_digest_64 : decode cX5_digest 64 = .ok (.iload_n 3, 1) := by decide +kernel
theorem dX5_digest_65 : decode cX5_digest 65 = .ok (.iaload, 1) := by decide +kernel
theorem dX5_digest_66 : decode cX5_digest 66 = .ok (.i2l, 1) := by decide +kernel
theorem dX5_digest_67 : decode cX5_digest 67 = .ok (.ladd, 1) := by decide +kernel
theorem dX5_digest_68 : decode cX5_digest 68 = .ok (.lstore_n 1, 1) := by decide +kernel
theorem dX5_digest_69 : decode cX5_digest 69 = .ok (.ldc2_w 184, 3) := by decide +kernel
theorem dX5_digest_72 : decode cX5_digest 72 = .ok (.lload_n 1, 1) := by decide +kernel
theorem dX5_digest_73 : decode cX5_digest 73 = .ok (.lmul, 1) := by decide +kernel
theorem dX5_digest_74 : decode cX5_digest 74 = .ok (.aload_n 0, 1) := by decide +kernel
theorem dX5_digest_75 : decode cX5_digest 75 = .ok (.getfield 16, 3) := by decide +kernel
theorem dX5_digest_78 : decode cX5_digest 78 = .ok (.iload_n 3, 1) := by decide +kernel
theorem dX5_digest_79 : decode cX5_digest 79 = .ok (.iaload, 1) := by decide +kernel
theorem dX5_digest_80 : decode cX5_digest 80 = .ok (.i2l, 1) := by decide +kernel
theorem dX5_digest_81 : decode cX5_digest 81 = .ok (.ladd, 1) := by decide +kernel
theorem dX5_digest_82 : decode cX5_digest 82 = .ok (.lstore_n 1, 1) := by decide +kernel
theorem dX5_digest_83 : decode cX5_digest 83 = .ok (.iinc 3 1, 3) := by decide +kernel
theorem dX5_digest_86 : decode cX5_digest 86 = .ok (.goto (-53), 3) := by decide +kernel
theorem dX5_digest_89 : decode cX5_digest 89 = .ok (.iconst 0, 1) := by decide +kernel
theorem dX5_digest_90 : decode cX5_digest 90 = .ok (.istore_n 3, 1) := by decide +kernel
theorem dX5_digest_91 : decode cX5_digest 91 = .ok (.iload_n 3, 1) := by decide +kernel
theorem dX5_digest_92 : decode cX5_digest 92 = .ok (.bipush 6, 2) := by decide +kernel
theorem dX5_digest_94 : decode cX5_digest 94 = .ok (.if_icmp .ge 23, 3) := by decide +kernel
theorem dX5_digest_97 : decode cX5_digest 97 = .ok (.ldc2_w 184, 3) := by decide +kernel
theorem dX5_digest_100 : decode cX5_digest 100 = .ok (.lload_n 1, 1) := by decide +kernel
theorem dX5_digest_101 : decode cX5_digest 101 = .ok (.lmul, 1) := by decide +kernel
theorem dX5_digest_102 : decode cX5_digest 102 = .ok (.aload_n 0, 1) := by decide +kernel
theorem dX5_digest_103 : decode cX5_digest 103 = .ok (.getfield 22, 3) := by decide +kernel
theorem dX5_digest_106 : decode cX5_digest 106 = .ok (.iload_n 3, 1) := by decide +kernel
theorem dX5_digest_107 : decode cX5_digest 107 = .ok (.iaload, 1) := by decide +kernel
theorem dX5_digest_108 : decode cX5_digest 108 = .ok (.i2l, 1) := by decide +kernel
theorem dX5_digest_109 : decode cX5_digest 109 = .ok (.ladd, 1) := by decide +kernel
theorem dX5_digest_110 : decode cX5_digest 110 = .ok (.lstore_n 1, 1) := by decide +kernel
theorem dX5_digest_111 : decode cX5_digest 111 = .ok (.iinc 3 1, 3) := by decide +kernel
theorem dX5_digest_114 : decode cX5_digest 114 = .ok (.goto (-23), 3) := by decide +kernel
theorem dX5_digest_117 : decode cX5_digest 117 = .ok (.iconst 0, 1) := by decide +kernel
theorem dX5_digest_118 : decode cX5_digest 118 = .ok (.istore_n 3, 1) := by decide +kernel
theorem dX5_digest_119 : decode cX5_digest 119 = .ok (.iload_n 3, 1) := by decide +kernel
theorem dX5_digest_120 : decode cX5_digest 120 = .ok (.iconst 2, 1) := by decide +kernel
theorem dX5_digest_121 : decode cX5_digest 121 = .ok (.aload_n 0, 1) := by decide +kernel
theorem dX5_digest_122 : decode cX5_digest 122 = .ok (.getfield 77, 3) := by decide +kernel
theorem dX5_digest_125 : decode cX5_digest 125 = .ok (.imul, 1) := by decide +kernel
theorem dX5_digest_126 : decode cX5_digest 126 = .ok (.if_icmp .ge 23, 3) := by decide +kernel
theorem dX5_digest_129 : decode cX5_digest 129 = .ok (.ldc2_w 184, 3) := by decide +kernel
theorem dX5_digest_132 : decode cX5_digest 132 = .ok (.lload_n 1, 1) := by decide +kernel
theorem dX5_digest_133 : decode cX5_digest 133 = .ok (.lmul, 1) := by decide +kernel
theorem dX5_digest_134 : decode cX5_digest 134 = .ok (.aload_n 0, 1) := by decide +kernel
theorem dX5_digest_135 : decode cX5_digest 135 = .ok (.getfield 29, 3) := by decide +kernel
theorem dX5_digest_138 : decode cX5_digest 138 = .ok (.iload_n 3, 1) := by decide +kernel
theorem dX5_digest_139 : decode cX5_digest 139 = .ok (.iaload, 1) := by decide +kernel
theorem dX5_digest_140 : decode cX5_digest 140 = .ok (.i2l, 1) := by decide +kernel
theorem dX5_digest_141 : decode cX5_digest 141 = .ok (.ladd, 1) := by decide +kernel
theorem dX5_digest_142 : decode cX5_digest 142 = .ok (.lstore_n 1, 1) := by decide +kernel
theorem dX5_digest_143 : decode cX5_digest 143 = .ok (.iinc 3 1, 3) := by decide +kernel
theorem dX5_digest_146 : decode cX5_digest 146 = .ok (.goto (-27), 3) := by decide +kernel
theorem dX5_digest_149 : decode cX5_digest 149 = .ok (.ldc2_w 184, 3) := by decide +kernel
theorem dX5_digest_152 : decode cX5_digest 152 = .ok (.lload_n 1, 1) := by decide +kernel
theorem dX5_digest_153 : decode cX5_digest 153 = .ok (.lmul, 1) := by decide +kernel
theorem dX5_digest_154 : decode cX5_digest 154 = .ok (.aload_n 0, 1) := by decide +kernel
theorem dX5_digest_155 : decode cX5_digest 155 = .ok (.invokevirtual 122, 3) := by decide +kernel
theorem dX5_digest_158 : decode cX5_digest 158 = .ok (.i2l, 1) := by decide +kernel
theorem dX5_digest_159 : decode cX5_digest 159 = .ok (.ladd, 1) := by decide +kernel
theorem dX5_digest_160 : decode cX5_digest 160 = .ok (.lreturn, 1) := by decide +kernel
end
section
def WG : List Cond := lw_tbl.filter goodWord
theorem wg_mem (i : Nat) {w : Cond} (h : lw_tbl[i]? = some w) (g : goodWord w = true) : w ∈ WG := List.mem_filter.mpr ⟨List.mem_of_getElem? h, g⟩
theorem wS_yX4_refuse : Cond.selects RX4 yX4_refuse yX4_refuse ∈ WG := wg_mem 0 (by decide +kernel) rfl
theorem wS_yX4_streetChanges : Cond.selects RX4 yX4_streetChanges yX4_streetChanges ∈ WG := wg_mem 1 (by decide +kernel) rfl
theorem wS_yX2_addLoads : Cond.selects RX2 yX2_addLoads yX2_addLoads ∈ WG := wg_mem 2 (by decide +kernel) rfl
theorem wS_yX4_isHouse : Cond.selects RX4 yX4_isHouse yX4_isHouse ∈ WG := wg_mem 3 (by decide +kernel) rfl
theorem wS_yX4_areTwoHouses : Cond.selects RX4 yX4_areTwoHouses yX4_areTwoHouses ∈ WG := wg_mem 4 (by decide +kernel) rfl
theorem wS_yX4_phasesChange : Cond.selects RX4 yX4_phasesChange yX4_phasesChange ∈ WG := wg_mem 5 (by decide +kernel) rfl
theorem wS_yX1_isFree : Cond.selects RX1 yX1_isFree yX1_isFree ∈ WG := wg_mem 6 (by decide +kernel) rfl
theorem wS_yX1_tryChanges : Cond.selects RX1 yX1_tryChanges yX1_tryChanges ∈ WG := wg_mem 7 (by decide +kernel) rfl
theorem wS_yX1_compare : Cond.selects RX1 yX1_compare yX1_compare ∈ WG := wg_mem 8 (by decide +kernel) rfl
theorem wS_yX1_trySwaps : Cond.selects RX1 yX1_trySwaps yX1_trySwaps ∈ WG := wg_mem 9 (by decide +kernel) rfl
theorem wS_yX0_findAll : Cond.selects RX0 yX0_findAll yX0_findAll ∈ WG := wg_mem 10 (by decide +kernel) rfl
theorem wS_yX0_readTakings : Cond.selects RX0 yX0_readTakings yX0_readTakings ∈ WG := wg_mem 11 (by decide +kernel) rfl
theorem wS_yX0_findTightHours : Cond.selects RX0 yX0_findTightHours yX0_findTightHours ∈ WG := wg_mem 12 (by decide +kernel) rfl
theorem wS_yX0_multiplyTakings : Cond.selects RX0 yX0_multiplyTakings yX0_multiplyTakings ∈ WG := wg_mem 13 (by decide +kernel) rfl
theorem wS_yX0_product : Cond.selects RX0 yX0_product yX0_product ∈ WG := wg_mem 14 (by decide +kernel) rfl
theorem wS_yX0_griefApart : Cond.selects RX0 yX0_griefApart yX0_griefApart ∈ WG := wg_mem 15 (by decide +kernel) rfl
theorem wS_yX0_place : Cond.selects RX0 yX0_place yX0_place ∈ WG := wg_mem 16 (by decide +kernel) rfl
theorem wS_yX0_count : Cond.selects RX0 yX0_count yX0_count ∈ WG := wg_mem 17 (by decide +kernel) rfl
theorem wS_yX0_isLaidSafe : Cond.selects RX0 yX0_isLaidSafe yX0_isLaidSafe ∈ WG := wg_mem 18 (by decide +kernel) rfl
theorem wS_yX0_meetEarlier : Cond.selects RX0 yX0_meetEarlier yX0_meetEarlier ∈ WG := wg_mem 19 (by decide +kernel) rfl
theorem wS_yX0_mayLie : Cond.selects RX0 yX0_mayLie yX0_mayLie ∈ WG := wg_mem 20 (by decide +kernel) rfl
theorem wS_yX0_addLoads : Cond.selects RX0 yX0_addLoads yX0_addLoads ∈ WG := wg_mem 21 (by decide +kernel) rfl
theorem wS_yX4_toldOf : Cond.selects RX4 yX4_toldOf yX4_toldOf ∈ WG := wg_mem 22 (by decide +kernel) rfl
theorem wS_yX5_refuses : Cond.selects RX5 yX5_refuses yX5_refuses ∈ WG := wg_mem 23 (by decide +kernel) rfl
theorem wS_yX5_isHouse : Cond.selects RX5 yX5_isHouse yX5_isHouse ∈ WG := wg_mem 24 (by decide +kernel) rfl
theorem wS_yX5_leastOf : Cond.selects RX5 yX5_leastOf yX5_leastOf ∈ WG := wg_mem 25 (by decide +kernel) rfl
theorem wS_yX5_takesOf : Cond.selects RX5 yX5_takesOf yX5_takesOf ∈ WG := wg_mem 26 (by decide +kernel) rfl
theorem wS_yX5_asIs : Cond.selects RX5 yX5_asIs yX5_asIs ∈ WG := wg_mem 27 (by decide +kernel) rfl
theorem wS_yX5_table : Cond.selects RX5 yX5_table yX5_table ∈ WG := wg_mem 28 (by decide +kernel) rfl
theorem wS_yX5_loadsNow : Cond.selects RX5 yX5_loadsNow yX5_loadsNow ∈ WG := wg_mem 29 (by decide +kernel) rfl
theorem wS_yX5_neutralNow : Cond.selects RX5 yX5_neutralNow yX5_neutralNow ∈ WG := wg_mem 30 (by decide +kernel) rfl
theorem wS_yX5_griefOf : Cond.selects RX5 yX5_griefOf yX5_griefOf ∈ WG := wg_mem 31 (by decide +kernel) rfl
theorem wS_yX5_griefNow : Cond.selects RX5 yX5_griefNow yX5_griefNow ∈ WG := wg_mem 32 (by decide +kernel) rfl
theorem wS_yX5_isSafe : Cond.selects RX5 yX5_isSafe yX5_isSafe ∈ WG := wg_mem 33 (by decide +kernel) rfl
theorem wS_yX5_isKept : Cond.selects RX5 yX5_isKept yX5_isKept ∈ WG := wg_mem 34 (by decide +kernel) rfl
theorem wS_yX5_keeps : Cond.selects RX5 yX5_keeps yX5_keeps ∈ WG := wg_mem 35 (by decide +kernel) rfl
theorem wS_yX5_swaps : Cond.selects RX5 yX5_swaps yX5_swaps ∈ WG := wg_mem 36 (by decide +kernel) rfl
theorem wS_yX5_lessens : Cond.selects RX5 yX5_lessens yX5_lessens ∈ WG := wg_mem 37 (by decide +kernel) rfl
theorem wS_yX5_finds : Cond.selects RX5 yX5_finds yX5_finds ∈ WG := wg_mem 38 (by decide +kernel) rfl
theorem wS_yX5_isFree : Cond.selects RX5 yX5_isFree yX5_isFree ∈ WG := wg_mem 39 (by decide +kernel) rfl
theorem wS_yX5_isTied : Cond.selects RX5 yX5_isTied yX5_isTied ∈ WG := wg_mem 40 (by decide +kernel) rfl
theorem wS_yX5_looks : Cond.selects RX5 yX5_looks yX5_looks ∈ WG := wg_mem 41 (by decide +kernel) rfl
theorem wS_yX5_steps : Cond.selects RX5 yX5_steps yX5_steps ∈ WG := wg_mem 42 (by decide +kernel) rfl
theorem wS_yX5_goes : Cond.selects RX5 yX5_goes yX5_goes ∈ WG := wg_mem 43 (by decide +kernel) rfl
theorem wS_yX5_meets : Cond.selects RX5 yX5_meets yX5_meets ∈ WG := wg_mem 44 (by decide +kernel) rfl
theorem wS_yX5_bestBy : Cond.selects RX5 yX5_bestBy yX5_bestBy ∈ WG := wg_mem 45 (by decide +kernel) rfl
theorem wS_yX5_toldOf : Cond.selects RX5 yX5_toldOf yX5_toldOf ∈ WG := wg_mem 46 (by decide +kernel) rfl
theorem wN_L : Cond.initialized RL ∈ WG := wg_mem 47 (by decide +kernel) rfl
theorem wN_X4 : Cond.initialized RX4 ∈ WG := wg_mem 48 (by decide +kernel) rfl
theorem wN_X2 : Cond.initialized RX2 ∈ WG := wg_mem 49 (by decide +kernel) rfl
theorem wN_J7 : Cond.initialized RJ7 ∈ WG := wg_mem 50 (by decide +kernel) rfl
theorem wN_X0 : Cond.initialized RX0 ∈ WG := wg_mem 51 (by decide +kernel) rfl
theorem wN_X1 : Cond.initialized RX1 ∈ WG := wg_mem 52 (by decide +kernel) rfl
theorem wN_X3 : Cond.initialized RX3 ∈ WG := wg_mem 53 (by decide +kernel) rfl
theorem wN_X5 : Cond.initialized RX5 ∈ WG := wg_mem 54 (by decide +kernel) rfl
theorem wN_J9 : Cond.initialized RJ9 ∈ WG := wg_mem 55 (by decide +kernel) rfl
theorem wN_J10 : Cond.initialized RJ10 ∈ WG := wg_mem 56 (by decide +kernel) rfl
theorem wL_L_7 : Cond.classLink RL 7 RX4 ∈ WG := wg_mem 57 (by decide +kernel) rfl
theorem wB_X4 : Cond.instantiable RX4 7 ∈ WG := wg_mem 58 (by decide +kernel) rfl
theorem wM_L_9 : Cond.methodLink RL 9 yX4_init ∈ WG := wg_mem 59 (by decide +kernel) rfl
theorem wI_yX4_init : Cond.instanceMethod yX4_init ∈ WG := wg_mem 60 (by decide +kernel) rfl
set_option maxRecDepth 100000 in
theorem wC_yX4_init : Cond.code yX4_init cX4_init 1 none ∈ WG := wg_mem 61 (rfl) rfl
theorem wM_X4_1 : Cond.methodLink RX4 1 objectInit ∈ WG := wg_mem 62 (by decide +kernel) rfl
theorem wI_objectInit : Cond.instanceMethod objectInit ∈ WG := wg_mem 63 (by decide +kernel) rfl
set_option maxRecDepth 100000 in
theorem wC_objectInit : Cond.code objectInit ⟨#[0xb1]⟩ 1 none ∈ WG := wg_mem 64 (rfl) rfl
theorem wL_X4_7 : Cond.classLink RX4 7 RX2 ∈ WG := wg_mem 65 (by decide +kernel) rfl
theorem wB_X2 : Cond.instantiable RX2 12 ∈ WG := wg_mem 66 (by decide +kernel) rfl
theorem wM_X4_9 : Cond.methodLink RX4 9 yX2_init ∈ WG := wg_mem 67 (by decide +kernel) rfl
theorem wI_yX2_init : Cond.instanceMethod yX2_init ∈ WG := wg_mem 68 (by decide +kernel) rfl
set_option maxRecDepth 100000 in
theorem wC_yX2_init : Cond.code yX2_init cX2_init 1 none ∈ WG := wg_mem 69 (rfl) rfl
theorem wM_X2_3 : Cond.methodLink RX2 3 objectInit ∈ WG := wg_mem 70 (by decide +kernel) rfl
theorem wM_X2_39 : Cond.methodLink RX2 39 yX2_resetLimits ∈ WG := wg_mem 71 (by decide +kernel) rfl
theorem wI_yX2_resetLimits : Cond.instanceMethod yX2_resetLimits ∈ WG := wg_mem 72 (by decide +kernel) rfl
theorem wS_yX2_resetLimits : Cond.selects RX2 yX2_resetLimits yX2_resetLimits ∈ WG := wg_mem 73 (by decide +kernel) rfl
set_option maxRecDepth 100000 in
theorem wC_yX2_resetLimits : Cond.code yX2_resetLimits cX2_resetLimits 1 none ∈ WG := wg_mem 74 (rfl) rfl
theorem wM_X2_42 : Cond.methodLink RX2 42 yJ7_fill_53178 ∈ WG := wg_mem 75 (by decide +kernel) rfl
theorem wT_yJ7_fill_53178 : Cond.static yJ7_fill_53178 ∈ WG := wg_mem 76 (by decide +kernel) rfl
set_option maxRecDepth 100000 in
theorem wC_yJ7_fill_53178 : Cond.code yJ7_fill_53178 cJ7_fill_53178 4 none ∈ WG := wg_mem 77 (rfl) rfl
theorem wF_X2_9 : Cond.fieldLink RX2 9 "PhaseLoads$Street" "sorts" "[I" ∈ WG := wg_mem 78 (by decide +kernel) rfl
theorem wF_X4_129 : Cond.fieldLink RX4 129 "PhaseLoads$Street" "sorts" "[I" ∈ WG := wg_mem 79 (by decide +kernel) rfl
theorem wF_X2_15 : Cond.fieldLink RX2 15 "PhaseLoads$Street" "sizes" "[I" ∈ WG := wg_mem 80 (by decide +kernel) rfl
theorem wF_X4_132 : Cond.fieldLink RX4 132 "PhaseLoads$Street" "sizes" "[I" ∈ WG := wg_mem 81 (by decide +kernel) rfl
theorem wF_X2_18 : Cond.fieldLink RX2 18 "PhaseLoads$Street" "phases" "[I" ∈ WG := wg_mem 82 (by decide +kernel) rfl
theorem wF_X1_66 : Cond.fieldLink RX1 66 "PhaseLoads$Street" "phases" "[I" ∈ WG := wg_mem 83 (by decide +kernel) rfl
theorem wF_X4_135 : Cond.fieldLink RX4 135 "PhaseLoads$Street" "phases" "[I" ∈ WG := wg_mem 84 (by decide +kernel) rfl
theorem wF_X0_121 : Cond.fieldLink RX0 121 "PhaseLoads$Street" "phases" "[I" ∈ WG := wg_mem 85 (by decide +kernel) rfl
theorem wF_X2_21 : Cond.fieldLink RX2 21 "PhaseLoads$Street" "fixed" "[I" ∈ WG := wg_mem 86 (by decide +kernel) rfl
theorem wF_X1_59 : Cond.fieldLink RX1 59 "PhaseLoads$Street" "fixed" "[I" ∈ WG := wg_mem 87 (by decide +kernel) rfl
theorem wF_X4_138 : Cond.fieldLink RX4 138 "PhaseLoads$Street" "fixed" "[I" ∈ WG := wg_mem 88 (by decide +kernel) rfl
theorem wF_X0_124 : Cond.fieldLink RX0 124 "PhaseLoads$Street" "fixed" "[I" ∈ WG := wg_mem 89 (by decide +kernel) rfl
theorem wF_X2_24 : Cond.fieldLink RX2 24 "PhaseLoads$Street" "leastTied" "[I" ∈ WG := wg_mem 90 (by decide +kernel) rfl
theorem wF_X4_91 : Cond.fieldLink RX4 91 "PhaseLoads$Street" "leastTied" "[I" ∈ WG := wg_mem 91 (by decide +kernel) rfl
theorem wF_X0_127 : Cond.fieldLink RX0 127 "PhaseLoads$Street" "leastTied" "[I" ∈ WG := wg_mem 92 (by decide +kernel) rfl
theorem wF_X2_27 : Cond.fieldLink RX2 27 "PhaseLoads$Street" "pairHouse" "[I" ∈ WG := wg_mem 93 (by decide +kernel) rfl
theorem wF_X4_243 : Cond.fieldLink RX4 243 "PhaseLoads$Street" "pairHouse" "[I" ∈ WG := wg_mem 94 (by decide +kernel) rfl
theorem wF_X2_30 : Cond.fieldLink RX2 30 "PhaseLoads$Street" "pairOther" "[I" ∈ WG := wg_mem 95 (by decide +kernel) rfl
theorem wF_X4_246 : Cond.fieldLink RX4 246 "PhaseLoads$Street" "pairOther" "[I" ∈ WG := wg_mem 96 (by decide +kernel) rfl
theorem wF_X2_33 : Cond.fieldLink RX2 33 "PhaseLoads$Street" "weights" "[I" ∈ WG := wg_mem 97 (by decide +kernel) rfl
theorem wF_X4_81 : Cond.fieldLink RX4 81 "PhaseLoads$Street" "weights" "[I" ∈ WG := wg_mem 98 (by decide +kernel) rfl
theorem wF_X0_103 : Cond.fieldLink RX0 103 "PhaseLoads$Street" "weights" "[I" ∈ WG := wg_mem 99 (by decide +kernel) rfl
theorem wF_X2_36 : Cond.fieldLink RX2 36 "PhaseLoads$Street" "loads" "[I" ∈ WG := wg_mem 100 (by decide +kernel) rfl
theorem wF_X1_19 : Cond.fieldLink RX1 19 "PhaseLoads$Street" "houses" "I" ∈ WG := wg_mem 101 (by decide +kernel) rfl
theorem wF_X4_53 : Cond.fieldLink RX4 53 "PhaseLoads$Street" "houses" "I" ∈ WG := wg_mem 102 (by decide +kernel) rfl
theorem wF_X2_52 : Cond.fieldLink RX2 52 "PhaseLoads$Street" "houses" "I" ∈ WG := wg_mem 103 (by decide +kernel) rfl
theorem wF_X0_80 : Cond.fieldLink RX0 80 "PhaseLoads$Street" "houses" "I" ∈ WG := wg_mem 104 (by decide +kernel) rfl
theorem wF_X4_94 : Cond.fieldLink RX4 94 "PhaseLoads$Street" "pairs" "I" ∈ WG := wg_mem 105 (by decide +kernel) rfl
theorem wF_X2_69 : Cond.fieldLink RX2 69 "PhaseLoads$Street" "pairs" "I" ∈ WG := wg_mem 106 (by decide +kernel) rfl
theorem wF_X2_48 : Cond.fieldLink RX2 48 "PhaseLoads$Street" "fuse" "I" ∈ WG := wg_mem 107 (by decide +kernel) rfl
theorem wF_X4_85 : Cond.fieldLink RX4 85 "PhaseLoads$Street" "fuse" "I" ∈ WG := wg_mem 108 (by decide +kernel) rfl
theorem wF_X0_97 : Cond.fieldLink RX0 97 "PhaseLoads$Street" "fuse" "I" ∈ WG := wg_mem 109 (by decide +kernel) rfl
theorem wA_int : Cond.arrayClass .int ∈ WG := wg_mem 135 (by decide +kernel) rfl
theorem wL_X4_16 : Cond.classLink RX4 16 RX0 ∈ WG := wg_mem 136 (by decide +kernel) rfl
theorem wB_X0 : Cond.instantiable RX0 14 ∈ WG := wg_mem 137 (by decide +kernel) rfl
theorem wM_X4_18 : Cond.methodLink RX4 18 yX0_init ∈ WG := wg_mem 138 (by decide +kernel) rfl
theorem wI_yX0_init : Cond.instanceMethod yX0_init ∈ WG := wg_mem 139 (by decide +kernel) rfl
set_option maxRecDepth 100000 in
theorem wC_yX0_init : Cond.code yX0_init cX0_init 2 none ∈ WG := wg_mem 140 (rfl) rfl
theorem wM_X0_3 : Cond.methodLink RX0 3 objectInit ∈ WG := wg_mem 141 (by decide +kernel) rfl
theorem wF_X0_9 : Cond.fieldLink RX0 9 "PhaseLoads$Layings" "least" "[I" ∈ WG := wg_mem 142 (by decide +kernel) rfl
theorem wF_X4_205 : Cond.fieldLink RX4 205 "PhaseLoads$Layings" "least" "[I" ∈ WG := wg_mem 143 (by decide +kernel) rfl
theorem wF_X0_15 : Cond.fieldLink RX0 15 "PhaseLoads$Layings" "first" "[I" ∈ WG := wg_mem 144 (by decide +kernel) rfl
theorem wF_X4_189 : Cond.fieldLink RX4 189 "PhaseLoads$Layings" "first" "[I" ∈ WG := wg_mem 145 (by decide +kernel) rfl
theorem wF_X0_57 : Cond.fieldLink RX0 57 "PhaseLoads$Layings" "alike" "I" ∈ WG := wg_mem 146 (by decide +kernel) rfl
theorem wF_X4_208 : Cond.fieldLink RX4 208 "PhaseLoads$Layings" "alike" "I" ∈ WG := wg_mem 147 (by decide +kernel) rfl
theorem wF_X0_36 : Cond.fieldLink RX0 36 "PhaseLoads$Layings" "street" "LPhaseLoads$Street;" ∈ WG := wg_mem 148 (by decide +kernel) rfl
theorem wF_X0_18 : Cond.fieldLink RX0 18 "PhaseLoads$Layings" "laid" "[I" ∈ WG := wg_mem 149 (by decide +kernel) rfl
theorem wF_X0_21 : Cond.fieldLink RX0 21 "PhaseLoads$Layings" "takings" "[I" ∈ WG := wg_mem 150 (by decide +kernel) rfl
theorem wF_X0_24 : Cond.fieldLink RX0 24 "PhaseLoads$Layings" "products" "[I" ∈ WG := wg_mem 151 (by decide +kernel) rfl
theorem wF_X0_27 : Cond.fieldLink RX0 27 "PhaseLoads$Layings" "met" "[I" ∈ WG := wg_mem 152 (by decide +kernel) rfl
theorem wF_X0_30 : Cond.fieldLink RX0 30 "PhaseLoads$Layings" "loads" "[I" ∈ WG := wg_mem 153 (by decide +kernel) rfl
theorem wF_X0_33 : Cond.fieldLink RX0 33 "PhaseLoads$Layings" "tightHours" "[I" ∈ WG := wg_mem 154 (by decide +kernel) rfl
theorem wF_X0_89 : Cond.fieldLink RX0 89 "PhaseLoads$Layings" "tight" "I" ∈ WG := wg_mem 155 (by decide +kernel) rfl
theorem wF_X0_47 : Cond.fieldLink RX0 47 "PhaseLoads$Layings" "total" "I" ∈ WG := wg_mem 156 (by decide +kernel) rfl
theorem wF_X0_60 : Cond.fieldLink RX0 60 "PhaseLoads$Layings" "leastOfAll" "I" ∈ WG := wg_mem 157 (by decide +kernel) rfl
theorem wF_X0_40 : Cond.fieldLink RX0 40 "PhaseLoads$Layings" "found" "Z" ∈ WG := wg_mem 158 (by decide +kernel) rfl
theorem wL_X4_25 : Cond.classLink RX4 25 RX1 ∈ WG := wg_mem 188 (by decide +kernel) rfl
theorem wB_X1 : Cond.instantiable RX1 6 ∈ WG := wg_mem 189 (by decide +kernel) rfl
theorem wM_X4_27 : Cond.methodLink RX4 27 yX1_init ∈ WG := wg_mem 190 (by decide +kernel) rfl
theorem wI_yX1_init : Cond.instanceMethod yX1_init ∈ WG := wg_mem 191 (by decide +kernel) rfl
set_option maxRecDepth 100000 in
theorem wC_yX1_init : Cond.code yX1_init cX1_init 2 none ∈ WG := wg_mem 192 (rfl) rfl
theorem wM_X1_3 : Cond.methodLink RX1 3 objectInit ∈ WG := wg_mem 193 (by decide +kernel) rfl
theorem wF_X1_15 : Cond.fieldLink RX1 15 "PhaseLoads$Steps" "found" "Z" ∈ WG := wg_mem 194 (by decide +kernel) rfl
theorem wF_X4_220 : Cond.fieldLink RX4 220 "PhaseLoads$Steps" "found" "Z" ∈ WG := wg_mem 195 (by decide +kernel) rfl
theorem wF_X1_36 : Cond.fieldLink RX1 36 "PhaseLoads$Steps" "grief" "I" ∈ WG := wg_mem 196 (by decide +kernel) rfl
theorem wF_X4_224 : Cond.fieldLink RX4 224 "PhaseLoads$Steps" "grief" "I" ∈ WG := wg_mem 197 (by decide +kernel) rfl
theorem wF_X1_43 : Cond.fieldLink RX1 43 "PhaseLoads$Steps" "kind" "I" ∈ WG := wg_mem 198 (by decide +kernel) rfl
theorem wF_X4_227 : Cond.fieldLink RX4 227 "PhaseLoads$Steps" "kind" "I" ∈ WG := wg_mem 199 (by decide +kernel) rfl
theorem wF_X1_46 : Cond.fieldLink RX1 46 "PhaseLoads$Steps" "house" "I" ∈ WG := wg_mem 200 (by decide +kernel) rfl
theorem wF_X4_230 : Cond.fieldLink RX4 230 "PhaseLoads$Steps" "house" "I" ∈ WG := wg_mem 201 (by decide +kernel) rfl
theorem wF_X1_49 : Cond.fieldLink RX1 49 "PhaseLoads$Steps" "other" "I" ∈ WG := wg_mem 202 (by decide +kernel) rfl
theorem wF_X4_233 : Cond.fieldLink RX4 233 "PhaseLoads$Steps" "other" "I" ∈ WG := wg_mem 203 (by decide +kernel) rfl
theorem wF_X1_9 : Cond.fieldLink RX1 9 "PhaseLoads$Steps" "street" "LPhaseLoads$Street;" ∈ WG := wg_mem 204 (by decide +kernel) rfl
theorem wL_X4_32 : Cond.classLink RX4 32 RX3 ∈ WG := wg_mem 218 (by decide +kernel) rfl
theorem wB_X3 : Cond.instantiable RX3 2 ∈ WG := wg_mem 219 (by decide +kernel) rfl
theorem wI_yX3_init : Cond.instanceMethod yX3_init ∈ WG := wg_mem 221 (by decide +kernel) rfl
set_option maxRecDepth 100000 in
theorem wC_yX3_init : Cond.code yX3_init cX3_init 1 none ∈ WG := wg_mem 222 (rfl) rfl
theorem wM_X3_3 : Cond.methodLink RX3 3 objectInit ∈ WG := wg_mem 223 (by decide +kernel) rfl
theorem wF_X3_15 : Cond.fieldLink RX3 15 "PhaseLoads$Undos" "count" "I" ∈ WG := wg_mem 224 (by decide +kernel) rfl
theorem wF_X4_196 : Cond.fieldLink RX4 196 "PhaseLoads$Undos" "count" "I" ∈ WG := wg_mem 225 (by decide +kernel) rfl
theorem wF_X3_9 : Cond.fieldLink RX3 9 "PhaseLoads$Undos" "layingsAhead" "[I" ∈ WG := wg_mem 226 (by decide +kernel) rfl
theorem wF_X4_10 : Cond.fieldLink RX4 10 "PhaseLoads" "street" "LPhaseLoads$Street;" ∈ WG := wg_mem 232 (by decide +kernel) rfl
theorem wF_X4_21 : Cond.fieldLink RX4 21 "PhaseLoads" "layings" "LPhaseLoads$Layings;" ∈ WG := wg_mem 233 (by decide +kernel) rfl
theorem wF_X4_28 : Cond.fieldLink RX4 28 "PhaseLoads" "steps" "LPhaseLoads$Steps;" ∈ WG := wg_mem 234 (by decide +kernel) rfl
theorem wF_X4_35 : Cond.fieldLink RX4 35 "PhaseLoads" "undos" "LPhaseLoads$Undos;" ∈ WG := wg_mem 235 (by decide +kernel) rfl
theorem wF_X4_249 : Cond.fieldLink RX4 249 "PhaseLoads" "bads" "I" ∈ WG := wg_mem 236 (by decide +kernel) rfl
theorem wF_X4_252 : Cond.fieldLink RX4 252 "PhaseLoads" "noes" "I" ∈ WG := wg_mem 237 (by decide +kernel) rfl
theorem wF_X4_255 : Cond.fieldLink RX4 255 "PhaseLoads" "fulls" "I" ∈ WG := wg_mem 238 (by decide +kernel) rfl
theorem wM_L_13 : Cond.methodLink RL 13 yX4_house ∈ WG := wg_mem 254 (by decide +kernel) rfl
theorem wI_yX4_house : Cond.instanceMethod yX4_house ∈ WG := wg_mem 255 (by decide +kernel) rfl
theorem wS_yX4_house : Cond.selects RX4 yX4_house yX4_house ∈ WG := wg_mem 256 (by decide +kernel) rfl
set_option maxRecDepth 100000 in
theorem wC_yX4_house : Cond.code yX4_house cX4_house 4 (some .int) ∈ WG := wg_mem 257 (rfl) rfl
theorem wM_X4_39 : Cond.methodLink RX4 39 yX4_isSort ∈ WG := wg_mem 258 (by decide +kernel) rfl
theorem wT_yX4_isSort : Cond.static yX4_isSort ∈ WG := wg_mem 259 (by decide +kernel) rfl
set_option maxRecDepth 100000 in
theorem wC_yX4_isSort : Cond.code yX4_isSort cX4_isSort 1 (some .boolean) ∈ WG := wg_mem 260 (rfl) rfl
theorem wM_X4_77 : Cond.methodLink RX4 77 yX4_isIn ∈ WG := wg_mem 261 (by decide +kernel) rfl
theorem wT_yX4_isIn : Cond.static yX4_isIn ∈ WG := wg_mem 262 (by decide +kernel) rfl
set_option maxRecDepth 100000 in
theorem wC_yX4_isIn : Cond.code yX4_isIn cX4_isIn 3 (some .boolean) ∈ WG := wg_mem 263 (rfl) rfl
theorem wM_X4_43 : Cond.methodLink RX4 43 yX4_isSize ∈ WG := wg_mem 264 (by decide +kernel) rfl
theorem wT_yX4_isSize : Cond.static yX4_isSize ∈ WG := wg_mem 265 (by decide +kernel) rfl
set_option maxRecDepth 100000 in
theorem wC_yX4_isSize : Cond.code yX4_isSize cX4_isSize 1 (some .boolean) ∈ WG := wg_mem 266 (rfl) rfl
theorem wM_X4_46 : Cond.methodLink RX4 46 yX4_isPhase ∈ WG := wg_mem 267 (by decide +kernel) rfl
theorem wT_yX4_isPhase : Cond.static yX4_isPhase ∈ WG := wg_mem 268 (by decide +kernel) rfl
set_option maxRecDepth 100000 in
theorem wC_yX4_isPhase : Cond.code yX4_isPhase cX4_isPhase 1 (some .boolean) ∈ WG := wg_mem 269 (rfl) rfl
theorem wM_X4_49 : Cond.methodLink RX4 49 yX4_refuse ∈ WG := wg_mem 270 (by decide +kernel) rfl
theorem wI_yX4_refuse : Cond.instanceMethod yX4_refuse ∈ WG := wg_mem 272 (by decide +kernel) rfl
set_option maxRecDepth 100000 in
theorem wC_yX4_refuse : Cond.code yX4_refuse cX4_refuse 2 (some .int) ∈ WG := wg_mem 273 (rfl) rfl
theorem wM_X4_57 : Cond.methodLink RX4 57 yX4_streetChanges ∈ WG := wg_mem 274 (by decide +kernel) rfl
theorem wI_yX4_streetChanges : Cond.instanceMethod yX4_streetChanges ∈ WG := wg_mem 276 (by decide +kernel) rfl
set_option maxRecDepth 100000 in
theorem wC_yX4_streetChanges : Cond.code yX4_streetChanges cX4_streetChanges 1 none ∈ WG := wg_mem 277 (rfl) rfl
theorem wM_X4_202 : Cond.methodLink RX4 202 yX0_forget ∈ WG := wg_mem 278 (by decide +kernel) rfl
theorem wI_yX0_forget : Cond.instanceMethod yX0_forget ∈ WG := wg_mem 279 (by decide +kernel) rfl
theorem wS_yX0_forget : Cond.selects RX0 yX0_forget yX0_forget ∈ WG := wg_mem 280 (by decide +kernel) rfl
set_option maxRecDepth 100000 in
theorem wC_yX0_forget : Cond.code yX0_forget cX0_forget 1 none ∈ WG := wg_mem 281 (rfl) rfl
theorem wM_X4_60 : Cond.methodLink RX4 60 yX2_addHouse ∈ WG := wg_mem 282 (by decide +kernel) rfl
theorem wI_yX2_addHouse : Cond.instanceMethod yX2_addHouse ∈ WG := wg_mem 283 (by decide +kernel) rfl
theorem wS_yX2_addHouse : Cond.selects RX2 yX2_addHouse yX2_addHouse ∈ WG := wg_mem 284 (by decide +kernel) rfl
set_option maxRecDepth 100000 in
theorem wC_yX2_addHouse : Cond.code yX2_addHouse cX2_addHouse 5 (some .int) ∈ WG := wg_mem 285 (rfl) rfl
theorem wM_X2_55 : Cond.methodLink RX2 55 yX2_addLoads ∈ WG := wg_mem 286 (by decide +kernel) rfl
theorem wI_yX2_addLoads : Cond.instanceMethod yX2_addLoads ∈ WG := wg_mem 288 (by decide +kernel) rfl
set_option maxRecDepth 100000 in
theorem wC_yX2_addLoads : Cond.code yX2_addLoads cX2_addLoads 4 none ∈ WG := wg_mem 289 (rfl) rfl
theorem wM_X2_65 : Cond.methodLink RX2 65 yX2_takenBy ∈ WG := wg_mem 290 (by decide +kernel) rfl
theorem wI_yX2_takenBy : Cond.instanceMethod yX2_takenBy ∈ WG := wg_mem 291 (by decide +kernel) rfl
theorem wS_yX2_takenBy : Cond.selects RX2 yX2_takenBy yX2_takenBy ∈ WG := wg_mem 292 (by decide +kernel) rfl
set_option maxRecDepth 100000 in
theorem wC_yX2_takenBy : Cond.code yX2_takenBy cX2_takenBy 3 (some .int) ∈ WG := wg_mem 293 (rfl) rfl
theorem wM_L_18 : Cond.methodLink RL 18 yX4_sets ∈ WG := wg_mem 296 (by decide +kernel) rfl
theorem wI_yX4_sets : Cond.instanceMethod yX4_sets ∈ WG := wg_mem 297 (by decide +kernel) rfl
theorem wS_yX4_sets : Cond.selects RX4 yX4_sets yX4_sets ∈ WG := wg_mem 298 (by decide +kernel) rfl
set_option maxRecDepth 100000 in
theorem wC_yX4_sets : Cond.code yX4_sets cX4_sets 4 (some .int) ∈ WG := wg_mem 299 (rfl) rfl
theorem wM_X4_64 : Cond.methodLink RX4 64 yX4_isHouse ∈ WG := wg_mem 300 (by decide +kernel) rfl
theorem wI_yX4_isHouse : Cond.instanceMethod yX4_isHouse ∈ WG := wg_mem 302 (by decide +kernel) rfl
set_option maxRecDepth 100000 in
theorem wC_yX4_isHouse : Cond.code yX4_isHouse cX4_isHouse 2 (some .boolean) ∈ WG := wg_mem 303 (rfl) rfl
theorem wM_X4_67 : Cond.methodLink RX4 67 yX4_isSetting ∈ WG := wg_mem 304 (by decide +kernel) rfl
theorem wT_yX4_isSetting : Cond.static yX4_isSetting ∈ WG := wg_mem 305 (by decide +kernel) rfl
set_option maxRecDepth 100000 in
theorem wC_yX4_isSetting : Cond.code yX4_isSetting cX4_isSetting 2 (some .boolean) ∈ WG := wg_mem 306 (rfl) rfl
theorem wM_X4_71 : Cond.methodLink RX4 71 yX2_setHouse ∈ WG := wg_mem 307 (by decide +kernel) rfl
theorem wI_yX2_setHouse : Cond.instanceMethod yX2_setHouse ∈ WG := wg_mem 308 (by decide +kernel) rfl
theorem wS_yX2_setHouse : Cond.selects RX2 yX2_setHouse yX2_setHouse ∈ WG := wg_mem 309 (by decide +kernel) rfl
set_option maxRecDepth 100000 in
theorem wC_yX2_setHouse : Cond.code yX2_setHouse cX2_setHouse 6 (some .int) ∈ WG := wg_mem 310 (rfl) rfl
theorem wM_L_22 : Cond.methodLink RL 22 yX4_weight ∈ WG := wg_mem 311 (by decide +kernel) rfl
theorem wI_yX4_weight : Cond.instanceMethod yX4_weight ∈ WG := wg_mem 312 (by decide +kernel) rfl
theorem wS_yX4_weight : Cond.selects RX4 yX4_weight yX4_weight ∈ WG := wg_mem 313 (by decide +kernel) rfl
set_option maxRecDepth 100000 in
theorem wC_yX4_weight : Cond.code yX4_weight cX4_weight 4 (some .int) ∈ WG := wg_mem 314 (rfl) rfl
theorem wM_X4_74 : Cond.methodLink RX4 74 yX4_isHour ∈ WG := wg_mem 315 (by decide +kernel) rfl
theorem wT_yX4_isHour : Cond.static yX4_isHour ∈ WG := wg_mem 316 (by decide +kernel) rfl
set_option maxRecDepth 100000 in
theorem wC_yX4_isHour : Cond.code yX4_isHour cX4_isHour 1 (some .boolean) ∈ WG := wg_mem 317 (rfl) rfl
theorem wM_L_27 : Cond.methodLink RL 27 yX4_fuse ∈ WG := wg_mem 318 (by decide +kernel) rfl
theorem wI_yX4_fuse : Cond.instanceMethod yX4_fuse ∈ WG := wg_mem 319 (by decide +kernel) rfl
theorem wS_yX4_fuse : Cond.selects RX4 yX4_fuse yX4_fuse ∈ WG := wg_mem 320 (by decide +kernel) rfl
set_option maxRecDepth 100000 in
theorem wC_yX4_fuse : Cond.code yX4_fuse cX4_fuse 3 (some .int) ∈ WG := wg_mem 321 (rfl) rfl
theorem wM_L_32 : Cond.methodLink RL 32 yX4_tie ∈ WG := wg_mem 322 (by decide +kernel) rfl
theorem wI_yX4_tie : Cond.instanceMethod yX4_tie ∈ WG := wg_mem 323 (by decide +kernel) rfl
theorem wS_yX4_tie : Cond.selects RX4 yX4_tie yX4_tie ∈ WG := wg_mem 324 (by decide +kernel) rfl
set_option maxRecDepth 100000 in
theorem wC_yX4_tie : Cond.code yX4_tie cX4_tie 3 (some .int) ∈ WG := wg_mem 325 (rfl) rfl
theorem wM_X4_88 : Cond.methodLink RX4 88 yX4_areTwoHouses ∈ WG := wg_mem 326 (by decide +kernel) rfl
theorem wI_yX4_areTwoHouses : Cond.instanceMethod yX4_areTwoHouses ∈ WG := wg_mem 328 (by decide +kernel) rfl
set_option maxRecDepth 100000 in
theorem wC_yX4_areTwoHouses : Cond.code yX4_areTwoHouses cX4_areTwoHouses 3 (some .boolean) ∈ WG := wg_mem 329 (rfl) rfl
theorem wM_X4_97 : Cond.methodLink RX4 97 yX2_addPair ∈ WG := wg_mem 330 (by decide +kernel) rfl
theorem wI_yX2_addPair : Cond.instanceMethod yX2_addPair ∈ WG := wg_mem 331 (by decide +kernel) rfl
theorem wS_yX2_addPair : Cond.selects RX2 yX2_addPair yX2_addPair ∈ WG := wg_mem 332 (by decide +kernel) rfl
set_option maxRecDepth 100000 in
theorem wC_yX2_addPair : Cond.code yX2_addPair cX2_addPair 6 none ∈ WG := wg_mem 333 (rfl) rfl
theorem wM_X2_72 : Cond.methodLink RX2 72 yJ9_min_7cf53 ∈ WG := wg_mem 334 (by decide +kernel) rfl
theorem wT_yJ9_min_7cf53 : Cond.static yJ9_min_7cf53 ∈ WG := wg_mem 335 (by decide +kernel) rfl
set_option maxRecDepth 100000 in
theorem wC_yJ9_min_7cf53 : Cond.code yJ9_min_7cf53 cJ9_min_7cf53 2 (some .int) ∈ WG := wg_mem 336 (rfl) rfl
theorem wM_X2_77 : Cond.methodLink RX2 77 yJ9_max_7cf53 ∈ WG := wg_mem 337 (by decide +kernel) rfl
theorem wT_yJ9_max_7cf53 : Cond.static yJ9_max_7cf53 ∈ WG := wg_mem 338 (by decide +kernel) rfl
set_option maxRecDepth 100000 in
theorem wC_yJ9_max_7cf53 : Cond.code yJ9_max_7cf53 cJ9_max_7cf53 2 (some .int) ∈ WG := wg_mem 339 (rfl) rfl
theorem wM_L_36 : Cond.methodLink RL 36 yX4_loosens ∈ WG := wg_mem 340 (by decide +kernel) rfl
theorem wI_yX4_loosens : Cond.instanceMethod yX4_loosens ∈ WG := wg_mem 341 (by decide +kernel) rfl
theorem wS_yX4_loosens : Cond.selects RX4 yX4_loosens yX4_loosens ∈ WG := wg_mem 342 (by decide +kernel) rfl
set_option maxRecDepth 100000 in
theorem wC_yX4_loosens : Cond.code yX4_loosens cX4_loosens 2 (some .int) ∈ WG := wg_mem 343 (rfl) rfl
theorem wM_X4_101 : Cond.methodLink RX4 101 yX2_dropPairs ∈ WG := wg_mem 344 (by decide +kernel) rfl
theorem wI_yX2_dropPairs : Cond.instanceMethod yX2_dropPairs ∈ WG := wg_mem 345 (by decide +kernel) rfl
theorem wS_yX2_dropPairs : Cond.selects RX2 yX2_dropPairs yX2_dropPairs ∈ WG := wg_mem 346 (by decide +kernel) rfl
set_option maxRecDepth 100000 in
theorem wC_yX2_dropPairs : Cond.code yX2_dropPairs cX2_dropPairs 2 none ∈ WG := wg_mem 347 (rfl) rfl
theorem wM_L_41 : Cond.methodLink RL 41 yX4_anew ∈ WG := wg_mem 348 (by decide +kernel) rfl
theorem wI_yX4_anew : Cond.instanceMethod yX4_anew ∈ WG := wg_mem 349 (by decide +kernel) rfl
theorem wS_yX4_anew : Cond.selects RX4 yX4_anew yX4_anew ∈ WG := wg_mem 350 (by decide +kernel) rfl
set_option maxRecDepth 100000 in
theorem wC_yX4_anew : Cond.code yX4_anew cX4_anew 2 (some .int) ∈ WG := wg_mem 351 (rfl) rfl
theorem wM_X4_104 : Cond.methodLink RX4 104 yX2_dropHouses ∈ WG := wg_mem 352 (by decide +kernel) rfl
theorem wI_yX2_dropHouses : Cond.instanceMethod yX2_dropHouses ∈ WG := wg_mem 353 (by decide +kernel) rfl
theorem wS_yX2_dropHouses : Cond.selects RX2 yX2_dropHouses yX2_dropHouses ∈ WG := wg_mem 354 (by decide +kernel) rfl
set_option maxRecDepth 100000 in
theorem wC_yX2_dropHouses : Cond.code yX2_dropHouses cX2_dropHouses 1 none ∈ WG := wg_mem 355 (rfl) rfl
theorem wM_X2_59 : Cond.methodLink RX2 59 yX2_dropPairs ∈ WG := wg_mem 356 (by decide +kernel) rfl
theorem wM_X4_107 : Cond.methodLink RX4 107 yX2_resetLimits ∈ WG := wg_mem 357 (by decide +kernel) rfl
theorem wM_L_45 : Cond.methodLink RL 45 yX4_draw ∈ WG := wg_mem 358 (by decide +kernel) rfl
theorem wI_yX4_draw : Cond.instanceMethod yX4_draw ∈ WG := wg_mem 359 (by decide +kernel) rfl
theorem wS_yX4_draw : Cond.selects RX4 yX4_draw yX4_draw ∈ WG := wg_mem 360 (by decide +kernel) rfl
set_option maxRecDepth 100000 in
theorem wC_yX4_draw : Cond.code yX4_draw cX4_draw 6 (some .int) ∈ WG := wg_mem 361 (rfl) rfl
theorem wK_X4_110 : Cond.constant RX4 110 (999999) ∈ WG := wg_mem 362 (by decide +kernel) rfl
theorem wK_X4_111 : Cond.constantLong RX4 111 (1103515245) ∈ WG := wg_mem 363 (by decide +kernel) rfl
theorem wK_X4_113 : Cond.constantLong RX4 113 (12345) ∈ WG := wg_mem 364 (by decide +kernel) rfl
theorem wK_X4_115 : Cond.constantLong RX4 115 (2147483648) ∈ WG := wg_mem 365 (by decide +kernel) rfl
theorem wK_X4_117 : Cond.constantLong RX4 117 (65536) ∈ WG := wg_mem 366 (by decide +kernel) rfl
theorem wK_X4_119 : Cond.constantLong RX4 119 (6) ∈ WG := wg_mem 367 (by decide +kernel) rfl
theorem wK_X4_121 : Cond.constantLong RX4 121 (1024) ∈ WG := wg_mem 368 (by decide +kernel) rfl
theorem wK_X4_123 : Cond.constantLong RX4 123 (20) ∈ WG := wg_mem 369 (by decide +kernel) rfl
theorem wK_X4_125 : Cond.constantLong RX4 125 (32768) ∈ WG := wg_mem 370 (by decide +kernel) rfl
theorem wK_X4_127 : Cond.constantLong RX4 127 (3) ∈ WG := wg_mem 371 (by decide +kernel) rfl
theorem wM_L_49 : Cond.methodLink RL 49 yX4_of ∈ WG := wg_mem 372 (by decide +kernel) rfl
theorem wI_yX4_of : Cond.instanceMethod yX4_of ∈ WG := wg_mem 373 (by decide +kernel) rfl
theorem wS_yX4_of : Cond.selects RX4 yX4_of yX4_of ∈ WG := wg_mem 374 (by decide +kernel) rfl
set_option maxRecDepth 100000 in
theorem wC_yX4_of : Cond.code yX4_of cX4_of 3 (some .int) ∈ WG := wg_mem 375 (rfl) rfl
theorem wM_L_53 : Cond.methodLink RL 53 yX4_takes ∈ WG := wg_mem 376 (by decide +kernel) rfl
theorem wI_yX4_takes : Cond.instanceMethod yX4_takes ∈ WG := wg_mem 377 (by decide +kernel) rfl
theorem wS_yX4_takes : Cond.selects RX4 yX4_takes yX4_takes ∈ WG := wg_mem 378 (by decide +kernel) rfl
set_option maxRecDepth 100000 in
theorem wC_yX4_takes : Cond.code yX4_takes cX4_takes 3 (some .int) ∈ WG := wg_mem 379 (rfl) rfl
theorem wM_X4_141 : Cond.methodLink RX4 141 yX2_takenBy ∈ WG := wg_mem 380 (by decide +kernel) rfl
theorem wM_L_57 : Cond.methodLink RL 57 yX4_load ∈ WG := wg_mem 381 (by decide +kernel) rfl
theorem wI_yX4_load : Cond.instanceMethod yX4_load ∈ WG := wg_mem 382 (by decide +kernel) rfl
theorem wS_yX4_load : Cond.selects RX4 yX4_load yX4_load ∈ WG := wg_mem 383 (by decide +kernel) rfl
set_option maxRecDepth 100000 in
theorem wC_yX4_load : Cond.code yX4_load cX4_load 3 (some .int) ∈ WG := wg_mem 384 (rfl) rfl
theorem wM_X4_145 : Cond.methodLink RX4 145 yX2_loadOf ∈ WG := wg_mem 385 (by decide +kernel) rfl
theorem wI_yX2_loadOf : Cond.instanceMethod yX2_loadOf ∈ WG := wg_mem 386 (by decide +kernel) rfl
theorem wS_yX2_loadOf : Cond.selects RX2 yX2_loadOf yX2_loadOf ∈ WG := wg_mem 387 (by decide +kernel) rfl
set_option maxRecDepth 100000 in
theorem wC_yX2_loadOf : Cond.code yX2_loadOf cX2_loadOf 3 (some .int) ∈ WG := wg_mem 388 (rfl) rfl
theorem wM_L_61 : Cond.methodLink RL 61 yX4_neutral ∈ WG := wg_mem 389 (by decide +kernel) rfl
theorem wI_yX4_neutral : Cond.instanceMethod yX4_neutral ∈ WG := wg_mem 390 (by decide +kernel) rfl
theorem wS_yX4_neutral : Cond.selects RX4 yX4_neutral yX4_neutral ∈ WG := wg_mem 391 (by decide +kernel) rfl
set_option maxRecDepth 100000 in
theorem wC_yX4_neutral : Cond.code yX4_neutral cX4_neutral 2 (some .int) ∈ WG := wg_mem 392 (rfl) rfl
theorem wM_X4_148 : Cond.methodLink RX4 148 yX2_neutralOf ∈ WG := wg_mem 393 (by decide +kernel) rfl
theorem wI_yX2_neutralOf : Cond.instanceMethod yX2_neutralOf ∈ WG := wg_mem 394 (by decide +kernel) rfl
theorem wS_yX2_neutralOf : Cond.selects RX2 yX2_neutralOf yX2_neutralOf ∈ WG := wg_mem 395 (by decide +kernel) rfl
set_option maxRecDepth 100000 in
theorem wC_yX2_neutralOf : Cond.code yX2_neutralOf cX2_neutralOf 5 (some .int) ∈ WG := wg_mem 396 (rfl) rfl
theorem wM_X2_90 : Cond.methodLink RX2 90 yX2_loadOf ∈ WG := wg_mem 397 (by decide +kernel) rfl
theorem wM_L_65 : Cond.methodLink RL 65 yX4_grief ∈ WG := wg_mem 398 (by decide +kernel) rfl
theorem wI_yX4_grief : Cond.instanceMethod yX4_grief ∈ WG := wg_mem 399 (by decide +kernel) rfl
theorem wS_yX4_grief : Cond.selects RX4 yX4_grief yX4_grief ∈ WG := wg_mem 400 (by decide +kernel) rfl
set_option maxRecDepth 100000 in
theorem wC_yX4_grief : Cond.code yX4_grief cX4_grief 1 (some .int) ∈ WG := wg_mem 401 (rfl) rfl
theorem wM_X4_151 : Cond.methodLink RX4 151 yX2_griefNow ∈ WG := wg_mem 402 (by decide +kernel) rfl
theorem wI_yX2_griefNow : Cond.instanceMethod yX2_griefNow ∈ WG := wg_mem 403 (by decide +kernel) rfl
theorem wS_yX2_griefNow : Cond.selects RX2 yX2_griefNow yX2_griefNow ∈ WG := wg_mem 404 (by decide +kernel) rfl
set_option maxRecDepth 100000 in
theorem wC_yX2_griefNow : Cond.code yX2_griefNow cX2_griefNow 3 (some .int) ∈ WG := wg_mem 405 (rfl) rfl
theorem wM_X2_93 : Cond.methodLink RX2 93 yX2_neutralOf ∈ WG := wg_mem 406 (by decide +kernel) rfl
theorem wM_L_69 : Cond.methodLink RL 69 yX4_good ∈ WG := wg_mem 407 (by decide +kernel) rfl
theorem wI_yX4_good : Cond.instanceMethod yX4_good ∈ WG := wg_mem 408 (by decide +kernel) rfl
theorem wS_yX4_good : Cond.selects RX4 yX4_good yX4_good ∈ WG := wg_mem 409 (by decide +kernel) rfl
set_option maxRecDepth 100000 in
theorem wC_yX4_good : Cond.code yX4_good cX4_good 2 (some .int) ∈ WG := wg_mem 410 (rfl) rfl
theorem wM_X4_155 : Cond.methodLink RX4 155 yX2_isSafe ∈ WG := wg_mem 411 (by decide +kernel) rfl
theorem wI_yX2_isSafe : Cond.instanceMethod yX2_isSafe ∈ WG := wg_mem 412 (by decide +kernel) rfl
theorem wS_yX2_isSafe : Cond.selects RX2 yX2_isSafe yX2_isSafe ∈ WG := wg_mem 413 (by decide +kernel) rfl
set_option maxRecDepth 100000 in
theorem wC_yX2_isSafe : Cond.code yX2_isSafe cX2_isSafe 2 (some .boolean) ∈ WG := wg_mem 414 (rfl) rfl
theorem wM_X2_97 : Cond.methodLink RX2 97 yJ9_abs_0f7a4 ∈ WG := wg_mem 415 (by decide +kernel) rfl
theorem wT_yJ9_abs_0f7a4 : Cond.static yJ9_abs_0f7a4 ∈ WG := wg_mem 416 (by decide +kernel) rfl
set_option maxRecDepth 100000 in
theorem wC_yJ9_abs_0f7a4 : Cond.code yJ9_abs_0f7a4 cJ9_abs_0f7a4 1 (some .int) ∈ WG := wg_mem 417 (rfl) rfl
theorem wM_X4_159 : Cond.methodLink RX4 159 yX2_keepsTies ∈ WG := wg_mem 418 (by decide +kernel) rfl
theorem wI_yX2_keepsTies : Cond.instanceMethod yX2_keepsTies ∈ WG := wg_mem 419 (by decide +kernel) rfl
theorem wS_yX2_keepsTies : Cond.selects RX2 yX2_keepsTies yX2_keepsTies ∈ WG := wg_mem 420 (by decide +kernel) rfl
set_option maxRecDepth 100000 in
theorem wC_yX2_keepsTies : Cond.code yX2_keepsTies cX2_keepsTies 2 (some .boolean) ∈ WG := wg_mem 421 (rfl) rfl
theorem wM_L_73 : Cond.methodLink RL 73 yX4_worst ∈ WG := wg_mem 422 (by decide +kernel) rfl
theorem wI_yX4_worst : Cond.instanceMethod yX4_worst ∈ WG := wg_mem 423 (by decide +kernel) rfl
theorem wS_yX4_worst : Cond.selects RX4 yX4_worst yX4_worst ∈ WG := wg_mem 424 (by decide +kernel) rfl
set_option maxRecDepth 100000 in
theorem wC_yX4_worst : Cond.code yX4_worst cX4_worst 2 (some .int) ∈ WG := wg_mem 425 (rfl) rfl
theorem wM_X4_162 : Cond.methodLink RX4 162 yX2_hourOfGreatestNeutral ∈ WG := wg_mem 426 (by decide +kernel) rfl
theorem wI_yX2_hourOfGreatestNeutral : Cond.instanceMethod yX2_hourOfGreatestNeutral ∈ WG := wg_mem 427 (by decide +kernel) rfl
theorem wS_yX2_hourOfGreatestNeutral : Cond.selects RX2 yX2_hourOfGreatestNeutral yX2_hourOfGreatestNeutral ∈ WG := wg_mem 428 (by decide +kernel) rfl
set_option maxRecDepth 100000 in
theorem wC_yX2_hourOfGreatestNeutral : Cond.code yX2_hourOfGreatestNeutral cX2_hourOfGreatestNeutral 3 (some .int) ∈ WG := wg_mem 429 (rfl) rfl
theorem wM_X4_165 : Cond.methodLink RX4 165 yX2_greatestLoad ∈ WG := wg_mem 430 (by decide +kernel) rfl
theorem wI_yX2_greatestLoad : Cond.instanceMethod yX2_greatestLoad ∈ WG := wg_mem 431 (by decide +kernel) rfl
theorem wS_yX2_greatestLoad : Cond.selects RX2 yX2_greatestLoad yX2_greatestLoad ∈ WG := wg_mem 432 (by decide +kernel) rfl
set_option maxRecDepth 100000 in
theorem wC_yX2_greatestLoad : Cond.code yX2_greatestLoad cX2_greatestLoad 4 (some .int) ∈ WG := wg_mem 433 (rfl) rfl
theorem wM_L_77 : Cond.methodLink RL 77 yX4_change ∈ WG := wg_mem 434 (by decide +kernel) rfl
theorem wI_yX4_change : Cond.instanceMethod yX4_change ∈ WG := wg_mem 435 (by decide +kernel) rfl
theorem wS_yX4_change : Cond.selects RX4 yX4_change yX4_change ∈ WG := wg_mem 436 (by decide +kernel) rfl
set_option maxRecDepth 100000 in
theorem wC_yX4_change : Cond.code yX4_change cX4_change 4 (some .int) ∈ WG := wg_mem 437 (rfl) rfl
theorem wM_X4_168 : Cond.methodLink RX4 168 yX4_phasesChange ∈ WG := wg_mem 438 (by decide +kernel) rfl
theorem wI_yX4_phasesChange : Cond.instanceMethod yX4_phasesChange ∈ WG := wg_mem 440 (by decide +kernel) rfl
set_option maxRecDepth 100000 in
theorem wC_yX4_phasesChange : Cond.code yX4_phasesChange cX4_phasesChange 1 none ∈ WG := wg_mem 441 (rfl) rfl
theorem wM_X4_261 : Cond.methodLink RX4 261 yX2_packedPhases ∈ WG := wg_mem 442 (by decide +kernel) rfl
theorem wI_yX2_packedPhases : Cond.instanceMethod yX2_packedPhases ∈ WG := wg_mem 443 (by decide +kernel) rfl
theorem wS_yX2_packedPhases : Cond.selects RX2 yX2_packedPhases yX2_packedPhases ∈ WG := wg_mem 444 (by decide +kernel) rfl
set_option maxRecDepth 100000 in
theorem wC_yX2_packedPhases : Cond.code yX2_packedPhases cX2_packedPhases 1 (some .int) ∈ WG := wg_mem 445 (rfl) rfl
theorem wT_yX4_pack : Cond.static yX4_pack ∈ WG := wg_mem 447 (by decide +kernel) rfl
set_option maxRecDepth 100000 in
theorem wC_yX4_pack : Cond.code yX4_pack cX4_pack 4 (some .int) ∈ WG := wg_mem 448 (rfl) rfl
theorem wM_X4_264 : Cond.methodLink RX4 264 yX3_keep ∈ WG := wg_mem 449 (by decide +kernel) rfl
theorem wI_yX3_keep : Cond.instanceMethod yX3_keep ∈ WG := wg_mem 450 (by decide +kernel) rfl
theorem wS_yX3_keep : Cond.selects RX3 yX3_keep yX3_keep ∈ WG := wg_mem 451 (by decide +kernel) rfl
set_option maxRecDepth 100000 in
theorem wC_yX3_keep : Cond.code yX3_keep cX3_keep 2 none ∈ WG := wg_mem 452 (rfl) rfl
theorem wM_X3_19 : Cond.methodLink RX3 19 arraycopyName ∈ WG := wg_mem 453 (by decide +kernel) rfl
theorem wT_arraycopyName : Cond.static arraycopyName ∈ WG := wg_mem 454 (by decide +kernel) rfl
theorem wV_arraycopyName : Cond.native arraycopyName ∈ WG := wg_mem 455 (by decide +kernel) rfl
theorem wM_X4_171 : Cond.methodLink RX4 171 yX2_setPhase ∈ WG := wg_mem 456 (by decide +kernel) rfl
theorem wI_yX2_setPhase : Cond.instanceMethod yX2_setPhase ∈ WG := wg_mem 457 (by decide +kernel) rfl
theorem wS_yX2_setPhase : Cond.selects RX2 yX2_setPhase yX2_setPhase ∈ WG := wg_mem 458 (by decide +kernel) rfl
set_option maxRecDepth 100000 in
theorem wC_yX2_setPhase : Cond.code yX2_setPhase cX2_setPhase 3 none ∈ WG := wg_mem 459 (rfl) rfl
theorem wM_L_81 : Cond.methodLink RL 81 yX4_swap ∈ WG := wg_mem 460 (by decide +kernel) rfl
theorem wI_yX4_swap : Cond.instanceMethod yX4_swap ∈ WG := wg_mem 461 (by decide +kernel) rfl
theorem wS_yX4_swap : Cond.selects RX4 yX4_swap yX4_swap ∈ WG := wg_mem 462 (by decide +kernel) rfl
set_option maxRecDepth 100000 in
theorem wC_yX4_swap : Cond.code yX4_swap cX4_swap 3 (some .int) ∈ WG := wg_mem 463 (rfl) rfl
theorem wM_X4_174 : Cond.methodLink RX4 174 yX2_swapPhases ∈ WG := wg_mem 464 (by decide +kernel) rfl
theorem wI_yX2_swapPhases : Cond.instanceMethod yX2_swapPhases ∈ WG := wg_mem 465 (by decide +kernel) rfl
theorem wS_yX2_swapPhases : Cond.selects RX2 yX2_swapPhases yX2_swapPhases ∈ WG := wg_mem 466 (by decide +kernel) rfl
set_option maxRecDepth 100000 in
theorem wC_yX2_swapPhases : Cond.code yX2_swapPhases cX2_swapPhases 4 none ∈ WG := wg_mem 467 (rfl) rfl
theorem wM_X2_62 : Cond.methodLink RX2 62 yX2_setPhase ∈ WG := wg_mem 468 (by decide +kernel) rfl
theorem wM_L_85 : Cond.methodLink RL 85 yX4_step ∈ WG := wg_mem 469 (by decide +kernel) rfl
theorem wI_yX4_step : Cond.instanceMethod yX4_step ∈ WG := wg_mem 470 (by decide +kernel) rfl
theorem wS_yX4_step : Cond.selects RX4 yX4_step yX4_step ∈ WG := wg_mem 471 (by decide +kernel) rfl
set_option maxRecDepth 100000 in
theorem wC_yX4_step : Cond.code yX4_step cX4_step 1 (some .int) ∈ WG := wg_mem 472 (rfl) rfl
theorem wM_X4_177 : Cond.methodLink RX4 177 yX1_find ∈ WG := wg_mem 473 (by decide +kernel) rfl
theorem wI_yX1_find : Cond.instanceMethod yX1_find ∈ WG := wg_mem 474 (by decide +kernel) rfl
theorem wS_yX1_find : Cond.selects RX1 yX1_find yX1_find ∈ WG := wg_mem 475 (by decide +kernel) rfl
set_option maxRecDepth 100000 in
theorem wC_yX1_find : Cond.code yX1_find cX1_find 2 none ∈ WG := wg_mem 476 (rfl) rfl
theorem wM_X1_25 : Cond.methodLink RX1 25 yX1_isFree ∈ WG := wg_mem 477 (by decide +kernel) rfl
theorem wI_yX1_isFree : Cond.instanceMethod yX1_isFree ∈ WG := wg_mem 479 (by decide +kernel) rfl
set_option maxRecDepth 100000 in
theorem wC_yX1_isFree : Cond.code yX1_isFree cX1_isFree 2 (some .boolean) ∈ WG := wg_mem 480 (rfl) rfl
theorem wM_X1_63 : Cond.methodLink RX1 63 yX2_isTied ∈ WG := wg_mem 481 (by decide +kernel) rfl
theorem wI_yX2_isTied : Cond.instanceMethod yX2_isTied ∈ WG := wg_mem 482 (by decide +kernel) rfl
theorem wS_yX2_isTied : Cond.selects RX2 yX2_isTied yX2_isTied ∈ WG := wg_mem 483 (by decide +kernel) rfl
set_option maxRecDepth 100000 in
theorem wC_yX2_isTied : Cond.code yX2_isTied cX2_isTied 3 (some .boolean) ∈ WG := wg_mem 484 (rfl) rfl
theorem wM_X1_29 : Cond.methodLink RX1 29 yX1_tryChanges ∈ WG := wg_mem 485 (by decide +kernel) rfl
theorem wI_yX1_tryChanges : Cond.instanceMethod yX1_tryChanges ∈ WG := wg_mem 487 (by decide +kernel) rfl
set_option maxRecDepth 100000 in
theorem wC_yX1_tryChanges : Cond.code yX1_tryChanges cX1_tryChanges 4 none ∈ WG := wg_mem 488 (rfl) rfl
theorem wM_X1_52 : Cond.methodLink RX1 52 yX2_setPhase ∈ WG := wg_mem 489 (by decide +kernel) rfl
theorem wM_X1_69 : Cond.methodLink RX1 69 yX1_compare ∈ WG := wg_mem 490 (by decide +kernel) rfl
theorem wI_yX1_compare : Cond.instanceMethod yX1_compare ∈ WG := wg_mem 492 (by decide +kernel) rfl
set_option maxRecDepth 100000 in
theorem wC_yX1_compare : Cond.code yX1_compare cX1_compare 5 none ∈ WG := wg_mem 493 (rfl) rfl
theorem wM_X1_73 : Cond.methodLink RX1 73 yX2_isSafe ∈ WG := wg_mem 494 (by decide +kernel) rfl
theorem wM_X1_39 : Cond.methodLink RX1 39 yX2_griefNow ∈ WG := wg_mem 495 (by decide +kernel) rfl
theorem wM_X1_33 : Cond.methodLink RX1 33 yX1_trySwaps ∈ WG := wg_mem 496 (by decide +kernel) rfl
theorem wI_yX1_trySwaps : Cond.instanceMethod yX1_trySwaps ∈ WG := wg_mem 498 (by decide +kernel) rfl
set_option maxRecDepth 100000 in
theorem wC_yX1_trySwaps : Cond.code yX1_trySwaps cX1_trySwaps 3 none ∈ WG := wg_mem 499 (rfl) rfl
theorem wM_X1_56 : Cond.methodLink RX1 56 yX2_swapPhases ∈ WG := wg_mem 500 (by decide +kernel) rfl
theorem wM_X4_180 : Cond.methodLink RX4 180 yX1_lessens ∈ WG := wg_mem 501 (by decide +kernel) rfl
theorem wI_yX1_lessens : Cond.instanceMethod yX1_lessens ∈ WG := wg_mem 502 (by decide +kernel) rfl
theorem wS_yX1_lessens : Cond.selects RX1 yX1_lessens yX1_lessens ∈ WG := wg_mem 503 (by decide +kernel) rfl
set_option maxRecDepth 100000 in
theorem wC_yX1_lessens : Cond.code yX1_lessens cX1_lessens 1 (some .boolean) ∈ WG := wg_mem 504 (rfl) rfl
theorem wM_X4_183 : Cond.methodLink RX4 183 yX1_take ∈ WG := wg_mem 505 (by decide +kernel) rfl
theorem wI_yX1_take : Cond.instanceMethod yX1_take ∈ WG := wg_mem 506 (by decide +kernel) rfl
theorem wS_yX1_take : Cond.selects RX1 yX1_take yX1_take ∈ WG := wg_mem 507 (by decide +kernel) rfl
set_option maxRecDepth 100000 in
theorem wC_yX1_take : Cond.code yX1_take cX1_take 1 none ∈ WG := wg_mem 508 (rfl) rfl
theorem wM_L_89 : Cond.methodLink RL 89 yX4_down ∈ WG := wg_mem 509 (by decide +kernel) rfl
theorem wI_yX4_down : Cond.instanceMethod yX4_down ∈ WG := wg_mem 510 (by decide +kernel) rfl
theorem wS_yX4_down : Cond.selects RX4 yX4_down yX4_down ∈ WG := wg_mem 511 (by decide +kernel) rfl
set_option maxRecDepth 100000 in
theorem wC_yX4_down : Cond.code yX4_down cX4_down 2 (some .int) ∈ WG := wg_mem 512 (rfl) rfl
theorem wM_L_93 : Cond.methodLink RL 93 yX4_lay ∈ WG := wg_mem 513 (by decide +kernel) rfl
theorem wI_yX4_lay : Cond.instanceMethod yX4_lay ∈ WG := wg_mem 514 (by decide +kernel) rfl
theorem wS_yX4_lay : Cond.selects RX4 yX4_lay yX4_lay ∈ WG := wg_mem 515 (by decide +kernel) rfl
set_option maxRecDepth 100000 in
theorem wC_yX4_lay : Cond.code yX4_lay cX4_lay 3 (some .int) ∈ WG := wg_mem 516 (rfl) rfl
theorem wM_X4_186 : Cond.methodLink RX4 186 yX0_changesOfBest ∈ WG := wg_mem 517 (by decide +kernel) rfl
theorem wI_yX0_changesOfBest : Cond.instanceMethod yX0_changesOfBest ∈ WG := wg_mem 518 (by decide +kernel) rfl
theorem wS_yX0_changesOfBest : Cond.selects RX0 yX0_changesOfBest yX0_changesOfBest ∈ WG := wg_mem 519 (by decide +kernel) rfl
set_option maxRecDepth 100000 in
theorem wC_yX0_changesOfBest : Cond.code yX0_changesOfBest cX0_changesOfBest 4 (some .int) ∈ WG := wg_mem 520 (rfl) rfl
theorem wM_X0_44 : Cond.methodLink RX0 44 yX0_findAll ∈ WG := wg_mem 521 (by decide +kernel) rfl
theorem wI_yX0_findAll : Cond.instanceMethod yX0_findAll ∈ WG := wg_mem 523 (by decide +kernel) rfl
set_option maxRecDepth 100000 in
theorem wC_yX0_findAll : Cond.code yX0_findAll cX0_findAll 1 none ∈ WG := wg_mem 524 (rfl) rfl
theorem wM_X0_51 : Cond.methodLink RX0 51 yJ7_fill_53178 ∈ WG := wg_mem 525 (by decide +kernel) rfl
theorem wM_X0_63 : Cond.methodLink RX0 63 yX0_readTakings ∈ WG := wg_mem 526 (by decide +kernel) rfl
theorem wI_yX0_readTakings : Cond.instanceMethod yX0_readTakings ∈ WG := wg_mem 528 (by decide +kernel) rfl
set_option maxRecDepth 100000 in
theorem wC_yX0_readTakings : Cond.code yX0_readTakings cX0_readTakings 3 none ∈ WG := wg_mem 529 (rfl) rfl
theorem wM_X0_85 : Cond.methodLink RX0 85 yX2_takenBy ∈ WG := wg_mem 530 (by decide +kernel) rfl
theorem wM_X0_66 : Cond.methodLink RX0 66 yX0_findTightHours ∈ WG := wg_mem 531 (by decide +kernel) rfl
theorem wI_yX0_findTightHours : Cond.instanceMethod yX0_findTightHours ∈ WG := wg_mem 533 (by decide +kernel) rfl
set_option maxRecDepth 100000 in
theorem wC_yX0_findTightHours : Cond.code yX0_findTightHours cX0_findTightHours 5 none ∈ WG := wg_mem 534 (rfl) rfl
theorem wM_X0_92 : Cond.methodLink RX0 92 yJ9_max_7cf53 ∈ WG := wg_mem 535 (by decide +kernel) rfl
theorem wM_X0_69 : Cond.methodLink RX0 69 yX0_multiplyTakings ∈ WG := wg_mem 536 (by decide +kernel) rfl
theorem wI_yX0_multiplyTakings : Cond.instanceMethod yX0_multiplyTakings ∈ WG := wg_mem 538 (by decide +kernel) rfl
set_option maxRecDepth 100000 in
theorem wC_yX0_multiplyTakings : Cond.code yX0_multiplyTakings cX0_multiplyTakings 3 none ∈ WG := wg_mem 539 (rfl) rfl
theorem wM_X0_100 : Cond.methodLink RX0 100 yX0_product ∈ WG := wg_mem 540 (by decide +kernel) rfl
theorem wI_yX0_product : Cond.instanceMethod yX0_product ∈ WG := wg_mem 542 (by decide +kernel) rfl
set_option maxRecDepth 100000 in
theorem wC_yX0_product : Cond.code yX0_product cX0_product 5 (some .int) ∈ WG := wg_mem 543 (rfl) rfl
theorem wM_X0_72 : Cond.methodLink RX0 72 yX0_griefApart ∈ WG := wg_mem 544 (by decide +kernel) rfl
theorem wI_yX0_griefApart : Cond.instanceMethod yX0_griefApart ∈ WG := wg_mem 546 (by decide +kernel) rfl
set_option maxRecDepth 100000 in
theorem wC_yX0_griefApart : Cond.code yX0_griefApart cX0_griefApart 4 (some .int) ∈ WG := wg_mem 547 (rfl) rfl
theorem wM_X0_76 : Cond.methodLink RX0 76 yX0_place ∈ WG := wg_mem 548 (by decide +kernel) rfl
theorem wI_yX0_place : Cond.instanceMethod yX0_place ∈ WG := wg_mem 550 (by decide +kernel) rfl
set_option maxRecDepth 100000 in
theorem wC_yX0_place : Cond.code yX0_place cX0_place 5 none ∈ WG := wg_mem 551 (rfl) rfl
theorem wM_X0_106 : Cond.methodLink RX0 106 yX0_count ∈ WG := wg_mem 552 (by decide +kernel) rfl
theorem wI_yX0_count : Cond.instanceMethod yX0_count ∈ WG := wg_mem 554 (by decide +kernel) rfl
set_option maxRecDepth 100000 in
theorem wC_yX0_count : Cond.code yX0_count cX0_count 3 none ∈ WG := wg_mem 555 (rfl) rfl
theorem wM_X0_134 : Cond.methodLink RX0 134 yX0_isLaidSafe ∈ WG := wg_mem 556 (by decide +kernel) rfl
theorem wI_yX0_isLaidSafe : Cond.instanceMethod yX0_isLaidSafe ∈ WG := wg_mem 558 (by decide +kernel) rfl
set_option maxRecDepth 100000 in
theorem wC_yX0_isLaidSafe : Cond.code yX0_isLaidSafe cX0_isLaidSafe 3 (some .boolean) ∈ WG := wg_mem 559 (rfl) rfl
theorem wM_X0_130 : Cond.methodLink RX0 130 yJ9_abs_0f7a4 ∈ WG := wg_mem 560 (by decide +kernel) rfl
theorem wM_X0_110 : Cond.methodLink RX0 110 yX0_meetEarlier ∈ WG := wg_mem 562 (by decide +kernel) rfl
theorem wI_yX0_meetEarlier : Cond.instanceMethod yX0_meetEarlier ∈ WG := wg_mem 564 (by decide +kernel) rfl
set_option maxRecDepth 100000 in
theorem wC_yX0_meetEarlier : Cond.code yX0_meetEarlier cX0_meetEarlier 4 none ∈ WG := wg_mem 565 (rfl) rfl
theorem wM_X0_114 : Cond.methodLink RX0 114 yX0_mayLie ∈ WG := wg_mem 566 (by decide +kernel) rfl
theorem wI_yX0_mayLie : Cond.instanceMethod yX0_mayLie ∈ WG := wg_mem 568 (by decide +kernel) rfl
set_option maxRecDepth 100000 in
theorem wC_yX0_mayLie : Cond.code yX0_mayLie cX0_mayLie 4 (some .boolean) ∈ WG := wg_mem 569 (rfl) rfl
theorem wM_X0_118 : Cond.methodLink RX0 118 yX0_addLoads ∈ WG := wg_mem 570 (by decide +kernel) rfl
theorem wI_yX0_addLoads : Cond.instanceMethod yX0_addLoads ∈ WG := wg_mem 572 (by decide +kernel) rfl
set_option maxRecDepth 100000 in
theorem wC_yX0_addLoads : Cond.code yX0_addLoads cX0_addLoads 6 none ∈ WG := wg_mem 573 (rfl) rfl
theorem wM_X4_192 : Cond.methodLink RX4 192 yX2_layPacked ∈ WG := wg_mem 574 (by decide +kernel) rfl
theorem wI_yX2_layPacked : Cond.instanceMethod yX2_layPacked ∈ WG := wg_mem 575 (by decide +kernel) rfl
theorem wS_yX2_layPacked : Cond.selects RX2 yX2_layPacked yX2_layPacked ∈ WG := wg_mem 576 (by decide +kernel) rfl
set_option maxRecDepth 100000 in
theorem wC_yX2_layPacked : Cond.code yX2_layPacked cX2_layPacked 3 none ∈ WG := wg_mem 577 (rfl) rfl
theorem wT_yX4_phaseIn : Cond.static yX4_phaseIn ∈ WG := wg_mem 579 (by decide +kernel) rfl
set_option maxRecDepth 100000 in
theorem wC_yX4_phaseIn : Cond.code yX4_phaseIn cX4_phaseIn 2 (some .int) ∈ WG := wg_mem 580 (rfl) rfl
theorem wM_L_97 : Cond.methodLink RL 97 yX4_undo ∈ WG := wg_mem 581 (by decide +kernel) rfl
theorem wI_yX4_undo : Cond.instanceMethod yX4_undo ∈ WG := wg_mem 582 (by decide +kernel) rfl
theorem wS_yX4_undo : Cond.selects RX4 yX4_undo yX4_undo ∈ WG := wg_mem 583 (by decide +kernel) rfl
set_option maxRecDepth 100000 in
theorem wC_yX4_undo : Cond.code yX4_undo cX4_undo 1 (some .int) ∈ WG := wg_mem 584 (rfl) rfl
theorem wM_X4_199 : Cond.methodLink RX4 199 yX3_takeLast ∈ WG := wg_mem 585 (by decide +kernel) rfl
theorem wI_yX3_takeLast : Cond.instanceMethod yX3_takeLast ∈ WG := wg_mem 586 (by decide +kernel) rfl
theorem wS_yX3_takeLast : Cond.selects RX3 yX3_takeLast yX3_takeLast ∈ WG := wg_mem 587 (by decide +kernel) rfl
set_option maxRecDepth 100000 in
theorem wC_yX3_takeLast : Cond.code yX3_takeLast cX3_takeLast 1 (some .int) ∈ WG := wg_mem 588 (rfl) rfl
theorem wM_L_101 : Cond.methodLink RL 101 yX4_best ∈ WG := wg_mem 589 (by decide +kernel) rfl
theorem wI_yX4_best : Cond.instanceMethod yX4_best ∈ WG := wg_mem 590 (by decide +kernel) rfl
theorem wS_yX4_best : Cond.selects RX4 yX4_best yX4_best ∈ WG := wg_mem 591 (by decide +kernel) rfl
set_option maxRecDepth 100000 in
theorem wC_yX4_best : Cond.code yX4_best cX4_best 3 (some .int) ∈ WG := wg_mem 592 (rfl) rfl
theorem wM_L_105 : Cond.methodLink RL 105 yX4_phase ∈ WG := wg_mem 593 (by decide +kernel) rfl
theorem wI_yX4_phase : Cond.instanceMethod yX4_phase ∈ WG := wg_mem 594 (by decide +kernel) rfl
theorem wS_yX4_phase : Cond.selects RX4 yX4_phase yX4_phase ∈ WG := wg_mem 595 (by decide +kernel) rfl
set_option maxRecDepth 100000 in
theorem wC_yX4_phase : Cond.code yX4_phase cX4_phase 3 (some .int) ∈ WG := wg_mem 596 (rfl) rfl
theorem wM_X4_211 : Cond.methodLink RX4 211 yX4_phaseIn ∈ WG := wg_mem 597 (by decide +kernel) rfl
theorem wM_L_109 : Cond.methodLink RL 109 yX4_by ∈ WG := wg_mem 598 (by decide +kernel) rfl
theorem wI_yX4_by : Cond.instanceMethod yX4_by ∈ WG := wg_mem 599 (by decide +kernel) rfl
theorem wS_yX4_by : Cond.selects RX4 yX4_by yX4_by ∈ WG := wg_mem 600 (by decide +kernel) rfl
set_option maxRecDepth 100000 in
theorem wC_yX4_by : Cond.code yX4_by cX4_by 3 (some .int) ∈ WG := wg_mem 601 (rfl) rfl
theorem wM_L_113 : Cond.methodLink RL 113 yX4_fewest ∈ WG := wg_mem 602 (by decide +kernel) rfl
theorem wI_yX4_fewest : Cond.instanceMethod yX4_fewest ∈ WG := wg_mem 603 (by decide +kernel) rfl
theorem wS_yX4_fewest : Cond.selects RX4 yX4_fewest yX4_fewest ∈ WG := wg_mem 604 (by decide +kernel) rfl
set_option maxRecDepth 100000 in
theorem wC_yX4_fewest : Cond.code yX4_fewest cX4_fewest 2 (some .int) ∈ WG := wg_mem 605 (rfl) rfl
theorem wM_X4_214 : Cond.methodLink RX4 214 yX0_fewestChangesFor ∈ WG := wg_mem 606 (by decide +kernel) rfl
theorem wI_yX0_fewestChangesFor : Cond.instanceMethod yX0_fewestChangesFor ∈ WG := wg_mem 607 (by decide +kernel) rfl
theorem wS_yX0_fewestChangesFor : Cond.selects RX0 yX0_fewestChangesFor yX0_fewestChangesFor ∈ WG := wg_mem 608 (by decide +kernel) rfl
set_option maxRecDepth 100000 in
theorem wC_yX0_fewestChangesFor : Cond.code yX0_fewestChangesFor cX0_fewestChangesFor 3 (some .int) ∈ WG := wg_mem 609 (rfl) rfl
theorem wM_L_117 : Cond.methodLink RL 117 yX4_many ∈ WG := wg_mem 610 (by decide +kernel) rfl
theorem wI_yX4_many : Cond.instanceMethod yX4_many ∈ WG := wg_mem 611 (by decide +kernel) rfl
theorem wS_yX4_many : Cond.selects RX4 yX4_many yX4_many ∈ WG := wg_mem 612 (by decide +kernel) rfl
set_option maxRecDepth 100000 in
theorem wC_yX4_many : Cond.code yX4_many cX4_many 1 (some .int) ∈ WG := wg_mem 613 (rfl) rfl
theorem wM_X4_217 : Cond.methodLink RX4 217 yX0_countAll ∈ WG := wg_mem 614 (by decide +kernel) rfl
theorem wI_yX0_countAll : Cond.instanceMethod yX0_countAll ∈ WG := wg_mem 615 (by decide +kernel) rfl
theorem wS_yX0_countAll : Cond.selects RX0 yX0_countAll yX0_countAll ∈ WG := wg_mem 616 (by decide +kernel) rfl
set_option maxRecDepth 100000 in
theorem wC_yX0_countAll : Cond.code yX0_countAll cX0_countAll 1 (some .int) ∈ WG := wg_mem 617 (rfl) rfl
theorem wM_L_121 : Cond.methodLink RL 121 yX4_next ∈ WG := wg_mem 618 (by decide +kernel) rfl
theorem wI_yX4_next : Cond.instanceMethod yX4_next ∈ WG := wg_mem 619 (by decide +kernel) rfl
theorem wS_yX4_next : Cond.selects RX4 yX4_next yX4_next ∈ WG := wg_mem 620 (by decide +kernel) rfl
set_option maxRecDepth 100000 in
theorem wC_yX4_next : Cond.code yX4_next cX4_next 2 (some .int) ∈ WG := wg_mem 621 (rfl) rfl
theorem wM_L_125 : Cond.methodLink RL 125 yX4_told ∈ WG := wg_mem 622 (by decide +kernel) rfl
theorem wI_yX4_told : Cond.instanceMethod yX4_told ∈ WG := wg_mem 623 (by decide +kernel) rfl
theorem wS_yX4_told : Cond.selects RX4 yX4_told yX4_told ∈ WG := wg_mem 624 (by decide +kernel) rfl
set_option maxRecDepth 100000 in
theorem wC_yX4_told : Cond.code yX4_told cX4_told 2 (some .int) ∈ WG := wg_mem 625 (rfl) rfl
theorem wM_X4_236 : Cond.methodLink RX4 236 yX4_toldOf ∈ WG := wg_mem 626 (by decide +kernel) rfl
theorem wI_yX4_toldOf : Cond.instanceMethod yX4_toldOf ∈ WG := wg_mem 628 (by decide +kernel) rfl
set_option maxRecDepth 100000 in
theorem wC_yX4_toldOf : Cond.code yX4_toldOf cX4_toldOf 2 (some .int) ∈ WG := wg_mem 629 (rfl) rfl
theorem wM_X4_258 : Cond.methodLink RX4 258 yX2_fixedBits ∈ WG := wg_mem 630 (by decide +kernel) rfl
theorem wI_yX2_fixedBits : Cond.instanceMethod yX2_fixedBits ∈ WG := wg_mem 631 (by decide +kernel) rfl
theorem wS_yX2_fixedBits : Cond.selects RX2 yX2_fixedBits yX2_fixedBits ∈ WG := wg_mem 632 (by decide +kernel) rfl
set_option maxRecDepth 100000 in
theorem wC_yX2_fixedBits : Cond.code yX2_fixedBits cX2_fixedBits 3 (some .int) ∈ WG := wg_mem 633 (rfl) rfl
theorem wM_L_129 : Cond.methodLink RL 129 yX4_digest ∈ WG := wg_mem 634 (by decide +kernel) rfl
theorem wI_yX4_digest : Cond.instanceMethod yX4_digest ∈ WG := wg_mem 635 (by decide +kernel) rfl
theorem wS_yX4_digest : Cond.selects RX4 yX4_digest yX4_digest ∈ WG := wg_mem 636 (by decide +kernel) rfl
set_option maxRecDepth 100000 in
theorem wC_yX4_digest : Cond.code yX4_digest cX4_digest 4 (some .long) ∈ WG := wg_mem 637 (rfl) rfl
theorem wK_X4_239 : Cond.constantLong RX4 239 (2011) ∈ WG := wg_mem 638 (by decide +kernel) rfl
theorem wK_X4_241 : Cond.constantLong RX4 241 (31) ∈ WG := wg_mem 639 (by decide +kernel) rfl
theorem wL_L_10 : Cond.classLink RL 10 RX5 ∈ WG := wg_mem 640 (by decide +kernel) rfl
theorem wB_X5 : Cond.instantiable RX5 21 ∈ WG := wg_mem 641 (by decide +kernel) rfl
theorem wM_L_12 : Cond.methodLink RL 12 yX5_init ∈ WG := wg_mem 642 (by decide +kernel) rfl
theorem wI_yX5_init : Cond.instanceMethod yX5_init ∈ WG := wg_mem 643 (by decide +kernel) rfl
set_option maxRecDepth 100000 in
theorem wC_yX5_init : Cond.code yX5_init cX5_init 1 none ∈ WG := wg_mem 644 (rfl) rfl
theorem wM_X5_1 : Cond.methodLink RX5 1 objectInit ∈ WG := wg_mem 645 (by decide +kernel) rfl
theorem wF_X5_7 : Cond.fieldLink RX5 7 "PhaseLoadsModel" "sorts" "[I" ∈ WG := wg_mem 646 (by decide +kernel) rfl
theorem wF_X5_13 : Cond.fieldLink RX5 13 "PhaseLoadsModel" "sizes" "[I" ∈ WG := wg_mem 647 (by decide +kernel) rfl
theorem wF_X5_16 : Cond.fieldLink RX5 16 "PhaseLoadsModel" "phases" "[I" ∈ WG := wg_mem 648 (by decide +kernel) rfl
theorem wF_X5_19 : Cond.fieldLink RX5 19 "PhaseLoadsModel" "fixed" "[I" ∈ WG := wg_mem 649 (by decide +kernel) rfl
theorem wF_X5_56 : Cond.fieldLink RX5 56 "PhaseLoadsModel" "houses" "I" ∈ WG := wg_mem 650 (by decide +kernel) rfl
theorem wF_X5_22 : Cond.fieldLink RX5 22 "PhaseLoadsModel" "weights" "[I" ∈ WG := wg_mem 651 (by decide +kernel) rfl
theorem wF_X5_25 : Cond.fieldLink RX5 25 "PhaseLoadsModel" "fuse" "I" ∈ WG := wg_mem 652 (by decide +kernel) rfl
theorem wF_X5_29 : Cond.fieldLink RX5 29 "PhaseLoadsModel" "ties" "[I" ∈ WG := wg_mem 653 (by decide +kernel) rfl
theorem wF_X5_77 : Cond.fieldLink RX5 77 "PhaseLoadsModel" "pairs" "I" ∈ WG := wg_mem 654 (by decide +kernel) rfl
theorem wF_X5_32 : Cond.fieldLink RX5 32 "PhaseLoadsModel" "past" "[I" ∈ WG := wg_mem 655 (by decide +kernel) rfl
theorem wF_X5_67 : Cond.fieldLink RX5 67 "PhaseLoadsModel" "known" "I" ∈ WG := wg_mem 656 (by decide +kernel) rfl
theorem wF_X5_35 : Cond.fieldLink RX5 35 "PhaseLoadsModel" "refused" "[I" ∈ WG := wg_mem 657 (by decide +kernel) rfl
theorem wF_X5_38 : Cond.fieldLink RX5 38 "PhaseLoadsModel" "taken" "[I" ∈ WG := wg_mem 658 (by decide +kernel) rfl
theorem wF_X5_41 : Cond.fieldLink RX5 41 "PhaseLoadsModel" "loads" "[I" ∈ WG := wg_mem 659 (by decide +kernel) rfl
theorem wF_X5_44 : Cond.fieldLink RX5 44 "PhaseLoadsModel" "now" "[I" ∈ WG := wg_mem 660 (by decide +kernel) rfl
theorem wF_X5_47 : Cond.fieldLink RX5 47 "PhaseLoadsModel" "best" "[I" ∈ WG := wg_mem 661 (by decide +kernel) rfl
theorem wF_X5_50 : Cond.fieldLink RX5 50 "PhaseLoadsModel" "griefs" "[I" ∈ WG := wg_mem 662 (by decide +kernel) rfl
theorem wF_X5_161 : Cond.fieldLink RX5 161 "PhaseLoadsModel" "all" "I" ∈ WG := wg_mem 663 (by decide +kernel) rfl
theorem wF_X5_164 : Cond.fieldLink RX5 164 "PhaseLoadsModel" "least" "I" ∈ WG := wg_mem 664 (by decide +kernel) rfl
theorem wF_X5_167 : Cond.fieldLink RX5 167 "PhaseLoadsModel" "alike" "I" ∈ WG := wg_mem 665 (by decide +kernel) rfl
theorem wF_X5_53 : Cond.fieldLink RX5 53 "PhaseLoadsModel" "found" "[I" ∈ WG := wg_mem 666 (by decide +kernel) rfl
theorem wM_L_17 : Cond.methodLink RL 17 yX5_house ∈ WG := wg_mem 710 (by decide +kernel) rfl
theorem wI_yX5_house : Cond.instanceMethod yX5_house ∈ WG := wg_mem 711 (by decide +kernel) rfl
theorem wS_yX5_house : Cond.selects RX5 yX5_house yX5_house ∈ WG := wg_mem 712 (by decide +kernel) rfl
set_option maxRecDepth 100000 in
theorem wC_yX5_house : Cond.code yX5_house cX5_house 4 (some .int) ∈ WG := wg_mem 713 (rfl) rfl
theorem wM_X5_59 : Cond.methodLink RX5 59 yX5_in ∈ WG := wg_mem 714 (by decide +kernel) rfl
theorem wT_yX5_in : Cond.static yX5_in ∈ WG := wg_mem 715 (by decide +kernel) rfl
set_option maxRecDepth 100000 in
theorem wC_yX5_in : Cond.code yX5_in cX5_in 3 (some .boolean) ∈ WG := wg_mem 716 (rfl) rfl
theorem wM_X5_63 : Cond.methodLink RX5 63 yX5_refuses ∈ WG := wg_mem 717 (by decide +kernel) rfl
theorem wI_yX5_refuses : Cond.instanceMethod yX5_refuses ∈ WG := wg_mem 719 (by decide +kernel) rfl
set_option maxRecDepth 100000 in
theorem wC_yX5_refuses : Cond.code yX5_refuses cX5_refuses 2 (some .int) ∈ WG := wg_mem 720 (rfl) rfl
theorem wM_L_21 : Cond.methodLink RL 21 yX5_sets ∈ WG := wg_mem 721 (by decide +kernel) rfl
theorem wI_yX5_sets : Cond.instanceMethod yX5_sets ∈ WG := wg_mem 722 (by decide +kernel) rfl
theorem wS_yX5_sets : Cond.selects RX5 yX5_sets yX5_sets ∈ WG := wg_mem 723 (by decide +kernel) rfl
set_option maxRecDepth 100000 in
theorem wC_yX5_sets : Cond.code yX5_sets cX5_sets 5 (some .int) ∈ WG := wg_mem 724 (rfl) rfl
theorem wM_X5_70 : Cond.methodLink RX5 70 yX5_isHouse ∈ WG := wg_mem 725 (by decide +kernel) rfl
theorem wI_yX5_isHouse : Cond.instanceMethod yX5_isHouse ∈ WG := wg_mem 727 (by decide +kernel) rfl
set_option maxRecDepth 100000 in
theorem wC_yX5_isHouse : Cond.code yX5_isHouse cX5_isHouse 2 (some .boolean) ∈ WG := wg_mem 728 (rfl) rfl
theorem wM_L_26 : Cond.methodLink RL 26 yX5_weight ∈ WG := wg_mem 729 (by decide +kernel) rfl
theorem wI_yX5_weight : Cond.instanceMethod yX5_weight ∈ WG := wg_mem 730 (by decide +kernel) rfl
theorem wS_yX5_weight : Cond.selects RX5 yX5_weight yX5_weight ∈ WG := wg_mem 731 (by decide +kernel) rfl
set_option maxRecDepth 100000 in
theorem wC_yX5_weight : Cond.code yX5_weight cX5_weight 4 (some .int) ∈ WG := wg_mem 732 (rfl) rfl
theorem wM_X5_74 : Cond.methodLink RX5 74 yX5_isHour ∈ WG := wg_mem 733 (by decide +kernel) rfl
theorem wT_yX5_isHour : Cond.static yX5_isHour ∈ WG := wg_mem 734 (by decide +kernel) rfl
set_option maxRecDepth 100000 in
theorem wC_yX5_isHour : Cond.code yX5_isHour cX5_isHour 1 (some .boolean) ∈ WG := wg_mem 735 (rfl) rfl
theorem wM_L_31 : Cond.methodLink RL 31 yX5_fuse ∈ WG := wg_mem 736 (by decide +kernel) rfl
theorem wI_yX5_fuse : Cond.instanceMethod yX5_fuse ∈ WG := wg_mem 737 (by decide +kernel) rfl
theorem wS_yX5_fuse : Cond.selects RX5 yX5_fuse yX5_fuse ∈ WG := wg_mem 738 (by decide +kernel) rfl
set_option maxRecDepth 100000 in
theorem wC_yX5_fuse : Cond.code yX5_fuse cX5_fuse 3 (some .int) ∈ WG := wg_mem 739 (rfl) rfl
theorem wM_L_35 : Cond.methodLink RL 35 yX5_tie ∈ WG := wg_mem 740 (by decide +kernel) rfl
theorem wI_yX5_tie : Cond.instanceMethod yX5_tie ∈ WG := wg_mem 741 (by decide +kernel) rfl
theorem wS_yX5_tie : Cond.selects RX5 yX5_tie yX5_tie ∈ WG := wg_mem 742 (by decide +kernel) rfl
set_option maxRecDepth 100000 in
theorem wC_yX5_tie : Cond.code yX5_tie cX5_tie 3 (some .int) ∈ WG := wg_mem 743 (rfl) rfl
theorem wM_X5_80 : Cond.methodLink RX5 80 yX5_leastOf ∈ WG := wg_mem 744 (by decide +kernel) rfl
theorem wI_yX5_leastOf : Cond.instanceMethod yX5_leastOf ∈ WG := wg_mem 746 (by decide +kernel) rfl
set_option maxRecDepth 100000 in
theorem wC_yX5_leastOf : Cond.code yX5_leastOf cX5_leastOf 6 (some .int) ∈ WG := wg_mem 747 (rfl) rfl
theorem wM_L_40 : Cond.methodLink RL 40 yX5_loosens ∈ WG := wg_mem 748 (by decide +kernel) rfl
theorem wI_yX5_loosens : Cond.instanceMethod yX5_loosens ∈ WG := wg_mem 749 (by decide +kernel) rfl
theorem wS_yX5_loosens : Cond.selects RX5 yX5_loosens yX5_loosens ∈ WG := wg_mem 750 (by decide +kernel) rfl
set_option maxRecDepth 100000 in
theorem wC_yX5_loosens : Cond.code yX5_loosens cX5_loosens 2 (some .int) ∈ WG := wg_mem 751 (rfl) rfl
theorem wM_L_44 : Cond.methodLink RL 44 yX5_anew ∈ WG := wg_mem 752 (by decide +kernel) rfl
theorem wI_yX5_anew : Cond.instanceMethod yX5_anew ∈ WG := wg_mem 753 (by decide +kernel) rfl
theorem wS_yX5_anew : Cond.selects RX5 yX5_anew yX5_anew ∈ WG := wg_mem 754 (by decide +kernel) rfl
set_option maxRecDepth 100000 in
theorem wC_yX5_anew : Cond.code yX5_anew cX5_anew 3 (some .int) ∈ WG := wg_mem 755 (rfl) rfl
theorem wM_L_48 : Cond.methodLink RL 48 yX5_draw ∈ WG := wg_mem 756 (by decide +kernel) rfl
theorem wI_yX5_draw : Cond.instanceMethod yX5_draw ∈ WG := wg_mem 757 (by decide +kernel) rfl
theorem wS_yX5_draw : Cond.selects RX5 yX5_draw yX5_draw ∈ WG := wg_mem 758 (by decide +kernel) rfl
set_option maxRecDepth 100000 in
theorem wC_yX5_draw : Cond.code yX5_draw cX5_draw 6 (some .int) ∈ WG := wg_mem 759 (rfl) rfl
theorem wK_X5_83 : Cond.constant RX5 83 (999999) ∈ WG := wg_mem 760 (by decide +kernel) rfl
theorem wK_X5_84 : Cond.constantLong RX5 84 (1103515245) ∈ WG := wg_mem 761 (by decide +kernel) rfl
theorem wK_X5_86 : Cond.constantLong RX5 86 (12345) ∈ WG := wg_mem 762 (by decide +kernel) rfl
theorem wK_X5_88 : Cond.constantLong RX5 88 (2147483648) ∈ WG := wg_mem 763 (by decide +kernel) rfl
theorem wK_X5_90 : Cond.constantLong RX5 90 (65536) ∈ WG := wg_mem 764 (by decide +kernel) rfl
theorem wK_X5_92 : Cond.constantLong RX5 92 (6) ∈ WG := wg_mem 765 (by decide +kernel) rfl
theorem wK_X5_94 : Cond.constantLong RX5 94 (1024) ∈ WG := wg_mem 766 (by decide +kernel) rfl
theorem wK_X5_96 : Cond.constantLong RX5 96 (20) ∈ WG := wg_mem 767 (by decide +kernel) rfl
theorem wK_X5_98 : Cond.constantLong RX5 98 (32768) ∈ WG := wg_mem 768 (by decide +kernel) rfl
theorem wK_X5_100 : Cond.constantLong RX5 100 (3) ∈ WG := wg_mem 769 (by decide +kernel) rfl
theorem wM_L_52 : Cond.methodLink RL 52 yX5_of ∈ WG := wg_mem 770 (by decide +kernel) rfl
theorem wI_yX5_of : Cond.instanceMethod yX5_of ∈ WG := wg_mem 771 (by decide +kernel) rfl
theorem wS_yX5_of : Cond.selects RX5 yX5_of yX5_of ∈ WG := wg_mem 772 (by decide +kernel) rfl
set_option maxRecDepth 100000 in
theorem wC_yX5_of : Cond.code yX5_of cX5_of 3 (some .int) ∈ WG := wg_mem 773 (rfl) rfl
theorem wM_L_56 : Cond.methodLink RL 56 yX5_takes ∈ WG := wg_mem 774 (by decide +kernel) rfl
theorem wI_yX5_takes : Cond.instanceMethod yX5_takes ∈ WG := wg_mem 775 (by decide +kernel) rfl
theorem wS_yX5_takes : Cond.selects RX5 yX5_takes yX5_takes ∈ WG := wg_mem 776 (by decide +kernel) rfl
set_option maxRecDepth 100000 in
theorem wC_yX5_takes : Cond.code yX5_takes cX5_takes 3 (some .int) ∈ WG := wg_mem 777 (rfl) rfl
theorem wM_X5_102 : Cond.methodLink RX5 102 yX5_takesOf ∈ WG := wg_mem 778 (by decide +kernel) rfl
theorem wI_yX5_takesOf : Cond.instanceMethod yX5_takesOf ∈ WG := wg_mem 780 (by decide +kernel) rfl
set_option maxRecDepth 100000 in
theorem wC_yX5_takesOf : Cond.code yX5_takesOf cX5_takesOf 5 (some .int) ∈ WG := wg_mem 781 (rfl) rfl
theorem wM_L_60 : Cond.methodLink RL 60 yX5_load ∈ WG := wg_mem 782 (by decide +kernel) rfl
theorem wI_yX5_load : Cond.instanceMethod yX5_load ∈ WG := wg_mem 783 (by decide +kernel) rfl
theorem wS_yX5_load : Cond.selects RX5 yX5_load yX5_load ∈ WG := wg_mem 784 (by decide +kernel) rfl
set_option maxRecDepth 100000 in
theorem wC_yX5_load : Cond.code yX5_load cX5_load 3 (some .int) ∈ WG := wg_mem 785 (rfl) rfl
theorem wM_X5_115 : Cond.methodLink RX5 115 yX5_asIs ∈ WG := wg_mem 786 (by decide +kernel) rfl
theorem wI_yX5_asIs : Cond.instanceMethod yX5_asIs ∈ WG := wg_mem 788 (by decide +kernel) rfl
set_option maxRecDepth 100000 in
theorem wC_yX5_asIs : Cond.code yX5_asIs cX5_asIs 2 none ∈ WG := wg_mem 789 (rfl) rfl
theorem wM_X5_106 : Cond.methodLink RX5 106 yX5_table ∈ WG := wg_mem 790 (by decide +kernel) rfl
theorem wI_yX5_table : Cond.instanceMethod yX5_table ∈ WG := wg_mem 792 (by decide +kernel) rfl
set_option maxRecDepth 100000 in
theorem wC_yX5_table : Cond.code yX5_table cX5_table 3 none ∈ WG := wg_mem 793 (rfl) rfl
theorem wM_X5_109 : Cond.methodLink RX5 109 yX5_loadsNow ∈ WG := wg_mem 794 (by decide +kernel) rfl
theorem wI_yX5_loadsNow : Cond.instanceMethod yX5_loadsNow ∈ WG := wg_mem 796 (by decide +kernel) rfl
set_option maxRecDepth 100000 in
theorem wC_yX5_loadsNow : Cond.code yX5_loadsNow cX5_loadsNow 3 none ∈ WG := wg_mem 797 (rfl) rfl
theorem wM_L_64 : Cond.methodLink RL 64 yX5_neutral ∈ WG := wg_mem 798 (by decide +kernel) rfl
theorem wI_yX5_neutral : Cond.instanceMethod yX5_neutral ∈ WG := wg_mem 799 (by decide +kernel) rfl
theorem wS_yX5_neutral : Cond.selects RX5 yX5_neutral yX5_neutral ∈ WG := wg_mem 800 (by decide +kernel) rfl
set_option maxRecDepth 100000 in
theorem wC_yX5_neutral : Cond.code yX5_neutral cX5_neutral 2 (some .int) ∈ WG := wg_mem 801 (rfl) rfl
theorem wM_X5_112 : Cond.methodLink RX5 112 yX5_neutralNow ∈ WG := wg_mem 802 (by decide +kernel) rfl
theorem wI_yX5_neutralNow : Cond.instanceMethod yX5_neutralNow ∈ WG := wg_mem 804 (by decide +kernel) rfl
set_option maxRecDepth 100000 in
theorem wC_yX5_neutralNow : Cond.code yX5_neutralNow cX5_neutralNow 5 (some .int) ∈ WG := wg_mem 805 (rfl) rfl
theorem wM_L_68 : Cond.methodLink RL 68 yX5_grief ∈ WG := wg_mem 806 (by decide +kernel) rfl
theorem wI_yX5_grief : Cond.instanceMethod yX5_grief ∈ WG := wg_mem 807 (by decide +kernel) rfl
theorem wS_yX5_grief : Cond.selects RX5 yX5_grief yX5_grief ∈ WG := wg_mem 808 (by decide +kernel) rfl
set_option maxRecDepth 100000 in
theorem wC_yX5_grief : Cond.code yX5_grief cX5_grief 1 (some .int) ∈ WG := wg_mem 809 (rfl) rfl
theorem wM_X5_122 : Cond.methodLink RX5 122 yX5_griefOf ∈ WG := wg_mem 810 (by decide +kernel) rfl
theorem wI_yX5_griefOf : Cond.instanceMethod yX5_griefOf ∈ WG := wg_mem 812 (by decide +kernel) rfl
set_option maxRecDepth 100000 in
theorem wC_yX5_griefOf : Cond.code yX5_griefOf cX5_griefOf 1 (some .int) ∈ WG := wg_mem 813 (rfl) rfl
theorem wM_X5_118 : Cond.methodLink RX5 118 yX5_griefNow ∈ WG := wg_mem 814 (by decide +kernel) rfl
theorem wI_yX5_griefNow : Cond.instanceMethod yX5_griefNow ∈ WG := wg_mem 816 (by decide +kernel) rfl
set_option maxRecDepth 100000 in
theorem wC_yX5_griefNow : Cond.code yX5_griefNow cX5_griefNow 3 (some .int) ∈ WG := wg_mem 817 (rfl) rfl
theorem wM_L_72 : Cond.methodLink RL 72 yX5_good ∈ WG := wg_mem 818 (by decide +kernel) rfl
theorem wI_yX5_good : Cond.instanceMethod yX5_good ∈ WG := wg_mem 819 (by decide +kernel) rfl
theorem wS_yX5_good : Cond.selects RX5 yX5_good yX5_good ∈ WG := wg_mem 820 (by decide +kernel) rfl
set_option maxRecDepth 100000 in
theorem wC_yX5_good : Cond.code yX5_good cX5_good 2 (some .int) ∈ WG := wg_mem 821 (rfl) rfl
theorem wM_X5_125 : Cond.methodLink RX5 125 yX5_isSafe ∈ WG := wg_mem 822 (by decide +kernel) rfl
theorem wI_yX5_isSafe : Cond.instanceMethod yX5_isSafe ∈ WG := wg_mem 824 (by decide +kernel) rfl
set_option maxRecDepth 100000 in
theorem wC_yX5_isSafe : Cond.code yX5_isSafe cX5_isSafe 3 (some .boolean) ∈ WG := wg_mem 825 (rfl) rfl
theorem wM_X5_129 : Cond.methodLink RX5 129 yX5_isKept ∈ WG := wg_mem 826 (by decide +kernel) rfl
theorem wI_yX5_isKept : Cond.instanceMethod yX5_isKept ∈ WG := wg_mem 828 (by decide +kernel) rfl
set_option maxRecDepth 100000 in
theorem wC_yX5_isKept : Cond.code yX5_isKept cX5_isKept 3 (some .boolean) ∈ WG := wg_mem 829 (rfl) rfl
theorem wM_L_76 : Cond.methodLink RL 76 yX5_worst ∈ WG := wg_mem 830 (by decide +kernel) rfl
theorem wI_yX5_worst : Cond.instanceMethod yX5_worst ∈ WG := wg_mem 831 (by decide +kernel) rfl
theorem wS_yX5_worst : Cond.selects RX5 yX5_worst yX5_worst ∈ WG := wg_mem 832 (by decide +kernel) rfl
set_option maxRecDepth 100000 in
theorem wC_yX5_worst : Cond.code yX5_worst cX5_worst 5 (some .int) ∈ WG := wg_mem 833 (rfl) rfl
theorem wM_X5_132 : Cond.methodLink RX5 132 yX5_size ∈ WG := wg_mem 834 (by decide +kernel) rfl
theorem wT_yX5_size : Cond.static yX5_size ∈ WG := wg_mem 835 (by decide +kernel) rfl
set_option maxRecDepth 100000 in
theorem wC_yX5_size : Cond.code yX5_size cX5_size 1 (some .int) ∈ WG := wg_mem 836 (rfl) rfl
theorem wM_L_80 : Cond.methodLink RL 80 yX5_change ∈ WG := wg_mem 837 (by decide +kernel) rfl
theorem wI_yX5_change : Cond.instanceMethod yX5_change ∈ WG := wg_mem 838 (by decide +kernel) rfl
theorem wS_yX5_change : Cond.selects RX5 yX5_change yX5_change ∈ WG := wg_mem 839 (by decide +kernel) rfl
set_option maxRecDepth 100000 in
theorem wC_yX5_change : Cond.code yX5_change cX5_change 4 (some .int) ∈ WG := wg_mem 840 (rfl) rfl
theorem wM_X5_135 : Cond.methodLink RX5 135 yX5_keeps ∈ WG := wg_mem 841 (by decide +kernel) rfl
theorem wI_yX5_keeps : Cond.instanceMethod yX5_keeps ∈ WG := wg_mem 843 (by decide +kernel) rfl
set_option maxRecDepth 100000 in
theorem wC_yX5_keeps : Cond.code yX5_keeps cX5_keeps 2 none ∈ WG := wg_mem 844 (rfl) rfl
theorem wM_L_84 : Cond.methodLink RL 84 yX5_swap ∈ WG := wg_mem 845 (by decide +kernel) rfl
theorem wI_yX5_swap : Cond.instanceMethod yX5_swap ∈ WG := wg_mem 846 (by decide +kernel) rfl
theorem wS_yX5_swap : Cond.selects RX5 yX5_swap yX5_swap ∈ WG := wg_mem 847 (by decide +kernel) rfl
set_option maxRecDepth 100000 in
theorem wC_yX5_swap : Cond.code yX5_swap cX5_swap 3 (some .int) ∈ WG := wg_mem 848 (rfl) rfl
theorem wM_X5_138 : Cond.methodLink RX5 138 yX5_swaps ∈ WG := wg_mem 849 (by decide +kernel) rfl
theorem wI_yX5_swaps : Cond.instanceMethod yX5_swaps ∈ WG := wg_mem 851 (by decide +kernel) rfl
set_option maxRecDepth 100000 in
theorem wC_yX5_swaps : Cond.code yX5_swaps cX5_swaps 4 none ∈ WG := wg_mem 852 (rfl) rfl
theorem wM_L_88 : Cond.methodLink RL 88 yX5_step ∈ WG := wg_mem 853 (by decide +kernel) rfl
theorem wI_yX5_step : Cond.instanceMethod yX5_step ∈ WG := wg_mem 854 (by decide +kernel) rfl
theorem wS_yX5_step : Cond.selects RX5 yX5_step yX5_step ∈ WG := wg_mem 855 (by decide +kernel) rfl
set_option maxRecDepth 100000 in
theorem wC_yX5_step : Cond.code yX5_step cX5_step 1 (some .int) ∈ WG := wg_mem 856 (rfl) rfl
theorem wM_X5_155 : Cond.methodLink RX5 155 yX5_lessens ∈ WG := wg_mem 857 (by decide +kernel) rfl
theorem wI_yX5_lessens : Cond.instanceMethod yX5_lessens ∈ WG := wg_mem 859 (by decide +kernel) rfl
set_option maxRecDepth 100000 in
theorem wC_yX5_lessens : Cond.code yX5_lessens cX5_lessens 1 (some .boolean) ∈ WG := wg_mem 860 (rfl) rfl
theorem wM_X5_152 : Cond.methodLink RX5 152 yX5_finds ∈ WG := wg_mem 861 (by decide +kernel) rfl
theorem wI_yX5_finds : Cond.instanceMethod yX5_finds ∈ WG := wg_mem 863 (by decide +kernel) rfl
set_option maxRecDepth 100000 in
theorem wC_yX5_finds : Cond.code yX5_finds cX5_finds 3 (some .boolean) ∈ WG := wg_mem 864 (rfl) rfl
theorem wM_X5_145 : Cond.methodLink RX5 145 yX5_isFree ∈ WG := wg_mem 865 (by decide +kernel) rfl
theorem wI_yX5_isFree : Cond.instanceMethod yX5_isFree ∈ WG := wg_mem 867 (by decide +kernel) rfl
set_option maxRecDepth 100000 in
theorem wC_yX5_isFree : Cond.code yX5_isFree cX5_isFree 2 (some .boolean) ∈ WG := wg_mem 868 (rfl) rfl
theorem wM_X5_142 : Cond.methodLink RX5 142 yX5_isTied ∈ WG := wg_mem 869 (by decide +kernel) rfl
theorem wI_yX5_isTied : Cond.instanceMethod yX5_isTied ∈ WG := wg_mem 871 (by decide +kernel) rfl
set_option maxRecDepth 100000 in
theorem wC_yX5_isTied : Cond.code yX5_isTied cX5_isTied 4 (some .boolean) ∈ WG := wg_mem 872 (rfl) rfl
theorem wM_X5_148 : Cond.methodLink RX5 148 yX5_looks ∈ WG := wg_mem 873 (by decide +kernel) rfl
theorem wI_yX5_looks : Cond.instanceMethod yX5_looks ∈ WG := wg_mem 875 (by decide +kernel) rfl
set_option maxRecDepth 100000 in
theorem wC_yX5_looks : Cond.code yX5_looks cX5_looks 5 none ∈ WG := wg_mem 876 (rfl) rfl
theorem wM_X5_158 : Cond.methodLink RX5 158 yX5_steps ∈ WG := wg_mem 877 (by decide +kernel) rfl
theorem wI_yX5_steps : Cond.instanceMethod yX5_steps ∈ WG := wg_mem 879 (by decide +kernel) rfl
set_option maxRecDepth 100000 in
theorem wC_yX5_steps : Cond.code yX5_steps cX5_steps 1 none ∈ WG := wg_mem 880 (rfl) rfl
theorem wM_L_92 : Cond.methodLink RL 92 yX5_down ∈ WG := wg_mem 881 (by decide +kernel) rfl
theorem wI_yX5_down : Cond.instanceMethod yX5_down ∈ WG := wg_mem 882 (by decide +kernel) rfl
theorem wS_yX5_down : Cond.selects RX5 yX5_down yX5_down ∈ WG := wg_mem 883 (by decide +kernel) rfl
set_option maxRecDepth 100000 in
theorem wC_yX5_down : Cond.code yX5_down cX5_down 2 (some .int) ∈ WG := wg_mem 884 (rfl) rfl
theorem wM_L_100 : Cond.methodLink RL 100 yX5_undo ∈ WG := wg_mem 885 (by decide +kernel) rfl
theorem wI_yX5_undo : Cond.instanceMethod yX5_undo ∈ WG := wg_mem 886 (by decide +kernel) rfl
theorem wS_yX5_undo : Cond.selects RX5 yX5_undo yX5_undo ∈ WG := wg_mem 887 (by decide +kernel) rfl
set_option maxRecDepth 100000 in
theorem wC_yX5_undo : Cond.code yX5_undo cX5_undo 2 (some .int) ∈ WG := wg_mem 888 (rfl) rfl
theorem wM_L_96 : Cond.methodLink RL 96 yX5_lay ∈ WG := wg_mem 889 (by decide +kernel) rfl
theorem wI_yX5_lay : Cond.instanceMethod yX5_lay ∈ WG := wg_mem 890 (by decide +kernel) rfl
theorem wS_yX5_lay : Cond.selects RX5 yX5_lay yX5_lay ∈ WG := wg_mem 891 (by decide +kernel) rfl
set_option maxRecDepth 100000 in
theorem wC_yX5_lay : Cond.code yX5_lay cX5_lay 3 (some .int) ∈ WG := wg_mem 892 (rfl) rfl
theorem wM_X5_173 : Cond.methodLink RX5 173 yX5_goes ∈ WG := wg_mem 893 (by decide +kernel) rfl
theorem wI_yX5_goes : Cond.instanceMethod yX5_goes ∈ WG := wg_mem 895 (by decide +kernel) rfl
set_option maxRecDepth 100000 in
theorem wC_yX5_goes : Cond.code yX5_goes cX5_goes 3 none ∈ WG := wg_mem 896 (rfl) rfl
theorem wM_X5_170 : Cond.methodLink RX5 170 yX5_meets ∈ WG := wg_mem 897 (by decide +kernel) rfl
theorem wI_yX5_meets : Cond.instanceMethod yX5_meets ∈ WG := wg_mem 899 (by decide +kernel) rfl
set_option maxRecDepth 100000 in
theorem wC_yX5_meets : Cond.code yX5_meets cX5_meets 4 none ∈ WG := wg_mem 900 (rfl) rfl
theorem wM_X5_176 : Cond.methodLink RX5 176 yX5_bestBy ∈ WG := wg_mem 901 (by decide +kernel) rfl
theorem wI_yX5_bestBy : Cond.instanceMethod yX5_bestBy ∈ WG := wg_mem 903 (by decide +kernel) rfl
set_option maxRecDepth 100000 in
theorem wC_yX5_bestBy : Cond.code yX5_bestBy cX5_bestBy 4 (some .int) ∈ WG := wg_mem 904 (rfl) rfl
theorem wM_L_104 : Cond.methodLink RL 104 yX5_best ∈ WG := wg_mem 905 (by decide +kernel) rfl
theorem wI_yX5_best : Cond.instanceMethod yX5_best ∈ WG := wg_mem 906 (by decide +kernel) rfl
theorem wS_yX5_best : Cond.selects RX5 yX5_best yX5_best ∈ WG := wg_mem 907 (by decide +kernel) rfl
set_option maxRecDepth 100000 in
theorem wC_yX5_best : Cond.code yX5_best cX5_best 3 (some .int) ∈ WG := wg_mem 908 (rfl) rfl
theorem wM_L_108 : Cond.methodLink RL 108 yX5_phase ∈ WG := wg_mem 909 (by decide +kernel) rfl
theorem wI_yX5_phase : Cond.instanceMethod yX5_phase ∈ WG := wg_mem 910 (by decide +kernel) rfl
theorem wS_yX5_phase : Cond.selects RX5 yX5_phase yX5_phase ∈ WG := wg_mem 911 (by decide +kernel) rfl
set_option maxRecDepth 100000 in
theorem wC_yX5_phase : Cond.code yX5_phase cX5_phase 3 (some .int) ∈ WG := wg_mem 912 (rfl) rfl
theorem wM_L_112 : Cond.methodLink RL 112 yX5_by ∈ WG := wg_mem 913 (by decide +kernel) rfl
theorem wI_yX5_by : Cond.instanceMethod yX5_by ∈ WG := wg_mem 914 (by decide +kernel) rfl
theorem wS_yX5_by : Cond.selects RX5 yX5_by yX5_by ∈ WG := wg_mem 915 (by decide +kernel) rfl
set_option maxRecDepth 100000 in
theorem wC_yX5_by : Cond.code yX5_by cX5_by 3 (some .int) ∈ WG := wg_mem 916 (rfl) rfl
theorem wM_L_116 : Cond.methodLink RL 116 yX5_fewest ∈ WG := wg_mem 917 (by decide +kernel) rfl
theorem wI_yX5_fewest : Cond.instanceMethod yX5_fewest ∈ WG := wg_mem 918 (by decide +kernel) rfl
theorem wS_yX5_fewest : Cond.selects RX5 yX5_fewest yX5_fewest ∈ WG := wg_mem 919 (by decide +kernel) rfl
set_option maxRecDepth 100000 in
theorem wC_yX5_fewest : Cond.code yX5_fewest cX5_fewest 3 (some .int) ∈ WG := wg_mem 920 (rfl) rfl
theorem wM_L_120 : Cond.methodLink RL 120 yX5_many ∈ WG := wg_mem 921 (by decide +kernel) rfl
theorem wI_yX5_many : Cond.instanceMethod yX5_many ∈ WG := wg_mem 922 (by decide +kernel) rfl
theorem wS_yX5_many : Cond.selects RX5 yX5_many yX5_many ∈ WG := wg_mem 923 (by decide +kernel) rfl
set_option maxRecDepth 100000 in
theorem wC_yX5_many : Cond.code yX5_many cX5_many 1 (some .int) ∈ WG := wg_mem 924 (rfl) rfl
theorem wM_L_124 : Cond.methodLink RL 124 yX5_next ∈ WG := wg_mem 925 (by decide +kernel) rfl
theorem wI_yX5_next : Cond.instanceMethod yX5_next ∈ WG := wg_mem 926 (by decide +kernel) rfl
theorem wS_yX5_next : Cond.selects RX5 yX5_next yX5_next ∈ WG := wg_mem 927 (by decide +kernel) rfl
set_option maxRecDepth 100000 in
theorem wC_yX5_next : Cond.code yX5_next cX5_next 2 (some .int) ∈ WG := wg_mem 928 (rfl) rfl
theorem wM_L_128 : Cond.methodLink RL 128 yX5_told ∈ WG := wg_mem 929 (by decide +kernel) rfl
theorem wI_yX5_told : Cond.instanceMethod yX5_told ∈ WG := wg_mem 930 (by decide +kernel) rfl
theorem wS_yX5_told : Cond.selects RX5 yX5_told yX5_told ∈ WG := wg_mem 931 (by decide +kernel) rfl
set_option maxRecDepth 100000 in
theorem wC_yX5_told : Cond.code yX5_told cX5_told 2 (some .int) ∈ WG := wg_mem 932 (rfl) rfl
theorem wM_X5_179 : Cond.methodLink RX5 179 yX5_toldOf ∈ WG := wg_mem 933 (by decide +kernel) rfl
theorem wI_yX5_toldOf : Cond.instanceMethod yX5_toldOf ∈ WG := wg_mem 935 (by decide +kernel) rfl
set_option maxRecDepth 100000 in
theorem wC_yX5_toldOf : Cond.code yX5_toldOf cX5_toldOf 4 (some .int) ∈ WG := wg_mem 936 (rfl) rfl
theorem wM_L_133 : Cond.methodLink RL 133 yX5_digest ∈ WG := wg_mem 937 (by decide +kernel) rfl
theorem wI_yX5_digest : Cond.instanceMethod yX5_digest ∈ WG := wg_mem 938 (by decide +kernel) rfl
theorem wS_yX5_digest : Cond.selects RX5 yX5_digest yX5_digest ∈ WG := wg_mem 939 (by decide +kernel) rfl
set_option maxRecDepth 100000 in
theorem wC_yX5_digest : Cond.code yX5_digest cX5_digest 4 (some .long) ∈ WG := wg_mem 940 (rfl) rfl
theorem wK_X5_182 : Cond.constantLong RX5 182 (2011) ∈ WG := wg_mem 941 (by decide +kernel) rfl
theorem wK_X5_184 : Cond.constantLong RX5 184 (31) ∈ WG := wg_mem 942 (by decide +kernel) rfl
theorem wg_of {ws : List Cond} (ps : List Nat) (hp : ws = ps.filterMap (fun i => lw_tbl[i]?)) (g : ws.all goodWord = true) : ∀ w ∈ ws, w ∈ WG := fun w hw => List.mem_filter.mpr ⟨by rw [hp] at hw; obtain ⟨i, -, hi⟩ := List.mem_filterMap.mp hw; exact List.mem_of_getElem? hi, List.all_eq_true.mp g w hw⟩
theorem wU_X0 : ∀ w ∈ u_ws RX0 TX0 14, w ∈ WG := wg_of [159, 161, 163, 165, 167, 169, 171, 173, 175, 177, 179, 181, 183, 185] (by decide +kernel) (by decide +kernel)
theorem wU_X1 : ∀ w ∈ u_ws RX1 TX1 6, w ∈ WG := wg_of [205, 207, 209, 211, 213, 215] (by decide +kernel) (by decide +kernel)
theorem wU_X2 : ∀ w ∈ u_ws RX2 TX2 12, w ∈ WG := wg_of [110, 112, 114, 116, 118, 120, 122, 124, 126, 128, 130, 132] (by decide +kernel) (by decide +kernel)
theorem wU_X3 : ∀ w ∈ u_ws RX3 TX3 2, w ∈ WG := wg_of [227, 229] (by decide +kernel) (by decide +kernel)
theorem wU_X4 : ∀ w ∈ u_ws RX4 TX4 7, w ∈ WG := wg_of [239, 241, 243, 245, 247, 249, 251] (by decide +kernel) (by decide +kernel)
theorem wU_X5 : ∀ w ∈ u_ws RX5 TX5 21, w ∈ WG := wg_of [667, 669, 671, 673, 675, 677, 679, 681, 683, 685, 687, 689, 691, 693, 695, 697, 699, 701, 703, 705, 707] (by decide +kernel) (by decide +kernel)
end
section
/-! ===== the layer of rows over one fixed world: h : cell -> place -> int ===== -/
abbrev HpT : Type := Nat → Nat → Int32
/-- a cell's shape: an int array of a length; or an object: its class' number, its fields: a reference to a cell, or an int -/
abbrev ShT : Type := Nat → (Nat ⊕ (Nat × List (Option Nat)))
/-- launch, number of cells, their shapes, their addresses, the class of int arrays, classes, the table's address -/
abbrev GxT : Type := Launch × Nat × ShT × (Nat → Nat) × ClassId × va_G × Nat
abbrev classes : List vw_C := [(RX0, TX0, 14), (RX1, TX1, 6), (RX2, TX2, 12), (RX3, TX3, 2), (RX4, TX4, 7), (RX5, TX5, 21)]
def ce (ad : Nat → Nat) (cA : ClassId) (sh : Nat ⊕ (Nat × List (Option Nat))) (f : Nat → Int32) : va_E := match sh with
  | .inl n => .inl (cA, n, .inl f)
  | .inr o => .inr (o.1, o.2.mapIdx (fun j r => match r with | some q => Value.ref (ad q) | none => Value.int (f j)))
def wl (N : Nat) (S : ShT) (ad : Nat → Nat) (cA : ClassId) (h : HpT) : va_W := (List.range N).map (fun k => (ad k, ce ad cA (S k) (h k)))
theorem wl_at {N : Nat} {S : ShT} {ad : Nat → Nat} {cA : ClassId} {h : HpT} {k : Nat} (hk : k < N) : (wl N S ad cA h)[k]? = some (ad k, ce ad cA (S k) (h k)) := by
  simp [wl, hk]
theorem wl_set {N : Nat} {S : ShT} {ad : Nat → Nat} {cA : ClassId} {h : HpT} {k : Nat} (hk : k < N) (f : Nat → Int32) : (wl N S ad cA h).set k (ad k, ce ad cA (S k) f) = wl N S ad cA (va_up h k f) := by
  apply List.ext_getElem?
  intro i
  by_cases hi : i < N
  · by_cases e : k = i
    · subst e
      rw [wl_at hi, va_up_self, List.getElem?_set_self (by simp [wl, hk])]
    · rw [List.getElem?_set_ne e, wl_at hi, wl_at hi, va_up_ne _ _ (fun q => e q.symm)]
  · rw [List.getElem?_eq_none (by simp [wl]; omega), List.getElem?_eq_none (by simp [wl]; omega)]
theorem wl_D {N : Nat} {S : ShT} {ad : Nat → Nat} {cA : ClassId} {A : Nat → Prop} {h h' : HpT} (hD : va_D A (wl N S ad cA h)) : va_D A (wl N S ad cA h') := by
  have key : ∀ (k : Nat) (q : Nat × va_E), (wl N S ad cA h')[k]? = some q → k < N ∧ q.1 = ad k := by
    intro k q hq
    by_cases hk : k < N
    · rw [wl_at hk] at hq
      cases hq
      exact ⟨hk, rfl⟩
    · rw [List.getElem?_eq_none (by simp [wl]; omega)] at hq
      cases hq
  refine ⟨fun i j p q hp hq e => ?_, fun k q hq => ?_⟩
  · obtain ⟨h1, e1⟩ := key i p hp
    obtain ⟨h2, e2⟩ := key j q hq
    exact hD.1 i j _ _ (wl_at h1) (wl_at h2) (by rw [← e1, ← e2]; exact e)
  · obtain ⟨h1, e1⟩ := key k q hq
    rw [e1]
    exact hD.2 k _ (wl_at h1)
def hs (h : HpT) (k j : Nat) (v : Int32) : HpT := va_up h k (upd (h k) j v)
theorem hs_at (h : HpT) (k j : Nat) (v : Int32) (k' j' : Nat) : hs h k j v k' j' = if k' = k ∧ j' = j then v else h k' j' := by
  unfold hs va_up upd
  by_cases h1 : k' = k
  · subst h1
    by_cases h2 : j' = j <;> simp [h2]
  · simp [h1]
/-- what a method may change: the world's cells, and those that come -/
def Af (N : Nat) (ad : Nat → Nat) (sz : Nat) : Nat → Prop := fun q => (∃ k : Nat, k < N ∧ q = ad k) ∨ sz ≤ q
/-- the table: how many times its size a house takes -/
def tmI : List Int32 := [1, 1, 1, 1, 1, 1, 1, 1, 2, 2, 1, 1, 1, 1, 0, 0, 1, 1, 0, 1, 2, 2, 1, 0, 0, 3, 0, 0, 3, 0, 0, 0, -1, -1, -1, -1]
def tmV (j : Nat) : Value := .int (tmI.getD j 0)
def stG (tT : Nat) (A : Nat → Prop) (U : State) (H : Heap) : Prop := va_Z "PhaseLoads" "TIMES" "[I" (.ref tT) A U H ∧ va_T .int tT 36 tmV A U H ∧ va_Nw (.fieldLinkNest RX2 87 "PhaseLoads" "TIMES" "[I" "PhaseLoads") U ∧ va_Nw (.methodLinkNest RX2 80 yX4_pack "PhaseLoads") U ∧ va_Nw (.methodLinkNest RX2 84 yX4_phaseIn "PhaseLoads") U ∧ va_Nw (.methodLinkNest RX0 138 yX4_pack "PhaseLoads") U
theorem stG_go {tT : Nat} {A B : Nat → Prop} {s U : State} {H : Heap} {locs : List Loc} (h : stG tT A s s.heap) (hS : va_S A s.heap H locs) (hW : s.WarmedH U.vm) (hU : U.heap = H) (hBA : ∀ q, B q → A q) : stG tT B U U.heap := by
  obtain ⟨h1, h2, h3, h4, h5, h6⟩ := h
  rw [hU]
  exact ⟨((h1.kept (fun a q1 q2 => hS.2.1 a q1 q2)).moved hW.alike).narrow hBA, ((h2.kept (fun a q1 q2 => hS.2.1 a q1 q2)).moved hW.alike).narrow hBA, va_Nw.warmF hW h3, va_Nw.warmM hW h4, va_Nw.warmM hW h5, va_Nw.warmM hW h6⟩
def rmD (d : Nat) : Room := { frames := d, cells := 0, slots := 0, locals := 64 * d }
/-- what holds at a method's start -/
def preG : GxT → Nat → HpT → State → Prop
  | (_, N, S, ad, cA, D, tT), sz, h, U => U.heap.size = sz ∧ va_P D classes (wl N S ad cA h) U.heap ∧ va_K D classes [(cA, .int)] U ∧ va_D (fun _ => True) (wl N S ad cA h) ∧ stG tT (Af N ad sz) U U.heap
/-- and at its end -/
def mqG : GxT → (Nat → Prop) → (Option Value → HpT → Prop) → Array Value → State → Outcome → State → Prop
  | (_, N, S, ad, cA, D, _), A, post, _, st, o, t => (∃ (r : Option Value) (h' : HpT), o = .returned r ∧ post r h' ∧ va_P D classes (wl N S ad cA h') t.heap) ∧ va_F A st t
/-- A METHOD'S CONTRACT over the fixed world -/
def mc : GxT → MethodName → ByteArray → Nat → Option FieldType → Nat → List Value → HpT → (Option Value → HpT → Prop) → Prop
  | (l, N, S, ad, cA, D, tT), y, cc, maxL, ret, d, av, h, post => ∀ sz : Nat, Met l y (.code y cc maxL ret :: WG) (rmD d) (va_Pc av (preG (l, N, S, ad, cA, D, tT) sz h)) (mqG (l, N, S, ad, cA, D, tT) (Af N ad sz) post) 0 0 (Af N ad sz)
abbrev mci (G : GxT) (y : MethodName) (cc : ByteArray) (maxL : Nat) (ret : Option FieldType) (d : Nat) (av : List Value) (h : HpT) (x : Int32) (h' : HpT) : Prop := mc G y cc maxL ret d av h (fun r h2 => r = some (.int x) ∧ h2 = h')
abbrev mcl (G : GxT) (y : MethodName) (cc : ByteArray) (maxL : Nat) (ret : Option FieldType) (d : Nat) (av : List Value) (h : HpT) (x : Int64) (h' : HpT) : Prop := mc G y cc maxL ret d av h (fun r h2 => r = some (.long x) ∧ h2 = h')
abbrev mcv (G : GxT) (y : MethodName) (cc : ByteArray) (maxL : Nat) (ret : Option FieldType) (d : Nat) (av : List Value) (h : HpT) (h' : HpT) : Prop := mc G y cc maxL ret d av h (fun r h2 => r = none ∧ h2 = h')
abbrev gad (G : GxT) : Nat → Nat := G.2.2.2.1
/-- cell k is there, of that shape -/
def shp (G : GxT) (k : Nat) (s : Nat ⊕ (Nat × List (Option Nat))) : Prop := k < G.2.1 ∧ G.2.2.1 k = s
/-- all that stays the same in a method's body -/
abbrev XxT : Type := GxT × Program × Env × Room × State × MethodId × Array Value × List Frame × Method × Code × Nat × Nat × (State → Prop) × Nat × (Nat → Prop)
def rn : XxT → Nat → List (Nat × Value) → List Value → HpT → Prop
  | ((l, N, S, ad, cA, D, _), p, e, R, s, m, args, below, meth, c, cells, slots, Q, nL, A), pc, lo, st, h => ∀ (H : Heap) (locs : List Loc) (ls : Array Slot), va_P D classes (wl N S ad cA h) H → va_S A s.heap H locs → lv_has ls nL lo → W p l e R s m args below meth c H locs cells slots Q (F0 m pc ls st)
def FxT : XxT → ByteArray → String → Nat → Prop
  | ((_, N, S, ad, cA, D, tT), p, _, R, s, m, args, _, meth, c, cells, slots, _, nL, A), cc, own, d => p.tables.exec = Jvm.exec ∧ c.code = cc ∧ c.maxLocals = nL ∧ s.vm.findClass own = some m.cls ∧ (∀ w ∈ WG, w.before args s = true) ∧ meth.locks = false ∧ va_K D classes [(cA, .int)] s ∧ (∀ h : HpT, va_D A (wl N S ad cA h)) ∧ (∀ q, s.heap.size ≤ q → A q) ∧ stG tT A s s.heap ∧ d ≤ R.frames ∧ 64 * d ≤ R.locals ∧ cells ≤ R.cells ∧ slots ≤ R.slots
/-- how it returns -/
def RxT : XxT → Option FieldType → (Option Value → HpT → Prop) → Prop
  | (G, _, _, _, s, _, args, below, meth, _, cells, slots, Q, _, A), ret, post => meth.sig.returnType = ret ∧ cells = 0 ∧ slots = 0 ∧ Q = MQ below (mqG G A post) args s 0 0 A
theorem wg_good (c0 : Cond) {ws : List Cond} (h : ∀ w ∈ ws, w ∈ WG) : GoodIn (c0 :: WG) ws := fun w hw => ⟨List.mem_cons_of_mem _ (h w hw), good_of_word (List.mem_filter.mp (h w hw)).2⟩
theorem wg_goodG {ws : List Cond} (h : ∀ w ∈ ws, w ∈ WG) : GoodIn WG ws := fun w hw => ⟨h w hw, good_of_word (List.mem_filter.mp (h w hw)).2⟩
theorem Af_sub {N : Nat} {S : ShT} {ad : Nat → Nat} {cA : ClassId} {A : Nat → Prop} {h : HpT} {sz : Nat} (hD : va_D A (wl N S ad cA h)) (hA : ∀ q, sz ≤ q → A q) : ∀ q, Af N ad sz q → A q := by
  intro q hq
  rcases hq with ⟨k, hk, rfl⟩ | hq
  · exact hD.2 k _ (wl_at hk)
  · exact hA q hq
theorem mc_of {G : GxT} {y : MethodName} {cc : ByteArray} {maxL : Nat} {ret : Option FieldType} {d : Nat} {av : List Value} {h : HpT} {post : Option Value → HpT → Prop} (hy : plainName y.cls = true) (hav : (lg_sl av).length ≤ maxL)
    (body : ∀ X : XxT, X.1 = G → FxT X cc y.cls d → RxT X ret post → X.2.2.2.2.2.2.2.2.2.2.2.2.2.1 = maxL → rn X 0 (lv_args 0 av) [] h) : mc G y cc maxL ret d av h post := by
  obtain ⟨l, N, S, ad, cA, D, tT⟩ := G
  intro sz
  refine Met.ofW (cc := cc) (maxL := maxL) (ret := ret) hy rfl ?_
  intro p e s m args below meth c s₁ B hml hv
  obtain ⟨rfl, hsz, hP, hK, hD, hst⟩ := hv
  subst hsz
  have hts := atoms_spec (ws := .code y cc maxL ret :: WG) B.pre
  have hl := lv_entry av (n := maxL) hav
  rw [lg_entry_eq]
  have hDA : ∀ h2 : HpT, va_D (Af N ad s.heap.size) (wl N S ad cA h2) := fun h2 => wl_D (h := h) ⟨hD.1, fun k q hq => by
    by_cases hk : k < N
    · rw [wl_at hk] at hq
      cases hq
      exact Or.inl ⟨k, hk, rfl⟩
    · rw [List.getElem?_eq_none (by simp [wl]; omega)] at hq
      cases hq⟩
  have key := body ((l, N, S, ad, cA, D, tT), p, e, (headSpec (.code y cc maxL ret :: WG) (rmD d)).room, s, m, av.toArray, below, meth, c, 0, 0, MQ below (mqG (l, N, S, ad, cA, D, tT) (Af N ad s.heap.size) post) av.toArray s 0 0 (Af N ad s.heap.size), maxL, Af N ad s.heap.size) rfl
    ⟨B.exec, B.bytes, hml, findClass_of_methodNamed B.named, fun w hw => hts w (List.mem_cons_of_mem _ hw), B.notSynchronized, hK, hDA, fun q hq => Or.inr hq, hst, Nat.le_refl _, Nat.le_refl _, Nat.zero_le _, Nat.zero_le _⟩
    ⟨B.returns, rfl, rfl, rfl⟩ rfl
  exact key s.heap [] _ hP va_S.rf hl
end
section
def lfind : List (Nat × Value) → Nat → Option Value
  | [], _ => none
  | q :: r, i => if q.1 = i then some q.2 else lfind r i
def lput (i : Nat) (v : Value) : List (Nat × Value) → List (Nat × Value)
  | [] => [(i, v)]
  | q :: r => if q.1 < i then q :: lput i v r else (i, v) :: q :: r
def lset (lo : List (Nat × Value)) (i : Nat) (v : Value) : List (Nat × Value) := lput i v (lo.filter (fun q => !(q.1 == i) && !(q.1 + 1 == i && q.2.category == 2)))
def lset2 (lo : List (Nat × Value)) (i : Nat) (v : Value) : List (Nat × Value) := lput i v (lo.filter (fun q => !(q.1 == i) && (!(q.1 == i + 1) && !(q.1 + 1 == i && q.2.category == 2))))
theorem lfind_mem : ∀ {lo : List (Nat × Value)} {i : Nat} {v : Value}, lfind lo i = some v → (i, v) ∈ lo
  | [], _, _, h => by cases h
  | q :: r, i, v, h => by
    unfold lfind at h
    by_cases e : q.1 = i
    · rw [if_pos e] at h
      cases h
      subst e
      exact List.mem_cons_self
    · rw [if_neg e] at h
      exact List.mem_cons_of_mem _ (lfind_mem h)
theorem lput_mem {i : Nat} {v : Value} : ∀ {lo : List (Nat × Value)} {q : Nat × Value}, q ∈ lput i v lo → q ∈ (i, v) :: lo
  | [], _, h => h
  | a :: r, q, h => by
    unfold lput at h
    by_cases e : a.1 < i
    · rw [if_pos e] at h
      rcases List.mem_cons.mp h with h | h
      · exact List.mem_cons_of_mem _ (List.mem_cons.mpr (Or.inl h))
      · rcases List.mem_cons.mp (lput_mem h) with h | h
        · exact List.mem_cons.mpr (Or.inl h)
        · exact List.mem_cons_of_mem _ (List.mem_cons_of_mem _ h)
    · rw [if_neg e] at h
      exact h
theorem lput_has {ls : Array Slot} {n i : Nat} {v : Value} {lo : List (Nat × Value)} (h : lv_has ls n ((i, v) :: lo)) : lv_has ls n (lput i v lo) := ⟨h.1, h.2.1, fun q hq => h.2.2 q (lput_mem hq)⟩
theorem lfind_at {ls : Array Slot} {n i : Nat} {v : Value} {lo : List (Nat × Value)} (h : lv_has ls n lo) (hf : lfind lo i = some v) : ls[i]? = some (.val v) := h.2.2 (i, v) (lfind_mem hf)
theorem nw_use {w : Cond} (hw : w.onTables = true) {A : Array Value} {U : State} (h : va_Nw w U) : w.before A U = true := va_Nw.use hw h
section RN
variable {X : XxT} {cc : ByteArray} {own : String} {dd pc np : Nat} {lo : List (Nat × Value)} {st : List Value} {h : HpT}
theorem rn_iconst (F : FxT X cc own dd) {n : Int} {v : Int32} (dg : decode cc pc = .ok (.iconst n, 1)) (hn : pc + 1 = np) (hv : Int32.ofInt n = v) (k : rn X np lo (.int v :: st) h) : rn X pc lo (st) h := by
  obtain ⟨⟨l, N, S, ad, cA, D, tT⟩, p, e, R, s, m, args, below, meth, c, cells, slots, Q, nL, A⟩ := X
  obtain ⟨hx, hb, hml, hown, hts, hlk, hK, hD, hA, hst, hrf, hrl, hrc, hrs⟩ := F
  subst hn
  intro H locs ls hP hS hl
  exact lv_iconst hx hb dg hv (k H locs ls hP hS hl)
theorem rn_bipush (F : FxT X cc own dd) {n : Int} {v : Int32} (dg : decode cc pc = .ok (.bipush n, 2)) (hn : pc + 2 = np) (hv : (Int8.ofInt n).toInt32 = v) (k : rn X np lo (.int v :: st) h) : rn X pc lo (st) h := by
  obtain ⟨⟨l, N, S, ad, cA, D, tT⟩, p, e, R, s, m, args, below, meth, c, cells, slots, Q, nL, A⟩ := X
  obtain ⟨hx, hb, hml, hown, hts, hlk, hK, hD, hA, hst, hrf, hrl, hrc, hrs⟩ := F
  subst hn
  intro H locs ls hP hS hl
  exact lv_bipush hx hb dg hv (k H locs ls hP hS hl)
theorem rn_sipush (F : FxT X cc own dd) {n : Int} {v : Int32} (dg : decode cc pc = .ok (.sipush n, 3)) (hn : pc + 3 = np) (hv : (Int16.ofInt n).toInt32 = v) (k : rn X np lo (.int v :: st) h) : rn X pc lo (st) h := by
  obtain ⟨⟨l, N, S, ad, cA, D, tT⟩, p, e, R, s, m, args, below, meth, c, cells, slots, Q, nL, A⟩ := X
  obtain ⟨hx, hb, hml, hown, hts, hlk, hK, hD, hA, hst, hrf, hrl, hrc, hrs⟩ := F
  subst hn
  intro H locs ls hP hS hl
  exact lv_sipush hx hb dg hv (k H locs ls hP hS hl)
theorem rn_iload_n (F : FxT X cc own dd) {q : Fin 4} {x : Int32} (dg : decode cc pc = .ok (.iload_n q, 1)) (hn : pc + 1 = np) (hf : lfind lo (q : Nat) = some (.int x)) (k : rn X np lo (.int x :: st) h) : rn X pc lo (st) h := by
  obtain ⟨⟨l, N, S, ad, cA, D, tT⟩, p, e, R, s, m, args, below, meth, c, cells, slots, Q, nL, A⟩ := X
  obtain ⟨hx, hb, hml, hown, hts, hlk, hK, hD, hA, hst, hrf, hrl, hrc, hrs⟩ := F
  subst hn
  intro H locs ls hP hS hl
  exact lv_iload_n hx hb dg rfl (lfind_at hl hf) (k H locs ls hP hS hl)
theorem rn_iload (F : FxT X cc own dd) {i : Nat} {x : Int32} (dg : decode cc pc = .ok (.iload i, 2)) (hn : pc + 2 = np) (hf : lfind lo i = some (.int x)) (k : rn X np lo (.int x :: st) h) : rn X pc lo (st) h := by
  obtain ⟨⟨l, N, S, ad, cA, D, tT⟩, p, e, R, s, m, args, below, meth, c, cells, slots, Q, nL, A⟩ := X
  obtain ⟨hx, hb, hml, hown, hts, hlk, hK, hD, hA, hst, hrf, hrl, hrc, hrs⟩ := F
  subst hn
  intro H locs ls hP hS hl
  exact lv_iload hx hb dg (lfind_at hl hf) (k H locs ls hP hS hl)
theorem rn_lload_n (F : FxT X cc own dd) {q : Fin 4} {x : Int64} (dg : decode cc pc = .ok (.lload_n q, 1)) (hn : pc + 1 = np) (hf : lfind lo (q : Nat) = some (.long x)) (k : rn X np lo (.long x :: st) h) : rn X pc lo (st) h := by
  obtain ⟨⟨l, N, S, ad, cA, D, tT⟩, p, e, R, s, m, args, below, meth, c, cells, slots, Q, nL, A⟩ := X
  obtain ⟨hx, hb, hml, hown, hts, hlk, hK, hD, hA, hst, hrf, hrl, hrc, hrs⟩ := F
  subst hn
  intro H locs ls hP hS hl
  exact lv_lload_n hx hb dg rfl (lfind_at hl hf) (k H locs ls hP hS hl)
theorem rn_aload_n (F : FxT X cc own dd) {q : Fin 4} {x : Nat} (dg : decode cc pc = .ok (.aload_n q, 1)) (hn : pc + 1 = np) (hf : lfind lo (q : Nat) = some (.ref x)) (k : rn X np lo (.ref x :: st) h) : rn X pc lo (st) h := by
  obtain ⟨⟨l, N, S, ad, cA, D, tT⟩, p, e, R, s, m, args, below, meth, c, cells, slots, Q, nL, A⟩ := X
  obtain ⟨hx, hb, hml, hown, hts, hlk, hK, hD, hA, hst, hrf, hrl, hrc, hrs⟩ := F
  subst hn
  intro H locs ls hP hS hl
  exact lv_aload_n hx hb dg rfl (lfind_at hl hf) (k H locs ls hP hS hl)
theorem rn_aload (F : FxT X cc own dd) {i : Nat} {x : Nat} (dg : decode cc pc = .ok (.aload i, 2)) (hn : pc + 2 = np) (hf : lfind lo i = some (.ref x)) (k : rn X np lo (.ref x :: st) h) : rn X pc lo (st) h := by
  obtain ⟨⟨l, N, S, ad, cA, D, tT⟩, p, e, R, s, m, args, below, meth, c, cells, slots, Q, nL, A⟩ := X
  obtain ⟨hx, hb, hml, hown, hts, hlk, hK, hD, hA, hst, hrf, hrl, hrc, hrs⟩ := F
  subst hn
  intro H locs ls hP hS hl
  exact lv_aload hx hb dg (lfind_at hl hf) (k H locs ls hP hS hl)
theorem rn_istore_n (F : FxT X cc own dd) {q : Fin 4} {x : Int32} {nl : Nat} (dg : decode cc pc = .ok (.istore_n q, 1)) (hn : pc + 1 = np) (hL : X.2.2.2.2.2.2.2.2.2.2.2.2.2.1 = nl) (hnb : Nat.blt (q : Nat) nl = true) (k : rn X np (lset lo (q : Nat) (.int x)) (st) h) : rn X pc lo (.int x :: st) h := by
  obtain ⟨⟨l, N, S, ad, cA, D, tT⟩, p, e, R, s, m, args, below, meth, c, cells, slots, Q, nL, A⟩ := X
  obtain ⟨hx, hb, hml, hown, hts, hlk, hK, hD, hA, hst, hrf, hrl, hrc, hrs⟩ := F
  subst hn
  intro H locs ls hP hS hl
  exact lv_istore_n hx hb dg rfl hl (by rw [show nL = nl from hL]; exact Nat.le_of_ble_eq_true hnb) rfl (fun ls2 hl2 => k H locs ls2 hP hS (lput_has hl2))
theorem rn_astore_n (F : FxT X cc own dd) {q : Fin 4} {x : Nat} {nl : Nat} (dg : decode cc pc = .ok (.astore_n q, 1)) (hn : pc + 1 = np) (hL : X.2.2.2.2.2.2.2.2.2.2.2.2.2.1 = nl) (hnb : Nat.blt (q : Nat) nl = true) (k : rn X np (lset lo (q : Nat) (.ref x)) (st) h) : rn X pc lo (.ref x :: st) h := by
  obtain ⟨⟨l, N, S, ad, cA, D, tT⟩, p, e, R, s, m, args, below, meth, c, cells, slots, Q, nL, A⟩ := X
  obtain ⟨hx, hb, hml, hown, hts, hlk, hK, hD, hA, hst, hrf, hrl, hrc, hrs⟩ := F
  subst hn
  intro H locs ls hP hS hl
  exact lv_astore_n hx hb dg rfl hl (by rw [show nL = nl from hL]; exact Nat.le_of_ble_eq_true hnb) rfl (fun ls2 hl2 => k H locs ls2 hP hS (lput_has hl2))
theorem rn_istore (F : FxT X cc own dd) {i : Nat} {x : Int32} {nl : Nat} (dg : decode cc pc = .ok (.istore i, 2)) (hn : pc + 2 = np) (hL : X.2.2.2.2.2.2.2.2.2.2.2.2.2.1 = nl) (hnb : Nat.blt i nl = true) (k : rn X np (lset lo i (.int x)) (st) h) : rn X pc lo (.int x :: st) h := by
  obtain ⟨⟨l, N, S, ad, cA, D, tT⟩, p, e, R, s, m, args, below, meth, c, cells, slots, Q, nL, A⟩ := X
  obtain ⟨hx, hb, hml, hown, hts, hlk, hK, hD, hA, hst, hrf, hrl, hrc, hrs⟩ := F
  subst hn
  intro H locs ls hP hS hl
  exact lv_istore hx hb dg hl (by rw [show nL = nl from hL]; exact Nat.le_of_ble_eq_true hnb) rfl (fun ls2 hl2 => k H locs ls2 hP hS (lput_has hl2))
theorem rn_astore (F : FxT X cc own dd) {i : Nat} {x : Nat} {nl : Nat} (dg : decode cc pc = .ok (.astore i, 2)) (hn : pc + 2 = np) (hL : X.2.2.2.2.2.2.2.2.2.2.2.2.2.1 = nl) (hnb : Nat.blt i nl = true) (k : rn X np (lset lo i (.ref x)) (st) h) : rn X pc lo (.ref x :: st) h := by
  obtain ⟨⟨l, N, S, ad, cA, D, tT⟩, p, e, R, s, m, args, below, meth, c, cells, slots, Q, nL, A⟩ := X
  obtain ⟨hx, hb, hml, hown, hts, hlk, hK, hD, hA, hst, hrf, hrl, hrc, hrs⟩ := F
  subst hn
  intro H locs ls hP hS hl
  exact lv_astore hx hb dg hl (by rw [show nL = nl from hL]; exact Nat.le_of_ble_eq_true hnb) rfl (fun ls2 hl2 => k H locs ls2 hP hS (lput_has hl2))
theorem rn_lstore_n (F : FxT X cc own dd) {q : Fin 4} {x : Int64} {nl : Nat} (dg : decode cc pc = .ok (.lstore_n q, 1)) (hn : pc + 1 = np) (hL : X.2.2.2.2.2.2.2.2.2.2.2.2.2.1 = nl) (hnb : Nat.blt ((q : Nat) + 1) nl = true) (k : rn X np (lset2 lo (q : Nat) (.long x)) (st) h) : rn X pc lo (.long x :: st) h := by
  obtain ⟨⟨l, N, S, ad, cA, D, tT⟩, p, e, R, s, m, args, below, meth, c, cells, slots, Q, nL, A⟩ := X
  obtain ⟨hx, hb, hml, hown, hts, hlk, hK, hD, hA, hst, hrf, hrl, hrc, hrs⟩ := F
  subst hn
  intro H locs ls hP hS hl
  exact lv_lstore_n hx hb dg rfl hl (by rw [show nL = nl from hL]; exact Nat.le_of_ble_eq_true hnb) rfl (fun ls2 hl2 => k H locs ls2 hP hS (lput_has hl2))
theorem rn_iinc (F : FxT X cc own dd) {i nl : Nat} {n : Int} {x v : Int32} (dg : decode cc pc = .ok (.iinc i n, 3)) (hn : pc + 3 = np) (hf : lfind lo i = some (.int x)) (hv : Int32.ofInt n = v) (hL : X.2.2.2.2.2.2.2.2.2.2.2.2.2.1 = nl) (hnb : Nat.blt i nl = true) (k : rn X np (lset lo i (.int (x + v))) st h) : rn X pc lo st h := by
  obtain ⟨⟨l, N, S, ad, cA, D, tT⟩, p, e, R, s, m, args, below, meth, c, cells, slots, Q, nL, A⟩ := X
  obtain ⟨hx, hb, hml, hown, hts, hlk, hK, hD, hA, hst, hrf, hrl, hrc, hrs⟩ := F
  subst hn
  intro H locs ls hP hS hl
  obtain ⟨kk, hk⟩ := List.getElem?_of_mem (lfind_mem hf)
  exact lv_iinc (v := x + v) hx hb dg hl hk (by rw [hv]) (by rw [show nL = nl from hL]; exact Nat.le_of_ble_eq_true hnb) rfl (fun ls2 hl2 => k H locs ls2 hP hS (lput_has hl2))
theorem rn_iadd (F : FxT X cc own dd) {x y : Int32} (dg : decode cc pc = .ok (.iadd, 1)) (hn : pc + 1 = np)  (k : rn X np lo (.int (x + y) :: st) h) : rn X pc lo (.int y :: .int x :: st) h := by
  obtain ⟨⟨l, N, S, ad, cA, D, tT⟩, p, e, R, s, m, args, below, meth, c, cells, slots, Q, nL, A⟩ := X
  obtain ⟨hx, hb, hml, hown, hts, hlk, hK, hD, hA, hst, hrf, hrl, hrc, hrs⟩ := F
  subst hn
  intro H locs ls hP hS hl
  exact lv_iadd hx hb dg (k H locs ls hP hS hl)
theorem rn_isub (F : FxT X cc own dd) {x y : Int32} (dg : decode cc pc = .ok (.isub, 1)) (hn : pc + 1 = np)  (k : rn X np lo (.int (x - y) :: st) h) : rn X pc lo (.int y :: .int x :: st) h := by
  obtain ⟨⟨l, N, S, ad, cA, D, tT⟩, p, e, R, s, m, args, below, meth, c, cells, slots, Q, nL, A⟩ := X
  obtain ⟨hx, hb, hml, hown, hts, hlk, hK, hD, hA, hst, hrf, hrl, hrc, hrs⟩ := F
  subst hn
  intro H locs ls hP hS hl
  exact lv_isub hx hb dg (k H locs ls hP hS hl)
theorem rn_imul (F : FxT X cc own dd) {x y : Int32} (dg : decode cc pc = .ok (.imul, 1)) (hn : pc + 1 = np)  (k : rn X np lo (.int (x * y) :: st) h) : rn X pc lo (.int y :: .int x :: st) h := by
  obtain ⟨⟨l, N, S, ad, cA, D, tT⟩, p, e, R, s, m, args, below, meth, c, cells, slots, Q, nL, A⟩ := X
  obtain ⟨hx, hb, hml, hown, hts, hlk, hK, hD, hA, hst, hrf, hrl, hrc, hrs⟩ := F
  subst hn
  intro H locs ls hP hS hl
  exact lv_imul hx hb dg (k H locs ls hP hS hl)
theorem rn_iand (F : FxT X cc own dd) {x y : Int32} (dg : decode cc pc = .ok (.iand, 1)) (hn : pc + 1 = np)  (k : rn X np lo (.int (x &&& y) :: st) h) : rn X pc lo (.int y :: .int x :: st) h := by
  obtain ⟨⟨l, N, S, ad, cA, D, tT⟩, p, e, R, s, m, args, below, meth, c, cells, slots, Q, nL, A⟩ := X
  obtain ⟨hx, hb, hml, hown, hts, hlk, hK, hD, hA, hst, hrf, hrl, hrc, hrs⟩ := F
  subst hn
  intro H locs ls hP hS hl
  exact lv_iand hx hb dg (k H locs ls hP hS hl)
theorem rn_ior (F : FxT X cc own dd) {x y : Int32} (dg : decode cc pc = .ok (.ior, 1)) (hn : pc + 1 = np)  (k : rn X np lo (.int (x ||| y) :: st) h) : rn X pc lo (.int y :: .int x :: st) h := by
  obtain ⟨⟨l, N, S, ad, cA, D, tT⟩, p, e, R, s, m, args, below, meth, c, cells, slots, Q, nL, A⟩ := X
  obtain ⟨hx, hb, hml, hown, hts, hlk, hK, hD, hA, hst, hrf, hrl, hrc, hrs⟩ := F
  subst hn
  intro H locs ls hP hS hl
  exact lv_ior hx hb dg (k H locs ls hP hS hl)
theorem rn_ishl (F : FxT X cc own dd) {x y : Int32} (dg : decode cc pc = .ok (.ishl, 1)) (hn : pc + 1 = np)  (k : rn X np lo (.int (x <<< (y &&& 31)) :: st) h) : rn X pc lo (.int y :: .int x :: st) h := by
  obtain ⟨⟨l, N, S, ad, cA, D, tT⟩, p, e, R, s, m, args, below, meth, c, cells, slots, Q, nL, A⟩ := X
  obtain ⟨hx, hb, hml, hown, hts, hlk, hK, hD, hA, hst, hrf, hrl, hrc, hrs⟩ := F
  subst hn
  intro H locs ls hP hS hl
  exact lv_ishl hx hb dg (k H locs ls hP hS hl)
theorem rn_ishr (F : FxT X cc own dd) {x y : Int32} (dg : decode cc pc = .ok (.ishr, 1)) (hn : pc + 1 = np)  (k : rn X np lo (.int (x >>> (y &&& 31)) :: st) h) : rn X pc lo (.int y :: .int x :: st) h := by
  obtain ⟨⟨l, N, S, ad, cA, D, tT⟩, p, e, R, s, m, args, below, meth, c, cells, slots, Q, nL, A⟩ := X
  obtain ⟨hx, hb, hml, hown, hts, hlk, hK, hD, hA, hst, hrf, hrl, hrc, hrs⟩ := F
  subst hn
  intro H locs ls hP hS hl
  exact lv_ishr hx hb dg (k H locs ls hP hS hl)
theorem rn_iushr (F : FxT X cc own dd) {x y : Int32} (dg : decode cc pc = .ok (.iushr, 1)) (hn : pc + 1 = np)  (k : rn X np lo (.int (x.toUInt32 >>> (y.toUInt32 &&& Int32.toUInt32 31)).toInt32 :: st) h) : rn X pc lo (.int y :: .int x :: st) h := by
  obtain ⟨⟨l, N, S, ad, cA, D, tT⟩, p, e, R, s, m, args, below, meth, c, cells, slots, Q, nL, A⟩ := X
  obtain ⟨hx, hb, hml, hown, hts, hlk, hK, hD, hA, hst, hrf, hrl, hrc, hrs⟩ := F
  subst hn
  intro H locs ls hP hS hl
  exact lv_iushr hx hb dg rfl (k H locs ls hP hS hl)
theorem rn_ineg (F : FxT X cc own dd) {x : Int32} (dg : decode cc pc = .ok (.ineg, 1)) (hn : pc + 1 = np)  (k : rn X np lo (.int (-x) :: st) h) : rn X pc lo (.int x :: st) h := by
  obtain ⟨⟨l, N, S, ad, cA, D, tT⟩, p, e, R, s, m, args, below, meth, c, cells, slots, Q, nL, A⟩ := X
  obtain ⟨hx, hb, hml, hown, hts, hlk, hK, hD, hA, hst, hrf, hrl, hrc, hrs⟩ := F
  subst hn
  intro H locs ls hP hS hl
  exact lv_ineg hx hb dg (k H locs ls hP hS hl)
theorem rn_ladd (F : FxT X cc own dd) {x y : Int64} (dg : decode cc pc = .ok (.ladd, 1)) (hn : pc + 1 = np)  (k : rn X np lo (.long (x + y) :: st) h) : rn X pc lo (.long y :: .long x :: st) h := by
  obtain ⟨⟨l, N, S, ad, cA, D, tT⟩, p, e, R, s, m, args, below, meth, c, cells, slots, Q, nL, A⟩ := X
  obtain ⟨hx, hb, hml, hown, hts, hlk, hK, hD, hA, hst, hrf, hrl, hrc, hrs⟩ := F
  subst hn
  intro H locs ls hP hS hl
  exact lv_ladd hx hb dg (k H locs ls hP hS hl)
theorem rn_lmul (F : FxT X cc own dd) {x y : Int64} (dg : decode cc pc = .ok (.lmul, 1)) (hn : pc + 1 = np)  (k : rn X np lo (.long (x * y) :: st) h) : rn X pc lo (.long y :: .long x :: st) h := by
  obtain ⟨⟨l, N, S, ad, cA, D, tT⟩, p, e, R, s, m, args, below, meth, c, cells, slots, Q, nL, A⟩ := X
  obtain ⟨hx, hb, hml, hown, hts, hlk, hK, hD, hA, hst, hrf, hrl, hrc, hrs⟩ := F
  subst hn
  intro H locs ls hP hS hl
  exact lv_lmul hx hb dg (k H locs ls hP hS hl)
theorem rn_ldiv (F : FxT X cc own dd) {x y : Int64} (dg : decode cc pc = .ok (.ldiv, 1)) (hn : pc + 1 = np) (hne : ¬ y = 0) (k : rn X np lo (.long (x / y) :: st) h) : rn X pc lo (.long y :: .long x :: st) h := by
  obtain ⟨⟨l, N, S, ad, cA, D, tT⟩, p, e, R, s, m, args, below, meth, c, cells, slots, Q, nL, A⟩ := X
  obtain ⟨hx, hb, hml, hown, hts, hlk, hK, hD, hA, hst, hrf, hrl, hrc, hrs⟩ := F
  subst hn
  intro H locs ls hP hS hl
  exact lv_ldiv hx hb dg hne (k H locs ls hP hS hl)
theorem rn_lrem (F : FxT X cc own dd) {x y : Int64} (dg : decode cc pc = .ok (.lrem, 1)) (hn : pc + 1 = np) (hne : ¬ y = 0) (k : rn X np lo (.long (x - x / y * y) :: st) h) : rn X pc lo (.long y :: .long x :: st) h := by
  obtain ⟨⟨l, N, S, ad, cA, D, tT⟩, p, e, R, s, m, args, below, meth, c, cells, slots, Q, nL, A⟩ := X
  obtain ⟨hx, hb, hml, hown, hts, hlk, hK, hD, hA, hst, hrf, hrl, hrc, hrs⟩ := F
  subst hn
  intro H locs ls hP hS hl
  exact lv_lrem hx hb dg hne (k H locs ls hP hS hl)
theorem rn_i2l (F : FxT X cc own dd) {x : Int32} (dg : decode cc pc = .ok (.i2l, 1)) (hn : pc + 1 = np)  (k : rn X np lo (.long x.toInt64 :: st) h) : rn X pc lo (.int x :: st) h := by
  obtain ⟨⟨l, N, S, ad, cA, D, tT⟩, p, e, R, s, m, args, below, meth, c, cells, slots, Q, nL, A⟩ := X
  obtain ⟨hx, hb, hml, hown, hts, hlk, hK, hD, hA, hst, hrf, hrl, hrc, hrs⟩ := F
  subst hn
  intro H locs ls hP hS hl
  exact lv_i2l hx hb dg rfl (k H locs ls hP hS hl)
theorem rn_l2i (F : FxT X cc own dd) {x : Int64} (dg : decode cc pc = .ok (.l2i, 1)) (hn : pc + 1 = np)  (k : rn X np lo (.int x.toInt32 :: st) h) : rn X pc lo (.long x :: st) h := by
  obtain ⟨⟨l, N, S, ad, cA, D, tT⟩, p, e, R, s, m, args, below, meth, c, cells, slots, Q, nL, A⟩ := X
  obtain ⟨hx, hb, hml, hown, hts, hlk, hK, hD, hA, hst, hrf, hrl, hrc, hrs⟩ := F
  subst hn
  intro H locs ls hP hS hl
  exact lv_l2i hx hb dg rfl (k H locs ls hP hS hl)
theorem rn_lcmp (F : FxT X cc own dd) {x y : Int64} (dg : decode cc pc = .ok (.lcmp, 1)) (hn : pc + 1 = np)  (k : rn X np lo (.int (lg_cmp x y) :: st) h) : rn X pc lo (.long y :: .long x :: st) h := by
  obtain ⟨⟨l, N, S, ad, cA, D, tT⟩, p, e, R, s, m, args, below, meth, c, cells, slots, Q, nL, A⟩ := X
  obtain ⟨hx, hb, hml, hown, hts, hlk, hK, hD, hA, hst, hrf, hrl, hrc, hrs⟩ := F
  subst hn
  intro H locs ls hP hS hl
  exact W.lcmp hx hb dg (k H locs ls hP hS hl)
theorem rn_dup (F : FxT X cc own dd) {va : Value} (dg : decode cc pc = .ok (.dup, 1)) (hn : pc + 1 = np) (hva : va.category = 1) (k : rn X np lo (va :: va :: st) h) : rn X pc lo (va :: st) h := by
  obtain ⟨⟨l, N, S, ad, cA, D, tT⟩, p, e, R, s, m, args, below, meth, c, cells, slots, Q, nL, A⟩ := X
  obtain ⟨hx, hb, hml, hown, hts, hlk, hK, hD, hA, hst, hrf, hrl, hrc, hrs⟩ := F
  subst hn
  intro H locs ls hP hS hl
  exact lv_dup hx hb dg hva (k H locs ls hP hS hl)
theorem rn_pop (F : FxT X cc own dd) {va : Value} (dg : decode cc pc = .ok (.pop, 1)) (hn : pc + 1 = np) (hva : va.category = 1) (k : rn X np lo (st) h) : rn X pc lo (va :: st) h := by
  obtain ⟨⟨l, N, S, ad, cA, D, tT⟩, p, e, R, s, m, args, below, meth, c, cells, slots, Q, nL, A⟩ := X
  obtain ⟨hx, hb, hml, hown, hts, hlk, hK, hD, hA, hst, hrf, hrl, hrc, hrs⟩ := F
  subst hn
  intro H locs ls hP hS hl
  exact lv_pop hx hb dg hva (k H locs ls hP hS hl)
theorem rn_dup2 (F : FxT X cc own dd) {va vb : Value} (dg : decode cc pc = .ok (.dup2, 1)) (hn : pc + 1 = np) (hva : va.category = 1) (hvb : vb.category = 1) (k : rn X np lo (va :: vb :: va :: vb :: st) h) : rn X pc lo (va :: vb :: st) h := by
  obtain ⟨⟨l, N, S, ad, cA, D, tT⟩, p, e, R, s, m, args, below, meth, c, cells, slots, Q, nL, A⟩ := X
  obtain ⟨hx, hb, hml, hown, hts, hlk, hK, hD, hA, hst, hrf, hrl, hrc, hrs⟩ := F
  subst hn
  intro H locs ls hP hS hl
  exact lv_dup2_11 hx hb dg hva hvb (k H locs ls hP hS hl)
theorem rn_ldc (F : FxT X cc own dd) {i : Nat} {v : Int32} (dg : decode cc pc = .ok (.ldc i, 2)) (hn : pc + 2 = np) (hw : Cond.constant own i v ∈ WG) (k : rn X np lo (.int v :: st) h) : rn X pc lo (st) h := by
  obtain ⟨⟨l, N, S, ad, cA, D, tT⟩, p, e, R, s, m, args, below, meth, c, cells, slots, Q, nL, A⟩ := X
  obtain ⟨hx, hb, hml, hown, hts, hlk, hK, hD, hA, hst, hrf, hrl, hrc, hrs⟩ := F
  subst hn
  intro H locs ls hP hS hl
  exact lv_ldc hx hb hown (hts _ hw) dg (k H locs ls hP hS hl)
theorem rn_ldc2 (F : FxT X cc own dd) {i : Nat} {v : Int64} (dg : decode cc pc = .ok (.ldc2_w i, 3)) (hn : pc + 3 = np) (hw : Cond.constantLong own i v ∈ WG) (k : rn X np lo (.long v :: st) h) : rn X pc lo (st) h := by
  obtain ⟨⟨l, N, S, ad, cA, D, tT⟩, p, e, R, s, m, args, below, meth, c, cells, slots, Q, nL, A⟩ := X
  obtain ⟨hx, hb, hml, hown, hts, hlk, hK, hD, hA, hst, hrf, hrl, hrc, hrs⟩ := F
  subst hn
  intro H locs ls hP hS hl
  exact lv_ldc2 hx hb hown (hts _ hw) dg (k H locs ls hP hS hl)
theorem rn_goto (F : FxT X cc own dd) {off : Int} (dg : decode cc pc = .ok (.goto off, 3)) (ht : (pc : Int) + off = (np : Int)) (k : rn X np lo st h) : rn X pc lo st h := by
  obtain ⟨⟨l, N, S, ad, cA, D, tT⟩, p, e, R, s, m, args, below, meth, c, cells, slots, Q, nL, A⟩ := X
  obtain ⟨hx, hb, hml, hown, hts, hlk, hK, hD, hA, hst, hrf, hrl, hrc, hrs⟩ := F
  intro H locs ls hP hS hl
  exact lv_goto hx hb dg ht (k H locs ls hP hS hl)
theorem rn_icmp_eq (F : FxT X cc own dd) {off : Int} {tg : Nat} {x y : Int32} (dg : decode cc pc = .ok (.if_icmp .eq off, 3)) (ht : (pc : Int) + off = (tg : Int)) (hn : pc + 3 = np) (kt : x = y → rn X tg lo st h) (kf : ¬ x = y → rn X np lo st h) : rn X pc lo (.int y :: .int x :: st) h := by
  obtain ⟨⟨l, N, S, ad, cA, D, tT⟩, p, e, R, s, m, args, below, meth, c, cells, slots, Q, nL, A⟩ := X
  obtain ⟨hx, hb, hml, hown, hts, hlk, hK, hD, hA, hst, hrf, hrl, hrc, hrs⟩ := F
  subst hn
  intro H locs ls hP hS hl
  exact lv_icmp_eq hx hb dg ht (fun q => kt q H locs ls hP hS hl) (fun q => kf q H locs ls hP hS hl)
theorem rn_icmp_ne (F : FxT X cc own dd) {off : Int} {tg : Nat} {x y : Int32} (dg : decode cc pc = .ok (.if_icmp .ne off, 3)) (ht : (pc : Int) + off = (tg : Int)) (hn : pc + 3 = np) (kt : ¬ x = y → rn X tg lo st h) (kf : x = y → rn X np lo st h) : rn X pc lo (.int y :: .int x :: st) h := by
  obtain ⟨⟨l, N, S, ad, cA, D, tT⟩, p, e, R, s, m, args, below, meth, c, cells, slots, Q, nL, A⟩ := X
  obtain ⟨hx, hb, hml, hown, hts, hlk, hK, hD, hA, hst, hrf, hrl, hrc, hrs⟩ := F
  subst hn
  intro H locs ls hP hS hl
  exact lv_icmp_ne hx hb dg ht (fun q => kt q H locs ls hP hS hl) (fun q => kf q H locs ls hP hS hl)
theorem rn_icmp_lt (F : FxT X cc own dd) {off : Int} {tg : Nat} {x y : Int32} (dg : decode cc pc = .ok (.if_icmp .lt off, 3)) (ht : (pc : Int) + off = (tg : Int)) (hn : pc + 3 = np) (kt : x < y → rn X tg lo st h) (kf : ¬ x < y → rn X np lo st h) : rn X pc lo (.int y :: .int x :: st) h := by
  obtain ⟨⟨l, N, S, ad, cA, D, tT⟩, p, e, R, s, m, args, below, meth, c, cells, slots, Q, nL, A⟩ := X
  obtain ⟨hx, hb, hml, hown, hts, hlk, hK, hD, hA, hst, hrf, hrl, hrc, hrs⟩ := F
  subst hn
  intro H locs ls hP hS hl
  exact lv_icmp_lt hx hb dg ht (fun q => kt q H locs ls hP hS hl) (fun q => kf q H locs ls hP hS hl)
theorem rn_icmp_ge (F : FxT X cc own dd) {off : Int} {tg : Nat} {x y : Int32} (dg : decode cc pc = .ok (.if_icmp .ge off, 3)) (ht : (pc : Int) + off = (tg : Int)) (hn : pc + 3 = np) (kt : y ≤ x → rn X tg lo st h) (kf : ¬ y ≤ x → rn X np lo st h) : rn X pc lo (.int y :: .int x :: st) h := by
  obtain ⟨⟨l, N, S, ad, cA, D, tT⟩, p, e, R, s, m, args, below, meth, c, cells, slots, Q, nL, A⟩ := X
  obtain ⟨hx, hb, hml, hown, hts, hlk, hK, hD, hA, hst, hrf, hrl, hrc, hrs⟩ := F
  subst hn
  intro H locs ls hP hS hl
  exact lv_icmp_ge hx hb dg ht (fun q => kt q H locs ls hP hS hl) (fun q => kf q H locs ls hP hS hl)
theorem rn_icmp_gt (F : FxT X cc own dd) {off : Int} {tg : Nat} {x y : Int32} (dg : decode cc pc = .ok (.if_icmp .gt off, 3)) (ht : (pc : Int) + off = (tg : Int)) (hn : pc + 3 = np) (kt : y < x → rn X tg lo st h) (kf : ¬ y < x → rn X np lo st h) : rn X pc lo (.int y :: .int x :: st) h := by
  obtain ⟨⟨l, N, S, ad, cA, D, tT⟩, p, e, R, s, m, args, below, meth, c, cells, slots, Q, nL, A⟩ := X
  obtain ⟨hx, hb, hml, hown, hts, hlk, hK, hD, hA, hst, hrf, hrl, hrc, hrs⟩ := F
  subst hn
  intro H locs ls hP hS hl
  exact lv_icmp_gt hx hb dg ht (fun q => kt q H locs ls hP hS hl) (fun q => kf q H locs ls hP hS hl)
theorem rn_icmp_le (F : FxT X cc own dd) {off : Int} {tg : Nat} {x y : Int32} (dg : decode cc pc = .ok (.if_icmp .le off, 3)) (ht : (pc : Int) + off = (tg : Int)) (hn : pc + 3 = np) (kt : x ≤ y → rn X tg lo st h) (kf : ¬ x ≤ y → rn X np lo st h) : rn X pc lo (.int y :: .int x :: st) h := by
  obtain ⟨⟨l, N, S, ad, cA, D, tT⟩, p, e, R, s, m, args, below, meth, c, cells, slots, Q, nL, A⟩ := X
  obtain ⟨hx, hb, hml, hown, hts, hlk, hK, hD, hA, hst, hrf, hrl, hrc, hrs⟩ := F
  subst hn
  intro H locs ls hP hS hl
  exact lv_icmp_le hx hb dg ht (fun q => kt q H locs ls hP hS hl) (fun q => kf q H locs ls hP hS hl)
theorem rn_if_eq (F : FxT X cc own dd) {off : Int} {tg : Nat} {x : Int32} (dg : decode cc pc = .ok (.ifCond .eq off, 3)) (ht : (pc : Int) + off = (tg : Int)) (hn : pc + 3 = np) (kt : x = 0 → rn X tg lo st h) (kf : ¬ x = 0 → rn X np lo st h) : rn X pc lo (.int x :: st) h := by
  obtain ⟨⟨l, N, S, ad, cA, D, tT⟩, p, e, R, s, m, args, below, meth, c, cells, slots, Q, nL, A⟩ := X
  obtain ⟨hx, hb, hml, hown, hts, hlk, hK, hD, hA, hst, hrf, hrl, hrc, hrs⟩ := F
  subst hn
  intro H locs ls hP hS hl
  exact lv_if_eq hx hb dg ht (fun q => kt q H locs ls hP hS hl) (fun q => kf q H locs ls hP hS hl)
theorem rn_if_ne (F : FxT X cc own dd) {off : Int} {tg : Nat} {x : Int32} (dg : decode cc pc = .ok (.ifCond .ne off, 3)) (ht : (pc : Int) + off = (tg : Int)) (hn : pc + 3 = np) (kt : ¬ x = 0 → rn X tg lo st h) (kf : x = 0 → rn X np lo st h) : rn X pc lo (.int x :: st) h := by
  obtain ⟨⟨l, N, S, ad, cA, D, tT⟩, p, e, R, s, m, args, below, meth, c, cells, slots, Q, nL, A⟩ := X
  obtain ⟨hx, hb, hml, hown, hts, hlk, hK, hD, hA, hst, hrf, hrl, hrc, hrs⟩ := F
  subst hn
  intro H locs ls hP hS hl
  exact lv_if_ne hx hb dg ht (fun q => kt q H locs ls hP hS hl) (fun q => kf q H locs ls hP hS hl)
theorem rn_if_lt (F : FxT X cc own dd) {off : Int} {tg : Nat} {x : Int32} (dg : decode cc pc = .ok (.ifCond .lt off, 3)) (ht : (pc : Int) + off = (tg : Int)) (hn : pc + 3 = np) (kt : x < 0 → rn X tg lo st h) (kf : ¬ x < 0 → rn X np lo st h) : rn X pc lo (.int x :: st) h := by
  obtain ⟨⟨l, N, S, ad, cA, D, tT⟩, p, e, R, s, m, args, below, meth, c, cells, slots, Q, nL, A⟩ := X
  obtain ⟨hx, hb, hml, hown, hts, hlk, hK, hD, hA, hst, hrf, hrl, hrc, hrs⟩ := F
  subst hn
  intro H locs ls hP hS hl
  exact lv_if_lt hx hb dg ht (fun q => kt q H locs ls hP hS hl) (fun q => kf q H locs ls hP hS hl)
theorem rn_if_ge (F : FxT X cc own dd) {off : Int} {tg : Nat} {x : Int32} (dg : decode cc pc = .ok (.ifCond .ge off, 3)) (ht : (pc : Int) + off = (tg : Int)) (hn : pc + 3 = np) (kt : 0 ≤ x → rn X tg lo st h) (kf : ¬ 0 ≤ x → rn X np lo st h) : rn X pc lo (.int x :: st) h := by
  obtain ⟨⟨l, N, S, ad, cA, D, tT⟩, p, e, R, s, m, args, below, meth, c, cells, slots, Q, nL, A⟩ := X
  obtain ⟨hx, hb, hml, hown, hts, hlk, hK, hD, hA, hst, hrf, hrl, hrc, hrs⟩ := F
  subst hn
  intro H locs ls hP hS hl
  exact lv_if_ge hx hb dg ht (fun q => kt q H locs ls hP hS hl) (fun q => kf q H locs ls hP hS hl)
theorem rn_if_gt (F : FxT X cc own dd) {off : Int} {tg : Nat} {x : Int32} (dg : decode cc pc = .ok (.ifCond .gt off, 3)) (ht : (pc : Int) + off = (tg : Int)) (hn : pc + 3 = np) (kt : 0 < x → rn X tg lo st h) (kf : ¬ 0 < x → rn X np lo st h) : rn X pc lo (.int x :: st) h := by
  obtain ⟨⟨l, N, S, ad, cA, D, tT⟩, p, e, R, s, m, args, below, meth, c, cells, slots, Q, nL, A⟩ := X
  obtain ⟨hx, hb, hml, hown, hts, hlk, hK, hD, hA, hst, hrf, hrl, hrc, hrs⟩ := F
  subst hn
  intro H locs ls hP hS hl
  exact lv_if_gt hx hb dg ht (fun q => kt q H locs ls hP hS hl) (fun q => kf q H locs ls hP hS hl)
theorem rn_if_le (F : FxT X cc own dd) {off : Int} {tg : Nat} {x : Int32} (dg : decode cc pc = .ok (.ifCond .le off, 3)) (ht : (pc : Int) + off = (tg : Int)) (hn : pc + 3 = np) (kt : x ≤ 0 → rn X tg lo st h) (kf : ¬ x ≤ 0 → rn X np lo st h) : rn X pc lo (.int x :: st) h := by
  obtain ⟨⟨l, N, S, ad, cA, D, tT⟩, p, e, R, s, m, args, below, meth, c, cells, slots, Q, nL, A⟩ := X
  obtain ⟨hx, hb, hml, hown, hts, hlk, hK, hD, hA, hst, hrf, hrl, hrc, hrs⟩ := F
  subst hn
  intro H locs ls hP hS hl
  exact lv_if_le hx hb dg ht (fun q => kt q H locs ls hP hS hl) (fun q => kf q H locs ls hP hS hl)
theorem rn_tableIn (F : FxT X cc own dd) {dflt lw hi : Int} {offs : Array Int} {len : Nat} {x : Int32} {off : Int} (dg : decode cc pc = .ok (.tableswitch dflt lw hi offs, len)) (h1 : ¬ x.toInt < lw) (h2 : ¬ hi < x.toInt) (ho : offs[(x.toInt - lw).toNat]? = some off) (ht : (pc : Int) + off = (np : Int)) (k : rn X np lo st h) : rn X pc lo (.int x :: st) h := by
  obtain ⟨⟨l, N, S, ad, cA, D, tT⟩, p, e, R, s, m, args, below, meth, c, cells, slots, Q, nL, A⟩ := X
  obtain ⟨hx, hb, hml, hown, hts, hlk, hK, hD, hA, hst, hrf, hrl, hrc, hrs⟩ := F
  intro H locs ls hP hS hl
  exact lv_tableIn hx hb dg h1 h2 ho ht (k H locs ls hP hS hl)
theorem rn_tableOut (F : FxT X cc own dd) {dflt lw hi : Int} {offs : Array Int} {len : Nat} {x : Int32} (dg : decode cc pc = .ok (.tableswitch dflt lw hi offs, len)) (hh : x.toInt < lw ∨ hi < x.toInt) (ht : (pc : Int) + dflt = (np : Int)) (k : rn X np lo st h) : rn X pc lo (.int x :: st) h := by
  obtain ⟨⟨l, N, S, ad, cA, D, tT⟩, p, e, R, s, m, args, below, meth, c, cells, slots, Q, nL, A⟩ := X
  obtain ⟨hx, hb, hml, hown, hts, hlk, hK, hD, hA, hst, hrf, hrl, hrc, hrs⟩ := F
  intro H locs ls hP hS hl
  exact lv_tableOut hx hb dg hh ht (k H locs ls hP hS hl)
theorem rn_lookup (F : FxT X cc own dd) {dflt : Int} {ps : Array (Int × Int)} {len : Nat} {x : Int32} {off : Int} (dg : decode cc pc = .ok (.lookupswitch dflt ps, len)) (hp : (ps.toList.zip (ps.toList.drop 1)).all (fun (a, next) => a.1 < next.1) = true) (ho : Op.lookupswitch.offset ps.toList dflt x.toInt = off) (ht : (pc : Int) + off = (np : Int)) (k : rn X np lo st h) : rn X pc lo (.int x :: st) h := by
  obtain ⟨⟨l, N, S, ad, cA, D, tT⟩, p, e, R, s, m, args, below, meth, c, cells, slots, Q, nL, A⟩ := X
  obtain ⟨hx, hb, hml, hown, hts, hlk, hK, hD, hA, hst, hrf, hrl, hrc, hrs⟩ := F
  intro H locs ls hP hS hl
  exact lv_lookup hx hb dg hp ho ht (k H locs ls hP hS hl)
/-- a field of a class, reached through entry idx of own: class' number, field's number -/
def FdT (own : String) (idx ci j : Nat) : Prop := ∃ (C : String) (Tt : u_T) (Nf : Nat), classes[ci]? = some (C, Tt, Nf) ∧ (∀ w ∈ u_ws C Tt Nf, w ∈ WG) ∧ j < Nf ∧ Cond.fieldLink own idx (Tt j).1 (Tt j).2.1 (Tt j).2.2.1 ∈ WG
def FpT (own : String) (idx ci j : Nat) (ty : FieldType) : Prop := ∃ (C : String) (Tt : u_T) (Nf : Nat) (ty0 : Nat → FieldType), classes[ci]? = some (C, Tt, Nf) ∧ (∀ w ∈ u_ws C Tt Nf, w ∈ WG) ∧ j < Nf ∧ Cond.fieldLink own idx (Tt j).1 (Tt j).2.1 (Tt j).2.2.1 ∈ WG ∧ (∀ k, k < Nf → parseFieldDescriptor (Tt k).2.2.1 = some (ty0 k)) ∧ (∀ a, a < Nf → ∀ b, b < Nf → a ≠ b → (Tt a).2.1 ≠ (Tt b).2.1) ∧ (Tt j).2.2.2 = false ∧ parseFieldDescriptor (Tt j).2.2.1 = some ty
theorem rn_getf (F : FxT X cc own dd) {idx ci j q0 : Nat} {fs : List (Option Nat)} (dg : decode cc pc = .ok (.getfield idx, 3)) (hn : pc + 3 = np) (hf : FdT own idx ci j) (hs : shp X.1 q0 (.inr (ci, fs))) (hj : fs[j]? = some none) (k : rn X np lo (.int (h q0 j) :: st) h) : rn X pc lo (.ref (gad X.1 q0) :: st) h := by
  obtain ⟨⟨l, N, S, ad, cA, D, tT⟩, p, e, R, s, m, args, below, meth, c, cells, slots, Q, nL, A⟩ := X
  obtain ⟨hx, hb, hml, hown, hts, hlk, hK, hD, hA, hst, hrf, hrl, hrc, hrs⟩ := F
  subst hn
  intro H locs ls hP hS hl
  obtain ⟨C, Tt, Nf, h1, h2, h3, h4⟩ := hf
  obtain ⟨hq0, hsq⟩ := hs
  have hat := wl_at (S := S) (ad := ad) (cA := cA) (h := h) hq0
  rw [show S q0 = _ from hsq] at hat
  refine va_get (D := D) (ci := ci) (v := .int (h q0 j)) (C := C) (T := Tt) (N := Nf) hx hb hts h2 hown hK hP q0 hat h1 j h3 (hts _ h4) (fun _ h9 => h9) ?_ dg (k H locs ls hP hS hl)
  rw [List.getElem?_mapIdx, hj]
  rfl
theorem rn_getr (F : FxT X cc own dd) {idx ci j q0 q1 : Nat} {fs : List (Option Nat)} (dg : decode cc pc = .ok (.getfield idx, 3)) (hn : pc + 3 = np) (hf : FdT own idx ci j) (hs : shp X.1 q0 (.inr (ci, fs))) (hj : fs[j]? = some (some q1)) (k : rn X np lo (.ref (gad X.1 q1) :: st) h) : rn X pc lo (.ref (gad X.1 q0) :: st) h := by
  obtain ⟨⟨l, N, S, ad, cA, D, tT⟩, p, e, R, s, m, args, below, meth, c, cells, slots, Q, nL, A⟩ := X
  obtain ⟨hx, hb, hml, hown, hts, hlk, hK, hD, hA, hst, hrf, hrl, hrc, hrs⟩ := F
  subst hn
  intro H locs ls hP hS hl
  obtain ⟨C, Tt, Nf, h1, h2, h3, h4⟩ := hf
  obtain ⟨hq0, hsq⟩ := hs
  have hat := wl_at (S := S) (ad := ad) (cA := cA) (h := h) hq0
  rw [show S q0 = _ from hsq] at hat
  refine va_get (D := D) (ci := ci) (v := .ref (ad q1)) (C := C) (T := Tt) (N := Nf) hx hb hts h2 hown hK hP q0 hat h1 j h3 (hts _ h4) (fun _ h9 => h9) ?_ dg (k H locs ls hP hS hl)
  rw [List.getElem?_mapIdx, hj]
  rfl
theorem ce_put {ad : Nat → Nat} {cA : ClassId} {ci j : Nat} {fs : List (Option Nat)} {f : Nat → Int32} {v : Int32} (hj : fs[j]? = some none) : ((ci, (fs.mapIdx (fun j r => match r with | some q => Value.ref (ad q) | none => Value.int (f j))).set j (.int v)) : Nat × List Value) = (ci, fs.mapIdx (fun i r => match r with | some q => Value.ref (ad q) | none => Value.int (upd f j v i))) := by
  congr 1
  apply List.ext_getElem?
  intro i
  by_cases e : j = i
  · subst e
    have hlt : j < fs.length := (List.getElem?_eq_some_iff.mp hj).1
    rw [List.getElem?_set_self (by simp [hlt]), List.getElem?_mapIdx, hj]
    simp [upd]
  · rw [List.getElem?_set_ne e, List.getElem?_mapIdx, List.getElem?_mapIdx]
    cases fs[i]? with
    | none => rfl
    | some r =>
      cases r with
      | some q => rfl
      | none => simp [upd, Ne.symm e]
theorem rn_putf (F : FxT X cc own dd) {idx ci j q0 : Nat} {fs : List (Option Nat)} {ty : FieldType} {v : Int32} (dg : decode cc pc = .ok (.putfield idx, 3)) (hn : pc + 3 = np) (hf : FpT own idx ci j ty) (hsh : shp X.1 q0 (.inr (ci, fs))) (hj : fs[j]? = some none) (hnar : narrow ty (.int v) = .int v) (hfit : fits ty (.int v) = true) (k : rn X np lo st (hs h q0 j v)) : rn X pc lo (.int v :: .ref (gad X.1 q0) :: st) h := by
  obtain ⟨⟨l, N, S, ad, cA, D, tT⟩, p, e, R, s, m, args, below, meth, c, cells, slots, Q, nL, A⟩ := X
  obtain ⟨hx, hb, hml, hown, hts, hlk, hK, hD, hA, hst, hrf, hrl, hrc, hrs⟩ := F
  subst hn
  intro H locs ls hP hS hl
  obtain ⟨C, Tt, Nf, ty0, h1, h2, h3, h4, h5, h6, h7, h8⟩ := hf
  obtain ⟨hq0, hsq⟩ := hsh
  have hat := wl_at (S := S) (ad := ad) (cA := cA) (h := h) hq0
  rw [show S q0 = _ from hsq] at hat
  refine va_put (D := D) (ci := ci) (v := .int v) (ty := ty) (C := C) (T := Tt) (N := Nf) hx hb hts h2 ty0 h5 h6 hown hK hP (hD h) hS q0 hat h1 j h3 (hts _ h4) (fun _ h9 => h9) h7 h8 hnar hfit (by simpa using (List.getElem?_eq_some_iff.mp hj).1) dg (fun H1 locs1 hP1 _ hS1 => ?_)
  refine k H1 locs1 ls ?_ hS1 hl
  have e2 := ce_put (ad := ad) (cA := cA) (ci := ci) (f := h q0) (v := v) hj
  have e4 : (wl N S ad cA h).set q0 (ad q0, .inr (ci, (fs.mapIdx (fun j r => match r with | some q => Value.ref (ad q) | none => Value.int (h q0 j))).set j (.int v))) = wl N S ad cA (hs h q0 j v) := by
    rw [e2]
    have e1 := wl_set (S := S) (ad := ad) (cA := cA) (h := h) hq0 (upd (h q0) j v)
    rw [show S q0 = _ from hsq] at e1
    exact e1
  rw [← e4]
  exact hP1
theorem rn_iald (F : FxT X cc own dd) {q0 n : Nat} {i : Int32} (dg : decode cc pc = .ok (.iaload, 1)) (hn : pc + 1 = np) (hs : shp X.1 q0 (.inl n)) (hin : vp_in i n) (k : rn X np lo (.int (h q0 i.toNatClampNeg) :: st) h) : rn X pc lo (.int i :: .ref (gad X.1 q0) :: st) h := by
  obtain ⟨⟨l, N, S, ad, cA, D, tT⟩, p, e, R, s, m, args, below, meth, c, cells, slots, Q, nL, A⟩ := X
  obtain ⟨hx, hb, hml, hown, hts, hlk, hK, hD, hA, hst, hrf, hrl, hrc, hrs⟩ := F
  subst hn
  intro H locs ls hP hS hl
  obtain ⟨hq0, hsq⟩ := hs
  have hat := wl_at (S := S) (ad := ad) (cA := cA) (h := h) hq0
  rw [show S q0 = _ from hsq] at hat
  exact va_iald hx hb hK hP q0 0 hat rfl hin dg (k H locs ls hP hS hl)
theorem rn_iast (F : FxT X cc own dd) {q0 n : Nat} {i v : Int32} (dg : decode cc pc = .ok (.iastore, 1)) (hn : pc + 1 = np) (hsh : shp X.1 q0 (.inl n)) (hin : vp_in i n) (k : rn X np lo st (hs h q0 i.toNatClampNeg v)) : rn X pc lo (.int v :: .int i :: .ref (gad X.1 q0) :: st) h := by
  obtain ⟨⟨l, N, S, ad, cA, D, tT⟩, p, e, R, s, m, args, below, meth, c, cells, slots, Q, nL, A⟩ := X
  obtain ⟨hx, hb, hml, hown, hts, hlk, hK, hD, hA, hst, hrf, hrl, hrc, hrs⟩ := F
  subst hn
  intro H locs ls hP hS hl
  obtain ⟨hq0, hsq⟩ := hsh
  have hat := wl_at (S := S) (ad := ad) (cA := cA) (h := h) hq0
  rw [show S q0 = _ from hsq] at hat
  refine va_iast hx hb hK hP (hD h) hS q0 0 hat rfl hin dg (fun H1 locs1 hP1 _ hS1 => k H1 locs1 ls ?_ hS1 hl)
  have e1 := wl_set (S := S) (ad := ad) (cA := cA) (h := h) hq0 (upd (h q0) i.toNatClampNeg v)
  rw [show S q0 = _ from hsq] at e1
  unfold ce at e1
  exact e1 ▸ hP1
theorem rn_alen (F : FxT X cc own dd) {q0 n : Nat} {v : Int32} (dg : decode cc pc = .ok (.arraylength, 1)) (hn : pc + 1 = np) (hs : shp X.1 q0 (.inl n)) (hv : Int32.ofNat n = v) (k : rn X np lo (.int v :: st) h) : rn X pc lo (.ref (gad X.1 q0) :: st) h := by
  obtain ⟨⟨l, N, S, ad, cA, D, tT⟩, p, e, R, s, m, args, below, meth, c, cells, slots, Q, nL, A⟩ := X
  obtain ⟨hx, hb, hml, hown, hts, hlk, hK, hD, hA, hst, hrf, hrl, hrc, hrs⟩ := F
  subst hn
  intro H locs ls hP hS hl
  obtain ⟨hq0, hsq⟩ := hs
  have hat := wl_at (S := S) (ad := ad) (cA := cA) (h := h) hq0
  rw [show S q0 = _ from hsq] at hat
  exact va_alen hx hb hK hP q0 0 hat rfl hv dg (k H locs ls hP hS hl)
/-- the table TIMES, read at a place -/
theorem rn_times (F : FxT X cc RX2 dd) (dg : decode cc pc = .ok (.getstatic 87, 3)) (hn : pc + 3 = np) (k : rn X np lo (.ref X.1.2.2.2.2.2.2 :: st) h) : rn X pc lo st h := by
  obtain ⟨⟨l, N, S, ad, cA, D, tT⟩, p, e, R, s, m, args, below, meth, c, cells, slots, Q, nL, A⟩ := X
  obtain ⟨hx, hb, hml, hown, hts, hlk, hK, hD, hA, hst, hrf, hrl, hrc, hrs⟩ := F
  subst hn
  intro H locs ls hP hS hl
  exact va_getsN (C := "PhaseLoads") (n := "TIMES") (d := "[I") (ref := "PhaseLoads") hx hb hst.1 hS hown (nw_use rfl hst.2.2.1) (fun _ h9 => h9) dg (k H locs ls hP hS hl)
theorem rn_tald (F : FxT X cc own dd) {i : Int32} (dg : decode cc pc = .ok (.iaload, 1)) (hn : pc + 1 = np) (hin : vp_in i 36) (k : rn X np lo (.int (tmI.getD i.toNatClampNeg 0) :: st) h) : rn X pc lo (.int i :: .ref X.1.2.2.2.2.2.2 :: st) h := by
  obtain ⟨⟨l, N, S, ad, cA, D, tT⟩, p, e, R, s, m, args, below, meth, c, cells, slots, Q, nL, A⟩ := X
  obtain ⟨hx, hb, hml, hown, hts, hlk, hK, hD, hA, hst, hrf, hrl, hrc, hrs⟩ := F
  subst hn
  intro H locs ls hP hS hl
  exact va_ti hx hb hst.2.1 hS hin rfl dg (k H locs ls hP hS hl)
theorem rn_iret (F : FxT X cc own dd) {post : Option Value → HpT → Prop} (Rr : RxT X (some .int) post) {v : Int32} (dg : decode cc pc = .ok (.ireturn, 1)) (hp : post (some (.int v)) h) : rn X pc lo [.int v] h := by
  obtain ⟨⟨l, N, S, ad, cA, D, tT⟩, p, e, R, s, m, args, below, meth, c, cells, slots, Q, nL, A⟩ := X
  obtain ⟨hx, hb, hml, hown, hts, hlk, hK, hD, hA, hst, hrf, hrl, hrc, hrs⟩ := F
  obtain ⟨hr, rfl, rfl, rfl⟩ := Rr
  intro H locs ls hP hS hl
  exact W.iret (v := v) hx hb hr (fun t ht _ => ⟨⟨_, h, rfl, hp, by rw [ht]; exact hP⟩, hS.F ht⟩) hS.2.2 dg hlk
theorem rn_zret (F : FxT X cc own dd) {post : Option Value → HpT → Prop} (Rr : RxT X (some .boolean) post) {v : Int32} (dg : decode cc pc = .ok (.ireturn, 1)) (hnar : narrow .boolean (.int v) = .int v) (hp : post (some (.int v)) h) : rn X pc lo [.int v] h := by
  obtain ⟨⟨l, N, S, ad, cA, D, tT⟩, p, e, R, s, m, args, below, meth, c, cells, slots, Q, nL, A⟩ := X
  obtain ⟨hx, hb, hml, hown, hts, hlk, hK, hD, hA, hst, hrf, hrl, hrc, hrs⟩ := F
  obtain ⟨hr, rfl, rfl, rfl⟩ := Rr
  intro H locs ls hP hS hl
  exact W.zret (v := v) hx hb hr hnar (fun t ht _ => ⟨⟨_, h, rfl, hp, by rw [ht]; exact hP⟩, hS.F ht⟩) hS.2.2 dg hlk
theorem rn_lret (F : FxT X cc own dd) {post : Option Value → HpT → Prop} (Rr : RxT X (some .long) post) {v : Int64} (dg : decode cc pc = .ok (.lreturn, 1)) (hp : post (some (.long v)) h) : rn X pc lo [.long v] h := by
  obtain ⟨⟨l, N, S, ad, cA, D, tT⟩, p, e, R, s, m, args, below, meth, c, cells, slots, Q, nL, A⟩ := X
  obtain ⟨hx, hb, hml, hown, hts, hlk, hK, hD, hA, hst, hrf, hrl, hrc, hrs⟩ := F
  obtain ⟨hr, rfl, rfl, rfl⟩ := Rr
  intro H locs ls hP hS hl
  exact W.lret (v := v) hx hb hr (fun t ht _ => ⟨⟨_, h, rfl, hp, by rw [ht]; exact hP⟩, hS.F ht⟩) hS.2.2 dg hlk
theorem rn_vret (F : FxT X cc own dd) {post : Option Value → HpT → Prop} (Rr : RxT X none post) (dg : decode cc pc = .ok (.return_, 1)) (hp : post none h) : rn X pc lo [] h := by
  obtain ⟨⟨l, N, S, ad, cA, D, tT⟩, p, e, R, s, m, args, below, meth, c, cells, slots, Q, nL, A⟩ := X
  obtain ⟨hx, hb, hml, hown, hts, hlk, hK, hD, hA, hst, hrf, hrl, hrc, hrs⟩ := F
  obtain ⟨hr, rfl, rfl, rfl⟩ := Rr
  intro H locs ls hP hS hl
  exact W.vret hx hb hr (fun t ht _ => ⟨⟨_, h, rfl, hp, by rw [ht]; exact hP⟩, hS.F ht⟩) hS.2.2 dg hlk
theorem rn_mmax (F : FxT X cc own dd) {idx : Nat} {x y : Int32} (dg : decode cc pc = .ok (.invokestatic idx, 3)) (hn : pc + 3 = np) (h1 : Cond.methodLink own idx Lib.Math.max.name ∈ WG) (h2 : Cond.static Lib.Math.max.name ∈ WG) (h3 : Cond.initialized "java/lang/Math" ∈ WG) (h4 : Cond.code Lib.Math.max.name Lib.Math.max.code 2 (some .int) ∈ WG) (hd1 : 1 ≤ dd) (hw : (st.map fun v => v.category).sum ≤ 8) (k : rn X np lo (.int (if x < y then y else x) :: st) h) : rn X pc lo (.int y :: .int x :: st) h := by
  obtain ⟨⟨l, N, S, ad, cA, D, tT⟩, p, e, R, s, m, args, below, meth, c, cells, slots, Q, nL, A⟩ := X
  obtain ⟨hx, hb, hml, hown, hts, hlk, hK, hD, hA, hst, hrf, hrl, hrc, hrs⟩ := F
  subst hn
  intro H locs ls hP hS hl
  exact va_mmax hx hb (hml.trans hl.1.symm) hown (hts _ h1) (hts _ h2) (hts _ h3) (hts _ h4) (by omega) (by omega) hrc hrs dg (k H locs ls hP hS hl)
theorem rn_mmin (F : FxT X cc own dd) {idx : Nat} {x y : Int32} (dg : decode cc pc = .ok (.invokestatic idx, 3)) (hn : pc + 3 = np) (h1 : Cond.methodLink own idx Lib.Math.min.name ∈ WG) (h2 : Cond.static Lib.Math.min.name ∈ WG) (h3 : Cond.initialized "java/lang/Math" ∈ WG) (h4 : Cond.code Lib.Math.min.name Lib.Math.min.code 2 (some .int) ∈ WG) (hd1 : 1 ≤ dd) (hw : (st.map fun v => v.category).sum ≤ 8) (k : rn X np lo (.int (if y < x then y else x) :: st) h) : rn X pc lo (.int y :: .int x :: st) h := by
  obtain ⟨⟨l, N, S, ad, cA, D, tT⟩, p, e, R, s, m, args, below, meth, c, cells, slots, Q, nL, A⟩ := X
  obtain ⟨hx, hb, hml, hown, hts, hlk, hK, hD, hA, hst, hrf, hrl, hrc, hrs⟩ := F
  subst hn
  intro H locs ls hP hS hl
  exact va_mmin hx hb (hml.trans hl.1.symm) hown (hts _ h1) (hts _ h2) (hts _ h3) (hts _ h4) (by omega) (by omega) hrc hrs dg (k H locs ls hP hS hl)
theorem rn_mabs (F : FxT X cc own dd) {idx : Nat} {x : Int32} (dg : decode cc pc = .ok (.invokestatic idx, 3)) (hn : pc + 3 = np) (h1 : Cond.methodLink own idx Lib.Math.abs.name ∈ WG) (h2 : Cond.static Lib.Math.abs.name ∈ WG) (h3 : Cond.initialized "java/lang/Math" ∈ WG) (h4 : Cond.code Lib.Math.abs.name Lib.Math.abs.code 1 (some .int) ∈ WG) (hd1 : 1 ≤ dd) (hw : (st.map fun v => v.category).sum ≤ 8) (k : rn X np lo (.int (if 0 ≤ x then x else 0 - x) :: st) h) : rn X pc lo (.int x :: st) h := by
  obtain ⟨⟨l, N, S, ad, cA, D, tT⟩, p, e, R, s, m, args, below, meth, c, cells, slots, Q, nL, A⟩ := X
  obtain ⟨hx, hb, hml, hown, hts, hlk, hK, hD, hA, hst, hrf, hrl, hrc, hrs⟩ := F
  subst hn
  intro H locs ls hP hS hl
  exact va_mabs hx hb (hml.trans hl.1.symm) hown (hts _ h1) (hts _ h2) (hts _ h3) (hts _ h4) (by omega) (by omega) hrc hrs dg (k H locs ls hP hS hl)
end RN
end
section
theorem run_goes {p : Program} {l : Launch} {e : Env} {R : Room} {s : State} {m : MethodId} {args : Array Value} {below : List Frame} {meth : Method} {c : Code} {H : Heap} {locs : List Loc} {cells slots : Nat} {Q : State → Prop} {pc : Nat} {ls : Array Slot} {stk rest : List Value} {a : Array Value} {N : Nat} {S : ShT} {ad : Nat → Nat} {cA : ClassId} {D : va_G} {tT : Nat} {A : Nat → Prop} {post : Option Value → HpT → Prop}
    (hr : va_Run p l e R s m args below meth c H locs cells slots 0 0 (F0 m pc ls stk) rest (mqG (l, N, S, ad, cA, D, tT) (Af N ad H.size) post a) (Af N ad H.size)) (hS : va_S A s.heap H locs) (hsub : ∀ q, Af N ad H.size q → A q)
    (kk : ∀ (r : Option Value) (h' : HpT) (H1 : Heap) (locs1 : List Loc), post r h' → va_P D classes (wl N S ad cA h') H1 → va_S A s.heap H1 locs1 → W p l e R s m args below meth c H1 locs1 cells slots Q (F0 m (pc + 3) ls (r.toList ++ rest))) : W p l e R s m args below meth c H locs cells slots Q (F0 m pc ls stk) := by
  intro T hT X
  obtain ⟨v, st₀, t, T', L, h0, X', hL, e1, e2, ⟨⟨r, h', hv, hp, hb⟩, hz, hk⟩, st⟩ := hr T hT X
  cases hv
  rw [h0] at hz hk
  obtain ⟨t2, a1, b1⟩ := kk v h' T'.heap (locs ++ L) hp (by rw [e1]; exact hb) ⟨Nat.le_trans hS.1 (by rw [e1]; exact hz), fun q h1 h2 => by rw [e1, hk q (Nat.lt_of_lt_of_le h1 hS.1) (fun z => h2 (hsub q z))]; exact hS.2.1 q h1 h2, fun q hq => by
      rcases List.mem_append.mp hq with h | h
      · exact hS.2.2 q h
      · exact hsub _ (hL q h)⟩ T' rfl X'
  exact ⟨t2, st t2 a1, b1⟩
theorem blind_pre {G : GxT} {sz : Nat} {h : HpT} {av : List Value} : FrameBlind (va_Pc av (preG G sz h)) := by
  obtain ⟨l, N, S, ad, cA, D, tT⟩ := G
  intro a U g mk q
  obtain ⟨q0, q1, qP, qK, qD, z1, z2, z3, z4, z5, z6⟩ := q
  exact ⟨q0, q1, qP, va_K.moved (u := U) (U := U.calling g mk a) (Vm.Alike.refl U.vm) qK, qD, va_Z.moved (u := U) (U := U.calling g mk a) (Vm.Alike.refl U.vm) z1, va_T.moved (u := U) (U := U.calling g mk a) (Vm.Alike.refl U.vm) z2, va_Nw.same rfl (rfl : U.vm = (U.calling g mk a).vm) z3, va_Nw.same rfl (rfl : U.vm = (U.calling g mk a).vm) z4, va_Nw.same rfl (rfl : U.vm = (U.calling g mk a).vm) z5, va_Nw.same rfl (rfl : U.vm = (U.calling g mk a).vm) z6⟩
def CvT (y : MethodName) (bytes : ByteArray) (maxL : Nat) (ret : Option FieldType) (n : Nat) : Prop := Cond.instanceMethod y ∈ WG ∧ Cond.selects y.cls y y ∈ WG ∧ Cond.initialized y.cls ∈ WG ∧ Cond.code y bytes maxL ret ∈ WG ∧ (y.cls ≠ "java/lang/invoke/MethodHandle" ∧ y.cls ≠ "java/lang/invoke/VarHandle" ∧ (parseMethodDescriptor y.desc).map (fun d => d.parameters.length) = some n) ∧ maxL ≤ 40
def CsT (y : MethodName) (bytes : ByteArray) (maxL : Nat) (ret : Option FieldType) (n : Nat) : Prop := Cond.static y ∈ WG ∧ Cond.initialized y.cls ∈ WG ∧ Cond.code y bytes maxL ret ∈ WG ∧ (y.cls ≠ "java/lang/invoke/MethodHandle" ∧ y.cls ≠ "java/lang/invoke/VarHandle" ∧ (parseMethodDescriptor y.desc).map (fun d => d.parameters.length) = some n) ∧ maxL ≤ 40
section RC
variable {X : XxT} {cc : ByteArray} {own : String} {dd pc np : Nat} {lo : List (Nat × Value)} {rest : List Value} {h : HpT} {y : MethodName} {bytes : ByteArray} {maxL n d' idx q0 ci Nf : Nat} {ret : Option FieldType} {fs : List (Option Nat)} {Tt : u_T} {As : List Value} {post : Option Value → HpT → Prop}
theorem rn_cV (F : FxT X cc own dd) (hc : CvT y bytes maxL ret n) (hm : Cond.methodLink own idx y ∈ WG) (hs : shp X.1 q0 (.inr (ci, fs))) (hcl : classes[ci]? = some (y.cls, Tt, Nf)) (hlen : As.length = n) (hd : d' + 1 ≤ dd) (hw : (rest.map fun v => v.category).sum ≤ 8) (dg : decode cc pc = .ok (.invokevirtual idx, 3)) (hM : mc X.1 y bytes maxL ret d' (.ref (gad X.1 q0) :: As) h post)
    (kk : ∀ r h', post r h' → rn X (pc + 3) lo (r.toList ++ rest) h') : rn X pc lo (As.reverse ++ .ref (gad X.1 q0) :: rest) h := by
  obtain ⟨⟨l, N, S, ad, cA, D, tT⟩, p, e, R, s, m, args, below, meth, c, cells, slots, Q, nL, A⟩ := X
  obtain ⟨hx, hb, hml, hown, hts, hlk, hK, hD, hA, hst, hrf, hrl, hrc, hrs⟩ := F
  intro H locs ls hP hS hl
  obtain ⟨c1, c2, c3, c4, c5, c6⟩ := hc
  obtain ⟨hq0, hsq⟩ := hs
  have hat := wl_at (S := S) (ad := ad) (cA := cA) (h := h) hq0
  rw [show S q0 = _ from hsq] at hat
  have hsub := Af_sub (hD h) (sz := H.size) (fun q hq => hA q (Nat.le_trans hS.1 hq))
  have hwm : ∀ w ∈ wsV own idx y.cls y (.code y bytes maxL ret :: WG), w ∈ WG := by
    intro w hw
    unfold wsV at hw
    rcases List.mem_append.mp hw with hw | hw
    · simp only [List.mem_cons, List.not_mem_nil, or_false] at hw
      rcases hw with rfl | rfl | rfl | rfl
      · exact hm
      · exact c1
      · exact c2
      · exact c3
    · rcases List.mem_cons.mp hw with rfl | hw
      · exact c4
      · exact hw
  exact run_goes (tT := tT) (va_runV (Ts := WG) (As := As) (rest := rest) (C := y.cls) (b := ad q0) (maxL := maxL) (bytes := bytes) (ret := ret) ⟨hx, hb, hml, hown, hts⟩ (hM H.size) (cwV n hts (wg_goodG hwm) rfl rfl rfl ⟨rfl, c5.1, c5.2.1, c5.2.2⟩ ⟨by show d' + 1 ≤ _; omega, by show 8 + (maxL + 11) + 64 * d' ≤ _; omega⟩) ⟨blind_pre, va_recv hK hP hcl hat, fun U hU hW => ⟨rfl, by rw [hU], by rw [hU]; exact hP, va_K.moved hW.alike hK, (hD h).weaken (fun _ _ _ _ => trivial), stG_go hst hS hW hU hsub⟩⟩ rfl hlen hl.1 rfl (lv_room hw) dg ⟨hrc, hrs⟩) hS hsub (fun r h' H1 locs1 hp hP1 hS1 => kk r h' hp H1 locs1 ls hP1 hS1 hl)
theorem rn_cS (F : FxT X cc own dd) (hc : CsT y bytes maxL ret n) (hm : Cond.methodLink own idx y ∈ WG) (hlen : As.length = n) (hd : d' + 1 ≤ dd) (hw : (rest.map fun v => v.category).sum ≤ 8) (dg : decode cc pc = .ok (.invokestatic idx, 3)) (hM : mc X.1 y bytes maxL ret d' As h post)
    (kk : ∀ r h', post r h' → rn X (pc + 3) lo (r.toList ++ rest) h') : rn X pc lo (As.reverse ++ rest) h := by
  obtain ⟨⟨l, N, S, ad, cA, D, tT⟩, p, e, R, s, m, args, below, meth, c, cells, slots, Q, nL, A⟩ := X
  obtain ⟨hx, hb, hml, hown, hts, hlk, hK, hD, hA, hst, hrf, hrl, hrc, hrs⟩ := F
  intro H locs ls hP hS hl
  obtain ⟨c1, c3, c4, c5, c6⟩ := hc
  have hsub := Af_sub (hD h) (sz := H.size) (fun q hq => hA q (Nat.le_trans hS.1 hq))
  have hwm : ∀ w ∈ va_wsS own idx y (.code y bytes maxL ret :: WG), w ∈ WG := by
    intro w hw
    unfold va_wsS at hw
    rcases List.mem_append.mp hw with hw | hw
    · simp only [List.mem_cons, List.not_mem_nil, or_false] at hw
      rcases hw with rfl | rfl | rfl
      · exact hm
      · exact c1
      · exact c3
    · rcases List.mem_cons.mp hw with rfl | hw
      · exact c4
      · exact hw
  exact run_goes (tT := tT) (va_runS (Ts := WG) (As := As) (rest := rest) (maxL := maxL) (bytes := bytes) (ret := ret) ⟨hx, hb, hml, hown, hts⟩ (hM H.size) (va_cwS n hts (wg_goodG hwm) rfl rfl rfl ⟨c5.1, c5.2.1, c5.2.2⟩ ⟨by show d' + 1 ≤ _; omega, by show 8 + (maxL + 11) + 64 * d' ≤ _; omega⟩) ⟨blind_pre, fun U hU hW => ⟨rfl, by rw [hU], by rw [hU]; exact hP, va_K.moved hW.alike hK, (hD h).weaken (fun _ _ _ _ => trivial), stG_go hst hS hW hU hsub⟩⟩ rfl hlen hl.1 rfl (lv_room hw) dg ⟨hrc, hrs⟩) hS hsub (fun r h' H1 locs1 hp hP1 hS1 => kk r h' hp H1 locs1 ls hP1 hS1 hl)
/-- a nest mate's private static method -/
theorem rn_cN (F : FxT X cc own dd) {host : String} (hc : CsT y bytes maxL ret n) (hm : va_Nw (.methodLinkNest own idx y host) X.2.2.2.2.1) (hlen : As.length = n) (hd : d' + 1 ≤ dd) (hw : (rest.map fun v => v.category).sum ≤ 8) (dg : decode cc pc = .ok (.invokestatic idx, 3)) (hM : mc X.1 y bytes maxL ret d' As h post)
    (kk : ∀ r h', post r h' → rn X (pc + 3) lo (r.toList ++ rest) h') : rn X pc lo (As.reverse ++ rest) h := by
  obtain ⟨⟨l, N, S, ad, cA, D, tT⟩, p, e, R, s, m, args, below, meth, c, cells, slots, Q, nL, A⟩ := X
  obtain ⟨hx, hb, hml, hown, hts, hlk, hK, hD, hA, hst, hrf, hrl, hrc, hrs⟩ := F
  intro H locs ls hP hS hl
  obtain ⟨c1, c3, c4, c5, c6⟩ := hc
  have hsub := Af_sub (hD h) (sz := H.size) (fun q hq => hA q (Nat.le_trans hS.1 hq))
  have hwm : ∀ w ∈ (.code y bytes maxL ret :: WG), w ∈ WG := by
    intro w hw
    rcases List.mem_cons.mp hw with rfl | hw
    · exact c4
    · exact hw
  exact run_goes (tT := tT) (va_runSN (Ts := WG) (As := As) (rest := rest) (maxL := maxL) (bytes := bytes) (ret := ret) (host := host) ⟨hx, hb, hml, hown, hts⟩ (hM H.size) ⟨va_cnB n hts (wg_goodG hwm) rfl rfl rfl hm (hts _ c3) ⟨c5.1, c5.2.1, c5.2.2⟩ ⟨by show d' + 1 ≤ _; omega, by show 8 + (maxL + 11) + 64 * d' ≤ _; omega⟩, hts _ c1, trivial⟩ ⟨blind_pre, fun U hU hW => ⟨rfl, by rw [hU], by rw [hU]; exact hP, va_K.moved hW.alike hK, (hD h).weaken (fun _ _ _ _ => trivial), stG_go hst hS hW hU hsub⟩⟩ rfl hlen hl.1 rfl (lv_room hw) dg ⟨hrc, hrs⟩) hS hsub (fun r h' H1 locs1 hp hP1 hS1 => kk r h' hp H1 locs1 ls hP1 hS1 hl)
theorem rn_cV0i (F : FxT X cc own dd) {x : Int32} {h2 : HpT} (dg : decode cc pc = .ok (.invokevirtual idx, 3)) (hn : pc + 3 = np) (hc : CvT y bytes maxL ret 0) (hm : Cond.methodLink own idx y ∈ WG) (hs : shp X.1 q0 (.inr (ci, fs))) (hcl : classes[ci]? = some (y.cls, Tt, Nf)) (hM : mci X.1 y bytes maxL ret d' [.ref (gad X.1 q0)] h x h2) (hd : d' + 1 ≤ dd) (hw : (rest.map fun v => v.category).sum ≤ 8) (k : rn X np lo (.int x :: rest) h2) : rn X pc lo (.ref (gad X.1 q0) :: rest) h := by
  subst hn
  exact rn_cV (As := []) F hc hm hs hcl rfl hd hw dg hM (fun r h3 e => by obtain ⟨rfl, rfl⟩ := e; exact k)
theorem rn_cV0l (F : FxT X cc own dd) {x : Int64} {h2 : HpT} (dg : decode cc pc = .ok (.invokevirtual idx, 3)) (hn : pc + 3 = np) (hc : CvT y bytes maxL ret 0) (hm : Cond.methodLink own idx y ∈ WG) (hs : shp X.1 q0 (.inr (ci, fs))) (hcl : classes[ci]? = some (y.cls, Tt, Nf)) (hM : mcl X.1 y bytes maxL ret d' [.ref (gad X.1 q0)] h x h2) (hd : d' + 1 ≤ dd) (hw : (rest.map fun v => v.category).sum ≤ 8) (k : rn X np lo (.long x :: rest) h2) : rn X pc lo (.ref (gad X.1 q0) :: rest) h := by
  subst hn
  exact rn_cV (As := []) F hc hm hs hcl rfl hd hw dg hM (fun r h3 e => by obtain ⟨rfl, rfl⟩ := e; exact k)
theorem rn_cV0v (F : FxT X cc own dd) {h2 : HpT} (dg : decode cc pc = .ok (.invokevirtual idx, 3)) (hn : pc + 3 = np) (hc : CvT y bytes maxL ret 0) (hm : Cond.methodLink own idx y ∈ WG) (hs : shp X.1 q0 (.inr (ci, fs))) (hcl : classes[ci]? = some (y.cls, Tt, Nf)) (hM : mcv X.1 y bytes maxL ret d' [.ref (gad X.1 q0)] h h2) (hd : d' + 1 ≤ dd) (hw : (rest.map fun v => v.category).sum ≤ 8) (k : rn X np lo rest h2) : rn X pc lo (.ref (gad X.1 q0) :: rest) h := by
  subst hn
  exact rn_cV (As := []) F hc hm hs hcl rfl hd hw dg hM (fun r h3 e => by obtain ⟨rfl, rfl⟩ := e; exact k)
theorem rn_cV1i (F : FxT X cc own dd) {v1 : Value} {x : Int32} {h2 : HpT} (dg : decode cc pc = .ok (.invokevirtual idx, 3)) (hn : pc + 3 = np) (hc : CvT y bytes maxL ret 1) (hm : Cond.methodLink own idx y ∈ WG) (hs : shp X.1 q0 (.inr (ci, fs))) (hcl : classes[ci]? = some (y.cls, Tt, Nf)) (hM : mci X.1 y bytes maxL ret d' [.ref (gad X.1 q0), v1] h x h2) (hd : d' + 1 ≤ dd) (hw : (rest.map fun v => v.category).sum ≤ 8) (k : rn X np lo (.int x :: rest) h2) : rn X pc lo (v1 :: .ref (gad X.1 q0) :: rest) h := by
  subst hn
  exact rn_cV (As := [v1]) F hc hm hs hcl rfl hd hw dg hM (fun r h3 e => by obtain ⟨rfl, rfl⟩ := e; exact k)
theorem rn_cS1i (F : FxT X cc own dd) {v1 : Value} {x : Int32} {h2 : HpT} (dg : decode cc pc = .ok (.invokestatic idx, 3)) (hn : pc + 3 = np) (hc : CsT y bytes maxL ret 1) (hm : Cond.methodLink own idx y ∈ WG) (hM : mci X.1 y bytes maxL ret d' [v1] h x h2) (hd : d' + 1 ≤ dd) (hw : (rest.map fun v => v.category).sum ≤ 8) (k : rn X np lo (.int x :: rest) h2) : rn X pc lo (v1 :: rest) h := by
  subst hn
  exact rn_cS (As := [v1]) F hc hm rfl hd hw dg hM (fun r h3 e => by obtain ⟨rfl, rfl⟩ := e; exact k)
theorem rn_cV1l (F : FxT X cc own dd) {v1 : Value} {x : Int64} {h2 : HpT} (dg : decode cc pc = .ok (.invokevirtual idx, 3)) (hn : pc + 3 = np) (hc : CvT y bytes maxL ret 1) (hm : Cond.methodLink own idx y ∈ WG) (hs : shp X.1 q0 (.inr (ci, fs))) (hcl : classes[ci]? = some (y.cls, Tt, Nf)) (hM : mcl X.1 y bytes maxL ret d' [.ref (gad X.1 q0), v1] h x h2) (hd : d' + 1 ≤ dd) (hw : (rest.map fun v => v.category).sum ≤ 8) (k : rn X np lo (.long x :: rest) h2) : rn X pc lo (v1 :: .ref (gad X.1 q0) :: rest) h := by
  subst hn
  exact rn_cV (As := [v1]) F hc hm hs hcl rfl hd hw dg hM (fun r h3 e => by obtain ⟨rfl, rfl⟩ := e; exact k)
theorem rn_cS1l (F : FxT X cc own dd) {v1 : Value} {x : Int64} {h2 : HpT} (dg : decode cc pc = .ok (.invokestatic idx, 3)) (hn : pc + 3 = np) (hc : CsT y bytes maxL ret 1) (hm : Cond.methodLink own idx y ∈ WG) (hM : mcl X.1 y bytes maxL ret d' [v1] h x h2) (hd : d' + 1 ≤ dd) (hw : (rest.map fun v => v.category).sum ≤ 8) (k : rn X np lo (.long x :: rest) h2) : rn X pc lo (v1 :: rest) h := by
  subst hn
  exact rn_cS (As := [v1]) F hc hm rfl hd hw dg hM (fun r h3 e => by obtain ⟨rfl, rfl⟩ := e; exact k)
theorem rn_cV1v (F : FxT X cc own dd) {v1 : Value} {h2 : HpT} (dg : decode cc pc = .ok (.invokevirtual idx, 3)) (hn : pc + 3 = np) (hc : CvT y bytes maxL ret 1) (hm : Cond.methodLink own idx y ∈ WG) (hs : shp X.1 q0 (.inr (ci, fs))) (hcl : classes[ci]? = some (y.cls, Tt, Nf)) (hM : mcv X.1 y bytes maxL ret d' [.ref (gad X.1 q0), v1] h h2) (hd : d' + 1 ≤ dd) (hw : (rest.map fun v => v.category).sum ≤ 8) (k : rn X np lo rest h2) : rn X pc lo (v1 :: .ref (gad X.1 q0) :: rest) h := by
  subst hn
  exact rn_cV (As := [v1]) F hc hm hs hcl rfl hd hw dg hM (fun r h3 e => by obtain ⟨rfl, rfl⟩ := e; exact k)
theorem rn_cS1v (F : FxT X cc own dd) {v1 : Value} {h2 : HpT} (dg : decode cc pc = .ok (.invokestatic idx, 3)) (hn : pc + 3 = np) (hc : CsT y bytes maxL ret 1) (hm : Cond.methodLink own idx y ∈ WG) (hM : mcv X.1 y bytes maxL ret d' [v1] h h2) (hd : d' + 1 ≤ dd) (hw : (rest.map fun v => v.category).sum ≤ 8) (k : rn X np lo rest h2) : rn X pc lo (v1 :: rest) h := by
  subst hn
  exact rn_cS (As := [v1]) F hc hm rfl hd hw dg hM (fun r h3 e => by obtain ⟨rfl, rfl⟩ := e; exact k)
theorem rn_cV2i (F : FxT X cc own dd) {v1 v2 : Value} {x : Int32} {h2 : HpT} (dg : decode cc pc = .ok (.invokevirtual idx, 3)) (hn : pc + 3 = np) (hc : CvT y bytes maxL ret 2) (hm : Cond.methodLink own idx y ∈ WG) (hs : shp X.1 q0 (.inr (ci, fs))) (hcl : classes[ci]? = some (y.cls, Tt, Nf)) (hM : mci X.1 y bytes maxL ret d' [.ref (gad X.1 q0), v1, v2] h x h2) (hd : d' + 1 ≤ dd) (hw : (rest.map fun v => v.category).sum ≤ 8) (k : rn X np lo (.int x :: rest) h2) : rn X pc lo (v2 :: v1 :: .ref (gad X.1 q0) :: rest) h := by
  subst hn
  exact rn_cV (As := [v1, v2]) F hc hm hs hcl rfl hd hw dg hM (fun r h3 e => by obtain ⟨rfl, rfl⟩ := e; exact k)
theorem rn_cS2i (F : FxT X cc own dd) {v1 v2 : Value} {x : Int32} {h2 : HpT} (dg : decode cc pc = .ok (.invokestatic idx, 3)) (hn : pc + 3 = np) (hc : CsT y bytes maxL ret 2) (hm : Cond.methodLink own idx y ∈ WG) (hM : mci X.1 y bytes maxL ret d' [v1, v2] h x h2) (hd : d' + 1 ≤ dd) (hw : (rest.map fun v => v.category).sum ≤ 8) (k : rn X np lo (.int x :: rest) h2) : rn X pc lo (v2 :: v1 :: rest) h := by
  subst hn
  exact rn_cS (As := [v1, v2]) F hc hm rfl hd hw dg hM (fun r h3 e => by obtain ⟨rfl, rfl⟩ := e; exact k)
theorem rn_cV2l (F : FxT X cc own dd) {v1 v2 : Value} {x : Int64} {h2 : HpT} (dg : decode cc pc = .ok (.invokevirtual idx, 3)) (hn : pc + 3 = np) (hc : CvT y bytes maxL ret 2) (hm : Cond.methodLink own idx y ∈ WG) (hs : shp X.1 q0 (.inr (ci, fs))) (hcl : classes[ci]? = some (y.cls, Tt, Nf)) (hM : mcl X.1 y bytes maxL ret d' [.ref (gad X.1 q0), v1, v2] h x h2) (hd : d' + 1 ≤ dd) (hw : (rest.map fun v => v.category).sum ≤ 8) (k : rn X np lo (.long x :: rest) h2) : rn X pc lo (v2 :: v1 :: .ref (gad X.1 q0) :: rest) h := by
  subst hn
  exact rn_cV (As := [v1, v2]) F hc hm hs hcl rfl hd hw dg hM (fun r h3 e => by obtain ⟨rfl, rfl⟩ := e; exact k)
theorem rn_cS2l (F : FxT X cc own dd) {v1 v2 : Value} {x : Int64} {h2 : HpT} (dg : decode cc pc = .ok (.invokestatic idx, 3)) (hn : pc + 3 = np) (hc : CsT y bytes maxL ret 2) (hm : Cond.methodLink own idx y ∈ WG) (hM : mcl X.1 y bytes maxL ret d' [v1, v2] h x h2) (hd : d' + 1 ≤ dd) (hw : (rest.map fun v => v.category).sum ≤ 8) (k : rn X np lo (.long x :: rest) h2) : rn X pc lo (v2 :: v1 :: rest) h := by
  subst hn
  exact rn_cS (As := [v1, v2]) F hc hm rfl hd hw dg hM (fun r h3 e => by obtain ⟨rfl, rfl⟩ := e; exact k)
theorem rn_cV2v (F : FxT X cc own dd) {v1 v2 : Value} {h2 : HpT} (dg : decode cc pc = .ok (.invokevirtual idx, 3)) (hn : pc + 3 = np) (hc : CvT y bytes maxL ret 2) (hm : Cond.methodLink own idx y ∈ WG) (hs : shp X.1 q0 (.inr (ci, fs))) (hcl : classes[ci]? = some (y.cls, Tt, Nf)) (hM : mcv X.1 y bytes maxL ret d' [.ref (gad X.1 q0), v1, v2] h h2) (hd : d' + 1 ≤ dd) (hw : (rest.map fun v => v.category).sum ≤ 8) (k : rn X np lo rest h2) : rn X pc lo (v2 :: v1 :: .ref (gad X.1 q0) :: rest) h := by
  subst hn
  exact rn_cV (As := [v1, v2]) F hc hm hs hcl rfl hd hw dg hM (fun r h3 e => by obtain ⟨rfl, rfl⟩ := e; exact k)
theorem rn_cS2v (F : FxT X cc own dd) {v1 v2 : Value} {h2 : HpT} (dg : decode cc pc = .ok (.invokestatic idx, 3)) (hn : pc + 3 = np) (hc : CsT y bytes maxL ret 2) (hm : Cond.methodLink own idx y ∈ WG) (hM : mcv X.1 y bytes maxL ret d' [v1, v2] h h2) (hd : d' + 1 ≤ dd) (hw : (rest.map fun v => v.category).sum ≤ 8) (k : rn X np lo rest h2) : rn X pc lo (v2 :: v1 :: rest) h := by
  subst hn
  exact rn_cS (As := [v1, v2]) F hc hm rfl hd hw dg hM (fun r h3 e => by obtain ⟨rfl, rfl⟩ := e; exact k)
theorem rn_cV3i (F : FxT X cc own dd) {v1 v2 v3 : Value} {x : Int32} {h2 : HpT} (dg : decode cc pc = .ok (.invokevirtual idx, 3)) (hn : pc + 3 = np) (hc : CvT y bytes maxL ret 3) (hm : Cond.methodLink own idx y ∈ WG) (hs : shp X.1 q0 (.inr (ci, fs))) (hcl : classes[ci]? = some (y.cls, Tt, Nf)) (hM : mci X.1 y bytes maxL ret d' [.ref (gad X.1 q0), v1, v2, v3] h x h2) (hd : d' + 1 ≤ dd) (hw : (rest.map fun v => v.category).sum ≤ 8) (k : rn X np lo (.int x :: rest) h2) : rn X pc lo (v3 :: v2 :: v1 :: .ref (gad X.1 q0) :: rest) h := by
  subst hn
  exact rn_cV (As := [v1, v2, v3]) F hc hm hs hcl rfl hd hw dg hM (fun r h3 e => by obtain ⟨rfl, rfl⟩ := e; exact k)
theorem rn_cS3i (F : FxT X cc own dd) {v1 v2 v3 : Value} {x : Int32} {h2 : HpT} (dg : decode cc pc = .ok (.invokestatic idx, 3)) (hn : pc + 3 = np) (hc : CsT y bytes maxL ret 3) (hm : Cond.methodLink own idx y ∈ WG) (hM : mci X.1 y bytes maxL ret d' [v1, v2, v3] h x h2) (hd : d' + 1 ≤ dd) (hw : (rest.map fun v => v.category).sum ≤ 8) (k : rn X np lo (.int x :: rest) h2) : rn X pc lo (v3 :: v2 :: v1 :: rest) h := by
  subst hn
  exact rn_cS (As := [v1, v2, v3]) F hc hm rfl hd hw dg hM (fun r h3 e => by obtain ⟨rfl, rfl⟩ := e; exact k)
theorem rn_cV3l (F : FxT X cc own dd) {v1 v2 v3 : Value} {x : Int64} {h2 : HpT} (dg : decode cc pc = .ok (.invokevirtual idx, 3)) (hn : pc + 3 = np) (hc : CvT y bytes maxL ret 3) (hm : Cond.methodLink own idx y ∈ WG) (hs : shp X.1 q0 (.inr (ci, fs))) (hcl : classes[ci]? = some (y.cls, Tt, Nf)) (hM : mcl X.1 y bytes maxL ret d' [.ref (gad X.1 q0), v1, v2, v3] h x h2) (hd : d' + 1 ≤ dd) (hw : (rest.map fun v => v.category).sum ≤ 8) (k : rn X np lo (.long x :: rest) h2) : rn X pc lo (v3 :: v2 :: v1 :: .ref (gad X.1 q0) :: rest) h := by
  subst hn
  exact rn_cV (As := [v1, v2, v3]) F hc hm hs hcl rfl hd hw dg hM (fun r h3 e => by obtain ⟨rfl, rfl⟩ := e; exact k)
theorem rn_cS3l (F : FxT X cc own dd) {v1 v2 v3 : Value} {x : Int64} {h2 : HpT} (dg : decode cc pc = .ok (.invokestatic idx, 3)) (hn : pc + 3 = np) (hc : CsT y bytes maxL ret 3) (hm : Cond.methodLink own idx y ∈ WG) (hM : mcl X.1 y bytes maxL ret d' [v1, v2, v3] h x h2) (hd : d' + 1 ≤ dd) (hw : (rest.map fun v => v.category).sum ≤ 8) (k : rn X np lo (.long x :: rest) h2) : rn X pc lo (v3 :: v2 :: v1 :: rest) h := by
  subst hn
  exact rn_cS (As := [v1, v2, v3]) F hc hm rfl hd hw dg hM (fun r h3 e => by obtain ⟨rfl, rfl⟩ := e; exact k)
theorem rn_cV3v (F : FxT X cc own dd) {v1 v2 v3 : Value} {h2 : HpT} (dg : decode cc pc = .ok (.invokevirtual idx, 3)) (hn : pc + 3 = np) (hc : CvT y bytes maxL ret 3) (hm : Cond.methodLink own idx y ∈ WG) (hs : shp X.1 q0 (.inr (ci, fs))) (hcl : classes[ci]? = some (y.cls, Tt, Nf)) (hM : mcv X.1 y bytes maxL ret d' [.ref (gad X.1 q0), v1, v2, v3] h h2) (hd : d' + 1 ≤ dd) (hw : (rest.map fun v => v.category).sum ≤ 8) (k : rn X np lo rest h2) : rn X pc lo (v3 :: v2 :: v1 :: .ref (gad X.1 q0) :: rest) h := by
  subst hn
  exact rn_cV (As := [v1, v2, v3]) F hc hm hs hcl rfl hd hw dg hM (fun r h3 e => by obtain ⟨rfl, rfl⟩ := e; exact k)
theorem rn_cS3v (F : FxT X cc own dd) {v1 v2 v3 : Value} {h2 : HpT} (dg : decode cc pc = .ok (.invokestatic idx, 3)) (hn : pc + 3 = np) (hc : CsT y bytes maxL ret 3) (hm : Cond.methodLink own idx y ∈ WG) (hM : mcv X.1 y bytes maxL ret d' [v1, v2, v3] h h2) (hd : d' + 1 ≤ dd) (hw : (rest.map fun v => v.category).sum ≤ 8) (k : rn X np lo rest h2) : rn X pc lo (v3 :: v2 :: v1 :: rest) h := by
  subst hn
  exact rn_cS (As := [v1, v2, v3]) F hc hm rfl hd hw dg hM (fun r h3 e => by obtain ⟨rfl, rfl⟩ := e; exact k)
theorem rn_nw80 (F : FxT X cc own dd) : va_Nw (.methodLinkNest RX2 80 yX4_pack "PhaseLoads") X.2.2.2.2.1 := by
  obtain ⟨⟨l, N, S, ad, cA, D, tT⟩, p, e, R, s, m, args, below, meth, c, cells, slots, Q, nL, A⟩ := X
  obtain ⟨hx, hb, hml, hown, hts, hlk, hK, hD, hA, hst, hrf, hrl, hrc, hrs⟩ := F
  exact hst.2.2.2.1
theorem rn_nw84 (F : FxT X cc own dd) : va_Nw (.methodLinkNest RX2 84 yX4_phaseIn "PhaseLoads") X.2.2.2.2.1 := by
  obtain ⟨⟨l, N, S, ad, cA, D, tT⟩, p, e, R, s, m, args, below, meth, c, cells, slots, Q, nL, A⟩ := X
  obtain ⟨hx, hb, hml, hown, hts, hlk, hK, hD, hA, hst, hrf, hrl, hrc, hrs⟩ := F
  exact hst.2.2.2.2.1
theorem rn_nw138 (F : FxT X cc own dd) : va_Nw (.methodLinkNest RX0 138 yX4_pack "PhaseLoads") X.2.2.2.2.1 := by
  obtain ⟨⟨l, N, S, ad, cA, D, tT⟩, p, e, R, s, m, args, below, meth, c, cells, slots, Q, nL, A⟩ := X
  obtain ⟨hx, hb, hml, hown, hts, hlk, hK, hD, hA, hst, hrf, hrl, hrc, hrs⟩ := F
  exact hst.2.2.2.2.2
theorem rn_cN2i (F : FxT X cc own dd) {v1 v2 : Value} {x : Int32} {h2 : HpT} {host : String} (dg : decode cc pc = .ok (.invokestatic idx, 3)) (hn : pc + 3 = np) (hc : CsT y bytes maxL ret 2) (hm : va_Nw (.methodLinkNest own idx y host) X.2.2.2.2.1) (hM : mci X.1 y bytes maxL ret d' [v1, v2] h x h2) (hd : d' + 1 ≤ dd) (hw : (rest.map fun v => v.category).sum ≤ 8) (k : rn X np lo (.int x :: rest) h2) : rn X pc lo (v2 :: v1 :: rest) h := by
  subst hn
  exact rn_cN (As := [v1, v2]) F hc hm rfl hd hw dg hM (fun r h3 e => by obtain ⟨rfl, rfl⟩ := e; exact k)
theorem rn_copy (F : FxT X cc own dd) {q1 n0 n1 : Nat} {sp dp n : Int32} (dg : decode cc pc = .ok (.invokestatic idx, 3)) (hn : pc + 3 = np) (hm : Cond.methodLink own idx arraycopyName ∈ WG) (h01 : Cond.native arraycopyName ∈ WG) (h02 : Cond.static arraycopyName ∈ WG) (h03 : Cond.initialized "java/lang/System" ∈ WG) (hs0 : shp X.1 q0 (.inl n0)) (hs1 : shp X.1 q1 (.inl n1)) (h1 : ¬ sp < 0) (h2 : ¬ dp < 0) (h3 : ¬ n < 0) (h4 : sp.toNatClampNeg + n.toNatClampNeg ≤ n0) (h5 : dp.toNatClampNeg + n.toNatClampNeg ≤ n1) (hd : 1 ≤ dd) (hw : (rest.map fun v => v.category).sum ≤ 8)
    (k : rn X np lo rest (va_up h q1 (va_cpy (h q0) (h q1) sp.toNatClampNeg dp.toNatClampNeg n.toNatClampNeg))) : rn X pc lo (.int n :: .int dp :: .ref (gad X.1 q1) :: .int sp :: .ref (gad X.1 q0) :: rest) h := by
  subst hn
  obtain ⟨⟨l, N, S, ad, cA, D, tT⟩, p, e, R, s, m, args, below, meth, c, cells, slots, Q, nL, A⟩ := X
  obtain ⟨hx, hb, hml, hown, hts, hlk, hK, hD, hA, hst, hrf, hrl, hrc, hrs⟩ := F
  intro H locs ls hP hS hl
  obtain ⟨hq0, hsq⟩ := hs0
  obtain ⟨hq1, hsq1⟩ := hs1
  have hat := wl_at (S := S) (ad := ad) (cA := cA) (h := h) hq0
  rw [show S q0 = _ from hsq] at hat
  have hat1 := wl_at (S := S) (ad := ad) (cA := cA) (h := h) hq1
  rw [show S q1 = _ from hsq1] at hat1
  refine va_copyi hx hb (hml.trans hl.1.symm) hown (hts _ hm) (hts _ h01) (hts _ h02) (hts _ h03) hK hP (hD h) hS q0 q1 0 0 hat hat1 rfl rfl rfl h1 h2 h3 h4 h5 (fun _ _ => rfl) (by omega) (Nat.le_trans (Nat.add_le_add hw (Nat.le_of_ble_eq_true rfl : nativeFrameWords "java/lang/System" "arraycopy" 5 + 11 ≤ 56)) (by omega)) dg (fun H1 locs1 hP1 _ hS1 => k H1 locs1 ls ?_ hS1 hl)
  have e1 := wl_set (S := S) (ad := ad) (cA := cA) (h := h) hq1 (va_cpy (h q0) (h q1) sp.toNatClampNeg dp.toNatClampNeg n.toNatClampNeg)
  rw [show S q1 = _ from hsq1] at e1
  unfold ce at e1
  exact e1 ▸ hP1
theorem rn_cV0p (F : FxT X cc own dd) {P : HpT → Prop} (dg : decode cc pc = .ok (.invokevirtual idx, 3)) (hn : pc + 3 = np) (hc : CvT y bytes maxL ret 0) (hm : Cond.methodLink own idx y ∈ WG) (hs : shp X.1 q0 (.inr (ci, fs))) (hcl : classes[ci]? = some (y.cls, Tt, Nf)) (hM : mc X.1 y bytes maxL ret d' [.ref (gad X.1 q0)] h (fun r h3 => r = none ∧ P h3)) (hd : d' + 1 ≤ dd) (hw : (rest.map fun v => v.category).sum ≤ 8) (k : ∀ h2, P h2 → rn X np lo rest h2) : rn X pc lo (.ref (gad X.1 q0) :: rest) h := by
  subst hn
  exact rn_cV (As := []) F hc hm hs hcl rfl hd hw dg hM (fun r h3 e => by obtain ⟨rfl, e⟩ := e; exact k h3 e)
theorem rn_cV0q (F : FxT X cc own dd) {P : Int32 → HpT → Prop} (dg : decode cc pc = .ok (.invokevirtual idx, 3)) (hn : pc + 3 = np) (hc : CvT y bytes maxL ret 0) (hm : Cond.methodLink own idx y ∈ WG) (hs : shp X.1 q0 (.inr (ci, fs))) (hcl : classes[ci]? = some (y.cls, Tt, Nf)) (hM : mc X.1 y bytes maxL ret d' [.ref (gad X.1 q0)] h (fun r h3 => ∃ x, r = some (.int x) ∧ P x h3)) (hd : d' + 1 ≤ dd) (hw : (rest.map fun v => v.category).sum ≤ 8) (k : ∀ x h2, P x h2 → rn X np lo (.int x :: rest) h2) : rn X pc lo (.ref (gad X.1 q0) :: rest) h := by
  subst hn
  exact rn_cV (As := []) F hc hm hs hcl rfl hd hw dg hM (fun r h3 e => by obtain ⟨x, rfl, e⟩ := e; exact k x h3 e)
theorem rn_cV1p (F : FxT X cc own dd) {v1 : Value} {P : HpT → Prop} (dg : decode cc pc = .ok (.invokevirtual idx, 3)) (hn : pc + 3 = np) (hc : CvT y bytes maxL ret 1) (hm : Cond.methodLink own idx y ∈ WG) (hs : shp X.1 q0 (.inr (ci, fs))) (hcl : classes[ci]? = some (y.cls, Tt, Nf)) (hM : mc X.1 y bytes maxL ret d' [.ref (gad X.1 q0), v1] h (fun r h3 => r = none ∧ P h3)) (hd : d' + 1 ≤ dd) (hw : (rest.map fun v => v.category).sum ≤ 8) (k : ∀ h2, P h2 → rn X np lo rest h2) : rn X pc lo (v1 :: .ref (gad X.1 q0) :: rest) h := by
  subst hn
  exact rn_cV (As := [v1]) F hc hm hs hcl rfl hd hw dg hM (fun r h3 e => by obtain ⟨rfl, e⟩ := e; exact k h3 e)
theorem rn_cV1q (F : FxT X cc own dd) {v1 : Value} {P : Int32 → HpT → Prop} (dg : decode cc pc = .ok (.invokevirtual idx, 3)) (hn : pc + 3 = np) (hc : CvT y bytes maxL ret 1) (hm : Cond.methodLink own idx y ∈ WG) (hs : shp X.1 q0 (.inr (ci, fs))) (hcl : classes[ci]? = some (y.cls, Tt, Nf)) (hM : mc X.1 y bytes maxL ret d' [.ref (gad X.1 q0), v1] h (fun r h3 => ∃ x, r = some (.int x) ∧ P x h3)) (hd : d' + 1 ≤ dd) (hw : (rest.map fun v => v.category).sum ≤ 8) (k : ∀ x h2, P x h2 → rn X np lo (.int x :: rest) h2) : rn X pc lo (v1 :: .ref (gad X.1 q0) :: rest) h := by
  subst hn
  exact rn_cV (As := [v1]) F hc hm hs hcl rfl hd hw dg hM (fun r h3 e => by obtain ⟨x, rfl, e⟩ := e; exact k x h3 e)
theorem rn_cV2p (F : FxT X cc own dd) {v1 v2 : Value} {P : HpT → Prop} (dg : decode cc pc = .ok (.invokevirtual idx, 3)) (hn : pc + 3 = np) (hc : CvT y bytes maxL ret 2) (hm : Cond.methodLink own idx y ∈ WG) (hs : shp X.1 q0 (.inr (ci, fs))) (hcl : classes[ci]? = some (y.cls, Tt, Nf)) (hM : mc X.1 y bytes maxL ret d' [.ref (gad X.1 q0), v1, v2] h (fun r h3 => r = none ∧ P h3)) (hd : d' + 1 ≤ dd) (hw : (rest.map fun v => v.category).sum ≤ 8) (k : ∀ h2, P h2 → rn X np lo rest h2) : rn X pc lo (v2 :: v1 :: .ref (gad X.1 q0) :: rest) h := by
  subst hn
  exact rn_cV (As := [v1, v2]) F hc hm hs hcl rfl hd hw dg hM (fun r h3 e => by obtain ⟨rfl, e⟩ := e; exact k h3 e)
theorem rn_cV2q (F : FxT X cc own dd) {v1 v2 : Value} {P : Int32 → HpT → Prop} (dg : decode cc pc = .ok (.invokevirtual idx, 3)) (hn : pc + 3 = np) (hc : CvT y bytes maxL ret 2) (hm : Cond.methodLink own idx y ∈ WG) (hs : shp X.1 q0 (.inr (ci, fs))) (hcl : classes[ci]? = some (y.cls, Tt, Nf)) (hM : mc X.1 y bytes maxL ret d' [.ref (gad X.1 q0), v1, v2] h (fun r h3 => ∃ x, r = some (.int x) ∧ P x h3)) (hd : d' + 1 ≤ dd) (hw : (rest.map fun v => v.category).sum ≤ 8) (k : ∀ x h2, P x h2 → rn X np lo (.int x :: rest) h2) : rn X pc lo (v2 :: v1 :: .ref (gad X.1 q0) :: rest) h := by
  subst hn
  exact rn_cV (As := [v1, v2]) F hc hm hs hcl rfl hd hw dg hM (fun r h3 e => by obtain ⟨x, rfl, e⟩ := e; exact k x h3 e)
theorem rn_cV3p (F : FxT X cc own dd) {v1 v2 v3 : Value} {P : HpT → Prop} (dg : decode cc pc = .ok (.invokevirtual idx, 3)) (hn : pc + 3 = np) (hc : CvT y bytes maxL ret 3) (hm : Cond.methodLink own idx y ∈ WG) (hs : shp X.1 q0 (.inr (ci, fs))) (hcl : classes[ci]? = some (y.cls, Tt, Nf)) (hM : mc X.1 y bytes maxL ret d' [.ref (gad X.1 q0), v1, v2, v3] h (fun r h3 => r = none ∧ P h3)) (hd : d' + 1 ≤ dd) (hw : (rest.map fun v => v.category).sum ≤ 8) (k : ∀ h2, P h2 → rn X np lo rest h2) : rn X pc lo (v3 :: v2 :: v1 :: .ref (gad X.1 q0) :: rest) h := by
  subst hn
  exact rn_cV (As := [v1, v2, v3]) F hc hm hs hcl rfl hd hw dg hM (fun r h3 e => by obtain ⟨rfl, e⟩ := e; exact k h3 e)
theorem rn_cV3q (F : FxT X cc own dd) {v1 v2 v3 : Value} {P : Int32 → HpT → Prop} (dg : decode cc pc = .ok (.invokevirtual idx, 3)) (hn : pc + 3 = np) (hc : CvT y bytes maxL ret 3) (hm : Cond.methodLink own idx y ∈ WG) (hs : shp X.1 q0 (.inr (ci, fs))) (hcl : classes[ci]? = some (y.cls, Tt, Nf)) (hM : mc X.1 y bytes maxL ret d' [.ref (gad X.1 q0), v1, v2, v3] h (fun r h3 => ∃ x, r = some (.int x) ∧ P x h3)) (hd : d' + 1 ≤ dd) (hw : (rest.map fun v => v.category).sum ≤ 8) (k : ∀ x h2, P x h2 → rn X np lo (.int x :: rest) h2) : rn X pc lo (v3 :: v2 :: v1 :: .ref (gad X.1 q0) :: rest) h := by
  subst hn
  exact rn_cV (As := [v1, v2, v3]) F hc hm hs hcl rfl hd hw dg hM (fun r h3 e => by obtain ⟨x, rfl, e⟩ := e; exact k x h3 e)
end RC
end
section
section RM
variable {X : XxT} {cc : ByteArray} {own : String} {dd pc np : Nat} {lo : List (Nat × Value)} {st : List Value} {h : HpT}
theorem rn_ialdN (F : FxT X cc own dd) {q0 n j : Nat} {x : Int32} (dg : decode cc pc = .ok (.iaload, 1)) (hn : pc + 1 = np) (hs : shp X.1 q0 (.inl n)) (hx : x = nI j) (hj : j < n ∧ j < 2147483648) (k : rn X np lo (.int (h q0 j) :: st) h) : rn X pc lo (.int x :: .ref (gad X.1 q0) :: st) h := by
  subst hx
  refine rn_iald F dg hn hs ?_ ?_
  · exact vp_in_iff.mpr ⟨by rw [nI_toInt hj.2]; omega, by rw [nI_toInt hj.2]; omega⟩
  · rw [nI_clamp hj.2]; exact k
theorem rn_ialdE (F : FxT X cc own dd) {q0 n j : Nat} {x v : Int32} (dg : decode cc pc = .ok (.iaload, 1)) (hn : pc + 1 = np) (hs : shp X.1 q0 (.inl n)) (hx : x = nI j) (hj : j < n ∧ j < 2147483648) (e : h q0 j = v) (k : rn X np lo (.int v :: st) h) : rn X pc lo (.int x :: .ref (gad X.1 q0) :: st) h := rn_ialdN F dg hn hs hx hj (e ▸ k)
theorem rn_iastN (F : FxT X cc own dd) {q0 n j : Nat} {x v : Int32} (dg : decode cc pc = .ok (.iastore, 1)) (hn : pc + 1 = np) (hsh : shp X.1 q0 (.inl n)) (hx : x = nI j) (hj : j < n ∧ j < 2147483648) (k : rn X np lo st (hs h q0 j v)) : rn X pc lo (.int v :: .int x :: .ref (gad X.1 q0) :: st) h := by
  subst hx
  refine rn_iast F dg hn hsh ?_ ?_
  · exact vp_in_iff.mpr ⟨by rw [nI_toInt hj.2]; omega, by rw [nI_toInt hj.2]; omega⟩
  · rw [nI_clamp hj.2]; exact k
theorem rn_getfE (F : FxT X cc own dd) {idx ci j q0 : Nat} {fs : List (Option Nat)} {v : Int32} (dg : decode cc pc = .ok (.getfield idx, 3)) (hn : pc + 3 = np) (hf : FdT own idx ci j) (hs : shp X.1 q0 (.inr (ci, fs))) (hj : fs[j]? = some none) (e : h q0 j = v) (k : rn X np lo (.int v :: st) h) : rn X pc lo (.ref (gad X.1 q0) :: st) h := rn_getf F dg hn hf hs hj (e ▸ k)
theorem rn_iincN (F : FxT X cc own dd) {i nl j : Nat} (dg : decode cc pc = .ok (.iinc i 1, 3)) (hn : pc + 3 = np) (hf : lfind lo i = some (.int (nI j))) (hL : X.2.2.2.2.2.2.2.2.2.2.2.2.2.1 = nl) (hnb : Nat.blt i nl = true) (k : rn X np (lset lo i (.int (nI (j + 1)))) st h) : rn X pc lo st h := rn_iinc F dg hn hf (v := 1) rfl hL hnb (by rw [nI_1]; exact k)
theorem rn_Nge (F : FxT X cc own dd) {off : Int} {tg a b : Nat} {x y : Int32} (dg : decode cc pc = .ok (.if_icmp .ge off, 3)) (ht : (pc : Int) + off = (tg : Int)) (hn : pc + 3 = np) (hx : x = nI a) (hy : y = nI b) (hab : a < 2147483648 ∧ b < 2147483648) (kt : b ≤ a → rn X tg lo st h) (kf : ¬ b ≤ a → rn X np lo st h) : rn X pc lo (.int y :: .int x :: st) h := by
  subst hx hy
  obtain ⟨ha, hb⟩ := hab
  exact rn_icmp_ge F dg ht hn (fun q => kt ((nI_leI hb ha).mp q)) (fun q => kf (fun z => q ((nI_leI hb ha).mpr z)))
theorem rn_Ngt (F : FxT X cc own dd) {off : Int} {tg a b : Nat} {x y : Int32} (dg : decode cc pc = .ok (.if_icmp .gt off, 3)) (ht : (pc : Int) + off = (tg : Int)) (hn : pc + 3 = np) (hx : x = nI a) (hy : y = nI b) (hab : a < 2147483648 ∧ b < 2147483648) (kt : b < a → rn X tg lo st h) (kf : ¬ b < a → rn X np lo st h) : rn X pc lo (.int y :: .int x :: st) h := by
  subst hx hy
  obtain ⟨ha, hb⟩ := hab
  exact rn_icmp_gt F dg ht hn (fun q => kt ((nI_ltI hb ha).mp q)) (fun q => kf (fun z => q ((nI_ltI hb ha).mpr z)))
theorem rn_Nlt (F : FxT X cc own dd) {off : Int} {tg a b : Nat} {x y : Int32} (dg : decode cc pc = .ok (.if_icmp .lt off, 3)) (ht : (pc : Int) + off = (tg : Int)) (hn : pc + 3 = np) (hx : x = nI a) (hy : y = nI b) (hab : a < 2147483648 ∧ b < 2147483648) (kt : a < b → rn X tg lo st h) (kf : ¬ a < b → rn X np lo st h) : rn X pc lo (.int y :: .int x :: st) h := by
  subst hx hy
  obtain ⟨ha, hb⟩ := hab
  exact rn_icmp_lt F dg ht hn (fun q => kt ((nI_ltI ha hb).mp q)) (fun q => kf (fun z => q ((nI_ltI ha hb).mpr z)))
theorem rn_Nle (F : FxT X cc own dd) {off : Int} {tg a b : Nat} {x y : Int32} (dg : decode cc pc = .ok (.if_icmp .le off, 3)) (ht : (pc : Int) + off = (tg : Int)) (hn : pc + 3 = np) (hx : x = nI a) (hy : y = nI b) (hab : a < 2147483648 ∧ b < 2147483648) (kt : a ≤ b → rn X tg lo st h) (kf : ¬ a ≤ b → rn X np lo st h) : rn X pc lo (.int y :: .int x :: st) h := by
  subst hx hy
  obtain ⟨ha, hb⟩ := hab
  exact rn_icmp_le F dg ht hn (fun q => kt ((nI_leI ha hb).mp q)) (fun q => kf (fun z => q ((nI_leI ha hb).mpr z)))
theorem rn_Neq (F : FxT X cc own dd) {off : Int} {tg a b : Nat} {x y : Int32} (dg : decode cc pc = .ok (.if_icmp .eq off, 3)) (ht : (pc : Int) + off = (tg : Int)) (hn : pc + 3 = np) (hx : x = nI a) (hy : y = nI b) (hab : a < 2147483648 ∧ b < 2147483648) (kt : a = b → rn X tg lo st h) (kf : ¬ a = b → rn X np lo st h) : rn X pc lo (.int y :: .int x :: st) h := by
  subst hx hy
  obtain ⟨ha, hb⟩ := hab
  exact rn_icmp_eq F dg ht hn (fun q => kt ((nI_eq ha hb).mp q)) (fun q => kf (fun z => q ((nI_eq ha hb).mpr z)))
theorem rn_Nne (F : FxT X cc own dd) {off : Int} {tg a b : Nat} {x y : Int32} (dg : decode cc pc = .ok (.if_icmp .ne off, 3)) (ht : (pc : Int) + off = (tg : Int)) (hn : pc + 3 = np) (hx : x = nI a) (hy : y = nI b) (hab : a < 2147483648 ∧ b < 2147483648) (kt : ¬ a = b → rn X tg lo st h) (kf : a = b → rn X np lo st h) : rn X pc lo (.int y :: .int x :: st) h := by
  subst hx hy
  obtain ⟨ha, hb⟩ := hab
  exact rn_icmp_ne F dg ht hn (fun q => kt (fun z => q ((nI_eq ha hb).mpr z))) (fun q => kf ((nI_eq ha hb).mp q))
theorem rn_topE {x v : Int32} (e : x = v) (k : rn X pc lo (.int v :: st) h) : rn X pc lo (.int x :: st) h := e ▸ k
theorem rn_pick (ks : List Nat) {lo2 : List (Nat × Value)} (hl2 : lv_pick lo ks = lo2) (k : rn X pc lo2 st h) : rn X pc lo st h := by
  obtain ⟨⟨l, N, S, ad, cA, D, tT⟩, p, e, R, s, m, args, below, meth, c, cells, slots, Q, nL, A⟩ := X
  intro H locs ls hP hS hl
  exact k H locs ls hP hS (lv_sub hl ks hl2)
theorem rn_hpE {h2 : HpT} (e : h = h2) (k : rn X pc lo st h2) : rn X pc lo st h := e ▸ k
end RM
/-- the shape of the whole world -/
def SHF : ShT := fun k => match k with
  | 0 => .inr (4, [some 1, some 11, some 20, some 21, none, none, none])
  | 1 => .inr (2, [some 2, some 3, some 4, some 5, some 6, some 7, some 8, some 9, some 10, none, none, none])
  | 2 => .inl 9
  | 3 => .inl 9
  | 4 => .inl 9
  | 5 => .inl 9
  | 6 => .inl 9
  | 7 => .inl 6
  | 8 => .inl 6
  | 9 => .inl 6
  | 10 => .inl 18
  | 11 => .inr (0, [some 12, some 13, none, some 1, some 14, some 15, some 16, some 17, some 18, some 19, none, none, none, none])
  | 12 => .inl 10
  | 13 => .inl 10
  | 14 => .inl 9
  | 15 => .inl 54
  | 16 => .inl 81
  | 17 => .inl 27
  | 18 => .inl 18
  | 19 => .inl 6
  | 20 => .inr (1, [none, none, none, none, none, some 1])
  | 21 => .inr (3, [none, some 22])
  | 22 => .inl 8
  | 23 => .inr (5, [some 24, some 25, some 26, some 27, none, some 28, none, some 29, none, some 30, none, some 31, some 32, some 33, some 34, some 35, some 36, none, none, none, some 37])
  | 24 => .inl 9
  | 25 => .inl 9
  | 26 => .inl 9
  | 27 => .inl 9
  | 28 => .inl 6
  | 29 => .inl 12
  | 30 => .inl 72
  | 31 => .inl 3
  | 32 => .inl 54
  | 33 => .inl 18
  | 34 => .inl 9
  | 35 => .inl 90
  | 36 => .inl 10
  | 37 => .inl 4
  | _ => .inl 0
def Full (G : GxT) : Prop := G.2.1 = 38 ∧ G.2.2.1 = SHF
theorem fs {G : GxT} (hF : Full G) {k : Nat} {s : Nat ⊕ (Nat × List (Option Nat))} (hk : Nat.blt k 38 = true) (hh : SHF k = s) : shp G k s := ⟨by rw [hF.1]; exact Nat.le_of_ble_eq_true hk, by rw [hF.2]; exact hh⟩
theorem fF_X2_9 : FdT RX2 9 2 0 := ⟨RX2, TX2, 12, rfl, wU_X2, by decide, wF_X2_9⟩
theorem fF_X4_129 : FdT RX4 129 2 0 := ⟨RX2, TX2, 12, rfl, wU_X2, by decide, wF_X4_129⟩
theorem fF_X2_15 : FdT RX2 15 2 1 := ⟨RX2, TX2, 12, rfl, wU_X2, by decide, wF_X2_15⟩
theorem fF_X4_132 : FdT RX4 132 2 1 := ⟨RX2, TX2, 12, rfl, wU_X2, by decide, wF_X4_132⟩
theorem fF_X2_18 : FdT RX2 18 2 2 := ⟨RX2, TX2, 12, rfl, wU_X2, by decide, wF_X2_18⟩
theorem fF_X1_66 : FdT RX1 66 2 2 := ⟨RX2, TX2, 12, rfl, wU_X2, by decide, wF_X1_66⟩
theorem fF_X4_135 : FdT RX4 135 2 2 := ⟨RX2, TX2, 12, rfl, wU_X2, by decide, wF_X4_135⟩
theorem fF_X0_121 : FdT RX0 121 2 2 := ⟨RX2, TX2, 12, rfl, wU_X2, by decide, wF_X0_121⟩
theorem fF_X2_21 : FdT RX2 21 2 3 := ⟨RX2, TX2, 12, rfl, wU_X2, by decide, wF_X2_21⟩
theorem fF_X1_59 : FdT RX1 59 2 3 := ⟨RX2, TX2, 12, rfl, wU_X2, by decide, wF_X1_59⟩
theorem fF_X4_138 : FdT RX4 138 2 3 := ⟨RX2, TX2, 12, rfl, wU_X2, by decide, wF_X4_138⟩
theorem fF_X0_124 : FdT RX0 124 2 3 := ⟨RX2, TX2, 12, rfl, wU_X2, by decide, wF_X0_124⟩
theorem fF_X2_24 : FdT RX2 24 2 4 := ⟨RX2, TX2, 12, rfl, wU_X2, by decide, wF_X2_24⟩
theorem fF_X4_91 : FdT RX4 91 2 4 := ⟨RX2, TX2, 12, rfl, wU_X2, by decide, wF_X4_91⟩
theorem fF_X0_127 : FdT RX0 127 2 4 := ⟨RX2, TX2, 12, rfl, wU_X2, by decide, wF_X0_127⟩
theorem fF_X2_27 : FdT RX2 27 2 5 := ⟨RX2, TX2, 12, rfl, wU_X2, by decide, wF_X2_27⟩
theorem fF_X4_243 : FdT RX4 243 2 5 := ⟨RX2, TX2, 12, rfl, wU_X2, by decide, wF_X4_243⟩
theorem fF_X2_30 : FdT RX2 30 2 6 := ⟨RX2, TX2, 12, rfl, wU_X2, by decide, wF_X2_30⟩
theorem fF_X4_246 : FdT RX4 246 2 6 := ⟨RX2, TX2, 12, rfl, wU_X2, by decide, wF_X4_246⟩
theorem fF_X2_33 : FdT RX2 33 2 7 := ⟨RX2, TX2, 12, rfl, wU_X2, by decide, wF_X2_33⟩
theorem fF_X4_81 : FdT RX4 81 2 7 := ⟨RX2, TX2, 12, rfl, wU_X2, by decide, wF_X4_81⟩
theorem fF_X0_103 : FdT RX0 103 2 7 := ⟨RX2, TX2, 12, rfl, wU_X2, by decide, wF_X0_103⟩
theorem fF_X2_36 : FdT RX2 36 2 8 := ⟨RX2, TX2, 12, rfl, wU_X2, by decide, wF_X2_36⟩
theorem fF_X1_19 : FdT RX1 19 2 9 := ⟨RX2, TX2, 12, rfl, wU_X2, by decide, wF_X1_19⟩
theorem fP_X1_19 : FpT RX1 19 2 9 .int := ⟨RX2, TX2, 12, tyX2, rfl, wU_X2, by decide, wF_X1_19, tyX2_ok, nmX2, rfl, by decide +kernel⟩
theorem fF_X4_53 : FdT RX4 53 2 9 := ⟨RX2, TX2, 12, rfl, wU_X2, by decide, wF_X4_53⟩
theorem fP_X4_53 : FpT RX4 53 2 9 .int := ⟨RX2, TX2, 12, tyX2, rfl, wU_X2, by decide, wF_X4_53, tyX2_ok, nmX2, rfl, by decide +kernel⟩
theorem fF_X2_52 : FdT RX2 52 2 9 := ⟨RX2, TX2, 12, rfl, wU_X2, by decide, wF_X2_52⟩
theorem fP_X2_52 : FpT RX2 52 2 9 .int := ⟨RX2, TX2, 12, tyX2, rfl, wU_X2, by decide, wF_X2_52, tyX2_ok, nmX2, rfl, by decide +kernel⟩
theorem fF_X0_80 : FdT RX0 80 2 9 := ⟨RX2, TX2, 12, rfl, wU_X2, by decide, wF_X0_80⟩
theorem fP_X0_80 : FpT RX0 80 2 9 .int := ⟨RX2, TX2, 12, tyX2, rfl, wU_X2, by decide, wF_X0_80, tyX2_ok, nmX2, rfl, by decide +kernel⟩
theorem fF_X4_94 : FdT RX4 94 2 10 := ⟨RX2, TX2, 12, rfl, wU_X2, by decide, wF_X4_94⟩
theorem fP_X4_94 : FpT RX4 94 2 10 .int := ⟨RX2, TX2, 12, tyX2, rfl, wU_X2, by decide, wF_X4_94, tyX2_ok, nmX2, rfl, by decide +kernel⟩
theorem fF_X2_69 : FdT RX2 69 2 10 := ⟨RX2, TX2, 12, rfl, wU_X2, by decide, wF_X2_69⟩
theorem fP_X2_69 : FpT RX2 69 2 10 .int := ⟨RX2, TX2, 12, tyX2, rfl, wU_X2, by decide, wF_X2_69, tyX2_ok, nmX2, rfl, by decide +kernel⟩
theorem fF_X2_48 : FdT RX2 48 2 11 := ⟨RX2, TX2, 12, rfl, wU_X2, by decide, wF_X2_48⟩
theorem fP_X2_48 : FpT RX2 48 2 11 .int := ⟨RX2, TX2, 12, tyX2, rfl, wU_X2, by decide, wF_X2_48, tyX2_ok, nmX2, rfl, by decide +kernel⟩
theorem fF_X4_85 : FdT RX4 85 2 11 := ⟨RX2, TX2, 12, rfl, wU_X2, by decide, wF_X4_85⟩
theorem fP_X4_85 : FpT RX4 85 2 11 .int := ⟨RX2, TX2, 12, tyX2, rfl, wU_X2, by decide, wF_X4_85, tyX2_ok, nmX2, rfl, by decide +kernel⟩
theorem fF_X0_97 : FdT RX0 97 2 11 := ⟨RX2, TX2, 12, rfl, wU_X2, by decide, wF_X0_97⟩
theorem fP_X0_97 : FpT RX0 97 2 11 .int := ⟨RX2, TX2, 12, tyX2, rfl, wU_X2, by decide, wF_X0_97, tyX2_ok, nmX2, rfl, by decide +kernel⟩
theorem fF_X0_9 : FdT RX0 9 0 0 := ⟨RX0, TX0, 14, rfl, wU_X0, by decide, wF_X0_9⟩
theorem fF_X4_205 : FdT RX4 205 0 0 := ⟨RX0, TX0, 14, rfl, wU_X0, by decide, wF_X4_205⟩
theorem fF_X0_15 : FdT RX0 15 0 1 := ⟨RX0, TX0, 14, rfl, wU_X0, by decide, wF_X0_15⟩
theorem fF_X4_189 : FdT RX4 189 0 1 := ⟨RX0, TX0, 14, rfl, wU_X0, by decide, wF_X4_189⟩
theorem fF_X0_57 : FdT RX0 57 0 2 := ⟨RX0, TX0, 14, rfl, wU_X0, by decide, wF_X0_57⟩
theorem fP_X0_57 : FpT RX0 57 0 2 .int := ⟨RX0, TX0, 14, tyX0, rfl, wU_X0, by decide, wF_X0_57, tyX0_ok, nmX0, rfl, by decide +kernel⟩
theorem fF_X4_208 : FdT RX4 208 0 2 := ⟨RX0, TX0, 14, rfl, wU_X0, by decide, wF_X4_208⟩
theorem fP_X4_208 : FpT RX4 208 0 2 .int := ⟨RX0, TX0, 14, tyX0, rfl, wU_X0, by decide, wF_X4_208, tyX0_ok, nmX0, rfl, by decide +kernel⟩
theorem fF_X0_36 : FdT RX0 36 0 3 := ⟨RX0, TX0, 14, rfl, wU_X0, by decide, wF_X0_36⟩
theorem fF_X0_18 : FdT RX0 18 0 4 := ⟨RX0, TX0, 14, rfl, wU_X0, by decide, wF_X0_18⟩
theorem fF_X0_21 : FdT RX0 21 0 5 := ⟨RX0, TX0, 14, rfl, wU_X0, by decide, wF_X0_21⟩
theorem fF_X0_24 : FdT RX0 24 0 6 := ⟨RX0, TX0, 14, rfl, wU_X0, by decide, wF_X0_24⟩
theorem fF_X0_27 : FdT RX0 27 0 7 := ⟨RX0, TX0, 14, rfl, wU_X0, by decide, wF_X0_27⟩
theorem fF_X0_30 : FdT RX0 30 0 8 := ⟨RX0, TX0, 14, rfl, wU_X0, by decide, wF_X0_30⟩
theorem fF_X0_33 : FdT RX0 33 0 9 := ⟨RX0, TX0, 14, rfl, wU_X0, by decide, wF_X0_33⟩
theorem fF_X0_89 : FdT RX0 89 0 10 := ⟨RX0, TX0, 14, rfl, wU_X0, by decide, wF_X0_89⟩
theorem fP_X0_89 : FpT RX0 89 0 10 .int := ⟨RX0, TX0, 14, tyX0, rfl, wU_X0, by decide, wF_X0_89, tyX0_ok, nmX0, rfl, by decide +kernel⟩
theorem fF_X0_47 : FdT RX0 47 0 11 := ⟨RX0, TX0, 14, rfl, wU_X0, by decide, wF_X0_47⟩
theorem fP_X0_47 : FpT RX0 47 0 11 .int := ⟨RX0, TX0, 14, tyX0, rfl, wU_X0, by decide, wF_X0_47, tyX0_ok, nmX0, rfl, by decide +kernel⟩
theorem fF_X0_60 : FdT RX0 60 0 12 := ⟨RX0, TX0, 14, rfl, wU_X0, by decide, wF_X0_60⟩
theorem fP_X0_60 : FpT RX0 60 0 12 .int := ⟨RX0, TX0, 14, tyX0, rfl, wU_X0, by decide, wF_X0_60, tyX0_ok, nmX0, rfl, by decide +kernel⟩
theorem fF_X0_40 : FdT RX0 40 0 13 := ⟨RX0, TX0, 14, rfl, wU_X0, by decide, wF_X0_40⟩
theorem fP_X0_40 : FpT RX0 40 0 13 .boolean := ⟨RX0, TX0, 14, tyX0, rfl, wU_X0, by decide, wF_X0_40, tyX0_ok, nmX0, rfl, by decide +kernel⟩
theorem fF_X1_15 : FdT RX1 15 1 0 := ⟨RX1, TX1, 6, rfl, wU_X1, by decide, wF_X1_15⟩
theorem fP_X1_15 : FpT RX1 15 1 0 .boolean := ⟨RX1, TX1, 6, tyX1, rfl, wU_X1, by decide, wF_X1_15, tyX1_ok, nmX1, rfl, by decide +kernel⟩
theorem fF_X4_220 : FdT RX4 220 1 0 := ⟨RX1, TX1, 6, rfl, wU_X1, by decide, wF_X4_220⟩
theorem fP_X4_220 : FpT RX4 220 1 0 .boolean := ⟨RX1, TX1, 6, tyX1, rfl, wU_X1, by decide, wF_X4_220, tyX1_ok, nmX1, rfl, by decide +kernel⟩
theorem fF_X1_36 : FdT RX1 36 1 1 := ⟨RX1, TX1, 6, rfl, wU_X1, by decide, wF_X1_36⟩
theorem fP_X1_36 : FpT RX1 36 1 1 .int := ⟨RX1, TX1, 6, tyX1, rfl, wU_X1, by decide, wF_X1_36, tyX1_ok, nmX1, rfl, by decide +kernel⟩
theorem fF_X4_224 : FdT RX4 224 1 1 := ⟨RX1, TX1, 6, rfl, wU_X1, by decide, wF_X4_224⟩
theorem fP_X4_224 : FpT RX4 224 1 1 .int := ⟨RX1, TX1, 6, tyX1, rfl, wU_X1, by decide, wF_X4_224, tyX1_ok, nmX1, rfl, by decide +kernel⟩
theorem fF_X1_43 : FdT RX1 43 1 2 := ⟨RX1, TX1, 6, rfl, wU_X1, by decide, wF_X1_43⟩
theorem fP_X1_43 : FpT RX1 43 1 2 .int := ⟨RX1, TX1, 6, tyX1, rfl, wU_X1, by decide, wF_X1_43, tyX1_ok, nmX1, rfl, by decide +kernel⟩
theorem fF_X4_227 : FdT RX4 227 1 2 := ⟨RX1, TX1, 6, rfl, wU_X1, by decide, wF_X4_227⟩
theorem fP_X4_227 : FpT RX4 227 1 2 .int := ⟨RX1, TX1, 6, tyX1, rfl, wU_X1, by decide, wF_X4_227, tyX1_ok, nmX1, rfl, by decide +kernel⟩
theorem fF_X1_46 : FdT RX1 46 1 3 := ⟨RX1, TX1, 6, rfl, wU_X1, by decide, wF_X1_46⟩
theorem fP_X1_46 : FpT RX1 46 1 3 .int := ⟨RX1, TX1, 6, tyX1, rfl, wU_X1, by decide, wF_X1_46, tyX1_ok, nmX1, rfl, by decide +kernel⟩
theorem fF_X4_230 : FdT RX4 230 1 3 := ⟨RX1, TX1, 6, rfl, wU_X1, by decide, wF_X4_230⟩
theorem fP_X4_230 : FpT RX4 230 1 3 .int := ⟨RX1, TX1, 6, tyX1, rfl, wU_X1, by decide, wF_X4_230, tyX1_ok, nmX1, rfl, by decide +kernel⟩
theorem fF_X1_49 : FdT RX1 49 1 4 := ⟨RX1, TX1, 6, rfl, wU_X1, by decide, wF_X1_49⟩
theorem fP_X1_49 : FpT RX1 49 1 4 .int := ⟨RX1, TX1, 6, tyX1, rfl, wU_X1, by decide, wF_X1_49, tyX1_ok, nmX1, rfl, by decide +kernel⟩
theorem fF_X4_233 : FdT RX4 233 1 4 := ⟨RX1, TX1, 6, rfl, wU_X1, by decide, wF_X4_233⟩
theorem fP_X4_233 : FpT RX4 233 1 4 .int := ⟨RX1, TX1, 6, tyX1, rfl, wU_X1, by decide, wF_X4_233, tyX1_ok, nmX1, rfl, by decide +kernel⟩
theorem fF_X1_9 : FdT RX1 9 1 5 := ⟨RX1, TX1, 6, rfl, wU_X1, by decide, wF_X1_9⟩
theorem fF_X3_15 : FdT RX3 15 3 0 := ⟨RX3, TX3, 2, rfl, wU_X3, by decide, wF_X3_15⟩
theorem fP_X3_15 : FpT RX3 15 3 0 .int := ⟨RX3, TX3, 2, tyX3, rfl, wU_X3, by decide, wF_X3_15, tyX3_ok, nmX3, rfl, by decide +kernel⟩
theorem fF_X4_196 : FdT RX4 196 3 0 := ⟨RX3, TX3, 2, rfl, wU_X3, by decide, wF_X4_196⟩
theorem fP_X4_196 : FpT RX4 196 3 0 .int := ⟨RX3, TX3, 2, tyX3, rfl, wU_X3, by decide, wF_X4_196, tyX3_ok, nmX3, rfl, by decide +kernel⟩
theorem fF_X3_9 : FdT RX3 9 3 1 := ⟨RX3, TX3, 2, rfl, wU_X3, by decide, wF_X3_9⟩
theorem fF_X4_10 : FdT RX4 10 4 0 := ⟨RX4, TX4, 7, rfl, wU_X4, by decide, wF_X4_10⟩
theorem fF_X4_21 : FdT RX4 21 4 1 := ⟨RX4, TX4, 7, rfl, wU_X4, by decide, wF_X4_21⟩
theorem fF_X4_28 : FdT RX4 28 4 2 := ⟨RX4, TX4, 7, rfl, wU_X4, by decide, wF_X4_28⟩
theorem fF_X4_35 : FdT RX4 35 4 3 := ⟨RX4, TX4, 7, rfl, wU_X4, by decide, wF_X4_35⟩
theorem fF_X4_249 : FdT RX4 249 4 4 := ⟨RX4, TX4, 7, rfl, wU_X4, by decide, wF_X4_249⟩
theorem fP_X4_249 : FpT RX4 249 4 4 .int := ⟨RX4, TX4, 7, tyX4, rfl, wU_X4, by decide, wF_X4_249, tyX4_ok, nmX4, rfl, by decide +kernel⟩
theorem fF_X4_252 : FdT RX4 252 4 5 := ⟨RX4, TX4, 7, rfl, wU_X4, by decide, wF_X4_252⟩
theorem fP_X4_252 : FpT RX4 252 4 5 .int := ⟨RX4, TX4, 7, tyX4, rfl, wU_X4, by decide, wF_X4_252, tyX4_ok, nmX4, rfl, by decide +kernel⟩
theorem fF_X4_255 : FdT RX4 255 4 6 := ⟨RX4, TX4, 7, rfl, wU_X4, by decide, wF_X4_255⟩
theorem fP_X4_255 : FpT RX4 255 4 6 .int := ⟨RX4, TX4, 7, tyX4, rfl, wU_X4, by decide, wF_X4_255, tyX4_ok, nmX4, rfl, by decide +kernel⟩
theorem fF_X5_7 : FdT RX5 7 5 0 := ⟨RX5, TX5, 21, rfl, wU_X5, by decide, wF_X5_7⟩
theorem fF_X5_13 : FdT RX5 13 5 1 := ⟨RX5, TX5, 21, rfl, wU_X5, by decide, wF_X5_13⟩
theorem fF_X5_16 : FdT RX5 16 5 2 := ⟨RX5, TX5, 21, rfl, wU_X5, by decide, wF_X5_16⟩
theorem fF_X5_19 : FdT RX5 19 5 3 := ⟨RX5, TX5, 21, rfl, wU_X5, by decide, wF_X5_19⟩
theorem fF_X5_56 : FdT RX5 56 5 4 := ⟨RX5, TX5, 21, rfl, wU_X5, by decide, wF_X5_56⟩
theorem fP_X5_56 : FpT RX5 56 5 4 .int := ⟨RX5, TX5, 21, tyX5, rfl, wU_X5, by decide, wF_X5_56, tyX5_ok, nmX5, rfl, by decide +kernel⟩
theorem fF_X5_22 : FdT RX5 22 5 5 := ⟨RX5, TX5, 21, rfl, wU_X5, by decide, wF_X5_22⟩
theorem fF_X5_25 : FdT RX5 25 5 6 := ⟨RX5, TX5, 21, rfl, wU_X5, by decide, wF_X5_25⟩
theorem fP_X5_25 : FpT RX5 25 5 6 .int := ⟨RX5, TX5, 21, tyX5, rfl, wU_X5, by decide, wF_X5_25, tyX5_ok, nmX5, rfl, by decide +kernel⟩
theorem fF_X5_29 : FdT RX5 29 5 7 := ⟨RX5, TX5, 21, rfl, wU_X5, by decide, wF_X5_29⟩
theorem fF_X5_77 : FdT RX5 77 5 8 := ⟨RX5, TX5, 21, rfl, wU_X5, by decide, wF_X5_77⟩
theorem fP_X5_77 : FpT RX5 77 5 8 .int := ⟨RX5, TX5, 21, tyX5, rfl, wU_X5, by decide, wF_X5_77, tyX5_ok, nmX5, rfl, by decide +kernel⟩
theorem fF_X5_32 : FdT RX5 32 5 9 := ⟨RX5, TX5, 21, rfl, wU_X5, by decide, wF_X5_32⟩
theorem fF_X5_67 : FdT RX5 67 5 10 := ⟨RX5, TX5, 21, rfl, wU_X5, by decide, wF_X5_67⟩
theorem fP_X5_67 : FpT RX5 67 5 10 .int := ⟨RX5, TX5, 21, tyX5, rfl, wU_X5, by decide, wF_X5_67, tyX5_ok, nmX5, rfl, by decide +kernel⟩
theorem fF_X5_35 : FdT RX5 35 5 11 := ⟨RX5, TX5, 21, rfl, wU_X5, by decide, wF_X5_35⟩
theorem fF_X5_38 : FdT RX5 38 5 12 := ⟨RX5, TX5, 21, rfl, wU_X5, by decide, wF_X5_38⟩
theorem fF_X5_41 : FdT RX5 41 5 13 := ⟨RX5, TX5, 21, rfl, wU_X5, by decide, wF_X5_41⟩
theorem fF_X5_44 : FdT RX5 44 5 14 := ⟨RX5, TX5, 21, rfl, wU_X5, by decide, wF_X5_44⟩
theorem fF_X5_47 : FdT RX5 47 5 15 := ⟨RX5, TX5, 21, rfl, wU_X5, by decide, wF_X5_47⟩
theorem fF_X5_50 : FdT RX5 50 5 16 := ⟨RX5, TX5, 21, rfl, wU_X5, by decide, wF_X5_50⟩
theorem fF_X5_161 : FdT RX5 161 5 17 := ⟨RX5, TX5, 21, rfl, wU_X5, by decide, wF_X5_161⟩
theorem fP_X5_161 : FpT RX5 161 5 17 .int := ⟨RX5, TX5, 21, tyX5, rfl, wU_X5, by decide, wF_X5_161, tyX5_ok, nmX5, rfl, by decide +kernel⟩
theorem fF_X5_164 : FdT RX5 164 5 18 := ⟨RX5, TX5, 21, rfl, wU_X5, by decide, wF_X5_164⟩
theorem fP_X5_164 : FpT RX5 164 5 18 .int := ⟨RX5, TX5, 21, tyX5, rfl, wU_X5, by decide, wF_X5_164, tyX5_ok, nmX5, rfl, by decide +kernel⟩
theorem fF_X5_167 : FdT RX5 167 5 19 := ⟨RX5, TX5, 21, rfl, wU_X5, by decide, wF_X5_167⟩
theorem fP_X5_167 : FpT RX5 167 5 19 .int := ⟨RX5, TX5, 21, tyX5, rfl, wU_X5, by decide, wF_X5_167, tyX5_ok, nmX5, rfl, by decide +kernel⟩
theorem fF_X5_53 : FdT RX5 53 5 20 := ⟨RX5, TX5, 21, rfl, wU_X5, by decide, wF_X5_53⟩
theorem cv_X2_resetLimits : CvT yX2_resetLimits cX2_resetLimits 1 none 0 := ⟨wI_yX2_resetLimits, wS_yX2_resetLimits, wN_X2, wC_yX2_resetLimits, by decide +kernel, by decide⟩
theorem cs_J7_fill_53178 : CsT yJ7_fill_53178 cJ7_fill_53178 4 none 2 := ⟨wT_yJ7_fill_53178, wN_J7, wC_yJ7_fill_53178, by decide +kernel, by decide⟩
theorem cv_X4_house : CvT yX4_house cX4_house 4 (some .int) 3 := ⟨wI_yX4_house, wS_yX4_house, wN_X4, wC_yX4_house, by decide +kernel, by decide⟩
theorem cs_X4_isSort : CsT yX4_isSort cX4_isSort 1 (some .boolean) 1 := ⟨wT_yX4_isSort, wN_X4, wC_yX4_isSort, by decide +kernel, by decide⟩
theorem cs_X4_isIn : CsT yX4_isIn cX4_isIn 3 (some .boolean) 3 := ⟨wT_yX4_isIn, wN_X4, wC_yX4_isIn, by decide +kernel, by decide⟩
theorem cs_X4_isSize : CsT yX4_isSize cX4_isSize 1 (some .boolean) 1 := ⟨wT_yX4_isSize, wN_X4, wC_yX4_isSize, by decide +kernel, by decide⟩
theorem cs_X4_isPhase : CsT yX4_isPhase cX4_isPhase 1 (some .boolean) 1 := ⟨wT_yX4_isPhase, wN_X4, wC_yX4_isPhase, by decide +kernel, by decide⟩
theorem cv_X4_refuse : CvT yX4_refuse cX4_refuse 2 (some .int) 1 := ⟨wI_yX4_refuse, wS_yX4_refuse, wN_X4, wC_yX4_refuse, by decide +kernel, by decide⟩
theorem cv_X4_streetChanges : CvT yX4_streetChanges cX4_streetChanges 1 none 0 := ⟨wI_yX4_streetChanges, wS_yX4_streetChanges, wN_X4, wC_yX4_streetChanges, by decide +kernel, by decide⟩
theorem cv_X0_forget : CvT yX0_forget cX0_forget 1 none 0 := ⟨wI_yX0_forget, wS_yX0_forget, wN_X0, wC_yX0_forget, by decide +kernel, by decide⟩
theorem cv_X2_addHouse : CvT yX2_addHouse cX2_addHouse 5 (some .int) 3 := ⟨wI_yX2_addHouse, wS_yX2_addHouse, wN_X2, wC_yX2_addHouse, by decide +kernel, by decide⟩
theorem cv_X2_addLoads : CvT yX2_addLoads cX2_addLoads 4 none 2 := ⟨wI_yX2_addLoads, wS_yX2_addLoads, wN_X2, wC_yX2_addLoads, by decide +kernel, by decide⟩
theorem cv_X2_takenBy : CvT yX2_takenBy cX2_takenBy 3 (some .int) 2 := ⟨wI_yX2_takenBy, wS_yX2_takenBy, wN_X2, wC_yX2_takenBy, by decide +kernel, by decide⟩
theorem cv_X4_sets : CvT yX4_sets cX4_sets 4 (some .int) 3 := ⟨wI_yX4_sets, wS_yX4_sets, wN_X4, wC_yX4_sets, by decide +kernel, by decide⟩
theorem cv_X4_isHouse : CvT yX4_isHouse cX4_isHouse 2 (some .boolean) 1 := ⟨wI_yX4_isHouse, wS_yX4_isHouse, wN_X4, wC_yX4_isHouse, by decide +kernel, by decide⟩
theorem cs_X4_isSetting : CsT yX4_isSetting cX4_isSetting 2 (some .boolean) 2 := ⟨wT_yX4_isSetting, wN_X4, wC_yX4_isSetting, by decide +kernel, by decide⟩
theorem cv_X2_setHouse : CvT yX2_setHouse cX2_setHouse 6 (some .int) 3 := ⟨wI_yX2_setHouse, wS_yX2_setHouse, wN_X2, wC_yX2_setHouse, by decide +kernel, by decide⟩
theorem cv_X4_weight : CvT yX4_weight cX4_weight 4 (some .int) 2 := ⟨wI_yX4_weight, wS_yX4_weight, wN_X4, wC_yX4_weight, by decide +kernel, by decide⟩
theorem cs_X4_isHour : CsT yX4_isHour cX4_isHour 1 (some .boolean) 1 := ⟨wT_yX4_isHour, wN_X4, wC_yX4_isHour, by decide +kernel, by decide⟩
theorem cv_X4_fuse : CvT yX4_fuse cX4_fuse 3 (some .int) 1 := ⟨wI_yX4_fuse, wS_yX4_fuse, wN_X4, wC_yX4_fuse, by decide +kernel, by decide⟩
theorem cv_X4_tie : CvT yX4_tie cX4_tie 3 (some .int) 2 := ⟨wI_yX4_tie, wS_yX4_tie, wN_X4, wC_yX4_tie, by decide +kernel, by decide⟩
theorem cv_X4_areTwoHouses : CvT yX4_areTwoHouses cX4_areTwoHouses 3 (some .boolean) 2 := ⟨wI_yX4_areTwoHouses, wS_yX4_areTwoHouses, wN_X4, wC_yX4_areTwoHouses, by decide +kernel, by decide⟩
theorem cv_X2_addPair : CvT yX2_addPair cX2_addPair 6 none 2 := ⟨wI_yX2_addPair, wS_yX2_addPair, wN_X2, wC_yX2_addPair, by decide +kernel, by decide⟩
theorem cv_X4_loosens : CvT yX4_loosens cX4_loosens 2 (some .int) 0 := ⟨wI_yX4_loosens, wS_yX4_loosens, wN_X4, wC_yX4_loosens, by decide +kernel, by decide⟩
theorem cv_X2_dropPairs : CvT yX2_dropPairs cX2_dropPairs 2 none 0 := ⟨wI_yX2_dropPairs, wS_yX2_dropPairs, wN_X2, wC_yX2_dropPairs, by decide +kernel, by decide⟩
theorem cv_X4_anew : CvT yX4_anew cX4_anew 2 (some .int) 0 := ⟨wI_yX4_anew, wS_yX4_anew, wN_X4, wC_yX4_anew, by decide +kernel, by decide⟩
theorem cv_X2_dropHouses : CvT yX2_dropHouses cX2_dropHouses 1 none 0 := ⟨wI_yX2_dropHouses, wS_yX2_dropHouses, wN_X2, wC_yX2_dropHouses, by decide +kernel, by decide⟩
theorem cv_X4_draw : CvT yX4_draw cX4_draw 6 (some .int) 2 := ⟨wI_yX4_draw, wS_yX4_draw, wN_X4, wC_yX4_draw, by decide +kernel, by decide⟩
theorem cv_X4_of : CvT yX4_of cX4_of 3 (some .int) 2 := ⟨wI_yX4_of, wS_yX4_of, wN_X4, wC_yX4_of, by decide +kernel, by decide⟩
theorem cv_X4_takes : CvT yX4_takes cX4_takes 3 (some .int) 2 := ⟨wI_yX4_takes, wS_yX4_takes, wN_X4, wC_yX4_takes, by decide +kernel, by decide⟩
theorem cv_X4_load : CvT yX4_load cX4_load 3 (some .int) 2 := ⟨wI_yX4_load, wS_yX4_load, wN_X4, wC_yX4_load, by decide +kernel, by decide⟩
theorem cv_X2_loadOf : CvT yX2_loadOf cX2_loadOf 3 (some .int) 2 := ⟨wI_yX2_loadOf, wS_yX2_loadOf, wN_X2, wC_yX2_loadOf, by decide +kernel, by decide⟩
theorem cv_X4_neutral : CvT yX4_neutral cX4_neutral 2 (some .int) 1 := ⟨wI_yX4_neutral, wS_yX4_neutral, wN_X4, wC_yX4_neutral, by decide +kernel, by decide⟩
theorem cv_X2_neutralOf : CvT yX2_neutralOf cX2_neutralOf 5 (some .int) 1 := ⟨wI_yX2_neutralOf, wS_yX2_neutralOf, wN_X2, wC_yX2_neutralOf, by decide +kernel, by decide⟩
theorem cv_X4_grief : CvT yX4_grief cX4_grief 1 (some .int) 0 := ⟨wI_yX4_grief, wS_yX4_grief, wN_X4, wC_yX4_grief, by decide +kernel, by decide⟩
theorem cv_X2_griefNow : CvT yX2_griefNow cX2_griefNow 3 (some .int) 0 := ⟨wI_yX2_griefNow, wS_yX2_griefNow, wN_X2, wC_yX2_griefNow, by decide +kernel, by decide⟩
theorem cv_X4_good : CvT yX4_good cX4_good 2 (some .int) 1 := ⟨wI_yX4_good, wS_yX4_good, wN_X4, wC_yX4_good, by decide +kernel, by decide⟩
theorem cv_X2_isSafe : CvT yX2_isSafe cX2_isSafe 2 (some .boolean) 0 := ⟨wI_yX2_isSafe, wS_yX2_isSafe, wN_X2, wC_yX2_isSafe, by decide +kernel, by decide⟩
theorem cv_X2_keepsTies : CvT yX2_keepsTies cX2_keepsTies 2 (some .boolean) 0 := ⟨wI_yX2_keepsTies, wS_yX2_keepsTies, wN_X2, wC_yX2_keepsTies, by decide +kernel, by decide⟩
theorem cv_X4_worst : CvT yX4_worst cX4_worst 2 (some .int) 1 := ⟨wI_yX4_worst, wS_yX4_worst, wN_X4, wC_yX4_worst, by decide +kernel, by decide⟩
theorem cv_X2_hourOfGreatestNeutral : CvT yX2_hourOfGreatestNeutral cX2_hourOfGreatestNeutral 3 (some .int) 0 := ⟨wI_yX2_hourOfGreatestNeutral, wS_yX2_hourOfGreatestNeutral, wN_X2, wC_yX2_hourOfGreatestNeutral, by decide +kernel, by decide⟩
theorem cv_X2_greatestLoad : CvT yX2_greatestLoad cX2_greatestLoad 4 (some .int) 0 := ⟨wI_yX2_greatestLoad, wS_yX2_greatestLoad, wN_X2, wC_yX2_greatestLoad, by decide +kernel, by decide⟩
theorem cv_X4_change : CvT yX4_change cX4_change 4 (some .int) 2 := ⟨wI_yX4_change, wS_yX4_change, wN_X4, wC_yX4_change, by decide +kernel, by decide⟩
theorem cv_X4_phasesChange : CvT yX4_phasesChange cX4_phasesChange 1 none 0 := ⟨wI_yX4_phasesChange, wS_yX4_phasesChange, wN_X4, wC_yX4_phasesChange, by decide +kernel, by decide⟩
theorem cv_X2_packedPhases : CvT yX2_packedPhases cX2_packedPhases 1 (some .int) 0 := ⟨wI_yX2_packedPhases, wS_yX2_packedPhases, wN_X2, wC_yX2_packedPhases, by decide +kernel, by decide⟩
theorem cs_X4_pack : CsT yX4_pack cX4_pack 4 (some .int) 2 := ⟨wT_yX4_pack, wN_X4, wC_yX4_pack, by decide +kernel, by decide⟩
theorem cv_X3_keep : CvT yX3_keep cX3_keep 2 none 1 := ⟨wI_yX3_keep, wS_yX3_keep, wN_X3, wC_yX3_keep, by decide +kernel, by decide⟩
theorem cv_X2_setPhase : CvT yX2_setPhase cX2_setPhase 3 none 2 := ⟨wI_yX2_setPhase, wS_yX2_setPhase, wN_X2, wC_yX2_setPhase, by decide +kernel, by decide⟩
theorem cv_X4_swap : CvT yX4_swap cX4_swap 3 (some .int) 2 := ⟨wI_yX4_swap, wS_yX4_swap, wN_X4, wC_yX4_swap, by decide +kernel, by decide⟩
theorem cv_X2_swapPhases : CvT yX2_swapPhases cX2_swapPhases 4 none 2 := ⟨wI_yX2_swapPhases, wS_yX2_swapPhases, wN_X2, wC_yX2_swapPhases, by decide +kernel, by decide⟩
theorem cv_X4_step : CvT yX4_step cX4_step 1 (some .int) 0 := ⟨wI_yX4_step, wS_yX4_step, wN_X4, wC_yX4_step, by decide +kernel, by decide⟩
theorem cv_X1_find : CvT yX1_find cX1_find 2 none 0 := ⟨wI_yX1_find, wS_yX1_find, wN_X1, wC_yX1_find, by decide +kernel, by decide⟩
theorem cv_X1_isFree : CvT yX1_isFree cX1_isFree 2 (some .boolean) 1 := ⟨wI_yX1_isFree, wS_yX1_isFree, wN_X1, wC_yX1_isFree, by decide +kernel, by decide⟩
theorem cv_X2_isTied : CvT yX2_isTied cX2_isTied 3 (some .boolean) 1 := ⟨wI_yX2_isTied, wS_yX2_isTied, wN_X2, wC_yX2_isTied, by decide +kernel, by decide⟩
theorem cv_X1_tryChanges : CvT yX1_tryChanges cX1_tryChanges 4 none 1 := ⟨wI_yX1_tryChanges, wS_yX1_tryChanges, wN_X1, wC_yX1_tryChanges, by decide +kernel, by decide⟩
theorem cv_X1_compare : CvT yX1_compare cX1_compare 5 none 3 := ⟨wI_yX1_compare, wS_yX1_compare, wN_X1, wC_yX1_compare, by decide +kernel, by decide⟩
theorem cv_X1_trySwaps : CvT yX1_trySwaps cX1_trySwaps 3 none 1 := ⟨wI_yX1_trySwaps, wS_yX1_trySwaps, wN_X1, wC_yX1_trySwaps, by decide +kernel, by decide⟩
theorem cv_X1_lessens : CvT yX1_lessens cX1_lessens 1 (some .boolean) 0 := ⟨wI_yX1_lessens, wS_yX1_lessens, wN_X1, wC_yX1_lessens, by decide +kernel, by decide⟩
theorem cv_X1_take : CvT yX1_take cX1_take 1 none 0 := ⟨wI_yX1_take, wS_yX1_take, wN_X1, wC_yX1_take, by decide +kernel, by decide⟩
theorem cv_X4_down : CvT yX4_down cX4_down 2 (some .int) 0 := ⟨wI_yX4_down, wS_yX4_down, wN_X4, wC_yX4_down, by decide +kernel, by decide⟩
theorem cv_X4_lay : CvT yX4_lay cX4_lay 3 (some .int) 0 := ⟨wI_yX4_lay, wS_yX4_lay, wN_X4, wC_yX4_lay, by decide +kernel, by decide⟩
theorem cv_X0_changesOfBest : CvT yX0_changesOfBest cX0_changesOfBest 4 (some .int) 1 := ⟨wI_yX0_changesOfBest, wS_yX0_changesOfBest, wN_X0, wC_yX0_changesOfBest, by decide +kernel, by decide⟩
theorem cv_X0_findAll : CvT yX0_findAll cX0_findAll 1 none 0 := ⟨wI_yX0_findAll, wS_yX0_findAll, wN_X0, wC_yX0_findAll, by decide +kernel, by decide⟩
theorem cv_X0_readTakings : CvT yX0_readTakings cX0_readTakings 3 none 0 := ⟨wI_yX0_readTakings, wS_yX0_readTakings, wN_X0, wC_yX0_readTakings, by decide +kernel, by decide⟩
theorem cv_X0_findTightHours : CvT yX0_findTightHours cX0_findTightHours 5 none 0 := ⟨wI_yX0_findTightHours, wS_yX0_findTightHours, wN_X0, wC_yX0_findTightHours, by decide +kernel, by decide⟩
theorem cv_X0_multiplyTakings : CvT yX0_multiplyTakings cX0_multiplyTakings 3 none 0 := ⟨wI_yX0_multiplyTakings, wS_yX0_multiplyTakings, wN_X0, wC_yX0_multiplyTakings, by decide +kernel, by decide⟩
theorem cv_X0_product : CvT yX0_product cX0_product 5 (some .int) 2 := ⟨wI_yX0_product, wS_yX0_product, wN_X0, wC_yX0_product, by decide +kernel, by decide⟩
theorem cv_X0_griefApart : CvT yX0_griefApart cX0_griefApart 4 (some .int) 0 := ⟨wI_yX0_griefApart, wS_yX0_griefApart, wN_X0, wC_yX0_griefApart, by decide +kernel, by decide⟩
theorem cv_X0_place : CvT yX0_place cX0_place 5 none 3 := ⟨wI_yX0_place, wS_yX0_place, wN_X0, wC_yX0_place, by decide +kernel, by decide⟩
theorem cv_X0_count : CvT yX0_count cX0_count 3 none 2 := ⟨wI_yX0_count, wS_yX0_count, wN_X0, wC_yX0_count, by decide +kernel, by decide⟩
theorem cv_X0_isLaidSafe : CvT yX0_isLaidSafe cX0_isLaidSafe 3 (some .boolean) 0 := ⟨wI_yX0_isLaidSafe, wS_yX0_isLaidSafe, wN_X0, wC_yX0_isLaidSafe, by decide +kernel, by decide⟩
theorem cv_X0_meetEarlier : CvT yX0_meetEarlier cX0_meetEarlier 4 none 1 := ⟨wI_yX0_meetEarlier, wS_yX0_meetEarlier, wN_X0, wC_yX0_meetEarlier, by decide +kernel, by decide⟩
theorem cv_X0_mayLie : CvT yX0_mayLie cX0_mayLie 4 (some .boolean) 2 := ⟨wI_yX0_mayLie, wS_yX0_mayLie, wN_X0, wC_yX0_mayLie, by decide +kernel, by decide⟩
theorem cv_X0_addLoads : CvT yX0_addLoads cX0_addLoads 6 none 3 := ⟨wI_yX0_addLoads, wS_yX0_addLoads, wN_X0, wC_yX0_addLoads, by decide +kernel, by decide⟩
theorem cv_X2_layPacked : CvT yX2_layPacked cX2_layPacked 3 none 1 := ⟨wI_yX2_layPacked, wS_yX2_layPacked, wN_X2, wC_yX2_layPacked, by decide +kernel, by decide⟩
theorem cs_X4_phaseIn : CsT yX4_phaseIn cX4_phaseIn 2 (some .int) 2 := ⟨wT_yX4_phaseIn, wN_X4, wC_yX4_phaseIn, by decide +kernel, by decide⟩
theorem cv_X4_undo : CvT yX4_undo cX4_undo 1 (some .int) 0 := ⟨wI_yX4_undo, wS_yX4_undo, wN_X4, wC_yX4_undo, by decide +kernel, by decide⟩
theorem cv_X3_takeLast : CvT yX3_takeLast cX3_takeLast 1 (some .int) 0 := ⟨wI_yX3_takeLast, wS_yX3_takeLast, wN_X3, wC_yX3_takeLast, by decide +kernel, by decide⟩
theorem cv_X4_best : CvT yX4_best cX4_best 3 (some .int) 1 := ⟨wI_yX4_best, wS_yX4_best, wN_X4, wC_yX4_best, by decide +kernel, by decide⟩
theorem cv_X4_phase : CvT yX4_phase cX4_phase 3 (some .int) 1 := ⟨wI_yX4_phase, wS_yX4_phase, wN_X4, wC_yX4_phase, by decide +kernel, by decide⟩
theorem cv_X4_by : CvT yX4_by cX4_by 3 (some .int) 1 := ⟨wI_yX4_by, wS_yX4_by, wN_X4, wC_yX4_by, by decide +kernel, by decide⟩
theorem cv_X4_fewest : CvT yX4_fewest cX4_fewest 2 (some .int) 1 := ⟨wI_yX4_fewest, wS_yX4_fewest, wN_X4, wC_yX4_fewest, by decide +kernel, by decide⟩
theorem cv_X0_fewestChangesFor : CvT yX0_fewestChangesFor cX0_fewestChangesFor 3 (some .int) 1 := ⟨wI_yX0_fewestChangesFor, wS_yX0_fewestChangesFor, wN_X0, wC_yX0_fewestChangesFor, by decide +kernel, by decide⟩
theorem cv_X4_many : CvT yX4_many cX4_many 1 (some .int) 0 := ⟨wI_yX4_many, wS_yX4_many, wN_X4, wC_yX4_many, by decide +kernel, by decide⟩
theorem cv_X0_countAll : CvT yX0_countAll cX0_countAll 1 (some .int) 0 := ⟨wI_yX0_countAll, wS_yX0_countAll, wN_X0, wC_yX0_countAll, by decide +kernel, by decide⟩
theorem cv_X4_next : CvT yX4_next cX4_next 2 (some .int) 1 := ⟨wI_yX4_next, wS_yX4_next, wN_X4, wC_yX4_next, by decide +kernel, by decide⟩
theorem cv_X4_told : CvT yX4_told cX4_told 2 (some .int) 1 := ⟨wI_yX4_told, wS_yX4_told, wN_X4, wC_yX4_told, by decide +kernel, by decide⟩
theorem cv_X4_toldOf : CvT yX4_toldOf cX4_toldOf 2 (some .int) 1 := ⟨wI_yX4_toldOf, wS_yX4_toldOf, wN_X4, wC_yX4_toldOf, by decide +kernel, by decide⟩
theorem cv_X2_fixedBits : CvT yX2_fixedBits cX2_fixedBits 3 (some .int) 0 := ⟨wI_yX2_fixedBits, wS_yX2_fixedBits, wN_X2, wC_yX2_fixedBits, by decide +kernel, by decide⟩
theorem cv_X4_digest : CvT yX4_digest cX4_digest 4 (some .long) 0 := ⟨wI_yX4_digest, wS_yX4_digest, wN_X4, wC_yX4_digest, by decide +kernel, by decide⟩
theorem cv_X5_house : CvT yX5_house cX5_house 4 (some .int) 3 := ⟨wI_yX5_house, wS_yX5_house, wN_X5, wC_yX5_house, by decide +kernel, by decide⟩
theorem cs_X5_in : CsT yX5_in cX5_in 3 (some .boolean) 3 := ⟨wT_yX5_in, wN_X5, wC_yX5_in, by decide +kernel, by decide⟩
theorem cv_X5_refuses : CvT yX5_refuses cX5_refuses 2 (some .int) 1 := ⟨wI_yX5_refuses, wS_yX5_refuses, wN_X5, wC_yX5_refuses, by decide +kernel, by decide⟩
theorem cv_X5_sets : CvT yX5_sets cX5_sets 5 (some .int) 3 := ⟨wI_yX5_sets, wS_yX5_sets, wN_X5, wC_yX5_sets, by decide +kernel, by decide⟩
theorem cv_X5_isHouse : CvT yX5_isHouse cX5_isHouse 2 (some .boolean) 1 := ⟨wI_yX5_isHouse, wS_yX5_isHouse, wN_X5, wC_yX5_isHouse, by decide +kernel, by decide⟩
theorem cv_X5_weight : CvT yX5_weight cX5_weight 4 (some .int) 2 := ⟨wI_yX5_weight, wS_yX5_weight, wN_X5, wC_yX5_weight, by decide +kernel, by decide⟩
theorem cs_X5_isHour : CsT yX5_isHour cX5_isHour 1 (some .boolean) 1 := ⟨wT_yX5_isHour, wN_X5, wC_yX5_isHour, by decide +kernel, by decide⟩
theorem cv_X5_fuse : CvT yX5_fuse cX5_fuse 3 (some .int) 1 := ⟨wI_yX5_fuse, wS_yX5_fuse, wN_X5, wC_yX5_fuse, by decide +kernel, by decide⟩
theorem cv_X5_tie : CvT yX5_tie cX5_tie 3 (some .int) 2 := ⟨wI_yX5_tie, wS_yX5_tie, wN_X5, wC_yX5_tie, by decide +kernel, by decide⟩
theorem cv_X5_leastOf : CvT yX5_leastOf cX5_leastOf 6 (some .int) 1 := ⟨wI_yX5_leastOf, wS_yX5_leastOf, wN_X5, wC_yX5_leastOf, by decide +kernel, by decide⟩
theorem cv_X5_loosens : CvT yX5_loosens cX5_loosens 2 (some .int) 0 := ⟨wI_yX5_loosens, wS_yX5_loosens, wN_X5, wC_yX5_loosens, by decide +kernel, by decide⟩
theorem cv_X5_anew : CvT yX5_anew cX5_anew 3 (some .int) 0 := ⟨wI_yX5_anew, wS_yX5_anew, wN_X5, wC_yX5_anew, by decide +kernel, by decide⟩
theorem cv_X5_draw : CvT yX5_draw cX5_draw 6 (some .int) 2 := ⟨wI_yX5_draw, wS_yX5_draw, wN_X5, wC_yX5_draw, by decide +kernel, by decide⟩
theorem cv_X5_of : CvT yX5_of cX5_of 3 (some .int) 2 := ⟨wI_yX5_of, wS_yX5_of, wN_X5, wC_yX5_of, by decide +kernel, by decide⟩
theorem cv_X5_takes : CvT yX5_takes cX5_takes 3 (some .int) 2 := ⟨wI_yX5_takes, wS_yX5_takes, wN_X5, wC_yX5_takes, by decide +kernel, by decide⟩
theorem cv_X5_takesOf : CvT yX5_takesOf cX5_takesOf 5 (some .int) 2 := ⟨wI_yX5_takesOf, wS_yX5_takesOf, wN_X5, wC_yX5_takesOf, by decide +kernel, by decide⟩
theorem cv_X5_load : CvT yX5_load cX5_load 3 (some .int) 2 := ⟨wI_yX5_load, wS_yX5_load, wN_X5, wC_yX5_load, by decide +kernel, by decide⟩
theorem cv_X5_asIs : CvT yX5_asIs cX5_asIs 2 none 0 := ⟨wI_yX5_asIs, wS_yX5_asIs, wN_X5, wC_yX5_asIs, by decide +kernel, by decide⟩
theorem cv_X5_table : CvT yX5_table cX5_table 3 none 0 := ⟨wI_yX5_table, wS_yX5_table, wN_X5, wC_yX5_table, by decide +kernel, by decide⟩
theorem cv_X5_loadsNow : CvT yX5_loadsNow cX5_loadsNow 3 none 0 := ⟨wI_yX5_loadsNow, wS_yX5_loadsNow, wN_X5, wC_yX5_loadsNow, by decide +kernel, by decide⟩
theorem cv_X5_neutral : CvT yX5_neutral cX5_neutral 2 (some .int) 1 := ⟨wI_yX5_neutral, wS_yX5_neutral, wN_X5, wC_yX5_neutral, by decide +kernel, by decide⟩
theorem cv_X5_neutralNow : CvT yX5_neutralNow cX5_neutralNow 5 (some .int) 1 := ⟨wI_yX5_neutralNow, wS_yX5_neutralNow, wN_X5, wC_yX5_neutralNow, by decide +kernel, by decide⟩
theorem cv_X5_grief : CvT yX5_grief cX5_grief 1 (some .int) 0 := ⟨wI_yX5_grief, wS_yX5_grief, wN_X5, wC_yX5_grief, by decide +kernel, by decide⟩
theorem cv_X5_griefOf : CvT yX5_griefOf cX5_griefOf 1 (some .int) 0 := ⟨wI_yX5_griefOf, wS_yX5_griefOf, wN_X5, wC_yX5_griefOf, by decide +kernel, by decide⟩
theorem cv_X5_griefNow : CvT yX5_griefNow cX5_griefNow 3 (some .int) 0 := ⟨wI_yX5_griefNow, wS_yX5_griefNow, wN_X5, wC_yX5_griefNow, by decide +kernel, by decide⟩
theorem cv_X5_good : CvT yX5_good cX5_good 2 (some .int) 1 := ⟨wI_yX5_good, wS_yX5_good, wN_X5, wC_yX5_good, by decide +kernel, by decide⟩
theorem cv_X5_isSafe : CvT yX5_isSafe cX5_isSafe 3 (some .boolean) 0 := ⟨wI_yX5_isSafe, wS_yX5_isSafe, wN_X5, wC_yX5_isSafe, by decide +kernel, by decide⟩
theorem cv_X5_isKept : CvT yX5_isKept cX5_isKept 3 (some .boolean) 0 := ⟨wI_yX5_isKept, wS_yX5_isKept, wN_X5, wC_yX5_isKept, by decide +kernel, by decide⟩
theorem cv_X5_worst : CvT yX5_worst cX5_worst 5 (some .int) 1 := ⟨wI_yX5_worst, wS_yX5_worst, wN_X5, wC_yX5_worst, by decide +kernel, by decide⟩
theorem cs_X5_size : CsT yX5_size cX5_size 1 (some .int) 1 := ⟨wT_yX5_size, wN_X5, wC_yX5_size, by decide +kernel, by decide⟩
theorem cv_X5_change : CvT yX5_change cX5_change 4 (some .int) 2 := ⟨wI_yX5_change, wS_yX5_change, wN_X5, wC_yX5_change, by decide +kernel, by decide⟩
theorem cv_X5_keeps : CvT yX5_keeps cX5_keeps 2 none 0 := ⟨wI_yX5_keeps, wS_yX5_keeps, wN_X5, wC_yX5_keeps, by decide +kernel, by decide⟩
theorem cv_X5_swap : CvT yX5_swap cX5_swap 3 (some .int) 2 := ⟨wI_yX5_swap, wS_yX5_swap, wN_X5, wC_yX5_swap, by decide +kernel, by decide⟩
theorem cv_X5_swaps : CvT yX5_swaps cX5_swaps 4 none 2 := ⟨wI_yX5_swaps, wS_yX5_swaps, wN_X5, wC_yX5_swaps, by decide +kernel, by decide⟩
theorem cv_X5_step : CvT yX5_step cX5_step 1 (some .int) 0 := ⟨wI_yX5_step, wS_yX5_step, wN_X5, wC_yX5_step, by decide +kernel, by decide⟩
theorem cv_X5_lessens : CvT yX5_lessens cX5_lessens 1 (some .boolean) 0 := ⟨wI_yX5_lessens, wS_yX5_lessens, wN_X5, wC_yX5_lessens, by decide +kernel, by decide⟩
theorem cv_X5_finds : CvT yX5_finds cX5_finds 3 (some .boolean) 0 := ⟨wI_yX5_finds, wS_yX5_finds, wN_X5, wC_yX5_finds, by decide +kernel, by decide⟩
theorem cv_X5_isFree : CvT yX5_isFree cX5_isFree 2 (some .boolean) 1 := ⟨wI_yX5_isFree, wS_yX5_isFree, wN_X5, wC_yX5_isFree, by decide +kernel, by decide⟩
theorem cv_X5_isTied : CvT yX5_isTied cX5_isTied 4 (some .boolean) 1 := ⟨wI_yX5_isTied, wS_yX5_isTied, wN_X5, wC_yX5_isTied, by decide +kernel, by decide⟩
theorem cv_X5_looks : CvT yX5_looks cX5_looks 5 none 3 := ⟨wI_yX5_looks, wS_yX5_looks, wN_X5, wC_yX5_looks, by decide +kernel, by decide⟩
theorem cv_X5_steps : CvT yX5_steps cX5_steps 1 none 0 := ⟨wI_yX5_steps, wS_yX5_steps, wN_X5, wC_yX5_steps, by decide +kernel, by decide⟩
theorem cv_X5_down : CvT yX5_down cX5_down 2 (some .int) 0 := ⟨wI_yX5_down, wS_yX5_down, wN_X5, wC_yX5_down, by decide +kernel, by decide⟩
theorem cv_X5_undo : CvT yX5_undo cX5_undo 2 (some .int) 0 := ⟨wI_yX5_undo, wS_yX5_undo, wN_X5, wC_yX5_undo, by decide +kernel, by decide⟩
theorem cv_X5_lay : CvT yX5_lay cX5_lay 3 (some .int) 0 := ⟨wI_yX5_lay, wS_yX5_lay, wN_X5, wC_yX5_lay, by decide +kernel, by decide⟩
theorem cv_X5_goes : CvT yX5_goes cX5_goes 3 none 0 := ⟨wI_yX5_goes, wS_yX5_goes, wN_X5, wC_yX5_goes, by decide +kernel, by decide⟩
theorem cv_X5_meets : CvT yX5_meets cX5_meets 4 none 0 := ⟨wI_yX5_meets, wS_yX5_meets, wN_X5, wC_yX5_meets, by decide +kernel, by decide⟩
theorem cv_X5_bestBy : CvT yX5_bestBy cX5_bestBy 4 (some .int) 1 := ⟨wI_yX5_bestBy, wS_yX5_bestBy, wN_X5, wC_yX5_bestBy, by decide +kernel, by decide⟩
theorem cv_X5_best : CvT yX5_best cX5_best 3 (some .int) 1 := ⟨wI_yX5_best, wS_yX5_best, wN_X5, wC_yX5_best, by decide +kernel, by decide⟩
theorem cv_X5_phase : CvT yX5_phase cX5_phase 3 (some .int) 1 := ⟨wI_yX5_phase, wS_yX5_phase, wN_X5, wC_yX5_phase, by decide +kernel, by decide⟩
theorem cv_X5_by : CvT yX5_by cX5_by 3 (some .int) 1 := ⟨wI_yX5_by, wS_yX5_by, wN_X5, wC_yX5_by, by decide +kernel, by decide⟩
theorem cv_X5_fewest : CvT yX5_fewest cX5_fewest 3 (some .int) 1 := ⟨wI_yX5_fewest, wS_yX5_fewest, wN_X5, wC_yX5_fewest, by decide +kernel, by decide⟩
theorem cv_X5_many : CvT yX5_many cX5_many 1 (some .int) 0 := ⟨wI_yX5_many, wS_yX5_many, wN_X5, wC_yX5_many, by decide +kernel, by decide⟩
theorem cv_X5_next : CvT yX5_next cX5_next 2 (some .int) 1 := ⟨wI_yX5_next, wS_yX5_next, wN_X5, wC_yX5_next, by decide +kernel, by decide⟩
theorem cv_X5_told : CvT yX5_told cX5_told 2 (some .int) 1 := ⟨wI_yX5_told, wS_yX5_told, wN_X5, wC_yX5_told, by decide +kernel, by decide⟩
theorem cv_X5_toldOf : CvT yX5_toldOf cX5_toldOf 4 (some .int) 1 := ⟨wI_yX5_toldOf, wS_yX5_toldOf, wN_X5, wC_yX5_toldOf, by decide +kernel, by decide⟩
theorem cv_X5_digest : CvT yX5_digest cX5_digest 4 (some .long) 0 := ⟨wI_yX5_digest, wS_yX5_digest, wN_X5, wC_yX5_digest, by decide +kernel, by decide⟩
end
section
section SW
variable {X : XxT} {own : String} {dd : Nat} {lo : List (Nat × Value)} {st : List Value} {h : HpT}
theorem sw_ne {x : Int32} {n : Nat} (e : ¬ x = nI n) (hn : n < 2147483648) : x.toInt ≠ (n : Int) := fun q => e (Int32.toInt_inj.mp (by rw [q, nI_toInt hn]))
theorem sw_X4_of_16 (F : FxT X cX4_of own dd) {x : Int32} (k0 : x = 0 → rn X 52 lo st h) (k1 : x = 1 → rn X 62 lo st h) (k2 : x = 2 → rn X 72 lo st h) (k3 : x = 3 → rn X 82 lo st h) (k4 : x = 4 → rn X 92 lo st h) (ko : ¬ x = 0 → ¬ x = 1 → ¬ x = 2 → ¬ x = 3 → ¬ x = 4 → rn X 102 lo st h) : rn X 16 lo (.int x :: st) h := by
  by_cases e0 : x = 0
  · subst e0; exact rn_tableIn (np := 52) F dX4_of_16 (by decide) (by decide) rfl rfl (k0 rfl)
  by_cases e1 : x = 1
  · subst e1; exact rn_tableIn (np := 62) F dX4_of_16 (by decide) (by decide) rfl rfl (k1 rfl)
  by_cases e2 : x = 2
  · subst e2; exact rn_tableIn (np := 72) F dX4_of_16 (by decide) (by decide) rfl rfl (k2 rfl)
  by_cases e3 : x = 3
  · subst e3; exact rn_tableIn (np := 82) F dX4_of_16 (by decide) (by decide) rfl rfl (k3 rfl)
  by_cases e4 : x = 4
  · subst e4; exact rn_tableIn (np := 92) F dX4_of_16 (by decide) (by decide) rfl rfl (k4 rfl)
  have n0 := sw_ne (n := 0) e0 (by decide)
  have n1 := sw_ne (n := 1) e1 (by decide)
  have n2 := sw_ne (n := 2) e2 (by decide)
  have n3 := sw_ne (n := 3) e3 (by decide)
  have n4 := sw_ne (n := 4) e4 (by decide)
  exact rn_tableOut (np := 102) F dX4_of_16 (by omega) rfl (ko e0 e1 e2 e3 e4)
theorem sw_X4_good_1 (F : FxT X cX4_good own dd) {x : Int32} (k0 : x = 0 → rn X 28 lo st h) (k1 : x = 1 → rn X 44 lo st h) (ko : ¬ x = 0 → ¬ x = 1 → rn X 60 lo st h) : rn X 1 lo (.int x :: st) h := by
  by_cases e0 : x = 0
  · subst e0; exact rn_lookup (np := 28) F dX4_good_1 rfl rfl rfl (k0 rfl)
  by_cases e1 : x = 1
  · subst e1; exact rn_lookup (np := 44) F dX4_good_1 rfl rfl rfl (k1 rfl)
  have n0 := sw_ne (n := 0) e0 (by decide)
  have n1 := sw_ne (n := 1) e1 (by decide)
  exact rn_lookup (np := 60) (off := 59) F dX4_good_1 rfl (by simp [Op.lookupswitch.offset]; omega) rfl (ko e0 e1)
theorem sw_X4_worst_1 (F : FxT X cX4_worst own dd) {x : Int32} (k0 : x = 0 → rn X 28 lo st h) (k1 : x = 1 → rn X 36 lo st h) (ko : ¬ x = 0 → ¬ x = 1 → rn X 44 lo st h) : rn X 1 lo (.int x :: st) h := by
  by_cases e0 : x = 0
  · subst e0; exact rn_lookup (np := 28) F dX4_worst_1 rfl rfl rfl (k0 rfl)
  by_cases e1 : x = 1
  · subst e1; exact rn_lookup (np := 36) F dX4_worst_1 rfl rfl rfl (k1 rfl)
  have n0 := sw_ne (n := 0) e0 (by decide)
  have n1 := sw_ne (n := 1) e1 (by decide)
  exact rn_lookup (np := 44) (off := 43) F dX4_worst_1 rfl (by simp [Op.lookupswitch.offset]; omega) rfl (ko e0 e1)
theorem sw_X4_best_39 (F : FxT X cX4_best own dd) {x : Int32} (k0 : x = 0 → rn X 64 lo st h) (k1 : x = 1 → rn X 74 lo st h) (ko : ¬ x = 0 → ¬ x = 1 → rn X 76 lo st h) : rn X 39 lo (.int x :: st) h := by
  by_cases e0 : x = 0
  · subst e0; exact rn_lookup (np := 64) F dX4_best_39 rfl rfl rfl (k0 rfl)
  by_cases e1 : x = 1
  · subst e1; exact rn_lookup (np := 74) F dX4_best_39 rfl rfl rfl (k1 rfl)
  have n0 := sw_ne (n := 0) e0 (by decide)
  have n1 := sw_ne (n := 1) e1 (by decide)
  exact rn_lookup (np := 76) (off := 37) F dX4_best_39 rfl (by simp [Op.lookupswitch.offset]; omega) rfl (ko e0 e1)
theorem sw_X4_next_41 (F : FxT X cX4_next own dd) {x : Int32} (k0 : x = 0 → rn X 68 lo st h) (k1 : x = 1 → rn X 76 lo st h) (k2 : x = 2 → rn X 84 lo st h) (ko : ¬ x = 0 → ¬ x = 1 → ¬ x = 2 → rn X 92 lo st h) : rn X 41 lo (.int x :: st) h := by
  by_cases e0 : x = 0
  · subst e0; exact rn_tableIn (np := 68) F dX4_next_41 (by decide) (by decide) rfl rfl (k0 rfl)
  by_cases e1 : x = 1
  · subst e1; exact rn_tableIn (np := 76) F dX4_next_41 (by decide) (by decide) rfl rfl (k1 rfl)
  by_cases e2 : x = 2
  · subst e2; exact rn_tableIn (np := 84) F dX4_next_41 (by decide) (by decide) rfl rfl (k2 rfl)
  have n0 := sw_ne (n := 0) e0 (by decide)
  have n1 := sw_ne (n := 1) e1 (by decide)
  have n2 := sw_ne (n := 2) e2 (by decide)
  exact rn_tableOut (np := 92) F dX4_next_41 (by omega) rfl (ko e0 e1 e2)
theorem sw_X4_toldOf_1 (F : FxT X cX4_toldOf own dd) {x : Int32} (k0 : x = 0 → rn X 44 lo st h) (k1 : x = 1 → rn X 49 lo st h) (k2 : x = 2 → rn X 54 lo st h) (k3 : x = 3 → rn X 59 lo st h) (k4 : x = 4 → rn X 67 lo st h) (k5 : x = 5 → rn X 75 lo st h) (k6 : x = 6 → rn X 83 lo st h) (ko : ¬ x = 0 → ¬ x = 1 → ¬ x = 2 → ¬ x = 3 → ¬ x = 4 → ¬ x = 5 → ¬ x = 6 → rn X 91 lo st h) : rn X 1 lo (.int x :: st) h := by
  by_cases e0 : x = 0
  · subst e0; exact rn_tableIn (np := 44) F dX4_toldOf_1 (by decide) (by decide) rfl rfl (k0 rfl)
  by_cases e1 : x = 1
  · subst e1; exact rn_tableIn (np := 49) F dX4_toldOf_1 (by decide) (by decide) rfl rfl (k1 rfl)
  by_cases e2 : x = 2
  · subst e2; exact rn_tableIn (np := 54) F dX4_toldOf_1 (by decide) (by decide) rfl rfl (k2 rfl)
  by_cases e3 : x = 3
  · subst e3; exact rn_tableIn (np := 59) F dX4_toldOf_1 (by decide) (by decide) rfl rfl (k3 rfl)
  by_cases e4 : x = 4
  · subst e4; exact rn_tableIn (np := 67) F dX4_toldOf_1 (by decide) (by decide) rfl rfl (k4 rfl)
  by_cases e5 : x = 5
  · subst e5; exact rn_tableIn (np := 75) F dX4_toldOf_1 (by decide) (by decide) rfl rfl (k5 rfl)
  by_cases e6 : x = 6
  · subst e6; exact rn_tableIn (np := 83) F dX4_toldOf_1 (by decide) (by decide) rfl rfl (k6 rfl)
  have n0 := sw_ne (n := 0) e0 (by decide)
  have n1 := sw_ne (n := 1) e1 (by decide)
  have n2 := sw_ne (n := 2) e2 (by decide)
  have n3 := sw_ne (n := 3) e3 (by decide)
  have n4 := sw_ne (n := 4) e4 (by decide)
  have n5 := sw_ne (n := 5) e5 (by decide)
  have n6 := sw_ne (n := 6) e6 (by decide)
  exact rn_tableOut (np := 91) F dX4_toldOf_1 (by omega) rfl (ko e0 e1 e2 e3 e4 e5 e6)
theorem sw_X4_isSetting_1 (F : FxT X cX4_isSetting own dd) {x : Int32} (k0 : x = 0 → rn X 28 lo st h) (k1 : x = 1 → rn X 33 lo st h) (k2 : x = 2 → rn X 38 lo st h) (ko : ¬ x = 0 → ¬ x = 1 → ¬ x = 2 → rn X 45 lo st h) : rn X 1 lo (.int x :: st) h := by
  by_cases e0 : x = 0
  · subst e0; exact rn_tableIn (np := 28) F dX4_isSetting_1 (by decide) (by decide) rfl rfl (k0 rfl)
  by_cases e1 : x = 1
  · subst e1; exact rn_tableIn (np := 33) F dX4_isSetting_1 (by decide) (by decide) rfl rfl (k1 rfl)
  by_cases e2 : x = 2
  · subst e2; exact rn_tableIn (np := 38) F dX4_isSetting_1 (by decide) (by decide) rfl rfl (k2 rfl)
  have n0 := sw_ne (n := 0) e0 (by decide)
  have n1 := sw_ne (n := 1) e1 (by decide)
  have n2 := sw_ne (n := 2) e2 (by decide)
  exact rn_tableOut (np := 45) F dX4_isSetting_1 (by omega) rfl (ko e0 e1 e2)
theorem sw_X5_takesOf_30 (F : FxT X cX5_takesOf own dd) {x : Int32} (k0 : x = 0 → rn X 64 lo st h) (k1 : x = 1 → rn X 66 lo st h) (k2 : x = 2 → rn X 79 lo st h) (k3 : x = 3 → rn X 90 lo st h) (k4 : x = 4 → rn X 116 lo st h) (ko : ¬ x = 0 → ¬ x = 1 → ¬ x = 2 → ¬ x = 3 → ¬ x = 4 → rn X 134 lo st h) : rn X 30 lo (.int x :: st) h := by
  by_cases e0 : x = 0
  · subst e0; exact rn_tableIn (np := 64) F dX5_takesOf_30 (by decide) (by decide) rfl rfl (k0 rfl)
  by_cases e1 : x = 1
  · subst e1; exact rn_tableIn (np := 66) F dX5_takesOf_30 (by decide) (by decide) rfl rfl (k1 rfl)
  by_cases e2 : x = 2
  · subst e2; exact rn_tableIn (np := 79) F dX5_takesOf_30 (by decide) (by decide) rfl rfl (k2 rfl)
  by_cases e3 : x = 3
  · subst e3; exact rn_tableIn (np := 90) F dX5_takesOf_30 (by decide) (by decide) rfl rfl (k3 rfl)
  by_cases e4 : x = 4
  · subst e4; exact rn_tableIn (np := 116) F dX5_takesOf_30 (by decide) (by decide) rfl rfl (k4 rfl)
  have n0 := sw_ne (n := 0) e0 (by decide)
  have n1 := sw_ne (n := 1) e1 (by decide)
  have n2 := sw_ne (n := 2) e2 (by decide)
  have n3 := sw_ne (n := 3) e3 (by decide)
  have n4 := sw_ne (n := 4) e4 (by decide)
  exact rn_tableOut (np := 134) F dX5_takesOf_30 (by omega) rfl (ko e0 e1 e2 e3 e4)
theorem sw_X5_toldOf_3 (F : FxT X cX5_toldOf own dd) {x : Int32} (k0 : x = 0 → rn X 44 lo st h) (k1 : x = 1 → rn X 44 lo st h) (k2 : x = 2 → rn X 44 lo st h) (k3 : x = 3 → rn X 51 lo st h) (k4 : x = 4 → rn X 56 lo st h) (k5 : x = 5 → rn X 61 lo st h) (k6 : x = 6 → rn X 66 lo st h) (ko : ¬ x = 0 → ¬ x = 1 → ¬ x = 2 → ¬ x = 3 → ¬ x = 4 → ¬ x = 5 → ¬ x = 6 → rn X 71 lo st h) : rn X 3 lo (.int x :: st) h := by
  by_cases e0 : x = 0
  · subst e0; exact rn_tableIn (np := 44) F dX5_toldOf_3 (by decide) (by decide) rfl rfl (k0 rfl)
  by_cases e1 : x = 1
  · subst e1; exact rn_tableIn (np := 44) F dX5_toldOf_3 (by decide) (by decide) rfl rfl (k1 rfl)
  by_cases e2 : x = 2
  · subst e2; exact rn_tableIn (np := 44) F dX5_toldOf_3 (by decide) (by decide) rfl rfl (k2 rfl)
  by_cases e3 : x = 3
  · subst e3; exact rn_tableIn (np := 51) F dX5_toldOf_3 (by decide) (by decide) rfl rfl (k3 rfl)
  by_cases e4 : x = 4
  · subst e4; exact rn_tableIn (np := 56) F dX5_toldOf_3 (by decide) (by decide) rfl rfl (k4 rfl)
  by_cases e5 : x = 5
  · subst e5; exact rn_tableIn (np := 61) F dX5_toldOf_3 (by decide) (by decide) rfl rfl (k5 rfl)
  by_cases e6 : x = 6
  · subst e6; exact rn_tableIn (np := 66) F dX5_toldOf_3 (by decide) (by decide) rfl rfl (k6 rfl)
  have n0 := sw_ne (n := 0) e0 (by decide)
  have n1 := sw_ne (n := 1) e1 (by decide)
  have n2 := sw_ne (n := 2) e2 (by decide)
  have n3 := sw_ne (n := 3) e3 (by decide)
  have n4 := sw_ne (n := 4) e4 (by decide)
  have n5 := sw_ne (n := 5) e5 (by decide)
  have n6 := sw_ne (n := 6) e6 (by decide)
  exact rn_tableOut (np := 71) F dX5_toldOf_3 (by omega) rfl (ko e0 e1 e2 e3 e4 e5 e6)
theorem sw_L_law_32 (F : FxT X cL_law own dd) {x : Int32} (k0 : x = 0 → rn X 164 lo st h) (k1 : x = 1 → rn X 207 lo st h) (k2 : x = 2 → rn X 250 lo st h) (k3 : x = 3 → rn X 283 lo st h) (k4 : x = 4 → rn X 306 lo st h) (k5 : x = 5 → rn X 339 lo st h) (k6 : x = 6 → rn X 352 lo st h) (k7 : x = 7 → rn X 365 lo st h) (k8 : x = 8 → rn X 398 lo st h) (k9 : x = 9 → rn X 431 lo st h) (k10 : x = 10 → rn X 464 lo st h) (k11 : x = 11 → rn X 497 lo st h) (k12 : x = 12 → rn X 520 lo st h) (k13 : x = 13 → rn X 533 lo st h) (k14 : x = 14 → rn X 556 lo st h) (k15 : x = 15 → rn X 579 lo st h) (k16 : x = 16 → rn X 612 lo st h) (k17 : x = 17 → rn X 645 lo st h) (k18 : x = 18 → rn X 658 lo st h) (k19 : x = 19 → rn X 671 lo st h) (k20 : x = 20 → rn X 684 lo st h) (k21 : x = 21 → rn X 697 lo st h) (k22 : x = 22 → rn X 720 lo st h) (k23 : x = 23 → rn X 743 lo st h) (k24 : x = 24 → rn X 766 lo st h) (k25 : x = 25 → rn X 789 lo st h) (k26 : x = 26 → rn X 802 lo st h) (k27 : x = 27 → rn X 825 lo st h) (k28 : x = 28 → rn X 848 lo st h) (ko : ¬ x = 0 → ¬ x = 1 → ¬ x = 2 → ¬ x = 3 → ¬ x = 4 → ¬ x = 5 → ¬ x = 6 → ¬ x = 7 → ¬ x = 8 → ¬ x = 9 → ¬ x = 10 → ¬ x = 11 → ¬ x = 12 → ¬ x = 13 → ¬ x = 14 → ¬ x = 15 → ¬ x = 16 → ¬ x = 17 → ¬ x = 18 → ¬ x = 19 → ¬ x = 20 → ¬ x = 21 → ¬ x = 22 → ¬ x = 23 → ¬ x = 24 → ¬ x = 25 → ¬ x = 26 → ¬ x = 27 → ¬ x = 28 → rn X 862 lo st h) : rn X 32 lo (.int x :: st) h := by
  by_cases e0 : x = 0
  · subst e0; exact rn_tableIn (np := 164) F dL_law_32 (by decide) (by decide) rfl rfl (k0 rfl)
  by_cases e1 : x = 1
  · subst e1; exact rn_tableIn (np := 207) F dL_law_32 (by decide) (by decide) rfl rfl (k1 rfl)
  by_cases e2 : x = 2
  · subst e2; exact rn_tableIn (np := 250) F dL_law_32 (by decide) (by decide) rfl rfl (k2 rfl)
  by_cases e3 : x = 3
  · subst e3; exact rn_tableIn (np := 283) F dL_law_32 (by decide) (by decide) rfl rfl (k3 rfl)
  by_cases e4 : x = 4
  · subst e4; exact rn_tableIn (np := 306) F dL_law_32 (by decide) (by decide) rfl rfl (k4 rfl)
  by_cases e5 : x = 5
  · subst e5; exact rn_tableIn (np := 339) F dL_law_32 (by decide) (by decide) rfl rfl (k5 rfl)
  by_cases e6 : x = 6
  · subst e6; exact rn_tableIn (np := 352) F dL_law_32 (by decide) (by decide) rfl rfl (k6 rfl)
  by_cases e7 : x = 7
  · subst e7; exact rn_tableIn (np := 365) F dL_law_32 (by decide) (by decide) rfl rfl (k7 rfl)
  by_cases e8 : x = 8
  · subst e8; exact rn_tableIn (np := 398) F dL_law_32 (by decide) (by decide) rfl rfl (k8 rfl)
  by_cases e9 : x = 9
  · subst e9; exact rn_tableIn (np := 431) F dL_law_32 (by decide) (by decide) rfl rfl (k9 rfl)
  by_cases e10 : x = 10
  · subst e10; exact rn_tableIn (np := 464) F dL_law_32 (by decide) (by decide) rfl rfl (k10 rfl)
  by_cases e11 : x = 11
  · subst e11; exact rn_tableIn (np := 497) F dL_law_32 (by decide) (by decide) rfl rfl (k11 rfl)
  by_cases e12 : x = 12
  · subst e12; exact rn_tableIn (np := 520) F dL_law_32 (by decide) (by decide) rfl rfl (k12 rfl)
  by_cases e13 : x = 13
  · subst e13; exact rn_tableIn (np := 533) F dL_law_32 (by decide) (by decide) rfl rfl (k13 rfl)
  by_cases e14 : x = 14
  · subst e14; exact rn_tableIn (np := 556) F dL_law_32 (by decide) (by decide) rfl rfl (k14 rfl)
  by_cases e15 : x = 15
  · subst e15; exact rn_tableIn (np := 579) F dL_law_32 (by decide) (by decide) rfl rfl (k15 rfl)
  by_cases e16 : x = 16
  · subst e16; exact rn_tableIn (np := 612) F dL_law_32 (by decide) (by decide) rfl rfl (k16 rfl)
  by_cases e17 : x = 17
  · subst e17; exact rn_tableIn (np := 645) F dL_law_32 (by decide) (by decide) rfl rfl (k17 rfl)
  by_cases e18 : x = 18
  · subst e18; exact rn_tableIn (np := 658) F dL_law_32 (by decide) (by decide) rfl rfl (k18 rfl)
  by_cases e19 : x = 19
  · subst e19; exact rn_tableIn (np := 671) F dL_law_32 (by decide) (by decide) rfl rfl (k19 rfl)
  by_cases e20 : x = 20
  · subst e20; exact rn_tableIn (np := 684) F dL_law_32 (by decide) (by decide) rfl rfl (k20 rfl)
  by_cases e21 : x = 21
  · subst e21; exact rn_tableIn (np := 697) F dL_law_32 (by decide) (by decide) rfl rfl (k21 rfl)
  by_cases e22 : x = 22
  · subst e22; exact rn_tableIn (np := 720) F dL_law_32 (by decide) (by decide) rfl rfl (k22 rfl)
  by_cases e23 : x = 23
  · subst e23; exact rn_tableIn (np := 743) F dL_law_32 (by decide) (by decide) rfl rfl (k23 rfl)
  by_cases e24 : x = 24
  · subst e24; exact rn_tableIn (np := 766) F dL_law_32 (by decide) (by decide) rfl rfl (k24 rfl)
  by_cases e25 : x = 25
  · subst e25; exact rn_tableIn (np := 789) F dL_law_32 (by decide) (by decide) rfl rfl (k25 rfl)
  by_cases e26 : x = 26
  · subst e26; exact rn_tableIn (np := 802) F dL_law_32 (by decide) (by decide) rfl rfl (k26 rfl)
  by_cases e27 : x = 27
  · subst e27; exact rn_tableIn (np := 825) F dL_law_32 (by decide) (by decide) rfl rfl (k27 rfl)
  by_cases e28 : x = 28
  · subst e28; exact rn_tableIn (np := 848) F dL_law_32 (by decide) (by decide) rfl rfl (k28 rfl)
  have n0 := sw_ne (n := 0) e0 (by decide)
  have n1 := sw_ne (n := 1) e1 (by decide)
  have n2 := sw_ne (n := 2) e2 (by decide)
  have n3 := sw_ne (n := 3) e3 (by decide)
  have n4 := sw_ne (n := 4) e4 (by decide)
  have n5 := sw_ne (n := 5) e5 (by decide)
  have n6 := sw_ne (n := 6) e6 (by decide)
  have n7 := sw_ne (n := 7) e7 (by decide)
  have n8 := sw_ne (n := 8) e8 (by decide)
  have n9 := sw_ne (n := 9) e9 (by decide)
  have n10 := sw_ne (n := 10) e10 (by decide)
  have n11 := sw_ne (n := 11) e11 (by decide)
  have n12 := sw_ne (n := 12) e12 (by decide)
  have n13 := sw_ne (n := 13) e13 (by decide)
  have n14 := sw_ne (n := 14) e14 (by decide)
  have n15 := sw_ne (n := 15) e15 (by decide)
  have n16 := sw_ne (n := 16) e16 (by decide)
  have n17 := sw_ne (n := 17) e17 (by decide)
  have n18 := sw_ne (n := 18) e18 (by decide)
  have n19 := sw_ne (n := 19) e19 (by decide)
  have n20 := sw_ne (n := 20) e20 (by decide)
  have n21 := sw_ne (n := 21) e21 (by decide)
  have n22 := sw_ne (n := 22) e22 (by decide)
  have n23 := sw_ne (n := 23) e23 (by decide)
  have n24 := sw_ne (n := 24) e24 (by decide)
  have n25 := sw_ne (n := 25) e25 (by decide)
  have n26 := sw_ne (n := 26) e26 (by decide)
  have n27 := sw_ne (n := 27) e27 (by decide)
  have n28 := sw_ne (n := 28) e28 (by decide)
  exact rn_tableOut (np := 862) F dL_law_32 (by omega) rfl (ko e0 e1 e2 e3 e4 e5 e6 e7 e8 e9 e10 e11 e12 e13 e14 e15 e16 e17 e18 e19 e20 e21 e22 e23 e24 e25 e26 e27 e28)
end SW
end
section
def bI (c : Prop) [Decidable c] : Int32 := if c then 1 else 0
theorem bI_0 {c : Prop} [Decidable c] (h : bI c = 0) : ¬ c := by unfold bI at h; split at h <;> simp_all
theorem bI_1 {c : Prop} [Decidable c] (h : ¬ bI c = 0) : c := by unfold bI at h; split at h <;> simp_all
theorem bI_nar {c : Prop} [Decidable c] : narrow .boolean (.int (bI c)) = .int (bI c) := by unfold bI; split <;> rfl
theorem bI_t {c : Prop} [Decidable c] (h : c) : bI c = 1 := if_pos h
theorem bI_f {c : Prop} [Decidable c] (h : ¬ c) : bI c = 0 := if_neg h
theorem rI {v x : Int32} {h1 h2 : HpT} (e : v = x) (e2 : h1 = h2) : some (Value.int v) = some (Value.int x) ∧ h1 = h2 := ⟨by rw [e], e2⟩
def ntF (a b c : Int32) : Int32 := a * a + b * b + c * c - a * b - b * c - c * a
def gsum (w n : Nat → Int32) : Nat → Int32
  | 0 => 0
  | k + 1 => gsum w n k + w k * n k
/-- what a house of that sort and size takes -/
def tkV (so sz : Int32) (t : Nat) : Int32 := sz * tmI.getD (so.toNatClampNeg * 6 + t) 0
def packF (f : Nat → Int32) : Nat → Int32
  | 0 => 0
  | k + 1 => packF f k ||| (f k <<< ((2 * nI k) &&& 31))
def phF (l x : Int32) : Int32 := (l.toUInt32 >>> ((2 * x).toUInt32 &&& Int32.toUInt32 31)).toInt32 &&& 3
def refC (h : HpT) (w : Int32) : HpT := if w = -2 then hs h 0 4 (h 0 4 + 1) else if w = -3 then hs h 0 5 (h 0 5 + 1) else hs h 0 6 (h 0 6 + 1)
def ntC (h : HpT) (t : Nat) : Int32 := ntF (h 10 t) (h 10 (6 + t)) (h 10 (12 + t))
def grC (h : HpT) : Int32 := gsum (h 9) (ntC h) 6
theorem ix6 (p t : Nat) : nI p * 6 + nI t = nI (p * 6 + t) := by rw [show (6 : Int32) = nI 6 from rfl, pk_mul, nI_add]
def fillF (f : Nat → Int32) (n : Nat) (v : Int32) : Nat → Int32 := fun j => if j < n then v else f j
def alF (f : Nat → Int32) (p : Nat) (v : Nat → Int32) (t : Nat) : Nat → Int32 := fun j => if p * 6 ≤ j ∧ j < p * 6 + t then f j + v (j - p * 6) else f j
theorem up_up {α : Type} (f : Nat → α) (k : Nat) (v w : α) : va_up (va_up f k v) k w = va_up f k w := by funext j; simp only [va_up]; split <;> rfl
theorem up_id {α : Type} (f : Nat → α) (k : Nat) : va_up f k (f k) = f := by funext j; simp only [va_up]; split <;> simp_all
theorem hs_up (h : HpT) (k j : Nat) (f : Nat → Int32) (v : Int32) : hs (va_up h k f) k j v = va_up h k (upd f j v) := by
  show va_up (va_up h k f) k (upd (va_up h k f k) j v) = _
  rw [va_up_self, up_up]
end
section
set_option maxRecDepth 20000 in
theorem c_X4_isIn {G : GxT} {h : HpT} {v a b : Int32}  : mci G yX4_isIn cX4_isIn 3 (some .boolean) 0 [.int v, .int a, .int b] h (bI (a ≤ v ∧ v ≤ b)) (h) := by
  refine mc_of (by decide) (Nat.le_of_ble_eq_true rfl) (fun X hG F Rr hL => ?_)
  subst hG
  have F : FxT X cX4_isIn RX4 0 := F
  show rn X 0 [(0, .int v), (1, .int a), (2, .int b)] [] h
  refine rn_iload_n (np := 1) F dX4_isIn_0 rfl rfl <| rn_iload_n (np := 2) F dX4_isIn_1 rfl rfl <| rn_icmp_lt (tg := 14) (np := 5) F dX4_isIn_2 rfl rfl (fun c2 => rn_iconst (np := 15) (v := 0) F dX4_isIn_14 rfl rfl <| rn_zret F Rr dX4_isIn_15 rfl ?_) (fun c2 => rn_iload_n (np := 6) F dX4_isIn_5 rfl rfl <| rn_iload_n (np := 7) F dX4_isIn_6 rfl rfl <| rn_icmp_gt (tg := 14) (np := 10) F dX4_isIn_7 rfl rfl (fun c7 => rn_iconst (np := 15) (v := 0) F dX4_isIn_14 rfl rfl <| rn_zret F Rr dX4_isIn_15 rfl ?_) (fun c7 => rn_iconst (np := 11) (v := 1) F dX4_isIn_10 rfl rfl <| rn_goto (np := 15) F dX4_isIn_11 rfl <| rn_zret F Rr dX4_isIn_15 rfl ?_))
  all_goals (refine rI ?_ rfl; grind [bI])
set_option maxRecDepth 20000 in
theorem c_X4_isSort {G : GxT} {h : HpT} {v : Int32}  : mci G yX4_isSort cX4_isSort 1 (some .boolean) 1 [.int v] h (bI (0 ≤ v ∧ v ≤ 5)) (h) := by
  refine mc_of (by decide) (Nat.le_of_ble_eq_true rfl) (fun X hG F Rr hL => ?_)
  subst hG
  have F : FxT X cX4_isSort RX4 1 := F
  show rn X 0 [(0, .int v)] [] h
  refine rn_iload_n (np := 1) F dX4_isSort_0 rfl rfl <| rn_iconst (np := 2) (v := 0) F dX4_isSort_1 rfl rfl <| rn_iconst (np := 3) (v := 5) F dX4_isSort_2 rfl rfl <| rn_cS3i (np := 6) F dX4_isSort_3 rfl cs_X4_isIn wM_X4_77 (c_X4_isIn) (Nat.le_of_ble_eq_true rfl) (Nat.le_of_ble_eq_true rfl) <| rn_zret F Rr dX4_isSort_6 bI_nar ?_
  · exact rI rfl rfl
set_option maxRecDepth 20000 in
theorem c_X4_isSize {G : GxT} {h : HpT} {v : Int32}  : mci G yX4_isSize cX4_isSize 1 (some .boolean) 1 [.int v] h (bI (1 ≤ v ∧ v ≤ 20)) (h) := by
  refine mc_of (by decide) (Nat.le_of_ble_eq_true rfl) (fun X hG F Rr hL => ?_)
  subst hG
  have F : FxT X cX4_isSize RX4 1 := F
  show rn X 0 [(0, .int v)] [] h
  refine rn_iload_n (np := 1) F dX4_isSize_0 rfl rfl <| rn_iconst (np := 2) (v := 1) F dX4_isSize_1 rfl rfl <| rn_bipush (np := 4) (v := 20) F dX4_isSize_2 rfl rfl <| rn_cS3i (np := 7) F dX4_isSize_4 rfl cs_X4_isIn wM_X4_77 (c_X4_isIn) (Nat.le_of_ble_eq_true rfl) (Nat.le_of_ble_eq_true rfl) <| rn_zret F Rr dX4_isSize_7 bI_nar ?_
  · exact rI rfl rfl
set_option maxRecDepth 20000 in
theorem c_X4_isPhase {G : GxT} {h : HpT} {v : Int32}  : mci G yX4_isPhase cX4_isPhase 1 (some .boolean) 1 [.int v] h (bI (0 ≤ v ∧ v ≤ 2)) (h) := by
  refine mc_of (by decide) (Nat.le_of_ble_eq_true rfl) (fun X hG F Rr hL => ?_)
  subst hG
  have F : FxT X cX4_isPhase RX4 1 := F
  show rn X 0 [(0, .int v)] [] h
  refine rn_iload_n (np := 1) F dX4_isPhase_0 rfl rfl <| rn_iconst (np := 2) (v := 0) F dX4_isPhase_1 rfl rfl <| rn_iconst (np := 3) (v := 2) F dX4_isPhase_2 rfl rfl <| rn_cS3i (np := 6) F dX4_isPhase_3 rfl cs_X4_isIn wM_X4_77 (c_X4_isIn) (Nat.le_of_ble_eq_true rfl) (Nat.le_of_ble_eq_true rfl) <| rn_zret F Rr dX4_isPhase_6 bI_nar ?_
  · exact rI rfl rfl
set_option maxRecDepth 20000 in
theorem c_X4_isHour {G : GxT} {h : HpT} {v : Int32}  : mci G yX4_isHour cX4_isHour 1 (some .boolean) 1 [.int v] h (bI (0 ≤ v ∧ v ≤ 5)) (h) := by
  refine mc_of (by decide) (Nat.le_of_ble_eq_true rfl) (fun X hG F Rr hL => ?_)
  subst hG
  have F : FxT X cX4_isHour RX4 1 := F
  show rn X 0 [(0, .int v)] [] h
  refine rn_iload_n (np := 1) F dX4_isHour_0 rfl rfl <| rn_iconst (np := 2) (v := 0) F dX4_isHour_1 rfl rfl <| rn_iconst (np := 3) (v := 5) F dX4_isHour_2 rfl rfl <| rn_cS3i (np := 6) F dX4_isHour_3 rfl cs_X4_isIn wM_X4_77 (c_X4_isIn) (Nat.le_of_ble_eq_true rfl) (Nat.le_of_ble_eq_true rfl) <| rn_zret F Rr dX4_isHour_6 bI_nar ?_
  · exact rI rfl rfl
set_option maxRecDepth 20000 in
theorem c_X4_isHouse {G : GxT} (hF : Full G) {h : HpT} {v : Int32}  : mci G yX4_isHouse cX4_isHouse 2 (some .boolean) 1 [.ref (gad G 0), .int v] h (bI (0 ≤ v ∧ v ≤ h 1 9 - 1)) (h) := by
  refine mc_of (by decide) (Nat.le_of_ble_eq_true rfl) (fun X hG F Rr hL => ?_)
  subst hG
  have F : FxT X cX4_isHouse RX4 1 := F
  show rn X 0 [(0, .ref (gad X.1 0)), (1, .int v)] [] h
  refine rn_iload_n (np := 1) F dX4_isHouse_0 rfl rfl <| rn_iconst (np := 2) (v := 0) F dX4_isHouse_1 rfl rfl <| rn_aload_n (np := 3) F dX4_isHouse_2 rfl rfl <| rn_getr (np := 6) F dX4_isHouse_3 rfl fF_X4_10 (fs hF rfl rfl) rfl <| rn_getf (np := 9) F dX4_isHouse_6 rfl fF_X4_53 (fs hF rfl rfl) rfl <| rn_iconst (np := 10) (v := 1) F dX4_isHouse_9 rfl rfl <| rn_isub (np := 11) F dX4_isHouse_10 rfl <| rn_cS3i (np := 14) F dX4_isHouse_11 rfl cs_X4_isIn wM_X4_77 (c_X4_isIn) (Nat.le_of_ble_eq_true rfl) (Nat.le_of_ble_eq_true rfl) <| rn_zret F Rr dX4_isHouse_14 bI_nar ?_
  · exact rI rfl rfl
set_option maxRecDepth 20000 in
theorem c_X4_areTwoHouses {G : GxT} (hF : Full G) {h : HpT} {v u : Int32}  : mci G yX4_areTwoHouses cX4_areTwoHouses 3 (some .boolean) 2 [.ref (gad G 0), .int v, .int u] h (bI ((0 ≤ v ∧ v ≤ h 1 9 - 1) ∧ (0 ≤ u ∧ u ≤ h 1 9 - 1) ∧ v ≠ u)) (h) := by
  refine mc_of (by decide) (Nat.le_of_ble_eq_true rfl) (fun X hG F Rr hL => ?_)
  subst hG
  have F : FxT X cX4_areTwoHouses RX4 2 := F
  show rn X 0 [(0, .ref (gad X.1 0)), (1, .int v), (2, .int u)] [] h
  refine rn_aload_n (np := 1) F dX4_areTwoHouses_0 rfl rfl <| rn_iload_n (np := 2) F dX4_areTwoHouses_1 rfl rfl <| rn_cV1i (np := 5) F dX4_areTwoHouses_2 rfl cv_X4_isHouse wM_X4_64 (fs hF rfl rfl) rfl (c_X4_isHouse hF) (Nat.le_of_ble_eq_true rfl) (Nat.le_of_ble_eq_true rfl) <| rn_if_eq (tg := 25) (np := 8) F dX4_areTwoHouses_5 rfl rfl (fun c5 => rn_iconst (np := 26) (v := 0) F dX4_areTwoHouses_25 rfl rfl <| rn_zret F Rr dX4_areTwoHouses_26 rfl ?_) (fun c5 => rn_aload_n (np := 9) F dX4_areTwoHouses_8 rfl rfl <| rn_iload_n (np := 10) F dX4_areTwoHouses_9 rfl rfl <| rn_cV1i (np := 13) F dX4_areTwoHouses_10 rfl cv_X4_isHouse wM_X4_64 (fs hF rfl rfl) rfl (c_X4_isHouse hF) (Nat.le_of_ble_eq_true rfl) (Nat.le_of_ble_eq_true rfl) <| rn_if_eq (tg := 25) (np := 16) F dX4_areTwoHouses_13 rfl rfl (fun c13 => rn_iconst (np := 26) (v := 0) F dX4_areTwoHouses_25 rfl rfl <| rn_zret F Rr dX4_areTwoHouses_26 rfl ?_) (fun c13 => rn_iload_n (np := 17) F dX4_areTwoHouses_16 rfl rfl <| rn_iload_n (np := 18) F dX4_areTwoHouses_17 rfl rfl <| rn_icmp_eq (tg := 25) (np := 21) F dX4_areTwoHouses_18 rfl rfl (fun c18 => rn_iconst (np := 26) (v := 0) F dX4_areTwoHouses_25 rfl rfl <| rn_zret F Rr dX4_areTwoHouses_26 rfl ?_) (fun c18 => rn_iconst (np := 22) (v := 1) F dX4_areTwoHouses_21 rfl rfl <| rn_goto (np := 26) F dX4_areTwoHouses_22 rfl <| rn_zret F Rr dX4_areTwoHouses_26 rfl ?_)))
  all_goals (refine rI ?_ rfl; grind [bI])
set_option maxRecDepth 20000 in
theorem c_X4_refuse {G : GxT} (hF : Full G) {h : HpT} {v : Int32}  : mci G yX4_refuse cX4_refuse 2 (some .int) 0 [.ref (gad G 0), .int v] h (v) (refC h v) := by
  refine mc_of (by decide) (Nat.le_of_ble_eq_true rfl) (fun X hG F Rr hL => ?_)
  subst hG
  have F : FxT X cX4_refuse RX4 0 := F
  show rn X 0 [(0, .ref (gad X.1 0)), (1, .int v)] [] h
  refine rn_iload_n (np := 1) F dX4_refuse_0 rfl rfl <| rn_bipush (np := 3) (v := (-2)) F dX4_refuse_1 rfl rfl <| rn_icmp_ne (tg := 19) (np := 6) F dX4_refuse_3 rfl rfl (fun c3 => rn_iload_n (np := 20) F dX4_refuse_19 rfl rfl <| rn_bipush (np := 22) (v := (-3)) F dX4_refuse_20 rfl rfl <| rn_icmp_ne (tg := 38) (np := 25) F dX4_refuse_22 rfl rfl (fun c22 => rn_aload_n (np := 39) F dX4_refuse_38 rfl rfl <| rn_dup (np := 40) F dX4_refuse_39 rfl rfl <| rn_getf (np := 43) F dX4_refuse_40 rfl fF_X4_255 (fs hF rfl rfl) rfl <| rn_iconst (np := 44) (v := 1) F dX4_refuse_43 rfl rfl <| rn_iadd (np := 45) F dX4_refuse_44 rfl <| rn_putf (np := 48) F dX4_refuse_45 rfl fP_X4_255 (fs hF rfl rfl) rfl rfl rfl <| rn_iload_n (np := 49) F dX4_refuse_48 rfl rfl <| rn_iret F Rr dX4_refuse_49 ?_) (fun c22 => rn_aload_n (np := 26) F dX4_refuse_25 rfl rfl <| rn_dup (np := 27) F dX4_refuse_26 rfl rfl <| rn_getf (np := 30) F dX4_refuse_27 rfl fF_X4_252 (fs hF rfl rfl) rfl <| rn_iconst (np := 31) (v := 1) F dX4_refuse_30 rfl rfl <| rn_iadd (np := 32) F dX4_refuse_31 rfl <| rn_putf (np := 35) F dX4_refuse_32 rfl fP_X4_252 (fs hF rfl rfl) rfl rfl rfl <| rn_goto (np := 48) F dX4_refuse_35 rfl <| rn_iload_n (np := 49) F dX4_refuse_48 rfl rfl <| rn_iret F Rr dX4_refuse_49 ?_)) (fun c3 => rn_aload_n (np := 7) F dX4_refuse_6 rfl rfl <| rn_dup (np := 8) F dX4_refuse_7 rfl rfl <| rn_getf (np := 11) F dX4_refuse_8 rfl fF_X4_249 (fs hF rfl rfl) rfl <| rn_iconst (np := 12) (v := 1) F dX4_refuse_11 rfl rfl <| rn_iadd (np := 13) F dX4_refuse_12 rfl <| rn_putf (np := 16) F dX4_refuse_13 rfl fP_X4_249 (fs hF rfl rfl) rfl rfl rfl <| rn_goto (np := 48) F dX4_refuse_16 rfl <| rn_iload_n (np := 49) F dX4_refuse_48 rfl rfl <| rn_iret F Rr dX4_refuse_49 ?_)
  all_goals (refine rI rfl ?_; simp_all [refC])
set_option maxRecDepth 20000 in
theorem c_X4_phaseIn {G : GxT} {h : HpT} {l v : Int32}  : mci G yX4_phaseIn cX4_phaseIn 2 (some .int) 0 [.int l, .int v] h (phF l v) (h) := by
  refine mc_of (by decide) (Nat.le_of_ble_eq_true rfl) (fun X hG F Rr hL => ?_)
  subst hG
  have F : FxT X cX4_phaseIn RX4 0 := F
  show rn X 0 [(0, .int l), (1, .int v)] [] h
  refine rn_iload_n (np := 1) F dX4_phaseIn_0 rfl rfl <| rn_iconst (np := 2) (v := 2) F dX4_phaseIn_1 rfl rfl <| rn_iload_n (np := 3) F dX4_phaseIn_2 rfl rfl <| rn_imul (np := 4) F dX4_phaseIn_3 rfl <| rn_iushr (np := 5) F dX4_phaseIn_4 rfl <| rn_iconst (np := 6) (v := 3) F dX4_phaseIn_5 rfl rfl <| rn_iand (np := 7) F dX4_phaseIn_6 rfl <| rn_iret F Rr dX4_phaseIn_7 ?_
  · exact rI rfl rfl
set_option maxRecDepth 20000 in
theorem c_X4_isSetting {G : GxT} {h : HpT} {u v : Int32}  : mci G yX4_isSetting cX4_isSetting 2 (some .boolean) 2 [.int u, .int v] h (bI ((u = 0 ∧ 0 ≤ v ∧ v ≤ 5) ∨ (u = 1 ∧ 1 ≤ v ∧ v ≤ 20) ∨ (u = 2 ∧ 0 ≤ v ∧ v ≤ 1))) (h) := by
  refine mc_of (by decide) (Nat.le_of_ble_eq_true rfl) (fun X hG F Rr hL => ?_)
  subst hG
  have F : FxT X cX4_isSetting RX4 2 := F
  show rn X 0 [(0, .int u), (1, .int v)] [] h
  refine rn_iload_n (np := 1) F dX4_isSetting_0 rfl rfl <| sw_X4_isSetting_1 F (fun c1 => rn_iload_n (np := 29) F dX4_isSetting_28 rfl rfl <| rn_cS1i (np := 32) F dX4_isSetting_29 rfl cs_X4_isSort wM_X4_39 (c_X4_isSort) (Nat.le_of_ble_eq_true rfl) (Nat.le_of_ble_eq_true rfl) <| rn_zret F Rr dX4_isSetting_32 bI_nar ?_) (fun c1 => rn_iload_n (np := 34) F dX4_isSetting_33 rfl rfl <| rn_cS1i (np := 37) F dX4_isSetting_34 rfl cs_X4_isSize wM_X4_43 (c_X4_isSize) (Nat.le_of_ble_eq_true rfl) (Nat.le_of_ble_eq_true rfl) <| rn_zret F Rr dX4_isSetting_37 bI_nar ?_) (fun c1 => rn_iload_n (np := 39) F dX4_isSetting_38 rfl rfl <| rn_iconst (np := 40) (v := 0) F dX4_isSetting_39 rfl rfl <| rn_iconst (np := 41) (v := 1) F dX4_isSetting_40 rfl rfl <| rn_cS3i (np := 44) F dX4_isSetting_41 rfl cs_X4_isIn wM_X4_77 (c_X4_isIn) (Nat.le_of_ble_eq_true rfl) (Nat.le_of_ble_eq_true rfl) <| rn_zret F Rr dX4_isSetting_44 bI_nar ?_) (fun c1_0 c1_1 c1_2 => rn_iconst (np := 46) (v := 0) F dX4_isSetting_45 rfl rfl <| rn_zret F Rr dX4_isSetting_46 rfl ?_)
  all_goals (refine rI ?_ rfl; grind [bI])
set_option maxRecDepth 20000 in
theorem c_X0_forget {G : GxT} (hF : Full G) {h : HpT}   : mcv G yX0_forget cX0_forget 1 none 0 [.ref (gad G 11)] h (hs h 11 13 0) := by
  refine mc_of (by decide) (Nat.le_of_ble_eq_true rfl) (fun X hG F Rr hL => ?_)
  subst hG
  have F : FxT X cX0_forget RX0 0 := F
  show rn X 0 [(0, .ref (gad X.1 11))] [] h
  refine rn_aload_n (np := 1) F dX0_forget_0 rfl rfl <| rn_iconst (np := 2) (v := 0) F dX0_forget_1 rfl rfl <| rn_putf (np := 5) F dX0_forget_2 rfl fP_X0_40 (fs hF rfl rfl) rfl rfl rfl <| rn_vret F Rr dX0_forget_5 ?_
  · exact ⟨rfl, rfl⟩
set_option maxRecDepth 20000 in
theorem c_X4_streetChanges {G : GxT} (hF : Full G) {h : HpT}   : mcv G yX4_streetChanges cX4_streetChanges 1 none 1 [.ref (gad G 0)] h (hs (hs h 21 0 0) 11 13 0) := by
  refine mc_of (by decide) (Nat.le_of_ble_eq_true rfl) (fun X hG F Rr hL => ?_)
  subst hG
  have F : FxT X cX4_streetChanges RX4 1 := F
  show rn X 0 [(0, .ref (gad X.1 0))] [] h
  refine rn_aload_n (np := 1) F dX4_streetChanges_0 rfl rfl <| rn_getr (np := 4) F dX4_streetChanges_1 rfl fF_X4_35 (fs hF rfl rfl) rfl <| rn_iconst (np := 5) (v := 0) F dX4_streetChanges_4 rfl rfl <| rn_putf (np := 8) F dX4_streetChanges_5 rfl fP_X4_196 (fs hF rfl rfl) rfl rfl rfl <| rn_aload_n (np := 9) F dX4_streetChanges_8 rfl rfl <| rn_getr (np := 12) F dX4_streetChanges_9 rfl fF_X4_21 (fs hF rfl rfl) rfl <| rn_cV0v (np := 15) F dX4_streetChanges_12 rfl cv_X0_forget wM_X4_202 (fs hF rfl rfl) rfl (c_X0_forget hF) (Nat.le_of_ble_eq_true rfl) (Nat.le_of_ble_eq_true rfl) <| rn_vret F Rr dX4_streetChanges_15 ?_
  · exact ⟨rfl, rfl⟩
set_option maxRecDepth 20000 in
theorem c_X2_takenBy {G : GxT} (hF : Full G) {h : HpT} {i t a : Nat} (hi : i < 9) (ht : t < 6) (ha : a < 6) (e : h 2 i = nI a) : mci G yX2_takenBy cX2_takenBy 3 (some .int) 0 [.ref (gad G 1), .int (nI i), .int (nI t)] h (tkV (h 2 i) (h 3 i) t) (h) := by
  refine mc_of (by decide) (Nat.le_of_ble_eq_true rfl) (fun X hG F Rr hL => ?_)
  subst hG
  have F : FxT X cX2_takenBy RX2 0 := F
  show rn X 0 [(0, .ref (gad X.1 1)), (1, .int (nI i)), (2, .int (nI t))] [] h
  refine rn_aload_n (np := 1) F dX2_takenBy_0 rfl rfl <| rn_getr (np := 4) F dX2_takenBy_1 rfl fF_X2_15 (fs hF rfl rfl) rfl <| rn_iload_n (np := 5) F dX2_takenBy_4 rfl rfl <| rn_ialdN (np := 6) F dX2_takenBy_5 rfl (fs hF rfl rfl) rfl (by omega) <| rn_times (np := 9) F dX2_takenBy_6 rfl <| rn_aload_n (np := 10) F dX2_takenBy_9 rfl rfl <| rn_getr (np := 13) F dX2_takenBy_10 rfl fF_X2_9 (fs hF rfl rfl) rfl <| rn_iload_n (np := 14) F dX2_takenBy_13 rfl rfl <| rn_ialdN (np := 15) F dX2_takenBy_14 rfl (fs hF rfl rfl) rfl (by omega) <| rn_bipush (np := 17) (v := 6) F dX2_takenBy_15 rfl rfl <| rn_imul (np := 18) F dX2_takenBy_17 rfl <| rn_iload_n (np := 19) F dX2_takenBy_18 rfl rfl <| rn_iadd (np := 20) F dX2_takenBy_19 rfl <| rn_tald (np := 21) F dX2_takenBy_20 rfl ?_ <| rn_imul (np := 22) F dX2_takenBy_21 rfl <| rn_iret F Rr dX2_takenBy_22 ?_
  · rw [e, ix6]; exact vp_in_nI (by omega) (by omega)
  · refine rI ?_ rfl
    rw [e, ix6, nI_clamp (by omega), tkV, nI_clamp (by omega)]
end
section
theorem fill_0 (f : Nat → Int32) (v : Int32) : fillF f 0 v = f := by funext j; simp [fillF]
theorem fill_step (h : HpT) (q i : Nat) (f : Nat → Int32) (v : Int32) : hs (va_up h q (fillF f i v)) q i v = va_up h q (fillF f (i + 1) v) := by
  rw [hs_up]
  congr 1
  funext j
  simp only [upd, fillF]
  by_cases h1 : j = i
  · rw [if_pos h1, if_pos (by omega)]
  · rw [if_neg h1]
    by_cases h2 : j < i
    · rw [if_pos h2, if_pos (by omega)]
    · rw [if_neg h2, if_neg (by omega)]
/-- the load of a phase in an hour -/
def ldV (so sz ph : Nat → Int32) (p t : Nat) : Nat → Int32
  | 0 => 0
  | k + 1 => ldV so sz ph p t k + (if ph k = nI p then tkV (so k) (sz k) t else 0)
def ldH (n : Nat) (h : HpT) : Nat → Int32 := fun j => if j < 18 then ldV (h 2) (h 3) (h 4) (j / 6) (j % 6) n else h 10 j
/-- the world with the loads as they must be -/
def cano (n : Nat) (h : HpT) : HpT := va_up h 10 (ldH n h)
def LI (n : Nat) (h : HpT) : Prop := ∀ j, j < 18 → h 10 j = ldV (h 2) (h 3) (h 4) (j / 6) (j % 6) n
theorem cano_id {n : Nat} {h : HpT} (hl : LI n h) : cano n h = h := by
  unfold cano
  have e : ldH n h = h 10 := by
    funext j
    unfold ldH
    split
    · rename_i hj; exact (hl j hj).symm
    · rfl
  rw [e, up_id]
theorem cano_LI (n : Nat) (h : HpT) : LI n (cano n h) := by
  intro j hj
  show ldH n h j = _
  unfold ldH
  rw [if_pos hj]
  rfl
theorem cano_cell (n : Nat) (h : HpT) {k : Nat} (hk : k ≠ 10) : cano n h k = h k := by unfold cano; exact va_up_ne _ _ hk
theorem ldV_cong {so sz ph so' sz' ph' : Nat → Int32} {p t : Nat} : ∀ {n : Nat}, (∀ i, i < n → so i = so' i ∧ sz i = sz' i ∧ ph i = ph' i) → ldV so sz ph p t n = ldV so' sz' ph' p t n
  | 0, _ => rfl
  | n + 1, hh => by
    have h1 := hh n (Nat.lt_succ_self n)
    unfold ldV
    rw [ldV_cong (fun i hi => hh i (Nat.lt_succ_of_lt hi)), h1.1, h1.2.1, h1.2.2]
theorem ldV_ph {so sz ph : Nat → Int32} {p t i : Nat} {x : Int32} : ∀ {n : Nat}, i < n → ldV so sz (upd ph i x) p t n = ldV so sz ph p t n - (if ph i = nI p then tkV (so i) (sz i) t else 0) + (if x = nI p then tkV (so i) (sz i) t else 0)
  | 0, hi => absurd hi (Nat.not_lt_zero _)
  | n + 1, hi => by
    unfold ldV
    by_cases e : i = n
    · subst e
      rw [pk_us, ldV_cong (ph' := ph) (fun j hj => ⟨rfl, rfl, pk_un (by omega)⟩)]
      grind
    · rw [pk_un (by omega), ldV_ph (by omega)]
      grind
theorem ldV_so {so sz ph so' sz' : Nat → Int32} {p t i : Nat} : ∀ {n : Nat}, i < n → (∀ j, j ≠ i → so' j = so j ∧ sz' j = sz j) → ldV so' sz' ph p t n = ldV so sz ph p t n - (if ph i = nI p then tkV (so i) (sz i) t else 0) + (if ph i = nI p then tkV (so' i) (sz' i) t else 0)
  | 0, hi, _ => absurd hi (Nat.not_lt_zero _)
  | n + 1, hi, hj => by
    unfold ldV
    by_cases e : i = n
    · subst e
      rw [ldV_cong (so' := so) (sz' := sz) (fun j hj2 => ⟨(hj j (by omega)).1, (hj j (by omega)).2, rfl⟩)]
      grind
    · rw [(hj n (by omega)).1, (hj n (by omega)).2, ldV_so (by omega) hj]
      grind
theorem al_step (h : HpT) (f : Nat → Int32) (p t : Nat) (v : Nat → Int32) : hs (va_up h 10 (alF f p v t)) 10 (p * 6 + t) (va_up h 10 (alF f p v t) 10 (p * 6 + t) + v t) = va_up h 10 (alF f p v (t + 1)) := by
  rw [hs_up, va_up_self]
  congr 1
  funext j
  simp only [upd, alF]
  by_cases h1 : j = p * 6 + t
  · subst h1
    rw [if_pos rfl, if_neg (by omega), if_pos (by omega), Nat.add_sub_cancel_left]
  · rw [if_neg h1]
    by_cases h2 : p * 6 ≤ j ∧ j < p * 6 + t
    · rw [if_pos h2, if_pos (by omega)]
    · rw [if_neg h2, if_neg (by omega)]
theorem al_0 (f : Nat → Int32) (p : Nat) (v : Nat → Int32) : alF f p v 0 = f := by funext j; unfold alF; rw [if_neg (by omega)]
/-- what holds of the street's cells -/
def SI (n : Nat) (h : HpT) : Prop := n ≤ 9 ∧ h 1 9 = nI n ∧ (∀ i, i < 9 → ∃ a, a < 6 ∧ h 2 i = nI a) ∧ (∀ i, i < 9 → ∃ a, a < 3 ∧ h 4 i = nI a) ∧ LI n h
end
section
set_option maxRecDepth 20000 in
theorem l_J7_fill_53178 {X : XxT} {post : Option Value → HpT → Prop} (hF : Full X.1) (F : FxT X cJ7_fill_53178 RJ7 0) (Rr : RxT X none post) (hL : X.2.2.2.2.2.2.2.2.2.2.2.2.2.1 = 4) {h : HpT} {q nq : Nat} {v : Int32} (hq : shp X.1 q (.inl nq)) (hb : nq < 2147483648) (hp : post none (va_up h q (fillF (h q) nq v))) : ∀ (k : Nat) (i : Nat), nq - i < k → i ≤ nq → rn X 5 [(0, .ref (gad X.1 q)), (1, .int v), (2, .int (nI i)), (3, .int (nI nq))] [] (va_up h q (fillF (h q) i v)) := by
  intro k
  induction k with
  | zero => intro i hk; exact absurd hk (Nat.not_lt_zero _)
  | succ k ih =>
    intro i hk hi
    refine rn_iload_n (np := 6) F dJ7_fill_53178_5 rfl rfl <| rn_iload_n (np := 7) F dJ7_fill_53178_6 rfl rfl <| rn_Nge (tg := 20) (np := 10) F dJ7_fill_53178_7 rfl rfl rfl rfl (by omega) (fun c7 => rn_vret F Rr dJ7_fill_53178_20 ?_) (fun c7 => rn_aload_n (np := 11) F dJ7_fill_53178_10 rfl rfl <| rn_iload_n (np := 12) F dJ7_fill_53178_11 rfl rfl <| rn_iload_n (np := 13) F dJ7_fill_53178_12 rfl rfl <| rn_iastN (np := 14) F dJ7_fill_53178_13 rfl hq rfl (by omega) <| rn_iincN (np := 17) F dJ7_fill_53178_14 rfl rfl hL rfl <| rn_goto (np := 5) F dJ7_fill_53178_17 rfl <| ?_)
    · rw [show i = nq by omega]; exact hp
    · rw [fill_step]; exact ih (i + 1) (by omega) (by omega)
set_option maxRecDepth 20000 in
theorem c_J7_fill_53178 {G : GxT} (hF : Full G) {h : HpT} {q nq : Nat} {v : Int32} (hq : shp G q (.inl nq)) (hb : nq < 2147483648) : mcv G yJ7_fill_53178 cJ7_fill_53178 4 none 0 [.ref (gad G q), .int v] h (va_up h q (fillF (h q) nq v)) := by
  refine mc_of (by decide) (Nat.le_of_ble_eq_true rfl) (fun X hG F Rr hL => ?_)
  subst hG
  have F : FxT X cJ7_fill_53178 RJ7 0 := F
  show rn X 0 [(0, .ref (gad X.1 q)), (1, .int v)] [] h
  refine rn_iconst (np := 1) (v := 0) F dJ7_fill_53178_0 rfl rfl <| rn_istore_n (np := 2) F dJ7_fill_53178_1 rfl hL rfl <| rn_aload_n (np := 3) F dJ7_fill_53178_2 rfl rfl <| rn_alen (np := 4) (v := nI nq) F dJ7_fill_53178_3 rfl hq rfl <| rn_istore_n (np := 5) F dJ7_fill_53178_4 rfl hL rfl <| ?_
  have e : va_up h q (fillF (h q) 0 v) = h := by rw [fill_0, up_id]
  have := l_J7_fill_53178 (h := h) (v := v) hF F Rr hL hq hb ⟨rfl, rfl⟩ (nq + 1) 0 (by omega) (by omega)
  rw [e] at this
  exact this
set_option maxRecDepth 20000 in
theorem l_X4_pack {X : XxT} {post : Option Value → HpT → Prop} (hF : Full X.1) (F : FxT X cX4_pack RX4 0) (Rr : RxT X (some .int) post) (hL : X.2.2.2.2.2.2.2.2.2.2.2.2.2.1 = 4) {h : HpT} {q nq n : Nat} (hq : shp X.1 q (.inl nq)) (hb : n ≤ nq ∧ nq < 2147483648) (hp : post (some (.int (packF (h q) n))) h) : ∀ (k : Nat) (i : Nat), n - i < k → i ≤ n → rn X 4 [(0, .ref (gad X.1 q)), (1, .int (nI n)), (2, .int (packF (h q) i)), (3, .int (nI i))] [] h := by
  intro k
  induction k with
  | zero => intro i hk; exact absurd hk (Nat.not_lt_zero _)
  | succ k ih =>
    intro i hk hi
    refine rn_iload_n (np := 5) F dX4_pack_4 rfl rfl <| rn_iload_n (np := 6) F dX4_pack_5 rfl rfl <| rn_Nge (tg := 25) (np := 9) F dX4_pack_6 rfl rfl rfl rfl (by omega) (fun c6 => rn_iload_n (np := 26) F dX4_pack_25 rfl rfl <| rn_iret F Rr dX4_pack_26 ?_) (fun c6 => rn_iload_n (np := 10) F dX4_pack_9 rfl rfl <| rn_aload_n (np := 11) F dX4_pack_10 rfl rfl <| rn_iload_n (np := 12) F dX4_pack_11 rfl rfl <| rn_ialdN (np := 13) F dX4_pack_12 rfl hq rfl (by omega) <| rn_iconst (np := 14) (v := 2) F dX4_pack_13 rfl rfl <| rn_iload_n (np := 15) F dX4_pack_14 rfl rfl <| rn_imul (np := 16) F dX4_pack_15 rfl <| rn_ishl (np := 17) F dX4_pack_16 rfl <| rn_ior (np := 18) F dX4_pack_17 rfl <| rn_istore_n (np := 19) F dX4_pack_18 rfl hL rfl <| rn_iincN (np := 22) F dX4_pack_19 rfl rfl hL rfl <| rn_goto (np := 4) F dX4_pack_22 rfl <| ?_)
    · rw [show i = n by omega]; exact hp
    · exact ih (i + 1) (by omega) (by omega)
set_option maxRecDepth 20000 in
theorem c_X4_pack {G : GxT} (hF : Full G) {h : HpT} {q nq n : Nat} (hq : shp G q (.inl nq)) (hb : n ≤ nq ∧ nq < 2147483648) : mci G yX4_pack cX4_pack 4 (some .int) 0 [.ref (gad G q), .int (nI n)] h (packF (h q) n) (h) := by
  refine mc_of (by decide) (Nat.le_of_ble_eq_true rfl) (fun X hG F Rr hL => ?_)
  subst hG
  have F : FxT X cX4_pack RX4 0 := F
  show rn X 0 [(0, .ref (gad X.1 q)), (1, .int (nI n))] [] h
  refine rn_iconst (np := 1) (v := 0) F dX4_pack_0 rfl rfl <| rn_istore_n (np := 2) F dX4_pack_1 rfl hL rfl <| rn_iconst (np := 3) (v := 0) F dX4_pack_2 rfl rfl <| rn_istore_n (np := 4) F dX4_pack_3 rfl hL rfl <| ?_
  exact l_X4_pack hF F Rr hL hq hb ⟨rfl, rfl⟩ (n + 1) 0 (by omega) (by omega)
set_option maxRecDepth 20000 in
theorem c_X2_loadOf {G : GxT} (hF : Full G) {h : HpT} {p t : Nat} (hp : p < 3) (ht : t < 6) : mci G yX2_loadOf cX2_loadOf 3 (some .int) 0 [.ref (gad G 1), .int (nI p), .int (nI t)] h (h 10 (p * 6 + t)) (h) := by
  refine mc_of (by decide) (Nat.le_of_ble_eq_true rfl) (fun X hG F Rr hL => ?_)
  subst hG
  have F : FxT X cX2_loadOf RX2 0 := F
  show rn X 0 [(0, .ref (gad X.1 1)), (1, .int (nI p)), (2, .int (nI t))] [] h
  refine rn_aload_n (np := 1) F dX2_loadOf_0 rfl rfl <| rn_getr (np := 4) F dX2_loadOf_1 rfl fF_X2_36 (fs hF rfl rfl) rfl <| rn_iload_n (np := 5) F dX2_loadOf_4 rfl rfl <| rn_bipush (np := 7) (v := 6) F dX2_loadOf_5 rfl rfl <| rn_imul (np := 8) F dX2_loadOf_7 rfl <| rn_iload_n (np := 9) F dX2_loadOf_8 rfl rfl <| rn_iadd (np := 10) F dX2_loadOf_9 rfl <| rn_ialdN (np := 11) F dX2_loadOf_10 rfl (fs hF rfl rfl) (ix6 p t) (by omega) <| rn_iret F Rr dX2_loadOf_11 ?_
  · exact rI rfl rfl
set_option maxRecDepth 20000 in
theorem c_X2_neutralOf {G : GxT} (hF : Full G) {h : HpT} {t : Nat} (ht : t < 6) : mci G yX2_neutralOf cX2_neutralOf 5 (some .int) 1 [.ref (gad G 1), .int (nI t)] h (ntC h t) (h) := by
  refine mc_of (by decide) (Nat.le_of_ble_eq_true rfl) (fun X hG F Rr hL => ?_)
  subst hG
  have F : FxT X cX2_neutralOf RX2 1 := F
  show rn X 0 [(0, .ref (gad X.1 1)), (1, .int (nI t))] [] h
  refine rn_aload_n (np := 1) F dX2_neutralOf_0 rfl rfl <| rn_iconst (np := 2) (v := 0) F dX2_neutralOf_1 rfl rfl <| rn_iload_n (np := 3) F dX2_neutralOf_2 rfl rfl <| rn_cV2i (np := 6) F dX2_neutralOf_3 rfl cv_X2_loadOf wM_X2_90 (fs hF rfl rfl) rfl (c_X2_loadOf (p := 0) hF (by omega) (by omega)) (Nat.le_of_ble_eq_true rfl) (Nat.le_of_ble_eq_true rfl) <| rn_istore_n (np := 7) F dX2_neutralOf_6 rfl hL rfl <| rn_aload_n (np := 8) F dX2_neutralOf_7 rfl rfl <| rn_iconst (np := 9) (v := 1) F dX2_neutralOf_8 rfl rfl <| rn_iload_n (np := 10) F dX2_neutralOf_9 rfl rfl <| rn_cV2i (np := 13) F dX2_neutralOf_10 rfl cv_X2_loadOf wM_X2_90 (fs hF rfl rfl) rfl (c_X2_loadOf (p := 1) hF (by omega) (by omega)) (Nat.le_of_ble_eq_true rfl) (Nat.le_of_ble_eq_true rfl) <| rn_istore_n (np := 14) F dX2_neutralOf_13 rfl hL rfl <| rn_aload_n (np := 15) F dX2_neutralOf_14 rfl rfl <| rn_iconst (np := 16) (v := 2) F dX2_neutralOf_15 rfl rfl <| rn_iload_n (np := 17) F dX2_neutralOf_16 rfl rfl <| rn_cV2i (np := 20) F dX2_neutralOf_17 rfl cv_X2_loadOf wM_X2_90 (fs hF rfl rfl) rfl (c_X2_loadOf (p := 2) hF (by omega) (by omega)) (Nat.le_of_ble_eq_true rfl) (Nat.le_of_ble_eq_true rfl) <| rn_istore (np := 22) F dX2_neutralOf_20 rfl hL rfl <| rn_iload_n (np := 23) F dX2_neutralOf_22 rfl rfl <| rn_iload_n (np := 24) F dX2_neutralOf_23 rfl rfl <| rn_imul (np := 25) F dX2_neutralOf_24 rfl <| rn_iload_n (np := 26) F dX2_neutralOf_25 rfl rfl <| rn_iload_n (np := 27) F dX2_neutralOf_26 rfl rfl <| rn_imul (np := 28) F dX2_neutralOf_27 rfl <| rn_iadd (np := 29) F dX2_neutralOf_28 rfl <| rn_iload (np := 31) F dX2_neutralOf_29 rfl rfl <| rn_iload (np := 33) F dX2_neutralOf_31 rfl rfl <| rn_imul (np := 34) F dX2_neutralOf_33 rfl <| rn_iadd (np := 35) F dX2_neutralOf_34 rfl <| rn_iload_n (np := 36) F dX2_neutralOf_35 rfl rfl <| rn_iload_n (np := 37) F dX2_neutralOf_36 rfl rfl <| rn_imul (np := 38) F dX2_neutralOf_37 rfl <| rn_isub (np := 39) F dX2_neutralOf_38 rfl <| rn_iload_n (np := 40) F dX2_neutralOf_39 rfl rfl <| rn_iload (np := 42) F dX2_neutralOf_40 rfl rfl <| rn_imul (np := 43) F dX2_neutralOf_42 rfl <| rn_isub (np := 44) F dX2_neutralOf_43 rfl <| rn_iload (np := 46) F dX2_neutralOf_44 rfl rfl <| rn_iload_n (np := 47) F dX2_neutralOf_46 rfl rfl <| rn_imul (np := 48) F dX2_neutralOf_47 rfl <| rn_isub (np := 49) F dX2_neutralOf_48 rfl <| rn_iret F Rr dX2_neutralOf_49 ?_
  · exact rI (by simp only [ntC, ntF, Nat.zero_mul, Nat.zero_add, Nat.one_mul]) rfl
set_option maxRecDepth 20000 in
theorem l_X2_griefNow {X : XxT} {post : Option Value → HpT → Prop} (hF : Full X.1) (F : FxT X cX2_griefNow RX2 2) (Rr : RxT X (some .int) post) (hL : X.2.2.2.2.2.2.2.2.2.2.2.2.2.1 = 3) {h : HpT} (hp : post (some (.int (grC h))) h) : ∀ (k : Nat) (i : Nat), 6 - i < k → i ≤ 6 → rn X 4 [(0, .ref (gad X.1 1)), (1, .int (gsum (h 9) (ntC h) i)), (2, .int (nI i))] [] h := by
  intro k
  induction k with
  | zero => intro i hk; exact absurd hk (Nat.not_lt_zero _)
  | succ k ih =>
    intro i hk hi
    refine rn_iload_n (np := 5) F dX2_griefNow_4 rfl rfl <| rn_bipush (np := 7) (v := 6) F dX2_griefNow_5 rfl rfl <| rn_Nge (tg := 31) (np := 10) (b := 6) F dX2_griefNow_7 rfl rfl rfl rfl (by omega) (fun c7 => rn_iload_n (np := 32) F dX2_griefNow_31 rfl rfl <| rn_iret F Rr dX2_griefNow_32 ?_) (fun c7 => rn_iload_n (np := 11) F dX2_griefNow_10 rfl rfl <| rn_aload_n (np := 12) F dX2_griefNow_11 rfl rfl <| rn_getr (np := 15) F dX2_griefNow_12 rfl fF_X2_33 (fs hF rfl rfl) rfl <| rn_iload_n (np := 16) F dX2_griefNow_15 rfl rfl <| rn_ialdN (np := 17) F dX2_griefNow_16 rfl (fs hF rfl rfl) rfl (by omega) <| rn_aload_n (np := 18) F dX2_griefNow_17 rfl rfl <| rn_iload_n (np := 19) F dX2_griefNow_18 rfl rfl <| rn_cV1i (np := 22) F dX2_griefNow_19 rfl cv_X2_neutralOf wM_X2_93 (fs hF rfl rfl) rfl (c_X2_neutralOf hF (by omega)) (Nat.le_of_ble_eq_true rfl) (Nat.le_of_ble_eq_true rfl) <| rn_imul (np := 23) F dX2_griefNow_22 rfl <| rn_iadd (np := 24) F dX2_griefNow_23 rfl <| rn_istore_n (np := 25) F dX2_griefNow_24 rfl hL rfl <| rn_iincN (np := 28) F dX2_griefNow_25 rfl rfl hL rfl <| rn_goto (np := 4) F dX2_griefNow_28 rfl <| ?_)
    · rw [show i = 6 by omega]; exact hp
    · exact ih (i + 1) (by omega) (by omega)
set_option maxRecDepth 20000 in
theorem c_X2_griefNow {G : GxT} (hF : Full G) {h : HpT}   : mci G yX2_griefNow cX2_griefNow 3 (some .int) 2 [.ref (gad G 1)] h (grC h) (h) := by
  refine mc_of (by decide) (Nat.le_of_ble_eq_true rfl) (fun X hG F Rr hL => ?_)
  subst hG
  have F : FxT X cX2_griefNow RX2 2 := F
  show rn X 0 [(0, .ref (gad X.1 1))] [] h
  refine rn_iconst (np := 1) (v := 0) F dX2_griefNow_0 rfl rfl <| rn_istore_n (np := 2) F dX2_griefNow_1 rfl hL rfl <| rn_iconst (np := 3) (v := 0) F dX2_griefNow_2 rfl rfl <| rn_istore_n (np := 4) F dX2_griefNow_3 rfl hL rfl <| ?_
  exact l_X2_griefNow hF F Rr hL ⟨rfl, rfl⟩ 7 0 (by omega) (by omega)
set_option maxRecDepth 20000 in
theorem l_X2_addLoads {X : XxT} {post : Option Value → HpT → Prop} (hF : Full X.1) (F : FxT X cX2_addLoads RX2 1) (Rr : RxT X none post) (hL : X.2.2.2.2.2.2.2.2.2.2.2.2.2.1 = 4) {h : HpT} {i p a : Nat} {tm : Int32} (hi : i < 9) (hpp : p < 3) (e4 : h 4 i = nI p) (ha : a < 6) (e2 : h 2 i = nI a) (hp : post none (va_up h 10 (alF (h 10) p (fun t => tm * tkV (h 2 i) (h 3 i) t) 6))) : ∀ (k : Nat) (t : Nat), 6 - t < k → t ≤ 6 → rn X 2 [(0, .ref (gad X.1 1)), (1, .int (nI i)), (2, .int tm), (3, .int (nI t))] [] (va_up h 10 (alF (h 10) p (fun t => tm * tkV (h 2 i) (h 3 i) t) t)) := by
  intro k
  induction k with
  | zero => intro t hk; exact absurd hk (Nat.not_lt_zero _)
  | succ k ih =>
    intro t hk ht
    refine rn_iload_n (np := 3) F dX2_addLoads_2 rfl rfl <| rn_bipush (np := 5) (v := 6) F dX2_addLoads_3 rfl rfl <| rn_Nge (tg := 41) (np := 8) (b := 6) F dX2_addLoads_5 rfl rfl rfl rfl (by omega) (fun c5 => rn_vret F Rr dX2_addLoads_41 ?_) (fun c5 => rn_aload_n (np := 9) F dX2_addLoads_8 rfl rfl <| rn_getr (np := 12) F dX2_addLoads_9 rfl fF_X2_36 (fs hF rfl rfl) rfl <| rn_aload_n (np := 13) F dX2_addLoads_12 rfl rfl <| rn_getr (np := 16) F dX2_addLoads_13 rfl fF_X2_18 (fs hF rfl rfl) rfl <| rn_iload_n (np := 17) F dX2_addLoads_16 rfl rfl <| rn_ialdE (np := 18) F dX2_addLoads_17 rfl (fs hF rfl rfl) rfl (by omega) e4 <| rn_bipush (np := 20) (v := 6) F dX2_addLoads_18 rfl rfl <| rn_imul (np := 21) F dX2_addLoads_20 rfl <| rn_iload_n (np := 22) F dX2_addLoads_21 rfl rfl <| rn_iadd (np := 23) F dX2_addLoads_22 rfl <| rn_dup2 (np := 24) F dX2_addLoads_23 rfl rfl rfl <| rn_ialdN (np := 25) F dX2_addLoads_24 rfl (fs hF rfl rfl) (ix6 p t) (by omega) <| rn_iload_n (np := 26) F dX2_addLoads_25 rfl rfl <| rn_aload_n (np := 27) F dX2_addLoads_26 rfl rfl <| rn_iload_n (np := 28) F dX2_addLoads_27 rfl rfl <| rn_iload_n (np := 29) F dX2_addLoads_28 rfl rfl <| rn_cV2i (np := 32) F dX2_addLoads_29 rfl cv_X2_takenBy wM_X2_65 (fs hF rfl rfl) rfl (c_X2_takenBy hF hi (by omega) ha e2) (Nat.le_of_ble_eq_true rfl) (Nat.le_of_ble_eq_true rfl) <| rn_imul (np := 33) F dX2_addLoads_32 rfl <| rn_iadd (np := 34) F dX2_addLoads_33 rfl <| rn_iastN (np := 35) F dX2_addLoads_34 rfl (fs hF rfl rfl) (ix6 p t) (by omega) <| rn_iincN (np := 38) F dX2_addLoads_35 rfl rfl hL rfl <| rn_goto (np := 2) F dX2_addLoads_38 rfl <| ?_)
    · rw [show t = 6 by omega]; exact hp
    · exact (al_step h (h 10) p t (fun t => tm * tkV (h 2 i) (h 3 i) t)) ▸ ih (t + 1) (by omega) (by omega)
set_option maxRecDepth 20000 in
theorem c_X2_addLoads {G : GxT} (hF : Full G) {h : HpT} {i p a : Nat} {tm : Int32} (hi : i < 9) (hpp : p < 3) (e4 : h 4 i = nI p) (ha : a < 6) (e2 : h 2 i = nI a) : mcv G yX2_addLoads cX2_addLoads 4 none 1 [.ref (gad G 1), .int (nI i), .int tm] h (va_up h 10 (alF (h 10) p (fun t => tm * tkV (h 2 i) (h 3 i) t) 6)) := by
  refine mc_of (by decide) (Nat.le_of_ble_eq_true rfl) (fun X hG F Rr hL => ?_)
  subst hG
  have F : FxT X cX2_addLoads RX2 1 := F
  show rn X 0 [(0, .ref (gad X.1 1)), (1, .int (nI i)), (2, .int tm)] [] h
  refine rn_iconst (np := 1) (v := 0) F dX2_addLoads_0 rfl rfl <| rn_istore_n (np := 2) F dX2_addLoads_1 rfl hL rfl <| ?_
  have e : va_up h 10 (alF (h 10) p (fun t => tm * tkV (h 2 i) (h 3 i) t) 0) = h := by rw [al_0, up_id]
  have := l_X2_addLoads (h := h) hF F Rr hL hi hpp e4 ha e2 ⟨rfl, rfl⟩ 7 0 (by omega) (by omega)
  rw [e] at this
  exact this
end
section
theorem alF_at {f : Nat → Int32} {p : Nat} {v : Nat → Int32} {j : Nat} : alF f p v 6 j = if j / 6 = p then f j + v (j % 6) else f j := by
  unfold alF
  by_cases e : j / 6 = p
  · rw [if_pos e, if_pos (by omega), show j - p * 6 = j % 6 by omega]
  · rw [if_neg e, if_neg (by omega)]
theorem nI_eqs {a b : Nat} (ha : a < 100) (hb : b < 100) : nI a = nI b ↔ a = b := nI_eq (by omega) (by omega)
theorem cano_up {n k : Nat} {h : HpT} {f : Nat → Int32} (hk : k ≠ 10) : cano n (va_up (cano n h) k f) = cano n (va_up h k f) := by
  unfold cano
  funext q
  by_cases e : q = 10
  · subst e
    rw [va_up_self, va_up_self]
    funext j
    unfold ldH
    by_cases hj : j < 18
    · rw [if_pos hj, if_pos hj]
      congr 1 <;> (simp only [va_up]; by_cases e2 : k = 2 <;> by_cases e3 : k = 3 <;> by_cases e4 : k = 4 <;> simp_all <;> (try split) <;> rfl)
    · rw [if_neg hj, if_neg hj, va_up_ne _ _ (Ne.symm hk), va_up_ne _ _ (Ne.symm hk), va_up_self]
      rw [if_neg hj]
  · rw [va_up_ne _ _ e, va_up_ne _ _ e]
    by_cases e2 : q = k
    · subst e2; rw [va_up_self, va_up_self]
    · rw [va_up_ne _ _ e2, va_up_ne _ _ e2, va_up_ne _ _ e]
theorem SI_ph {n : Nat} {h : HpT} {g : Nat → Int32} (hS : SI n h) (hg : ∀ i, i < 9 → ∃ a, a < 3 ∧ g i = nI a) : SI n (cano n (va_up h 4 g)) := ⟨hS.1, hS.2.1, hS.2.2.1, hg, cano_LI _ _⟩
theorem SI_self {n : Nat} {h : HpT} (hS : SI n h) : cano n h = h := cano_id hS.2.2.2.2
theorem sp_heap {n i p0 p : Nat} {h : HpT} (hS : SI n h) (hi : i < n) (h0 : p0 < 3) (hp : p < 3) (e0 : h 4 i = nI p0) :
    va_up (hs (va_up h 10 (alF (h 10) p0 (fun t => -1 * tkV (h 2 i) (h 3 i) t) 6)) 4 i (nI p)) 10 (alF (alF (h 10) p0 (fun t => -1 * tkV (h 2 i) (h 3 i) t) 6) p (fun t => 1 * tkV (h 2 i) (h 3 i) t) 6) = cano n (hs h 4 i (nI p)) := by
  funext q
  by_cases e : q = 10
  · subst e
    rw [va_up_self]
    show _ = ldH n (hs h 4 i (nI p))
    funext j
    unfold ldH
    rw [alF_at, alF_at]
    by_cases hj : j < 18
    · rw [if_pos hj, hS.2.2.2.2 j hj]
      show _ = ldV (h 2) (h 3) (upd (h 4) i (nI p)) (j / 6) (j % 6) n
      rw [ldV_ph hi, e0]
      have q1 := nI_eqs (a := p0) (b := j / 6) (by omega) (by omega)
      have q2 := nI_eqs (a := p) (b := j / 6) (by omega) (by omega)
      by_cases r1 : j / 6 = p0 <;> by_cases r2 : j / 6 = p <;> simp only [q1, q2, r1, r2, if_true, if_false, eq_comm] <;> grind
    · rw [if_neg hj, if_neg (by omega), if_neg (by omega)]
      rfl
  · rw [va_up_ne _ _ e]
    unfold cano hs
    rw [va_up_ne _ _ e]
    by_cases e4 : q = 4
    · subst e4; rw [va_up_self, va_up_self]; rfl
    · rw [va_up_ne _ _ e4, va_up_ne _ _ e4, va_up_ne _ _ e]
theorem sh_heap {n i p c : Nat} {h : HpT} {v : Int32} (hS : SI n h) (hi : i < n) (hc : c = 2 ∨ c = 3 ∨ c = 5) (hp : p < 3) (e0 : h 4 i = nI p) :
    va_up (hs (va_up h 10 (alF (h 10) p (fun t => -1 * tkV (h 2 i) (h 3 i) t) 6)) c i v) 10 (alF (alF (h 10) p (fun t => -1 * tkV (h 2 i) (h 3 i) t) 6) p (fun t => 1 * tkV (hs h c i v 2 i) (hs h c i v 3 i) t) 6) = cano n (hs h c i v) := by
  funext q
  by_cases e : q = 10
  · subst e
    rw [va_up_self]
    show _ = ldH n (hs h c i v)
    funext j
    unfold ldH
    rw [alF_at, alF_at]
    by_cases hj : j < 18
    · rw [if_pos hj, hS.2.2.2.2 j hj]
      have e4 : hs h c i v 4 = h 4 := by rcases hc with rfl | rfl | rfl <;> rfl
      rw [e4, ldV_so (so := h 2) (sz := h 3) (so' := hs h c i v 2) (sz' := hs h c i v 3) hi (fun j hj2 => by rcases hc with rfl | rfl | rfl <;> (constructor <;> (rw [hs_at]; exact if_neg (by omega))))]
      rw [e0]
      have q1 := nI_eqs (a := p) (b := j / 6) (by omega) (by omega)
      by_cases r1 : j / 6 = p <;> simp only [q1, r1, if_true, if_false, eq_comm] <;> grind
    · rw [if_neg hj, if_neg (by omega), if_neg (by omega)]
      rcases hc with rfl | rfl | rfl <;> rfl
  · rw [va_up_ne _ _ e]
    unfold cano hs
    rw [va_up_ne _ _ e]
    by_cases e4 : q = c
    · subst e4; rw [va_up_self, va_up_self, va_up_ne _ _ e]
    · rw [va_up_ne _ _ e4, va_up_ne _ _ e4, va_up_ne _ _ e]
def newC (h : HpT) (n : Nat) (so sz ph : Int32) : HpT := hs (hs (hs (hs (hs (hs h 1 9 (nI (n + 1))) 2 n so) 3 n sz) 4 n ph) 5 n 0) 6 n (nI n)
theorem ah_heap {n p : Nat} {h : HpT} {so sz : Int32} (hS : SI n h) (hn : n < 9) (hp : p < 3) :
    va_up (newC h n so sz (nI p)) 10 (alF (h 10) p (fun t => 1 * tkV so sz t) 6) = cano (n + 1) (newC h n so sz (nI p)) := by
  unfold cano
  congr 1
  funext j
  unfold ldH
  rw [alF_at]
  by_cases hj : j < 18
  · rw [if_pos hj, hS.2.2.2.2 j hj]
    show _ = ldV (upd (h 2) n so) (upd (h 3) n sz) (upd (h 4) n (nI p)) (j / 6) (j % 6) (n + 1)
    rw [ldV, ldV_cong (so' := h 2) (sz' := h 3) (ph' := h 4) (fun i hi => ⟨pk_un (by omega), pk_un (by omega), pk_un (by omega)⟩), pk_us, pk_us, pk_us]
    have q1 := nI_eqs (a := p) (b := j / 6) (by omega) (by omega)
    by_cases r1 : j / 6 = p <;> simp only [q1, r1, if_true, if_false, eq_comm] <;> grind
  · rw [if_neg hj, if_neg (by omega)]
    rfl
noncomputable def bP (c : Prop) : Int32 := @ite _ c (Classical.propDecidable c) 1 0
theorem bP_t {c : Prop} (h : c) : bP c = 1 := by unfold bP; exact if_pos h
theorem bP_f {c : Prop} (h : ¬ c) : bP c = 0 := by unfold bP; exact if_neg h
theorem bP_0 {c : Prop} (h : bP c = 0) : ¬ c := fun q => by rw [bP_t q] at h; cases h
theorem bP_1 {c : Prop} (h : ¬ bP c = 0) : c := Classical.byContradiction (fun q => h (bP_f q))
theorem bP_nar {c : Prop} : narrow .boolean (.int (bP c)) = .int (bP c) := by
  by_cases q : c
  · rw [bP_t q]; rfl
  · rw [bP_f q]; rfl
def absI (x : Int32) : Int32 := if 0 ≤ x then x else 0 - x
def hgF (f : Nat → Int32) : Nat → Nat
  | 0 => 0
  | k + 1 => if f (hgF f k) < f (k + 1) then k + 1 else hgF f k
theorem hgF_le (f : Nat → Int32) : ∀ k, hgF f k ≤ k
  | 0 => Nat.le_refl _
  | k + 1 => by unfold hgF; have := hgF_le f k; split <;> omega
def glF (f : Nat → Int32) : Nat → Int32
  | 0 => 0
  | k + 1 => if absI (glF f k) < absI (f k) then f k else glF f k
def fbF (f : Nat → Int32) : Nat → Int32
  | 0 => 0
  | k + 1 => fbF f k ||| (f k <<< (nI k &&& 31))
def idF (f : Nat → Int32) (n : Nat) : Nat → Int32 := fun i => if i < n then nI i else f i
theorem id_step (h : HpT) (i : Nat) (f : Nat → Int32) : hs (va_up h 6 (idF f i)) 6 i (nI i) = va_up h 6 (idF f (i + 1)) := by
  rw [hs_up]
  congr 1
  funext j
  simp only [upd, idF]
  by_cases h1 : j = i
  · rw [if_pos h1, if_pos (by omega), h1]
  · rw [if_neg h1]
    by_cases h2 : j < i
    · rw [if_pos h2, if_pos (by omega)]
    · rw [if_neg h2, if_neg (by omega)]
def lyF (l : Int32) (f : Nat → Int32) (n : Nat) : Nat → Int32 := fun i => if i < n then phF l (nI i) else f i
theorem ly_step (l : Int32) (f : Nat → Int32) (i : Nat) : upd (lyF l f i) i (phF l (nI i)) = lyF l f (i + 1) := by
  funext j
  simp only [upd, lyF]
  by_cases h1 : j = i
  · rw [if_pos h1, if_pos (by omega), h1]
  · rw [if_neg h1]
    by_cases h2 : j < i
    · rw [if_pos h2, if_pos (by omega)]
    · rw [if_neg h2, if_neg (by omega)]
def mgF (f : Nat → Int32) (a b : Int32) (n : Nat) : Nat → Int32 := fun i => if i < n ∧ f i = b then a else f i
def keepC (h : HpT) (u : Nat) (l : Int32) : HpT := if u < 8 then hs (hs h 22 u l) 21 0 (nI (u + 1)) else hs (hs (hs (va_up h 22 (va_cpy (h 22) (h 22) 1 0 7)) 21 0 7) 22 7 l) 21 0 8
end
section
set_option maxRecDepth 20000 in
theorem c_X2_setPhase {G : GxT} (hF : Full G) {h : HpT} {n i p : Nat} {x : Int32} (hS : SI n h) (hi : i < n) (hp : p < 3) (hx : x = nI p) : mcv G yX2_setPhase cX2_setPhase 3 none 2 [.ref (gad G 1), .int (nI i), .int x] h (cano n (hs h 4 i x)) := by
  refine mc_of (by decide) (Nat.le_of_ble_eq_true rfl) (fun X hG F Rr hL => ?_)
  subst hG
  have F : FxT X cX2_setPhase RX2 2 := F
  show rn X 0 [(0, .ref (gad X.1 1)), (1, .int (nI i)), (2, .int x)] [] h
  have hn := hS.1
  obtain ⟨p0, h0, e0⟩ := hS.2.2.2.1 i (by omega)
  obtain ⟨a, ha, ea⟩ := hS.2.2.1 i (by omega)
  refine rn_aload_n (np := 1) F dX2_setPhase_0 rfl rfl <| rn_iload_n (np := 2) F dX2_setPhase_1 rfl rfl <| rn_iconst (np := 3) (v := (-1)) F dX2_setPhase_2 rfl rfl <| rn_cV2v (np := 6) F dX2_setPhase_3 rfl cv_X2_addLoads wM_X2_55 (fs hF rfl rfl) rfl (c_X2_addLoads hF (by omega) h0 e0 ha ea) (Nat.le_of_ble_eq_true rfl) (Nat.le_of_ble_eq_true rfl) <| rn_aload_n (np := 7) F dX2_setPhase_6 rfl rfl <| rn_getr (np := 10) F dX2_setPhase_7 rfl fF_X2_18 (fs hF rfl rfl) rfl <| rn_iload_n (np := 11) F dX2_setPhase_10 rfl rfl <| rn_iload_n (np := 12) F dX2_setPhase_11 rfl rfl <| rn_iastN (np := 13) F dX2_setPhase_12 rfl (fs hF rfl rfl) rfl (by omega) <| rn_aload_n (np := 14) F dX2_setPhase_13 rfl rfl <| rn_iload_n (np := 15) F dX2_setPhase_14 rfl rfl <| rn_iconst (np := 16) (v := 1) F dX2_setPhase_15 rfl rfl <| rn_cV2v (np := 19) F dX2_setPhase_16 rfl cv_X2_addLoads wM_X2_55 (fs hF rfl rfl) rfl (c_X2_addLoads (p := p) hF (by omega) hp (by rw [hs_at]; simp [hx]) ha ea) (Nat.le_of_ble_eq_true rfl) (Nat.le_of_ble_eq_true rfl) <| rn_vret F Rr dX2_setPhase_19 ?_
  · subst hx
    exact ⟨rfl, sp_heap hS hi h0 hp e0⟩
set_option maxRecDepth 20000 in
theorem c_X2_swapPhases {G : GxT} (hF : Full G) {h : HpT} {n i o : Nat} (hS : SI n h) (hi : i < n) (ho : o < n) : mcv G yX2_swapPhases cX2_swapPhases 4 none 3 [.ref (gad G 1), .int (nI i), .int (nI o)] h (cano n (va_up h 4 (upd (upd (h 4) i (h 4 o)) o (h 4 i)))) := by
  refine mc_of (by decide) (Nat.le_of_ble_eq_true rfl) (fun X hG F Rr hL => ?_)
  subst hG
  have F : FxT X cX2_swapPhases RX2 3 := F
  show rn X 0 [(0, .ref (gad X.1 1)), (1, .int (nI i)), (2, .int (nI o))] [] h
  have hn := hS.1
  obtain ⟨p0, h0, e0⟩ := hS.2.2.2.1 i (by omega)
  obtain ⟨p1, h1, e1⟩ := hS.2.2.2.1 o (by omega)
  have hS2 : SI n (cano n (hs h 4 i (h 4 o))) := SI_ph hS (fun j hj => by
    by_cases e : j = i
    · subst e; exact ⟨p1, h1, by rw [pk_us]; exact e1⟩
    · rw [pk_un e]; exact hS.2.2.2.1 j hj)
  refine rn_aload_n (np := 1) F dX2_swapPhases_0 rfl rfl <| rn_getr (np := 4) F dX2_swapPhases_1 rfl fF_X2_18 (fs hF rfl rfl) rfl <| rn_iload_n (np := 5) F dX2_swapPhases_4 rfl rfl <| rn_ialdN (np := 6) F dX2_swapPhases_5 rfl (fs hF rfl rfl) rfl (by omega) <| rn_istore_n (np := 7) F dX2_swapPhases_6 rfl hL rfl <| rn_aload_n (np := 8) F dX2_swapPhases_7 rfl rfl <| rn_iload_n (np := 9) F dX2_swapPhases_8 rfl rfl <| rn_aload_n (np := 10) F dX2_swapPhases_9 rfl rfl <| rn_getr (np := 13) F dX2_swapPhases_10 rfl fF_X2_18 (fs hF rfl rfl) rfl <| rn_iload_n (np := 14) F dX2_swapPhases_13 rfl rfl <| rn_ialdN (np := 15) F dX2_swapPhases_14 rfl (fs hF rfl rfl) rfl (by omega) <| rn_cV2v (np := 18) F dX2_swapPhases_15 rfl cv_X2_setPhase wM_X2_62 (fs hF rfl rfl) rfl (c_X2_setPhase hF hS hi h1 e1) (Nat.le_of_ble_eq_true rfl) (Nat.le_of_ble_eq_true rfl) <| rn_aload_n (np := 19) F dX2_swapPhases_18 rfl rfl <| rn_iload_n (np := 20) F dX2_swapPhases_19 rfl rfl <| rn_iload_n (np := 21) F dX2_swapPhases_20 rfl rfl <| rn_cV2v (np := 24) F dX2_swapPhases_21 rfl cv_X2_setPhase wM_X2_62 (fs hF rfl rfl) rfl (c_X2_setPhase hF hS2 ho h0 e0) (Nat.le_of_ble_eq_true rfl) (Nat.le_of_ble_eq_true rfl) <| rn_vret F Rr dX2_swapPhases_24 ?_
  · refine ⟨rfl, ?_⟩
    show cano n (va_up (cano n (va_up h 4 (upd (h 4) i (h 4 o)))) 4 (upd (upd (h 4) i (h 4 o)) o (h 4 i))) = _
    rw [cano_up (by decide), up_up]
set_option maxRecDepth 20000 in
theorem c_X2_setHouse0 {G : GxT} (hF : Full G) {h : HpT} {n i : Nat} {v : Int32} (hS : SI n h) (hi : i < n) {b : Nat} (hb : b < 6) (hv : v = nI b) : mci G yX2_setHouse cX2_setHouse 6 (some .int) 2 [.ref (gad G 1), .int (nI i), .int 0, .int v] h (h 2 i) (cano n (hs h 2 i v)) := by
  refine mc_of (by decide) (Nat.le_of_ble_eq_true rfl) (fun X hG F Rr hL => ?_)
  subst hG
  have F : FxT X cX2_setHouse RX2 2 := F
  show rn X 0 [(0, .ref (gad X.1 1)), (1, .int (nI i)), (2, .int 0), (3, .int v)] [] h
  have hn := hS.1
  obtain ⟨p0, h0, e0⟩ := hS.2.2.2.1 i (by omega)
  obtain ⟨a, ha, ea⟩ := hS.2.2.1 i (by omega)
  refine rn_iload_n (np := 1) F dX2_setHouse_0 rfl rfl <| rn_if_ne (tg := 11) (np := 4) F dX2_setHouse_1 rfl rfl (fun q => absurd q ((by decide))) (fun _ => rn_aload_n (np := 5) F dX2_setHouse_4 rfl rfl <| rn_getr (np := 8) F dX2_setHouse_5 rfl fF_X2_9 (fs hF rfl rfl) rfl <| rn_goto (np := 27) F dX2_setHouse_8 rfl <| rn_astore (np := 29) F dX2_setHouse_27 rfl hL rfl <| rn_aload (np := 31) F dX2_setHouse_29 rfl rfl <| rn_iload_n (np := 32) F dX2_setHouse_31 rfl rfl <| rn_ialdN (np := 33) F dX2_setHouse_32 rfl (fs hF rfl rfl) rfl (by omega) <| rn_istore (np := 35) F dX2_setHouse_33 rfl hL rfl <| rn_aload_n (np := 36) F dX2_setHouse_35 rfl rfl <| rn_iload_n (np := 37) F dX2_setHouse_36 rfl rfl <| rn_iconst (np := 38) (v := (-1)) F dX2_setHouse_37 rfl rfl <| rn_cV2v (np := 41) F dX2_setHouse_38 rfl cv_X2_addLoads wM_X2_55 (fs hF rfl rfl) rfl (c_X2_addLoads hF (by omega) h0 e0 ha ea) (Nat.le_of_ble_eq_true rfl) (Nat.le_of_ble_eq_true rfl) <| rn_aload (np := 43) F dX2_setHouse_41 rfl rfl <| rn_iload_n (np := 44) F dX2_setHouse_43 rfl rfl <| rn_iload_n (np := 45) F dX2_setHouse_44 rfl rfl <| rn_iastN (np := 46) F dX2_setHouse_45 rfl (fs hF rfl rfl) rfl (by omega) <| rn_aload_n (np := 47) F dX2_setHouse_46 rfl rfl <| rn_iload_n (np := 48) F dX2_setHouse_47 rfl rfl <| rn_iconst (np := 49) (v := 1) F dX2_setHouse_48 rfl rfl <| rn_cV2v (np := 52) F dX2_setHouse_49 rfl cv_X2_addLoads wM_X2_55 (fs hF rfl rfl) rfl (c_X2_addLoads (p := p0) (a := b) hF (by omega) h0 e0 hb (by rw [hs_at]; simp [hv])) (Nat.le_of_ble_eq_true rfl) (Nat.le_of_ble_eq_true rfl) <| rn_iload (np := 54) F dX2_setHouse_52 rfl rfl <| rn_iret F Rr dX2_setHouse_54 ?_)
  · refine ⟨rfl, ?_⟩
    exact sh_heap (c := 2) hS hi (by decide) h0 e0
set_option maxRecDepth 20000 in
theorem c_X2_setHouse1 {G : GxT} (hF : Full G) {h : HpT} {n i : Nat} {v : Int32} (hS : SI n h) (hi : i < n) : mci G yX2_setHouse cX2_setHouse 6 (some .int) 2 [.ref (gad G 1), .int (nI i), .int 1, .int v] h (h 3 i) (cano n (hs h 3 i v)) := by
  refine mc_of (by decide) (Nat.le_of_ble_eq_true rfl) (fun X hG F Rr hL => ?_)
  subst hG
  have F : FxT X cX2_setHouse RX2 2 := F
  show rn X 0 [(0, .ref (gad X.1 1)), (1, .int (nI i)), (2, .int 1), (3, .int v)] [] h
  have hn := hS.1
  obtain ⟨p0, h0, e0⟩ := hS.2.2.2.1 i (by omega)
  obtain ⟨a, ha, ea⟩ := hS.2.2.1 i (by omega)
  refine rn_iload_n (np := 1) F dX2_setHouse_0 rfl rfl <| rn_if_ne (tg := 11) (np := 4) F dX2_setHouse_1 rfl rfl (fun _ => rn_iload_n (np := 12) F dX2_setHouse_11 rfl rfl <| rn_iconst (np := 13) (v := 1) F dX2_setHouse_12 rfl rfl <| rn_icmp_ne (tg := 23) (np := 16) F dX2_setHouse_13 rfl rfl (fun q => absurd q ((by decide))) (fun _ => rn_aload_n (np := 17) F dX2_setHouse_16 rfl rfl <| rn_getr (np := 20) F dX2_setHouse_17 rfl fF_X2_15 (fs hF rfl rfl) rfl <| rn_goto (np := 27) F dX2_setHouse_20 rfl <| rn_astore (np := 29) F dX2_setHouse_27 rfl hL rfl <| rn_aload (np := 31) F dX2_setHouse_29 rfl rfl <| rn_iload_n (np := 32) F dX2_setHouse_31 rfl rfl <| rn_ialdN (np := 33) F dX2_setHouse_32 rfl (fs hF rfl rfl) rfl (by omega) <| rn_istore (np := 35) F dX2_setHouse_33 rfl hL rfl <| rn_aload_n (np := 36) F dX2_setHouse_35 rfl rfl <| rn_iload_n (np := 37) F dX2_setHouse_36 rfl rfl <| rn_iconst (np := 38) (v := (-1)) F dX2_setHouse_37 rfl rfl <| rn_cV2v (np := 41) F dX2_setHouse_38 rfl cv_X2_addLoads wM_X2_55 (fs hF rfl rfl) rfl (c_X2_addLoads hF (by omega) h0 e0 ha ea) (Nat.le_of_ble_eq_true rfl) (Nat.le_of_ble_eq_true rfl) <| rn_aload (np := 43) F dX2_setHouse_41 rfl rfl <| rn_iload_n (np := 44) F dX2_setHouse_43 rfl rfl <| rn_iload_n (np := 45) F dX2_setHouse_44 rfl rfl <| rn_iastN (np := 46) F dX2_setHouse_45 rfl (fs hF rfl rfl) rfl (by omega) <| rn_aload_n (np := 47) F dX2_setHouse_46 rfl rfl <| rn_iload_n (np := 48) F dX2_setHouse_47 rfl rfl <| rn_iconst (np := 49) (v := 1) F dX2_setHouse_48 rfl rfl <| rn_cV2v (np := 52) F dX2_setHouse_49 rfl cv_X2_addLoads wM_X2_55 (fs hF rfl rfl) rfl (c_X2_addLoads hF (by omega) h0 e0 ha ea) (Nat.le_of_ble_eq_true rfl) (Nat.le_of_ble_eq_true rfl) <| rn_iload (np := 54) F dX2_setHouse_52 rfl rfl <| rn_iret F Rr dX2_setHouse_54 ?_)) (fun q => absurd q ((by decide)))
  · refine ⟨rfl, ?_⟩
    exact sh_heap (c := 3) hS hi (by decide) h0 e0
set_option maxRecDepth 20000 in
theorem c_X2_setHouse2 {G : GxT} (hF : Full G) {h : HpT} {n i : Nat} {v : Int32} (hS : SI n h) (hi : i < n) : mci G yX2_setHouse cX2_setHouse 6 (some .int) 2 [.ref (gad G 1), .int (nI i), .int 2, .int v] h (h 5 i) (cano n (hs h 5 i v)) := by
  refine mc_of (by decide) (Nat.le_of_ble_eq_true rfl) (fun X hG F Rr hL => ?_)
  subst hG
  have F : FxT X cX2_setHouse RX2 2 := F
  show rn X 0 [(0, .ref (gad X.1 1)), (1, .int (nI i)), (2, .int 2), (3, .int v)] [] h
  have hn := hS.1
  obtain ⟨p0, h0, e0⟩ := hS.2.2.2.1 i (by omega)
  obtain ⟨a, ha, ea⟩ := hS.2.2.1 i (by omega)
  refine rn_iload_n (np := 1) F dX2_setHouse_0 rfl rfl <| rn_if_ne (tg := 11) (np := 4) F dX2_setHouse_1 rfl rfl (fun _ => rn_iload_n (np := 12) F dX2_setHouse_11 rfl rfl <| rn_iconst (np := 13) (v := 1) F dX2_setHouse_12 rfl rfl <| rn_icmp_ne (tg := 23) (np := 16) F dX2_setHouse_13 rfl rfl (fun _ => rn_aload_n (np := 24) F dX2_setHouse_23 rfl rfl <| rn_getr (np := 27) F dX2_setHouse_24 rfl fF_X2_21 (fs hF rfl rfl) rfl <| rn_astore (np := 29) F dX2_setHouse_27 rfl hL rfl <| rn_aload (np := 31) F dX2_setHouse_29 rfl rfl <| rn_iload_n (np := 32) F dX2_setHouse_31 rfl rfl <| rn_ialdN (np := 33) F dX2_setHouse_32 rfl (fs hF rfl rfl) rfl (by omega) <| rn_istore (np := 35) F dX2_setHouse_33 rfl hL rfl <| rn_aload_n (np := 36) F dX2_setHouse_35 rfl rfl <| rn_iload_n (np := 37) F dX2_setHouse_36 rfl rfl <| rn_iconst (np := 38) (v := (-1)) F dX2_setHouse_37 rfl rfl <| rn_cV2v (np := 41) F dX2_setHouse_38 rfl cv_X2_addLoads wM_X2_55 (fs hF rfl rfl) rfl (c_X2_addLoads hF (by omega) h0 e0 ha ea) (Nat.le_of_ble_eq_true rfl) (Nat.le_of_ble_eq_true rfl) <| rn_aload (np := 43) F dX2_setHouse_41 rfl rfl <| rn_iload_n (np := 44) F dX2_setHouse_43 rfl rfl <| rn_iload_n (np := 45) F dX2_setHouse_44 rfl rfl <| rn_iastN (np := 46) F dX2_setHouse_45 rfl (fs hF rfl rfl) rfl (by omega) <| rn_aload_n (np := 47) F dX2_setHouse_46 rfl rfl <| rn_iload_n (np := 48) F dX2_setHouse_47 rfl rfl <| rn_iconst (np := 49) (v := 1) F dX2_setHouse_48 rfl rfl <| rn_cV2v (np := 52) F dX2_setHouse_49 rfl cv_X2_addLoads wM_X2_55 (fs hF rfl rfl) rfl (c_X2_addLoads hF (by omega) h0 e0 ha ea) (Nat.le_of_ble_eq_true rfl) (Nat.le_of_ble_eq_true rfl) <| rn_iload (np := 54) F dX2_setHouse_52 rfl rfl <| rn_iret F Rr dX2_setHouse_54 ?_) (fun q => absurd q ((by decide)))) (fun q => absurd q ((by decide)))
  · refine ⟨rfl, ?_⟩
    exact sh_heap (c := 5) hS hi (by decide) h0 e0
set_option maxRecDepth 20000 in
theorem c_X2_addHouse {G : GxT} (hF : Full G) {h : HpT} {n a p : Nat} {z : Int32} (hS : SI n h) (hn : n < 9) (ha : a < 6) (hp : p < 3) : mci G yX2_addHouse cX2_addHouse 5 (some .int) 2 [.ref (gad G 1), .int (nI a), .int z, .int (nI p)] h (nI n) (cano (n + 1) (newC h n (nI a) z (nI p))) := by
  refine mc_of (by decide) (Nat.le_of_ble_eq_true rfl) (fun X hG F Rr hL => ?_)
  subst hG
  have F : FxT X cX2_addHouse RX2 2 := F
  show rn X 0 [(0, .ref (gad X.1 1)), (1, .int (nI a)), (2, .int z), (3, .int (nI p))] [] h
  refine rn_aload_n (np := 1) F dX2_addHouse_0 rfl rfl <| rn_getfE (np := 4) F dX2_addHouse_1 rfl fF_X2_52 (fs hF rfl rfl) rfl hS.2.1 <| rn_istore (np := 6) F dX2_addHouse_4 rfl hL rfl <| rn_aload_n (np := 7) F dX2_addHouse_6 rfl rfl <| rn_dup (np := 8) F dX2_addHouse_7 rfl rfl <| rn_getfE (np := 11) F dX2_addHouse_8 rfl fF_X2_52 (fs hF rfl rfl) rfl hS.2.1 <| rn_iconst (np := 12) (v := 1) F dX2_addHouse_11 rfl rfl <| rn_iadd (np := 13) F dX2_addHouse_12 rfl <| rn_topE (nI_1 n) <| rn_putf (np := 16) F dX2_addHouse_13 rfl fP_X2_52 (fs hF rfl rfl) rfl rfl rfl <| rn_aload_n (np := 17) F dX2_addHouse_16 rfl rfl <| rn_getr (np := 20) F dX2_addHouse_17 rfl fF_X2_9 (fs hF rfl rfl) rfl <| rn_iload (np := 22) F dX2_addHouse_20 rfl rfl <| rn_iload_n (np := 23) F dX2_addHouse_22 rfl rfl <| rn_iastN (np := 24) F dX2_addHouse_23 rfl (fs hF rfl rfl) rfl (by omega) <| rn_aload_n (np := 25) F dX2_addHouse_24 rfl rfl <| rn_getr (np := 28) F dX2_addHouse_25 rfl fF_X2_15 (fs hF rfl rfl) rfl <| rn_iload (np := 30) F dX2_addHouse_28 rfl rfl <| rn_iload_n (np := 31) F dX2_addHouse_30 rfl rfl <| rn_iastN (np := 32) F dX2_addHouse_31 rfl (fs hF rfl rfl) rfl (by omega) <| rn_aload_n (np := 33) F dX2_addHouse_32 rfl rfl <| rn_getr (np := 36) F dX2_addHouse_33 rfl fF_X2_18 (fs hF rfl rfl) rfl <| rn_iload (np := 38) F dX2_addHouse_36 rfl rfl <| rn_iload_n (np := 39) F dX2_addHouse_38 rfl rfl <| rn_iastN (np := 40) F dX2_addHouse_39 rfl (fs hF rfl rfl) rfl (by omega) <| rn_aload_n (np := 41) F dX2_addHouse_40 rfl rfl <| rn_getr (np := 44) F dX2_addHouse_41 rfl fF_X2_21 (fs hF rfl rfl) rfl <| rn_iload (np := 46) F dX2_addHouse_44 rfl rfl <| rn_iconst (np := 47) (v := 0) F dX2_addHouse_46 rfl rfl <| rn_iastN (np := 48) F dX2_addHouse_47 rfl (fs hF rfl rfl) rfl (by omega) <| rn_aload_n (np := 49) F dX2_addHouse_48 rfl rfl <| rn_getr (np := 52) F dX2_addHouse_49 rfl fF_X2_24 (fs hF rfl rfl) rfl <| rn_iload (np := 54) F dX2_addHouse_52 rfl rfl <| rn_iload (np := 56) F dX2_addHouse_54 rfl rfl <| rn_iastN (np := 57) F dX2_addHouse_56 rfl (fs hF rfl rfl) rfl (by omega) <| rn_aload_n (np := 58) F dX2_addHouse_57 rfl rfl <| rn_iload (np := 60) F dX2_addHouse_58 rfl rfl <| rn_iconst (np := 61) (v := 1) F dX2_addHouse_60 rfl rfl <| rn_cV2v (np := 64) F dX2_addHouse_61 rfl cv_X2_addLoads wM_X2_55 (fs hF rfl rfl) rfl (c_X2_addLoads (i := n) (p := p) (a := a) hF hn hp (by rw [hs_at, hs_at, hs_at]; simp) ha (by simp [hs_at])) (Nat.le_of_ble_eq_true rfl) (Nat.le_of_ble_eq_true rfl) <| rn_iload (np := 66) F dX2_addHouse_64 rfl rfl <| rn_iret F Rr dX2_addHouse_66 ?_
  · refine ⟨rfl, ?_⟩
    have e1 : newC h n (nI a) z (nI p) 2 n = nI a := by unfold newC; simp [hs_at]
    have e2 : newC h n (nI a) z (nI p) 3 n = z := by unfold newC; simp [hs_at]
    show va_up (newC h n (nI a) z (nI p)) 10 (alF (h 10) p (fun t => 1 * tkV (newC h n (nI a) z (nI p) 2 n) (newC h n (nI a) z (nI p) 3 n) t) 6) = _
    rw [e1, e2]
    exact ah_heap hS hn hp
end
section
set_option maxRecDepth 20000 in
theorem c_X2_resetLimits {G : GxT} (hF : Full G) {h : HpT}   : mcv G yX2_resetLimits cX2_resetLimits 1 none 1 [.ref (gad G 1)] h (hs (va_up h 9 (fillF (h 9) 6 1)) 1 11 400) := by
  refine mc_of (by decide) (Nat.le_of_ble_eq_true rfl) (fun X hG F Rr hL => ?_)
  subst hG
  have F : FxT X cX2_resetLimits RX2 1 := F
  show rn X 0 [(0, .ref (gad X.1 1))] [] h
  refine rn_aload_n (np := 1) F dX2_resetLimits_0 rfl rfl <| rn_getr (np := 4) F dX2_resetLimits_1 rfl fF_X2_33 (fs hF rfl rfl) rfl <| rn_iconst (np := 5) (v := 1) F dX2_resetLimits_4 rfl rfl <| rn_cS2v (np := 8) F dX2_resetLimits_5 rfl cs_J7_fill_53178 wM_X2_42 (c_J7_fill_53178 hF (fs hF rfl rfl) (by decide)) (Nat.le_of_ble_eq_true rfl) (Nat.le_of_ble_eq_true rfl) <| rn_aload_n (np := 9) F dX2_resetLimits_8 rfl rfl <| rn_sipush (np := 12) (v := 400) F dX2_resetLimits_9 rfl rfl <| rn_putf (np := 15) F dX2_resetLimits_12 rfl fP_X2_48 (fs hF rfl rfl) rfl rfl rfl <| rn_vret F Rr dX2_resetLimits_15 ?_
  · exact ⟨rfl, rfl⟩
set_option maxRecDepth 20000 in
theorem l_X2_dropPairs {X : XxT} {post : Option Value → HpT → Prop} (hF : Full X.1) (F : FxT X cX2_dropPairs RX2 0) (Rr : RxT X none post) (hL : X.2.2.2.2.2.2.2.2.2.2.2.2.2.1 = 2) {h : HpT} {n : Nat} (hn : n ≤ 9) (eh : h 1 9 = nI n) (hp : post none (va_up h 6 (idF (h 6) n))) : ∀ (k : Nat) (i : Nat), n - i < k → i ≤ n → rn X 7 [(0, .ref (gad X.1 1)), (1, .int (nI i))] [] (va_up h 6 (idF (h 6) i)) := by
  intro k
  induction k with
  | zero => intro i hk; exact absurd hk (Nat.not_lt_zero _)
  | succ k ih =>
    intro i hk hi
    refine rn_iload_n (np := 8) F dX2_dropPairs_7 rfl rfl <| rn_aload_n (np := 9) F dX2_dropPairs_8 rfl rfl <| rn_getfE (np := 12) F dX2_dropPairs_9 rfl fF_X2_52 (fs hF rfl rfl) rfl eh <| rn_Nge (tg := 28) (np := 15) F dX2_dropPairs_12 rfl rfl rfl rfl (by omega) (fun c12 => rn_vret F Rr dX2_dropPairs_28 ?_) (fun c12 => rn_aload_n (np := 16) F dX2_dropPairs_15 rfl rfl <| rn_getr (np := 19) F dX2_dropPairs_16 rfl fF_X2_24 (fs hF rfl rfl) rfl <| rn_iload_n (np := 20) F dX2_dropPairs_19 rfl rfl <| rn_iload_n (np := 21) F dX2_dropPairs_20 rfl rfl <| rn_iastN (np := 22) F dX2_dropPairs_21 rfl (fs hF rfl rfl) rfl (by omega) <| rn_iincN (np := 25) F dX2_dropPairs_22 rfl rfl hL rfl <| rn_goto (np := 7) F dX2_dropPairs_25 rfl <| ?_)
    · rw [show i = n by omega]; exact hp
    · exact (id_step h i (h 6)) ▸ ih (i + 1) (by omega) (by omega)
set_option maxRecDepth 20000 in
theorem c_X2_dropPairs {G : GxT} (hF : Full G) {h : HpT} {n : Nat} (hn : n ≤ 9) (eh : h 1 9 = nI n) : mcv G yX2_dropPairs cX2_dropPairs 2 none 0 [.ref (gad G 1)] h (va_up (hs h 1 10 0) 6 (idF (h 6) n)) := by
  refine mc_of (by decide) (Nat.le_of_ble_eq_true rfl) (fun X hG F Rr hL => ?_)
  subst hG
  have F : FxT X cX2_dropPairs RX2 0 := F
  show rn X 0 [(0, .ref (gad X.1 1))] [] h
  refine rn_aload_n (np := 1) F dX2_dropPairs_0 rfl rfl <| rn_iconst (np := 2) (v := 0) F dX2_dropPairs_1 rfl rfl <| rn_putf (np := 5) F dX2_dropPairs_2 rfl fP_X2_69 (fs hF rfl rfl) rfl rfl rfl <| rn_iconst (np := 6) (v := 0) F dX2_dropPairs_5 rfl rfl <| rn_istore_n (np := 7) F dX2_dropPairs_6 rfl hL rfl <| ?_
  have e : va_up (hs h 1 10 0) 6 (idF (h 6) 0) = hs h 1 10 0 := by
    have : idF (h 6) 0 = h 6 := by funext j; simp [idF]
    rw [this]
    exact up_id (hs h 1 10 0) 6
  have := l_X2_dropPairs (h := hs h 1 10 0) (n := n) hF F Rr hL hn eh ⟨rfl, rfl⟩ (n + 1) 0 (by omega) (by omega)
  exact e ▸ this
set_option maxRecDepth 20000 in
theorem c_X2_dropHouses {G : GxT} (hF : Full G) {h : HpT} {n : Nat} (hn : n ≤ 9) (eh : h 1 9 = nI n) : mcv G yX2_dropHouses cX2_dropHouses 1 none 1 [.ref (gad G 1)] h (va_up (hs (va_up (hs h 1 10 0) 6 (idF (h 6) n)) 1 9 0) 10 (fillF (h 10) 18 0)) := by
  refine mc_of (by decide) (Nat.le_of_ble_eq_true rfl) (fun X hG F Rr hL => ?_)
  subst hG
  have F : FxT X cX2_dropHouses RX2 1 := F
  show rn X 0 [(0, .ref (gad X.1 1))] [] h
  refine rn_aload_n (np := 1) F dX2_dropHouses_0 rfl rfl <| rn_cV0v (np := 4) F dX2_dropHouses_1 rfl cv_X2_dropPairs wM_X2_59 (fs hF rfl rfl) rfl (c_X2_dropPairs hF hn eh) (Nat.le_of_ble_eq_true rfl) (Nat.le_of_ble_eq_true rfl) <| rn_aload_n (np := 5) F dX2_dropHouses_4 rfl rfl <| rn_iconst (np := 6) (v := 0) F dX2_dropHouses_5 rfl rfl <| rn_putf (np := 9) F dX2_dropHouses_6 rfl fP_X2_52 (fs hF rfl rfl) rfl rfl rfl <| rn_aload_n (np := 10) F dX2_dropHouses_9 rfl rfl <| rn_getr (np := 13) F dX2_dropHouses_10 rfl fF_X2_36 (fs hF rfl rfl) rfl <| rn_iconst (np := 14) (v := 0) F dX2_dropHouses_13 rfl rfl <| rn_cS2v (np := 17) F dX2_dropHouses_14 rfl cs_J7_fill_53178 wM_X2_42 (c_J7_fill_53178 hF (fs hF rfl rfl) (by decide)) (Nat.le_of_ble_eq_true rfl) (Nat.le_of_ble_eq_true rfl) <| rn_vret F Rr dX2_dropHouses_17 ?_
  · exact ⟨rfl, rfl⟩
set_option maxRecDepth 20000 in
theorem l_X2_fixedBits {X : XxT} {post : Option Value → HpT → Prop} (hF : Full X.1) (F : FxT X cX2_fixedBits RX2 0) (Rr : RxT X (some .int) post) (hL : X.2.2.2.2.2.2.2.2.2.2.2.2.2.1 = 3) {h : HpT} {n : Nat} (hn : n ≤ 9) (eh : h 1 9 = nI n) (hp : post (some (.int (fbF (h 5) n))) h) : ∀ (k : Nat) (i : Nat), n - i < k → i ≤ n → rn X 4 [(0, .ref (gad X.1 1)), (1, .int (fbF (h 5) i)), (2, .int (nI i))] [] h := by
  intro k
  induction k with
  | zero => intro i hk; exact absurd hk (Nat.not_lt_zero _)
  | succ k ih =>
    intro i hk hi
    refine rn_iload_n (np := 5) F dX2_fixedBits_4 rfl rfl <| rn_aload_n (np := 6) F dX2_fixedBits_5 rfl rfl <| rn_getfE (np := 9) F dX2_fixedBits_6 rfl fF_X2_52 (fs hF rfl rfl) rfl eh <| rn_Nge (tg := 29) (np := 12) F dX2_fixedBits_9 rfl rfl rfl rfl (by omega) (fun c9 => rn_iload_n (np := 30) F dX2_fixedBits_29 rfl rfl <| rn_iret F Rr dX2_fixedBits_30 ?_) (fun c9 => rn_iload_n (np := 13) F dX2_fixedBits_12 rfl rfl <| rn_aload_n (np := 14) F dX2_fixedBits_13 rfl rfl <| rn_getr (np := 17) F dX2_fixedBits_14 rfl fF_X2_21 (fs hF rfl rfl) rfl <| rn_iload_n (np := 18) F dX2_fixedBits_17 rfl rfl <| rn_ialdN (np := 19) F dX2_fixedBits_18 rfl (fs hF rfl rfl) rfl (by omega) <| rn_iload_n (np := 20) F dX2_fixedBits_19 rfl rfl <| rn_ishl (np := 21) F dX2_fixedBits_20 rfl <| rn_ior (np := 22) F dX2_fixedBits_21 rfl <| rn_istore_n (np := 23) F dX2_fixedBits_22 rfl hL rfl <| rn_iincN (np := 26) F dX2_fixedBits_23 rfl rfl hL rfl <| rn_goto (np := 4) F dX2_fixedBits_26 rfl <| ?_)
    · rw [show i = n by omega]; exact hp
    · exact ih (i + 1) (by omega) (by omega)
set_option maxRecDepth 20000 in
theorem c_X2_fixedBits {G : GxT} (hF : Full G) {h : HpT} {n : Nat} (hn : n ≤ 9) (eh : h 1 9 = nI n) : mci G yX2_fixedBits cX2_fixedBits 3 (some .int) 0 [.ref (gad G 1)] h (fbF (h 5) n) (h) := by
  refine mc_of (by decide) (Nat.le_of_ble_eq_true rfl) (fun X hG F Rr hL => ?_)
  subst hG
  have F : FxT X cX2_fixedBits RX2 0 := F
  show rn X 0 [(0, .ref (gad X.1 1))] [] h
  refine rn_iconst (np := 1) (v := 0) F dX2_fixedBits_0 rfl rfl <| rn_istore_n (np := 2) F dX2_fixedBits_1 rfl hL rfl <| rn_iconst (np := 3) (v := 0) F dX2_fixedBits_2 rfl rfl <| rn_istore_n (np := 4) F dX2_fixedBits_3 rfl hL rfl <| ?_
  exact l_X2_fixedBits hF F Rr hL hn eh ⟨rfl, rfl⟩ (n + 1) 0 (by omega) (by omega)
set_option maxRecDepth 20000 in
theorem c_X2_packedPhases {G : GxT} (hF : Full G) {h : HpT} {n : Nat} (hn : n ≤ 9) (eh : h 1 9 = nI n) : mci G yX2_packedPhases cX2_packedPhases 1 (some .int) 1 [.ref (gad G 1)] h (packF (h 4) n) (h) := by
  refine mc_of (by decide) (Nat.le_of_ble_eq_true rfl) (fun X hG F Rr hL => ?_)
  subst hG
  have F : FxT X cX2_packedPhases RX2 1 := F
  show rn X 0 [(0, .ref (gad X.1 1))] [] h
  refine rn_aload_n (np := 1) F dX2_packedPhases_0 rfl rfl <| rn_getr (np := 4) F dX2_packedPhases_1 rfl fF_X2_18 (fs hF rfl rfl) rfl <| rn_aload_n (np := 5) F dX2_packedPhases_4 rfl rfl <| rn_getfE (np := 8) F dX2_packedPhases_5 rfl fF_X2_52 (fs hF rfl rfl) rfl eh <| rn_cN2i (np := 11) F dX2_packedPhases_8 rfl cs_X4_pack (rn_nw80 F) (c_X4_pack hF (fs hF rfl rfl) (by omega)) (Nat.le_of_ble_eq_true rfl) (Nat.le_of_ble_eq_true rfl) <| rn_iret F Rr dX2_packedPhases_11 ?_
  · exact ⟨rfl, rfl⟩
set_option maxRecDepth 20000 in
theorem l_X2_isSafe {X : XxT} {post : Option Value → HpT → Prop} (hF : Full X.1) (F : FxT X cX2_isSafe RX2 1) (Rr : RxT X (some .boolean) post) (hL : X.2.2.2.2.2.2.2.2.2.2.2.2.2.1 = 2) {h : HpT} (h1 : (∀ j, j < 18 → absI (h 10 j) ≤ h 1 11) → post (some (.int 1)) h) (h0 : ¬ (∀ j, j < 18 → absI (h 10 j) ≤ h 1 11) → post (some (.int 0)) h) : ∀ (k : Nat) (i : Nat), 18 - i < k → i ≤ 18 → (∀ j, j < i → absI (h 10 j) ≤ h 1 11) → rn X 2 [(0, .ref (gad X.1 1)), (1, .int (nI i))] [] h := by
  intro k
  induction k with
  | zero => intro i hk; exact absurd hk (Nat.not_lt_zero _)
  | succ k ih =>
    intro i hk hi hj
    refine rn_iload_n (np := 3) F dX2_isSafe_2 rfl rfl <| rn_aload_n (np := 4) F dX2_isSafe_3 rfl rfl <| rn_getr (np := 7) F dX2_isSafe_4 rfl fF_X2_36 (fs hF rfl rfl) rfl <| rn_alen (np := 8) (v := 18) F dX2_isSafe_7 rfl (fs hF rfl rfl) rfl <| rn_Nge (tg := 35) (np := 11) (b := 18) F dX2_isSafe_8 rfl rfl rfl rfl (by omega) (fun c8 => rn_iconst (np := 36) (v := 1) F dX2_isSafe_35 rfl rfl <| rn_zret F Rr dX2_isSafe_36 rfl ?_) (fun c8 => rn_aload_n (np := 12) F dX2_isSafe_11 rfl rfl <| rn_getr (np := 15) F dX2_isSafe_12 rfl fF_X2_36 (fs hF rfl rfl) rfl <| rn_iload_n (np := 16) F dX2_isSafe_15 rfl rfl <| rn_ialdN (np := 17) F dX2_isSafe_16 rfl (fs hF rfl rfl) rfl (by omega) <| rn_mabs (np := 20) F dX2_isSafe_17 rfl wM_X2_97 wT_yJ9_abs_0f7a4 wN_J9 wC_yJ9_abs_0f7a4 (Nat.le_of_ble_eq_true rfl) (Nat.le_of_ble_eq_true rfl) <| rn_aload_n (np := 21) F dX2_isSafe_20 rfl rfl <| rn_getf (np := 24) F dX2_isSafe_21 rfl fF_X2_48 (fs hF rfl rfl) rfl <| rn_icmp_le (tg := 29) (np := 27) F dX2_isSafe_24 rfl rfl (fun c24 => rn_iincN (np := 32) F dX2_isSafe_29 rfl rfl hL rfl <| rn_goto (np := 2) F dX2_isSafe_32 rfl <| ?_) (fun c24 => rn_iconst (np := 28) (v := 0) F dX2_isSafe_27 rfl rfl <| rn_zret F Rr dX2_isSafe_28 rfl ?_))
    · rw [show i = 18 by omega] at hj; exact h1 hj
    · exact ih (i + 1) (by omega) (by omega) (lt_s hj c24)
    · exact h0 (fun q => c24 (q i (by omega)))
set_option maxRecDepth 20000 in
theorem c_X2_isSafe {G : GxT} (hF : Full G) {h : HpT}   : mci G yX2_isSafe cX2_isSafe 2 (some .boolean) 1 [.ref (gad G 1)] h (bP (∀ j, j < 18 → absI (h 10 j) ≤ h 1 11)) (h) := by
  refine mc_of (by decide) (Nat.le_of_ble_eq_true rfl) (fun X hG F Rr hL => ?_)
  subst hG
  have F : FxT X cX2_isSafe RX2 1 := F
  show rn X 0 [(0, .ref (gad X.1 1))] [] h
  refine rn_iconst (np := 1) (v := 0) F dX2_isSafe_0 rfl rfl <| rn_istore_n (np := 2) F dX2_isSafe_1 rfl hL rfl <| ?_
  exact l_X2_isSafe hF F Rr hL (fun q => ⟨by rw [bP_t q], rfl⟩) (fun q => ⟨by rw [bP_f q], rfl⟩) 19 0 (by omega) (by omega) lt_0
set_option maxRecDepth 20000 in
theorem l_X2_keepsTies {X : XxT} {post : Option Value → HpT → Prop} (hF : Full X.1) (F : FxT X cX2_keepsTies RX2 0) (Rr : RxT X (some .boolean) post) (hL : X.2.2.2.2.2.2.2.2.2.2.2.2.2.1 = 2) {h : HpT} {n : Nat} {lt : Nat → Nat} (hn : n ≤ 9) (eh : h 1 9 = nI n) (hlt : ∀ i, i < n → lt i ≤ i ∧ h 6 i = nI (lt i)) (h1 : (∀ j, j < n → h 4 j = h 4 (lt j)) → post (some (.int 1)) h) (h0 : ¬ (∀ j, j < n → h 4 j = h 4 (lt j)) → post (some (.int 0)) h) : ∀ (k : Nat) (i : Nat), n - i < k → i ≤ n → (∀ j, j < i → h 4 j = h 4 (lt j)) → rn X 2 [(0, .ref (gad X.1 1)), (1, .int (nI i))] [] h := by
  intro k
  induction k with
  | zero => intro i hk; exact absurd hk (Nat.not_lt_zero _)
  | succ k ih =>
    intro i hk hi hj
    refine rn_iload_n (np := 3) F dX2_keepsTies_2 rfl rfl <| rn_aload_n (np := 4) F dX2_keepsTies_3 rfl rfl <| rn_getfE (np := 7) F dX2_keepsTies_4 rfl fF_X2_52 (fs hF rfl rfl) rfl eh <| rn_Nge (tg := 38) (np := 10) F dX2_keepsTies_7 rfl rfl rfl rfl (by omega) (fun c7 => rn_iconst (np := 39) (v := 1) F dX2_keepsTies_38 rfl rfl <| rn_zret F Rr dX2_keepsTies_39 rfl ?_) (fun c7 => rn_aload_n (np := 11) F dX2_keepsTies_10 rfl rfl <| rn_getr (np := 14) F dX2_keepsTies_11 rfl fF_X2_18 (fs hF rfl rfl) rfl <| rn_iload_n (np := 15) F dX2_keepsTies_14 rfl rfl <| rn_ialdN (np := 16) F dX2_keepsTies_15 rfl (fs hF rfl rfl) rfl (by omega) <| rn_aload_n (np := 17) F dX2_keepsTies_16 rfl rfl <| rn_getr (np := 20) F dX2_keepsTies_17 rfl fF_X2_18 (fs hF rfl rfl) rfl <| rn_aload_n (np := 21) F dX2_keepsTies_20 rfl rfl <| rn_getr (np := 24) F dX2_keepsTies_21 rfl fF_X2_24 (fs hF rfl rfl) rfl <| rn_iload_n (np := 25) F dX2_keepsTies_24 rfl rfl <| rn_ialdE (np := 26) F dX2_keepsTies_25 rfl (fs hF rfl rfl) rfl (by omega) (hlt i (by omega)).2 <| rn_ialdN (np := 27) F dX2_keepsTies_26 rfl (fs hF rfl rfl) rfl (by have := (hlt i (by omega)).1; omega) <| rn_icmp_eq (tg := 32) (np := 30) F dX2_keepsTies_27 rfl rfl (fun c27 => rn_iincN (np := 35) F dX2_keepsTies_32 rfl rfl hL rfl <| rn_goto (np := 2) F dX2_keepsTies_35 rfl <| ?_) (fun c27 => rn_iconst (np := 31) (v := 0) F dX2_keepsTies_30 rfl rfl <| rn_zret F Rr dX2_keepsTies_31 rfl ?_))
    · rw [show i = n by omega] at hj; exact h1 hj
    · exact ih (i + 1) (by omega) (by omega) (lt_s hj c27)
    · exact h0 (fun q => c27 (q i (by omega)))
set_option maxRecDepth 20000 in
theorem c_X2_keepsTies {G : GxT} (hF : Full G) {h : HpT} {n : Nat} {lt : Nat → Nat} (hn : n ≤ 9) (eh : h 1 9 = nI n) (hlt : ∀ i, i < n → lt i ≤ i ∧ h 6 i = nI (lt i)) : mci G yX2_keepsTies cX2_keepsTies 2 (some .boolean) 0 [.ref (gad G 1)] h (bP (∀ j, j < n → h 4 j = h 4 (lt j))) (h) := by
  refine mc_of (by decide) (Nat.le_of_ble_eq_true rfl) (fun X hG F Rr hL => ?_)
  subst hG
  have F : FxT X cX2_keepsTies RX2 0 := F
  show rn X 0 [(0, .ref (gad X.1 1))] [] h
  refine rn_iconst (np := 1) (v := 0) F dX2_keepsTies_0 rfl rfl <| rn_istore_n (np := 2) F dX2_keepsTies_1 rfl hL rfl <| ?_
  exact l_X2_keepsTies hF F Rr hL hn eh hlt (fun q => ⟨by rw [bP_t q], rfl⟩) (fun q => ⟨by rw [bP_f q], rfl⟩) (n + 1) 0 (by omega) (by omega) lt_0
set_option maxRecDepth 20000 in
theorem l_X2_isTied {X : XxT} {post : Option Value → HpT → Prop} (hF : Full X.1) (F : FxT X cX2_isTied RX2 0) (Rr : RxT X (some .boolean) post) (hL : X.2.2.2.2.2.2.2.2.2.2.2.2.2.1 = 3) {h : HpT} {n i : Nat} (hn : n ≤ 9) (hi : i < n) (eh : h 1 9 = nI n) (h1 : (¬ ∀ j, j < n → ¬ (j ≠ i ∧ h 6 j = h 6 i)) → post (some (.int 1)) h) (h0 : (∀ j, j < n → ¬ (j ≠ i ∧ h 6 j = h 6 i)) → post (some (.int 0)) h) : ∀ (k : Nat) (o : Nat), n - o < k → o ≤ n → (∀ j, j < o → ¬ (j ≠ i ∧ h 6 j = h 6 i)) → rn X 2 [(0, .ref (gad X.1 1)), (1, .int (nI i)), (2, .int (nI o))] [] h := by
  intro k
  induction k with
  | zero => intro o hk; exact absurd hk (Nat.not_lt_zero _)
  | succ k ih =>
    intro o hk ho hj
    refine rn_iload_n (np := 3) F dX2_isTied_2 rfl rfl <| rn_aload_n (np := 4) F dX2_isTied_3 rfl rfl <| rn_getfE (np := 7) F dX2_isTied_4 rfl fF_X2_52 (fs hF rfl rfl) rfl eh <| rn_Nge (tg := 38) (np := 10) F dX2_isTied_7 rfl rfl rfl rfl (by omega) (fun c7 => rn_iconst (np := 39) (v := 0) F dX2_isTied_38 rfl rfl <| rn_zret F Rr dX2_isTied_39 rfl ?_) (fun c7 => rn_iload_n (np := 11) F dX2_isTied_10 rfl rfl <| rn_iload_n (np := 12) F dX2_isTied_11 rfl rfl <| rn_Neq (tg := 32) (np := 15) F dX2_isTied_12 rfl rfl rfl rfl (by omega) (fun c12 => rn_iincN (np := 35) F dX2_isTied_32 rfl rfl hL rfl <| rn_goto (np := 2) F dX2_isTied_35 rfl <| ?_) (fun c12 => rn_aload_n (np := 16) F dX2_isTied_15 rfl rfl <| rn_getr (np := 19) F dX2_isTied_16 rfl fF_X2_24 (fs hF rfl rfl) rfl <| rn_iload_n (np := 20) F dX2_isTied_19 rfl rfl <| rn_ialdN (np := 21) F dX2_isTied_20 rfl (fs hF rfl rfl) rfl (by omega) <| rn_aload_n (np := 22) F dX2_isTied_21 rfl rfl <| rn_getr (np := 25) F dX2_isTied_22 rfl fF_X2_24 (fs hF rfl rfl) rfl <| rn_iload_n (np := 26) F dX2_isTied_25 rfl rfl <| rn_ialdN (np := 27) F dX2_isTied_26 rfl (fs hF rfl rfl) rfl (by omega) <| rn_icmp_ne (tg := 32) (np := 30) F dX2_isTied_27 rfl rfl (fun c27 => rn_iincN (np := 35) F dX2_isTied_32 rfl rfl hL rfl <| rn_goto (np := 2) F dX2_isTied_35 rfl <| ?_) (fun c27 => rn_iconst (np := 31) (v := 1) F dX2_isTied_30 rfl rfl <| rn_zret F Rr dX2_isTied_31 rfl ?_)))
    · rw [show o = n by omega] at hj; exact h0 hj
    · exact ih (o + 1) (by omega) (by omega) (lt_s hj (fun q => q.1 c12))
    · exact ih (o + 1) (by omega) (by omega) (lt_s hj (fun q => c27 q.2))
    · exact h1 (fun q => q o (by omega) ⟨c12, c27⟩)
set_option maxRecDepth 20000 in
theorem c_X2_isTied {G : GxT} (hF : Full G) {h : HpT} {n i : Nat} (hn : n ≤ 9) (hi : i < n) (eh : h 1 9 = nI n) : mci G yX2_isTied cX2_isTied 3 (some .boolean) 0 [.ref (gad G 1), .int (nI i)] h (bP (¬ ∀ j, j < n → ¬ (j ≠ i ∧ h 6 j = h 6 i))) (h) := by
  refine mc_of (by decide) (Nat.le_of_ble_eq_true rfl) (fun X hG F Rr hL => ?_)
  subst hG
  have F : FxT X cX2_isTied RX2 0 := F
  show rn X 0 [(0, .ref (gad X.1 1)), (1, .int (nI i))] [] h
  refine rn_iconst (np := 1) (v := 0) F dX2_isTied_0 rfl rfl <| rn_istore_n (np := 2) F dX2_isTied_1 rfl hL rfl <| ?_
  exact l_X2_isTied hF F Rr hL hn hi eh (fun q => ⟨by rw [bP_t q], rfl⟩) (fun q => ⟨by rw [bP_f (fun z => z q)], rfl⟩) (n + 1) 0 (by omega) (by omega) lt_0
set_option maxRecDepth 20000 in
theorem l_X2_hourOfGreatestNeutral {X : XxT} {post : Option Value → HpT → Prop} (hF : Full X.1) (F : FxT X cX2_hourOfGreatestNeutral RX2 2) (Rr : RxT X (some .int) post) (hL : X.2.2.2.2.2.2.2.2.2.2.2.2.2.1 = 3) {h : HpT} (hp : post (some (.int (nI (hgF (ntC h) 5)))) h) : ∀ (k : Nat) (t : Nat), 5 - t < k → t ≤ 5 → rn X 4 [(0, .ref (gad X.1 1)), (1, .int (nI (hgF (ntC h) t))), (2, .int (nI (t + 1)))] [] h := by
  intro k
  induction k with
  | zero => intro t hk; exact absurd hk (Nat.not_lt_zero _)
  | succ k ih =>
    intro t hk ht
    refine rn_iload_n (np := 5) F dX2_hourOfGreatestNeutral_4 rfl rfl <| rn_bipush (np := 7) (v := 6) F dX2_hourOfGreatestNeutral_5 rfl rfl <| rn_Nge (tg := 31) (np := 10) (b := 6) F dX2_hourOfGreatestNeutral_7 rfl rfl rfl rfl (by omega) (fun c7 => rn_iload_n (np := 32) F dX2_hourOfGreatestNeutral_31 rfl rfl <| rn_iret F Rr dX2_hourOfGreatestNeutral_32 ?_) (fun c7 => rn_aload_n (np := 11) F dX2_hourOfGreatestNeutral_10 rfl rfl <| rn_iload_n (np := 12) F dX2_hourOfGreatestNeutral_11 rfl rfl <| rn_cV1i (np := 15) F dX2_hourOfGreatestNeutral_12 rfl cv_X2_neutralOf wM_X2_93 (fs hF rfl rfl) rfl (c_X2_neutralOf hF (by omega)) (Nat.le_of_ble_eq_true rfl) (Nat.le_of_ble_eq_true rfl) <| rn_aload_n (np := 16) F dX2_hourOfGreatestNeutral_15 rfl rfl <| rn_iload_n (np := 17) F dX2_hourOfGreatestNeutral_16 rfl rfl <| rn_cV1i (np := 20) F dX2_hourOfGreatestNeutral_17 rfl cv_X2_neutralOf wM_X2_93 (fs hF rfl rfl) rfl (c_X2_neutralOf hF (by have := hgF_le (ntC h) t; omega)) (Nat.le_of_ble_eq_true rfl) (Nat.le_of_ble_eq_true rfl) <| rn_icmp_le (tg := 25) (np := 23) F dX2_hourOfGreatestNeutral_20 rfl rfl (fun c20 => rn_iincN (np := 28) F dX2_hourOfGreatestNeutral_25 rfl rfl hL rfl <| rn_goto (np := 4) F dX2_hourOfGreatestNeutral_28 rfl <| ?_) (fun c20 => rn_iload_n (np := 24) F dX2_hourOfGreatestNeutral_23 rfl rfl <| rn_istore_n (np := 25) F dX2_hourOfGreatestNeutral_24 rfl hL rfl <| rn_iincN (np := 28) F dX2_hourOfGreatestNeutral_25 rfl rfl hL rfl <| rn_goto (np := 4) F dX2_hourOfGreatestNeutral_28 rfl <| ?_))
    · rw [show t = 5 by omega]; exact hp
    · have e : hgF (ntC h) (t + 1) = hgF (ntC h) t := by rw [hgF, if_neg (fun q => Int32.not_lt.mpr c20 q)]
      exact e ▸ ih (t + 1) (by omega) (by omega)
    · have e : hgF (ntC h) (t + 1) = t + 1 := by rw [hgF, if_pos (Int32.not_le.mp c20)]
      have z := ih (t + 1) (by omega) (by omega)
      rw [e] at z
      exact z
set_option maxRecDepth 20000 in
theorem c_X2_hourOfGreatestNeutral {G : GxT} (hF : Full G) {h : HpT}   : mci G yX2_hourOfGreatestNeutral cX2_hourOfGreatestNeutral 3 (some .int) 2 [.ref (gad G 1)] h (nI (hgF (ntC h) 5)) (h) := by
  refine mc_of (by decide) (Nat.le_of_ble_eq_true rfl) (fun X hG F Rr hL => ?_)
  subst hG
  have F : FxT X cX2_hourOfGreatestNeutral RX2 2 := F
  show rn X 0 [(0, .ref (gad X.1 1))] [] h
  refine rn_iconst (np := 1) (v := 0) F dX2_hourOfGreatestNeutral_0 rfl rfl <| rn_istore_n (np := 2) F dX2_hourOfGreatestNeutral_1 rfl hL rfl <| rn_iconst (np := 3) (v := 1) F dX2_hourOfGreatestNeutral_2 rfl rfl <| rn_istore_n (np := 4) F dX2_hourOfGreatestNeutral_3 rfl hL rfl <| ?_
  exact l_X2_hourOfGreatestNeutral hF F Rr hL ⟨rfl, rfl⟩ 6 0 (by omega) (by omega)
end
section
theorem mg_step (h : HpT) (i : Nat) (f : Nat → Int32) (a b : Int32) (e : f i = b) : hs (va_up h 6 (mgF f a b i)) 6 i a = va_up h 6 (mgF f a b (i + 1)) := by
  rw [hs_up]
  congr 1
  funext j
  simp only [upd, mgF]
  by_cases h1 : j = i
  · rw [if_pos h1, if_pos ⟨by omega, by rw [h1]; exact e⟩]
  · rw [if_neg h1]
    by_cases h2 : j < i ∧ f j = b
    · rw [if_pos h2, if_pos ⟨by omega, h2.2⟩]
    · rw [if_neg h2, if_neg (fun q => h2 ⟨by omega, q.2⟩)]
theorem mg_skip (i : Nat) (f : Nat → Int32) (a b : Int32) (e : ¬ f i = b) : mgF f a b i = mgF f a b (i + 1) := by
  funext j
  simp only [mgF]
  by_cases h2 : j < i ∧ f j = b
  · rw [if_pos h2, if_pos ⟨by omega, h2.2⟩]
  · rw [if_neg h2, if_neg (fun q => h2 ⟨by
      rcases Nat.lt_or_ge j i with z | z
      · exact z
      · exact absurd (by rw [← show j = i by omega]; exact q.2) e, q.2⟩)]
theorem mg_0 (f : Nat → Int32) (a b : Int32) : mgF f a b 0 = f := by funext j; simp [mgF]
theorem mg_at (f : Nat → Int32) (a b : Int32) (i : Nat) : mgF f a b i i = f i := by simp [mgF]
def glI (h : HpT) (k : Nat) : Int32 := h 10 ((k % 3) * 6 + k / 3)
theorem SI_ly {n i : Nat} {h : HpT} {l : Int32} (hS : SI n h) (hi : i ≤ n) (hl : ∀ i, i < n → ∃ p, p < 3 ∧ phF l (nI i) = nI p) : SI n (cano n (va_up h 4 (lyF l (h 4) i))) := SI_ph hS (fun j hj => by
  unfold lyF
  by_cases e : j < i
  · rw [if_pos e]; exact hl j (by omega)
  · rw [if_neg e]; exact hS.2.2.2.1 j hj)
theorem ly_heap {n i : Nat} {h : HpT} {l : Int32} : cano n (hs (cano n (va_up h 4 (lyF l (h 4) i))) 4 i (phF l (nI i))) = cano n (va_up h 4 (lyF l (h 4) (i + 1))) := by
  show cano n (va_up (cano n (va_up h 4 (lyF l (h 4) i))) 4 (upd (lyF l (h 4) i) i (phF l (nI i)))) = _
  rw [cano_up (by decide), up_up, ly_step]
theorem ly_0 (l : Int32) (f : Nat → Int32) : lyF l f 0 = f := by funext j; simp [lyF]
end
section
set_option maxRecDepth 20000 in
theorem l_X2_greatestLoad {X : XxT} {post : Option Value → HpT → Prop} (hF : Full X.1) (F : FxT X cX2_greatestLoad RX2 1) (Rr : RxT X (some .int) post) (hL : X.2.2.2.2.2.2.2.2.2.2.2.2.2.1 = 4) {h : HpT} (hp : post (some (.int (glF (glI h) 18))) h) : ∀ (k : Nat) (t p : Nat), 24 - (4 * t + p) < k → t < 6 → p ≤ 3 → rn X 12 [(0, .ref (gad X.1 1)), (1, .int (glF (glI h) (3 * t + p))), (2, .int (nI t)), (3, .int (nI p))] [] h := by
  intro k
  induction k with
  | zero => intro t p hk; exact absurd hk (Nat.not_lt_zero _)
  | succ k ih =>
    intro t p hk ht hpp
    refine rn_iload_n (np := 13) F dX2_greatestLoad_12 rfl rfl <| rn_iconst (np := 14) (v := 3) F dX2_greatestLoad_13 rfl rfl <| rn_Nge (tg := 46) (np := 17) (b := 3) F dX2_greatestLoad_14 rfl rfl rfl rfl (by omega) (fun c14 => rn_iincN (np := 49) F dX2_greatestLoad_46 rfl rfl hL rfl <| rn_goto (np := 4) F dX2_greatestLoad_49 rfl <| rn_iload_n (np := 5) F dX2_greatestLoad_4 rfl rfl <| rn_bipush (np := 7) (v := 6) F dX2_greatestLoad_5 rfl rfl <| rn_Nge (tg := 52) (np := 10) (b := 6) F dX2_greatestLoad_7 rfl rfl rfl rfl (by omega) (fun c7 => rn_iload_n (np := 53) F dX2_greatestLoad_52 rfl rfl <| rn_iret F Rr dX2_greatestLoad_53 ?_) (fun c7 => rn_iconst (np := 11) (v := 0) F dX2_greatestLoad_10 rfl rfl <| rn_istore_n (np := 12) F dX2_greatestLoad_11 rfl hL rfl <| ?_)) (fun c14 => rn_aload_n (np := 18) F dX2_greatestLoad_17 rfl rfl <| rn_iload_n (np := 19) F dX2_greatestLoad_18 rfl rfl <| rn_iload_n (np := 20) F dX2_greatestLoad_19 rfl rfl <| rn_cV2i (np := 23) F dX2_greatestLoad_20 rfl cv_X2_loadOf wM_X2_90 (fs hF rfl rfl) rfl (c_X2_loadOf hF (by omega) (by omega)) (Nat.le_of_ble_eq_true rfl) (Nat.le_of_ble_eq_true rfl) <| rn_mabs (np := 26) F dX2_greatestLoad_23 rfl wM_X2_97 wT_yJ9_abs_0f7a4 wN_J9 wC_yJ9_abs_0f7a4 (Nat.le_of_ble_eq_true rfl) (Nat.le_of_ble_eq_true rfl) <| rn_iload_n (np := 27) F dX2_greatestLoad_26 rfl rfl <| rn_mabs (np := 30) F dX2_greatestLoad_27 rfl wM_X2_97 wT_yJ9_abs_0f7a4 wN_J9 wC_yJ9_abs_0f7a4 (Nat.le_of_ble_eq_true rfl) (Nat.le_of_ble_eq_true rfl) <| rn_icmp_le (tg := 40) (np := 33) F dX2_greatestLoad_30 rfl rfl (fun c30 => rn_iincN (np := 43) F dX2_greatestLoad_40 rfl rfl hL rfl <| rn_goto (np := 12) F dX2_greatestLoad_43 rfl <| ?_) (fun c30 => rn_aload_n (np := 34) F dX2_greatestLoad_33 rfl rfl <| rn_iload_n (np := 35) F dX2_greatestLoad_34 rfl rfl <| rn_iload_n (np := 36) F dX2_greatestLoad_35 rfl rfl <| rn_cV2i (np := 39) F dX2_greatestLoad_36 rfl cv_X2_loadOf wM_X2_90 (fs hF rfl rfl) rfl (c_X2_loadOf hF (by omega) (by omega)) (Nat.le_of_ble_eq_true rfl) (Nat.le_of_ble_eq_true rfl) <| rn_istore_n (np := 40) F dX2_greatestLoad_39 rfl hL rfl <| rn_iincN (np := 43) F dX2_greatestLoad_40 rfl rfl hL rfl <| rn_goto (np := 12) F dX2_greatestLoad_43 rfl <| ?_))
    · rw [show 3 * t + p = 18 by omega]; exact hp
    · have z := ih (t + 1) 0 (by omega) (by omega) (by omega)
      rw [show 3 * (t + 1) + 0 = 3 * t + p by omega] at z
      exact z
    · have z := ih t (p + 1) (by omega) (by omega) (by omega)
      have e : glF (glI h) (3 * t + (p + 1)) = glF (glI h) (3 * t + p) := by
        show glF (glI h) (3 * t + p + 1) = _
        rw [glF, if_neg (Int32.not_lt.mpr ?_)]
        rw [glI, show (3 * t + p) % 3 = p by omega, show (3 * t + p) / 3 = t by omega]
        exact c30
      rw [e] at z
      exact z
    · have z := ih t (p + 1) (by omega) (by omega) (by omega)
      have e : glF (glI h) (3 * t + (p + 1)) = h 10 (p * 6 + t) := by
        show glF (glI h) (3 * t + p + 1) = _
        have e0 : glI h (3 * t + p) = h 10 (p * 6 + t) := by rw [glI, show (3 * t + p) % 3 = p by omega, show (3 * t + p) / 3 = t by omega]
        rw [glF, e0]; exact if_pos (Int32.not_le.mp c30)
      rw [e] at z
      exact z
set_option maxRecDepth 20000 in
theorem c_X2_greatestLoad {G : GxT} (hF : Full G) {h : HpT}   : mci G yX2_greatestLoad cX2_greatestLoad 4 (some .int) 1 [.ref (gad G 1)] h (glF (glI h) 18) (h) := by
  refine mc_of (by decide) (Nat.le_of_ble_eq_true rfl) (fun X hG F Rr hL => ?_)
  subst hG
  have F : FxT X cX2_greatestLoad RX2 1 := F
  show rn X 0 [(0, .ref (gad X.1 1))] [] h
  refine rn_iconst (np := 1) (v := 0) F dX2_greatestLoad_0 rfl rfl <| rn_istore_n (np := 2) F dX2_greatestLoad_1 rfl hL rfl <| rn_iconst (np := 3) (v := 0) F dX2_greatestLoad_2 rfl rfl <| rn_istore_n (np := 4) F dX2_greatestLoad_3 rfl hL rfl <| rn_iload_n (np := 5) F dX2_greatestLoad_4 rfl rfl <| rn_bipush (np := 7) (v := 6) F dX2_greatestLoad_5 rfl rfl <| rn_icmp_ge (tg := 52) (np := 10) F dX2_greatestLoad_7 rfl rfl (fun q => absurd q ((by decide))) (fun _ => rn_iconst (np := 11) (v := 0) F dX2_greatestLoad_10 rfl rfl <| rn_istore_n (np := 12) F dX2_greatestLoad_11 rfl hL rfl <| ?_)
  exact l_X2_greatestLoad hF F Rr hL ⟨rfl, rfl⟩ 25 0 0 (by omega) (by omega) (by omega)
set_option maxRecDepth 20000 in
theorem l_X2_layPacked {X : XxT} {post : Option Value → HpT → Prop} (hF : Full X.1) (F : FxT X cX2_layPacked RX2 3) (Rr : RxT X none post) (hL : X.2.2.2.2.2.2.2.2.2.2.2.2.2.1 = 3) {h : HpT} {n : Nat} {l : Int32} (hS : SI n h) (hl : ∀ i, i < n → ∃ p, p < 3 ∧ phF l (nI i) = nI p) (hp : post none (cano n (va_up h 4 (lyF l (h 4) n)))) : ∀ (k : Nat) (i : Nat), n - i < k → i ≤ n → rn X 2 [(0, .ref (gad X.1 1)), (1, .int l), (2, .int (nI i))] [] (cano n (va_up h 4 (lyF l (h 4) i))) := by
  intro k
  induction k with
  | zero => intro i hk; exact absurd hk (Nat.not_lt_zero _)
  | succ k ih =>
    intro i hk hi
    have hn := hS.1
    refine rn_iload_n (np := 3) F dX2_layPacked_2 rfl rfl <| rn_aload_n (np := 4) F dX2_layPacked_3 rfl rfl <| rn_getfE (np := 7) F dX2_layPacked_4 rfl fF_X2_52 (fs hF rfl rfl) rfl hS.2.1 <| rn_Nge (tg := 26) (np := 10) F dX2_layPacked_7 rfl rfl rfl rfl (by omega) (fun c7 => rn_vret F Rr dX2_layPacked_26 ?_) (fun c7 => rn_aload_n (np := 11) F dX2_layPacked_10 rfl rfl <| rn_iload_n (np := 12) F dX2_layPacked_11 rfl rfl <| rn_iload_n (np := 13) F dX2_layPacked_12 rfl rfl <| rn_iload_n (np := 14) F dX2_layPacked_13 rfl rfl <| rn_cN2i (np := 17) F dX2_layPacked_14 rfl cs_X4_phaseIn (rn_nw84 F) (c_X4_phaseIn) (Nat.le_of_ble_eq_true rfl) (Nat.le_of_ble_eq_true rfl) <| rn_cV2v (np := 20) F dX2_layPacked_17 rfl cv_X2_setPhase wM_X2_62 (fs hF rfl rfl) rfl (c_X2_setPhase (p := (hl i (by omega)).choose) hF (SI_ly hS hi hl) (by omega) (hl i (by omega)).choose_spec.1 (hl i (by omega)).choose_spec.2) (Nat.le_of_ble_eq_true rfl) (Nat.le_of_ble_eq_true rfl) <| rn_iincN (np := 23) F dX2_layPacked_20 rfl rfl hL rfl <| rn_goto (np := 2) F dX2_layPacked_23 rfl <| ?_)
    · rw [show i = n by omega]; exact hp
    · exact ly_heap ▸ ih (i + 1) (by omega) (by omega)
set_option maxRecDepth 20000 in
theorem c_X2_layPacked {G : GxT} (hF : Full G) {h : HpT} {n : Nat} {l : Int32} (hS : SI n h) (hl : ∀ i, i < n → ∃ p, p < 3 ∧ phF l (nI i) = nI p) : mcv G yX2_layPacked cX2_layPacked 3 none 3 [.ref (gad G 1), .int l] h (cano n (va_up h 4 (lyF l (h 4) n))) := by
  refine mc_of (by decide) (Nat.le_of_ble_eq_true rfl) (fun X hG F Rr hL => ?_)
  subst hG
  have F : FxT X cX2_layPacked RX2 3 := F
  show rn X 0 [(0, .ref (gad X.1 1)), (1, .int l)] [] h
  refine rn_iconst (np := 1) (v := 0) F dX2_layPacked_0 rfl rfl <| rn_istore_n (np := 2) F dX2_layPacked_1 rfl hL rfl <| ?_
  have e : cano n (va_up h 4 (lyF l (h 4) 0)) = h := by rw [ly_0, up_id]; exact SI_self hS
  have := l_X2_layPacked (h := h) hF F Rr hL hS hl ⟨rfl, rfl⟩ (n + 1) 0 (by omega) (by omega)
  rw [e] at this
  exact this
set_option maxRecDepth 20000 in
theorem l_X2_addPair {X : XxT} {post : Option Value → HpT → Prop} (hF : Full X.1) (F : FxT X cX2_addPair RX2 1) (Rr : RxT X none post) (hL : X.2.2.2.2.2.2.2.2.2.2.2.2.2.1 = 6) {h : HpT} {n : Nat} {a b i1 i2 : Int32} (hn : n ≤ 9) (eh : h 1 9 = nI n) (hp : post none (va_up h 6 (mgF (h 6) a b n))) : ∀ (k : Nat) (i : Nat), n - i < k → i ≤ n → rn X 66 [(0, .ref (gad X.1 1)), (1, .int i1), (2, .int i2), (3, .int a), (4, .int b), (5, .int (nI i))] [] (va_up h 6 (mgF (h 6) a b i)) := by
  intro k
  induction k with
  | zero => intro i hk; exact absurd hk (Nat.not_lt_zero _)
  | succ k ih =>
    intro i hk hi
    refine rn_iload (np := 68) F dX2_addPair_66 rfl rfl <| rn_aload_n (np := 69) F dX2_addPair_68 rfl rfl <| rn_getfE (np := 72) F dX2_addPair_69 rfl fF_X2_52 (fs hF rfl rfl) rfl eh <| rn_Nge (tg := 101) (np := 75) F dX2_addPair_72 rfl rfl rfl rfl (by omega) (fun c72 => rn_vret F Rr dX2_addPair_101 ?_) (fun c72 => rn_aload_n (np := 76) F dX2_addPair_75 rfl rfl <| rn_getr (np := 79) F dX2_addPair_76 rfl fF_X2_24 (fs hF rfl rfl) rfl <| rn_iload (np := 81) F dX2_addPair_79 rfl rfl <| rn_ialdE (np := 82) F dX2_addPair_81 rfl (fs hF rfl rfl) rfl (by omega) (mg_at (h 6) a b i) <| rn_iload (np := 84) F dX2_addPair_82 rfl rfl <| rn_icmp_ne (tg := 95) (np := 87) F dX2_addPair_84 rfl rfl (fun c84 => rn_iincN (np := 98) F dX2_addPair_95 rfl rfl hL rfl <| rn_goto (np := 66) F dX2_addPair_98 rfl <| ?_) (fun c84 => rn_aload_n (np := 88) F dX2_addPair_87 rfl rfl <| rn_getr (np := 91) F dX2_addPair_88 rfl fF_X2_24 (fs hF rfl rfl) rfl <| rn_iload (np := 93) F dX2_addPair_91 rfl rfl <| rn_iload_n (np := 94) F dX2_addPair_93 rfl rfl <| rn_iastN (np := 95) F dX2_addPair_94 rfl (fs hF rfl rfl) rfl (by omega) <| rn_iincN (np := 98) F dX2_addPair_95 rfl rfl hL rfl <| rn_goto (np := 66) F dX2_addPair_98 rfl <| ?_))
    · rw [show i = n by omega]; exact hp
    · rw [mg_skip i (h 6) a b c84]; exact ih (i + 1) (by omega) (by omega)
    · rw [mg_step h i (h 6) a b c84]; exact ih (i + 1) (by omega) (by omega)
set_option maxRecDepth 20000 in
theorem c_X2_addPair {G : GxT} (hF : Full G) {h : HpT} {n i o q : Nat} (hn : n ≤ 9) (eh : h 1 9 = nI n) (hi : i < n) (ho : o < n) (hq : q < 6) (eq : h 1 10 = nI q) : mcv G yX2_addPair cX2_addPair 6 none 1 [.ref (gad G 1), .int (nI i), .int (nI o)] h (va_up (hs (hs (hs h 7 q (nI i)) 8 q (nI o)) 1 10 (nI (q + 1))) 6 (mgF (h 6) (if h 6 o < h 6 i then h 6 o else h 6 i) (if h 6 i < h 6 o then h 6 o else h 6 i) n)) := by
  refine mc_of (by decide) (Nat.le_of_ble_eq_true rfl) (fun X hG F Rr hL => ?_)
  subst hG
  have F : FxT X cX2_addPair RX2 1 := F
  show rn X 0 [(0, .ref (gad X.1 1)), (1, .int (nI i)), (2, .int (nI o))] [] h
  refine rn_aload_n (np := 1) F dX2_addPair_0 rfl rfl <| rn_getr (np := 4) F dX2_addPair_1 rfl fF_X2_27 (fs hF rfl rfl) rfl <| rn_aload_n (np := 5) F dX2_addPair_4 rfl rfl <| rn_getfE (np := 8) F dX2_addPair_5 rfl fF_X2_69 (fs hF rfl rfl) rfl eq <| rn_iload_n (np := 9) F dX2_addPair_8 rfl rfl <| rn_iastN (np := 10) F dX2_addPair_9 rfl (fs hF rfl rfl) rfl (by omega) <| rn_aload_n (np := 11) F dX2_addPair_10 rfl rfl <| rn_getr (np := 14) F dX2_addPair_11 rfl fF_X2_30 (fs hF rfl rfl) rfl <| rn_aload_n (np := 15) F dX2_addPair_14 rfl rfl <| rn_getfE (np := 18) F dX2_addPair_15 rfl fF_X2_69 (fs hF rfl rfl) rfl eq <| rn_iload_n (np := 19) F dX2_addPair_18 rfl rfl <| rn_iastN (np := 20) F dX2_addPair_19 rfl (fs hF rfl rfl) rfl (by omega) <| rn_aload_n (np := 21) F dX2_addPair_20 rfl rfl <| rn_dup (np := 22) F dX2_addPair_21 rfl rfl <| rn_getfE (np := 25) F dX2_addPair_22 rfl fF_X2_69 (fs hF rfl rfl) rfl eq <| rn_iconst (np := 26) (v := 1) F dX2_addPair_25 rfl rfl <| rn_iadd (np := 27) F dX2_addPair_26 rfl <| rn_topE (nI_1 q) <| rn_putf (np := 30) F dX2_addPair_27 rfl fP_X2_69 (fs hF rfl rfl) rfl rfl rfl <| rn_aload_n (np := 31) F dX2_addPair_30 rfl rfl <| rn_getr (np := 34) F dX2_addPair_31 rfl fF_X2_24 (fs hF rfl rfl) rfl <| rn_iload_n (np := 35) F dX2_addPair_34 rfl rfl <| rn_ialdN (np := 36) F dX2_addPair_35 rfl (fs hF rfl rfl) rfl (by omega) <| rn_aload_n (np := 37) F dX2_addPair_36 rfl rfl <| rn_getr (np := 40) F dX2_addPair_37 rfl fF_X2_24 (fs hF rfl rfl) rfl <| rn_iload_n (np := 41) F dX2_addPair_40 rfl rfl <| rn_ialdN (np := 42) F dX2_addPair_41 rfl (fs hF rfl rfl) rfl (by omega) <| rn_mmin (np := 45) F dX2_addPair_42 rfl wM_X2_72 wT_yJ9_min_7cf53 wN_J9 wC_yJ9_min_7cf53 (Nat.le_of_ble_eq_true rfl) (Nat.le_of_ble_eq_true rfl) <| rn_istore_n (np := 46) F dX2_addPair_45 rfl hL rfl <| rn_aload_n (np := 47) F dX2_addPair_46 rfl rfl <| rn_getr (np := 50) F dX2_addPair_47 rfl fF_X2_24 (fs hF rfl rfl) rfl <| rn_iload_n (np := 51) F dX2_addPair_50 rfl rfl <| rn_ialdN (np := 52) F dX2_addPair_51 rfl (fs hF rfl rfl) rfl (by omega) <| rn_aload_n (np := 53) F dX2_addPair_52 rfl rfl <| rn_getr (np := 56) F dX2_addPair_53 rfl fF_X2_24 (fs hF rfl rfl) rfl <| rn_iload_n (np := 57) F dX2_addPair_56 rfl rfl <| rn_ialdN (np := 58) F dX2_addPair_57 rfl (fs hF rfl rfl) rfl (by omega) <| rn_mmax (np := 61) F dX2_addPair_58 rfl wM_X2_77 wT_yJ9_max_7cf53 wN_J9 wC_yJ9_max_7cf53 (Nat.le_of_ble_eq_true rfl) (Nat.le_of_ble_eq_true rfl) <| rn_istore (np := 63) F dX2_addPair_61 rfl hL rfl <| rn_iconst (np := 64) (v := 0) F dX2_addPair_63 rfl rfl <| rn_istore (np := 66) F dX2_addPair_64 rfl hL rfl <| ?_
  have z := l_X2_addPair (h := hs (hs (hs h 7 q (nI i)) 8 q (nI o)) 1 10 (nI (q + 1))) (a := if h 6 o < h 6 i then h 6 o else h 6 i) (b := if h 6 i < h 6 o then h 6 o else h 6 i) (i1 := nI i) (i2 := nI o) hF F Rr hL hn eh ⟨rfl, rfl⟩ (n + 1) 0 (by omega) (by omega)
  rw [mg_0, up_id] at z
  exact z
set_option maxRecDepth 20000 in
theorem l_X3_keep {X : XxT} {post : Option Value → HpT → Prop} (hF : Full X.1) (F : FxT X cX3_keep RX3 1) (Rr : RxT X none post) (hL : X.2.2.2.2.2.2.2.2.2.2.2.2.2.1 = 2) {h : HpT} {u : Nat} {l : Int32} (hu : u < 8) (e : h 21 0 = nI u) (hp : post none (hs (hs h 22 u l) 21 0 (nI (u + 1)))) : rn X 30 [(0, .ref (gad X.1 21)), (1, .int l)] [] h := by
  refine rn_aload_n (np := 31) F dX3_keep_30 rfl rfl <| rn_getr (np := 34) F dX3_keep_31 rfl fF_X3_9 (fs hF rfl rfl) rfl <| rn_aload_n (np := 35) F dX3_keep_34 rfl rfl <| rn_getfE (np := 38) F dX3_keep_35 rfl fF_X3_15 (fs hF rfl rfl) rfl e <| rn_iload_n (np := 39) F dX3_keep_38 rfl rfl <| rn_iastN (np := 40) F dX3_keep_39 rfl (fs hF rfl rfl) rfl (by omega) <| rn_aload_n (np := 41) F dX3_keep_40 rfl rfl <| rn_dup (np := 42) F dX3_keep_41 rfl rfl <| rn_getfE (np := 45) F dX3_keep_42 rfl fF_X3_15 (fs hF rfl rfl) rfl e <| rn_iconst (np := 46) (v := 1) F dX3_keep_45 rfl rfl <| rn_iadd (np := 47) F dX3_keep_46 rfl <| rn_topE (nI_1 u) <| rn_putf (np := 50) F dX3_keep_47 rfl fP_X3_15 (fs hF rfl rfl) rfl rfl rfl <| rn_vret F Rr dX3_keep_50 ?_
  exact hp
set_option maxRecDepth 20000 in
theorem c_X3_keep {G : GxT} (hF : Full G) {h : HpT} {u : Nat} {l : Int32} (hu : u ≤ 8) (e : h 21 0 = nI u) : mcv G yX3_keep cX3_keep 2 none 1 [.ref (gad G 21), .int l] h (keepC h u l) := by
  refine mc_of (by decide) (Nat.le_of_ble_eq_true rfl) (fun X hG F Rr hL => ?_)
  subst hG
  have F : FxT X cX3_keep RX3 1 := F
  show rn X 0 [(0, .ref (gad X.1 21)), (1, .int l)] [] h
  refine rn_aload_n (np := 1) F dX3_keep_0 rfl rfl <| rn_getfE (np := 4) F dX3_keep_1 rfl fF_X3_15 (fs hF rfl rfl) rfl e <| rn_bipush (np := 6) (v := 8) F dX3_keep_4 rfl rfl <| rn_Nlt (tg := 30) (np := 9) (b := 8) F dX3_keep_6 rfl rfl rfl rfl (by omega) (fun c6 => ?_) (fun c6 => rn_aload_n (np := 10) F dX3_keep_9 rfl rfl <| rn_getr (np := 13) F dX3_keep_10 rfl fF_X3_9 (fs hF rfl rfl) rfl <| rn_iconst (np := 14) (v := 1) F dX3_keep_13 rfl rfl <| rn_aload_n (np := 15) F dX3_keep_14 rfl rfl <| rn_getr (np := 18) F dX3_keep_15 rfl fF_X3_9 (fs hF rfl rfl) rfl <| rn_iconst (np := 19) (v := 0) F dX3_keep_18 rfl rfl <| rn_bipush (np := 21) (v := 7) F dX3_keep_19 rfl rfl <| rn_copy (np := 24) F dX3_keep_21 rfl wM_X3_19 wV_arraycopyName wT_arraycopyName wN_J10 (fs hF rfl rfl) (fs hF rfl rfl) (by decide) (by decide) (by decide) (by decide) (by decide) (Nat.le_of_ble_eq_true rfl) (Nat.le_of_ble_eq_true rfl) <| rn_aload_n (np := 25) F dX3_keep_24 rfl rfl <| rn_bipush (np := 27) (v := 7) F dX3_keep_25 rfl rfl <| rn_putf (np := 30) F dX3_keep_27 rfl fP_X3_15 (fs hF rfl rfl) rfl rfl rfl <| ?_)
  · exact l_X3_keep hF F Rr hL c6 e ⟨rfl, by rw [keepC, if_pos c6]⟩
  · exact l_X3_keep (u := 7) hF F Rr hL (by omega) (by rw [hs_at]; simp; rfl) ⟨rfl, by rw [keepC, if_neg c6]; rfl⟩
set_option maxRecDepth 20000 in
theorem c_X3_takeLast {G : GxT} (hF : Full G) {h : HpT} {u : Nat} (hu : u < 8) (e : h 21 0 = nI (u + 1)) : mci G yX3_takeLast cX3_takeLast 1 (some .int) 0 [.ref (gad G 21)] h (h 22 u) (hs h 21 0 (nI u)) := by
  refine mc_of (by decide) (Nat.le_of_ble_eq_true rfl) (fun X hG F Rr hL => ?_)
  subst hG
  have F : FxT X cX3_takeLast RX3 0 := F
  show rn X 0 [(0, .ref (gad X.1 21))] [] h
  refine rn_aload_n (np := 1) F dX3_takeLast_0 rfl rfl <| rn_dup (np := 2) F dX3_takeLast_1 rfl rfl <| rn_getfE (np := 5) F dX3_takeLast_2 rfl fF_X3_15 (fs hF rfl rfl) rfl e <| rn_iconst (np := 6) (v := 1) F dX3_takeLast_5 rfl rfl <| rn_isub (np := 7) F dX3_takeLast_6 rfl <| rn_topE (nI_pred u) <| rn_putf (np := 10) F dX3_takeLast_7 rfl fP_X3_15 (fs hF rfl rfl) rfl rfl rfl <| rn_aload_n (np := 11) F dX3_takeLast_10 rfl rfl <| rn_getr (np := 14) F dX3_takeLast_11 rfl fF_X3_9 (fs hF rfl rfl) rfl <| rn_aload_n (np := 15) F dX3_takeLast_14 rfl rfl <| rn_getfE (np := 18) F dX3_takeLast_15 rfl fF_X3_15 (fs hF rfl rfl) rfl (show _ = nI u by rw [hs_at]; simp) <| rn_ialdN (np := 19) F dX3_takeLast_18 rfl (fs hF rfl rfl) rfl (by omega) <| rn_iret F Rr dX3_takeLast_19 ?_
  · exact ⟨rfl, rfl⟩
set_option maxRecDepth 20000 in
theorem c_X4_phasesChange {G : GxT} (hF : Full G) {h : HpT} {n u : Nat} (hn : n ≤ 9) (eh : h 1 9 = nI n) (hu : u ≤ 8) (e : h 21 0 = nI u) : mcv G yX4_phasesChange cX4_phasesChange 1 none 2 [.ref (gad G 0)] h (hs (keepC h u (packF (h 4) n)) 11 13 0) := by
  refine mc_of (by decide) (Nat.le_of_ble_eq_true rfl) (fun X hG F Rr hL => ?_)
  subst hG
  have F : FxT X cX4_phasesChange RX4 2 := F
  show rn X 0 [(0, .ref (gad X.1 0))] [] h
  refine rn_aload_n (np := 1) F dX4_phasesChange_0 rfl rfl <| rn_getr (np := 4) F dX4_phasesChange_1 rfl fF_X4_35 (fs hF rfl rfl) rfl <| rn_aload_n (np := 5) F dX4_phasesChange_4 rfl rfl <| rn_getr (np := 8) F dX4_phasesChange_5 rfl fF_X4_10 (fs hF rfl rfl) rfl <| rn_cV0i (np := 11) F dX4_phasesChange_8 rfl cv_X2_packedPhases wM_X4_261 (fs hF rfl rfl) rfl (c_X2_packedPhases hF hn eh) (Nat.le_of_ble_eq_true rfl) (Nat.le_of_ble_eq_true rfl) <| rn_cV1v (np := 14) F dX4_phasesChange_11 rfl cv_X3_keep wM_X4_264 (fs hF rfl rfl) rfl (c_X3_keep hF hu e) (Nat.le_of_ble_eq_true rfl) (Nat.le_of_ble_eq_true rfl) <| rn_aload_n (np := 15) F dX4_phasesChange_14 rfl rfl <| rn_getr (np := 18) F dX4_phasesChange_15 rfl fF_X4_21 (fs hF rfl rfl) rfl <| rn_cV0v (np := 21) F dX4_phasesChange_18 rfl cv_X0_forget wM_X4_202 (fs hF rfl rfl) rfl (c_X0_forget hF) (Nat.le_of_ble_eq_true rfl) (Nat.le_of_ble_eq_true rfl) <| rn_vret F Rr dX4_phasesChange_21 ?_
  · exact ⟨rfl, rfl⟩
end
section
def sfV (so sz ph : Nat → Int32) (fu : Int32) (n : Nat) : Prop := ∀ j, j < 18 → absI (ldV so sz ph (j / 6) (j % 6) n) ≤ fu
def grV (so sz ph w : Nat → Int32) (n : Nat) : Int32 := gsum w (fun t => ntF (ldV so sz ph 0 t n) (ldV so sz ph 1 t n) (ldV so sz ph 2 t n)) 6
theorem gsum_cong {w n n' : Nat → Int32} : ∀ {k : Nat}, (∀ t, t < k → n t = n' t) → gsum w n k = gsum w n' k
  | 0, _ => rfl
  | k + 1, hh => by unfold gsum; rw [gsum_cong (fun t ht => hh t (by omega)), hh k (by omega)]
theorem grC_V {n : Nat} {h : HpT} (hl : LI n h) : grC h = grV (h 2) (h 3) (h 4) (h 9) n := by
  unfold grC grV
  refine gsum_cong (fun t ht => ?_)
  unfold ntC
  rw [hl t (by omega), hl (6 + t) (by omega), hl (12 + t) (by omega)]
  rw [show t / 6 = 0 by omega, show t % 6 = t by omega, show (6 + t) / 6 = 1 by omega, show (6 + t) % 6 = t by omega, show (12 + t) / 6 = 2 by omega, show (12 + t) % 6 = t by omega]
theorem sfC_V {n : Nat} {h : HpT} (hl : LI n h) : (∀ j, j < 18 → absI (h 10 j) ≤ h 1 11) ↔ sfV (h 2) (h 3) (h 4) (h 1 11) n := by
  unfold sfV
  constructor
  · intro q j hj; rw [← hl j hj]; exact q j hj
  · intro q j hj; rw [hl j hj]; exact q j hj
abbrev StF : Type := Nat → Int32
abbrev CmF : Type := StF → (Nat → Int32) → Int32 → Int32 → Int32 → StF
def st5 (f : StF) (g k a b : Int32) : StF := upd (upd (upd (upd (upd f 0 1) 1 g) 2 k) 3 a) 4 b
noncomputable def cmpC (so sz w : Nat → Int32) (fu : Int32) (n : Nat) : CmF := fun f ph k a b => if bP (sfV so sz ph fu n) = 1 ∧ (f 0 = 0 ∨ grV so sz ph w n < f 1) then st5 f (grV so sz ph w n) k a b else f
def swp (g : Nat → Int32) (i o : Nat) : Nat → Int32 := upd (upd g i (g o)) o (g i)
def tcF (cmp : CmF) (ph : Nat → Int32) (i : Nat) (f : StF) : Nat → StF
  | 0 => f
  | p + 1 => if nI p = ph i then tcF cmp ph i f p else cmp (tcF cmp ph i f p) (upd ph i (nI p)) 0 (nI i) (nI p)
def tsF (cmp : CmF) (fr ph : Nat → Int32) (i : Nat) (f : StF) : Nat → StF
  | 0 => f
  | m + 1 => if fr (i + 1 + m) = 0 ∨ ph (i + 1 + m) = ph i then tsF cmp fr ph i f m else cmp (tsF cmp fr ph i f m) (swp ph i (i + 1 + m)) 1 (nI i) (nI (i + 1 + m))
def fcF (cmp : CmF) (fr ph : Nat → Int32) (f : StF) : Nat → StF
  | 0 => f
  | i + 1 => if fr i = 0 then fcF cmp fr ph f i else tcF cmp ph i (fcF cmp fr ph f i) 3
def fsF (cmp : CmF) (fr ph : Nat → Int32) (n : Nat) (f : StF) : Nat → StF
  | 0 => f
  | i + 1 => if fr i = 0 then fsF cmp fr ph n f i else tsF cmp fr ph i (fsF cmp fr ph n f i) (n - (i + 1))
def fdF (cmp : CmF) (fr ph : Nat → Int32) (n : Nat) (f : StF) : StF := fsF cmp fr ph n (fcF cmp fr ph f n) n
/-- the world with the steps' cell f and the phases g, loads as they must be -/
def stt (n : Nat) (h : HpT) (f g : Nat → Int32) : HpT := cano n (va_up (va_up h 20 f) 4 g)
theorem stt_self {n : Nat} {h : HpT} (hS : SI n h) : stt n h (h 20) (h 4) = h := by unfold stt; rw [up_id, up_id, SI_self hS]
theorem stt_sp {n i : Nat} {h : HpT} {f g : Nat → Int32} {x : Int32} : cano n (hs (stt n h f g) 4 i x) = stt n h f (upd g i x) := by
  show cano n (va_up (cano n (va_up (va_up h 20 f) 4 g)) 4 (upd g i x)) = _
  rw [cano_up (by decide), up_up]; rfl
theorem stt_ph {n : Nat} {h : HpT} {f g g2 : Nat → Int32} : cano n (va_up (stt n h f g) 4 g2) = stt n h f g2 := by
  show cano n (va_up (cano n (va_up (va_up h 20 f) 4 g)) 4 g2) = _
  rw [cano_up (by decide), up_up]; rfl
theorem up_comm {α : Type} (f : Nat → α) {j k : Nat} (v w : α) (hjk : j ≠ k) : va_up (va_up f j v) k w = va_up (va_up f k w) j v := by
  funext q; simp only [va_up]; by_cases h1 : q = j <;> by_cases h2 : q = k <;> simp_all
theorem stt_20 {n : Nat} {h : HpT} {f f2 g : Nat → Int32} : va_up (stt n h f g) 20 f2 = stt n h f2 g := by
  unfold stt cano
  rw [up_comm _ _ _ (by decide), up_comm (va_up h 20 f) _ _ (by decide), up_up]
  rfl
theorem SI_stt {n : Nat} {h : HpT} {f g : Nat → Int32} (hS : SI n h) (hg : ∀ i, i < 9 → ∃ a, a < 3 ∧ g i = nI a) : SI n (stt n h f g) := ⟨hS.1, hS.2.1, hS.2.2.1, hg, cano_LI _ _⟩
theorem upd_rg {g : Nat → Int32} {i p : Nat} (hp : p < 3) (hg : ∀ i, i < 9 → ∃ a, a < 3 ∧ g i = nI a) : ∀ j, j < 9 → ∃ a, a < 3 ∧ upd g i (nI p) j = nI a := by
  intro j hj
  by_cases e : j = i
  · subst e; exact ⟨p, hp, pk_us⟩
  · rw [pk_un e]; exact hg j hj
theorem swp_rg {g : Nat → Int32} {i o : Nat} (hi : i < 9) (ho : o < 9) (hg : ∀ i, i < 9 → ∃ a, a < 3 ∧ g i = nI a) : ∀ j, j < 9 → ∃ a, a < 3 ∧ swp g i o j = nI a := by
  intro j hj
  unfold swp
  by_cases e : j = o
  · subst e; rw [pk_us]; exact hg i hi
  · rw [pk_un e]
    by_cases e : j = i
    · subst e; rw [pk_us]; exact hg o ho
    · rw [pk_un e]; exact hg j hj
theorem upd_upd (g : Nat → Int32) (i : Nat) (x y : Int32) : upd (upd g i x) i y = upd g i y := by funext j; simp only [upd]; split <;> rfl
theorem upd_id (g : Nat → Int32) (i : Nat) : upd g i (g i) = g := by funext j; simp only [upd]; split <;> simp_all
theorem swp_swp (g : Nat → Int32) {i o : Nat} (h : i ≠ o) : swp (swp g i o) i o = g := by
  funext j
  simp only [swp, upd]
  by_cases h1 : j = o <;> by_cases h2 : j = i <;> simp_all
theorem stt_stt {n : Nat} {h : HpT} {f g f2 g2 : Nat → Int32} : stt n (stt n h f g) f2 g2 = stt n h f2 g2 := by
  show cano n (va_up (va_up (stt n h f g) 20 f2) 4 g2) = _
  rw [stt_20, stt_ph]
theorem hs5 (h : HpT) (g k a b : Int32) : hs (hs (hs (hs (hs h 20 0 1) 20 1 g) 20 2 k) 20 3 a) 20 4 b = va_up h 20 (st5 (h 20) g k a b) := by
  show hs (hs (hs (hs (va_up h 20 (upd (h 20) 0 1)) 20 1 g) 20 2 k) 20 3 a) 20 4 b = _
  rw [hs_up, hs_up, hs_up, hs_up]; rfl
end
section
set_option maxRecDepth 20000 in
theorem c_X1_compare {G : GxT} (hF : Full G) {h : HpT} {n : Nat} {x y z : Int32} (hS : SI n h) : mcv G yX1_compare cX1_compare 5 none 3 [.ref (gad G 20), .int x, .int y, .int z] h (va_up h 20 (cmpC (h 2) (h 3) (h 9) (h 1 11) n (h 20) (h 4) x y z)) := by
  refine mc_of (by decide) (Nat.le_of_ble_eq_true rfl) (fun X hG F Rr hL => ?_)
  subst hG
  have F : FxT X cX1_compare RX1 3 := F
  show rn X 0 [(0, .ref (gad X.1 20)), (1, .int x), (2, .int y), (3, .int z)] [] h
  refine rn_aload_n (np := 1) F dX1_compare_0 rfl rfl <| rn_getr (np := 4) F dX1_compare_1 rfl fF_X1_9 (fs hF rfl rfl) rfl <| rn_cV0i (np := 7) F dX1_compare_4 rfl cv_X2_isSafe wM_X1_73 (fs hF rfl rfl) rfl (c_X2_isSafe hF) (Nat.le_of_ble_eq_true rfl) (Nat.le_of_ble_eq_true rfl) <| rn_if_ne (tg := 11) (np := 10) F dX1_compare_7 rfl rfl (fun c7 => rn_aload_n (np := 12) F dX1_compare_11 rfl rfl <| rn_getr (np := 15) F dX1_compare_12 rfl fF_X1_9 (fs hF rfl rfl) rfl <| rn_cV0i (np := 18) F dX1_compare_15 rfl cv_X2_griefNow wM_X1_39 (fs hF rfl rfl) rfl (c_X2_griefNow hF) (Nat.le_of_ble_eq_true rfl) (Nat.le_of_ble_eq_true rfl) <| rn_istore (np := 20) F dX1_compare_18 rfl hL rfl <| rn_aload_n (np := 21) F dX1_compare_20 rfl rfl <| rn_getf (np := 24) F dX1_compare_21 rfl fF_X1_15 (fs hF rfl rfl) rfl <| rn_if_eq (tg := 36) (np := 27) F dX1_compare_24 rfl rfl (fun c24 => rn_aload_n (np := 37) F dX1_compare_36 rfl rfl <| rn_iconst (np := 38) (v := 1) F dX1_compare_37 rfl rfl <| rn_putf (np := 41) F dX1_compare_38 rfl fP_X1_15 (fs hF rfl rfl) rfl rfl rfl <| rn_aload_n (np := 42) F dX1_compare_41 rfl rfl <| rn_iload (np := 44) F dX1_compare_42 rfl rfl <| rn_putf (np := 47) F dX1_compare_44 rfl fP_X1_36 (fs hF rfl rfl) rfl rfl rfl <| rn_aload_n (np := 48) F dX1_compare_47 rfl rfl <| rn_iload_n (np := 49) F dX1_compare_48 rfl rfl <| rn_putf (np := 52) F dX1_compare_49 rfl fP_X1_43 (fs hF rfl rfl) rfl rfl rfl <| rn_aload_n (np := 53) F dX1_compare_52 rfl rfl <| rn_iload_n (np := 54) F dX1_compare_53 rfl rfl <| rn_putf (np := 57) F dX1_compare_54 rfl fP_X1_46 (fs hF rfl rfl) rfl rfl rfl <| rn_aload_n (np := 58) F dX1_compare_57 rfl rfl <| rn_iload_n (np := 59) F dX1_compare_58 rfl rfl <| rn_putf (np := 62) F dX1_compare_59 rfl fP_X1_49 (fs hF rfl rfl) rfl rfl rfl <| rn_vret F Rr dX1_compare_62 ?_) (fun c24 => rn_iload (np := 29) F dX1_compare_27 rfl rfl <| rn_aload_n (np := 30) F dX1_compare_29 rfl rfl <| rn_getf (np := 33) F dX1_compare_30 rfl fF_X1_36 (fs hF rfl rfl) rfl <| rn_icmp_ge (tg := 62) (np := 36) F dX1_compare_33 rfl rfl (fun c33 => rn_vret F Rr dX1_compare_62 ?_) (fun c33 => rn_aload_n (np := 37) F dX1_compare_36 rfl rfl <| rn_iconst (np := 38) (v := 1) F dX1_compare_37 rfl rfl <| rn_putf (np := 41) F dX1_compare_38 rfl fP_X1_15 (fs hF rfl rfl) rfl rfl rfl <| rn_aload_n (np := 42) F dX1_compare_41 rfl rfl <| rn_iload (np := 44) F dX1_compare_42 rfl rfl <| rn_putf (np := 47) F dX1_compare_44 rfl fP_X1_36 (fs hF rfl rfl) rfl rfl rfl <| rn_aload_n (np := 48) F dX1_compare_47 rfl rfl <| rn_iload_n (np := 49) F dX1_compare_48 rfl rfl <| rn_putf (np := 52) F dX1_compare_49 rfl fP_X1_43 (fs hF rfl rfl) rfl rfl rfl <| rn_aload_n (np := 53) F dX1_compare_52 rfl rfl <| rn_iload_n (np := 54) F dX1_compare_53 rfl rfl <| rn_putf (np := 57) F dX1_compare_54 rfl fP_X1_46 (fs hF rfl rfl) rfl rfl rfl <| rn_aload_n (np := 58) F dX1_compare_57 rfl rfl <| rn_iload_n (np := 59) F dX1_compare_58 rfl rfl <| rn_putf (np := 62) F dX1_compare_59 rfl fP_X1_49 (fs hF rfl rfl) rfl rfl rfl <| rn_vret F Rr dX1_compare_62 ?_))) (fun c7 => rn_vret F Rr dX1_compare_10 ?_)
  · have q1 := bP_1 c7
    rw [sfC_V hS.2.2.2.2] at q1
    refine ⟨rfl, ?_⟩
    rw [cmpC, if_pos ⟨bP_t q1, Or.inl c24⟩, ← grC_V hS.2.2.2.2, ← hs5]
  · have q1 := bP_1 c7
    rw [sfC_V hS.2.2.2.2] at q1
    refine ⟨rfl, ?_⟩
    rw [cmpC, if_neg (fun q => ?_), up_id]
    rcases q.2 with q | q
    · exact c24 q
    · rw [← grC_V hS.2.2.2.2] at q; exact Int32.not_lt.mpr c33 q
  · have q1 := bP_1 c7
    rw [sfC_V hS.2.2.2.2] at q1
    refine ⟨rfl, ?_⟩
    have q3 : grV (h 2) (h 3) (h 4) (h 9) n < h 20 1 := by rw [← grC_V hS.2.2.2.2]; exact Int32.not_le.mp c33
    rw [cmpC, if_pos ⟨bP_t q1, Or.inr q3⟩, ← grC_V hS.2.2.2.2, ← hs5]
  · have q1 := bP_0 c7
    rw [sfC_V hS.2.2.2.2] at q1
    refine ⟨rfl, ?_⟩
    rw [cmpC, if_neg (fun q => ?_), up_id]
    rw [bP_f q1] at q
    exact absurd q.1 (by decide)
set_option maxRecDepth 20000 in
theorem c_X1_isFree {G : GxT} (hF : Full G) {h : HpT} {n i : Nat} (hn : n ≤ 9) (hi : i < n) (eh : h 1 9 = nI n) : mci G yX1_isFree cX1_isFree 2 (some .boolean) 1 [.ref (gad G 20), .int (nI i)] h (bP (h 5 i = 0 ∧ ∀ j, j < n → ¬ (j ≠ i ∧ h 6 j = h 6 i))) (h) := by
  refine mc_of (by decide) (Nat.le_of_ble_eq_true rfl) (fun X hG F Rr hL => ?_)
  subst hG
  have F : FxT X cX1_isFree RX1 1 := F
  show rn X 0 [(0, .ref (gad X.1 20)), (1, .int (nI i))] [] h
  refine rn_aload_n (np := 1) F dX1_isFree_0 rfl rfl <| rn_getr (np := 4) F dX1_isFree_1 rfl fF_X1_9 (fs hF rfl rfl) rfl <| rn_getr (np := 7) F dX1_isFree_4 rfl fF_X1_59 (fs hF rfl rfl) rfl <| rn_iload_n (np := 8) F dX1_isFree_7 rfl rfl <| rn_ialdN (np := 9) F dX1_isFree_8 rfl (fs hF rfl rfl) rfl (by omega) <| rn_if_ne (tg := 27) (np := 12) F dX1_isFree_9 rfl rfl (fun c9 => rn_iconst (np := 28) (v := 0) F dX1_isFree_27 rfl rfl <| rn_zret F Rr dX1_isFree_28 rfl ?_) (fun c9 => rn_aload_n (np := 13) F dX1_isFree_12 rfl rfl <| rn_getr (np := 16) F dX1_isFree_13 rfl fF_X1_9 (fs hF rfl rfl) rfl <| rn_iload_n (np := 17) F dX1_isFree_16 rfl rfl <| rn_cV1i (np := 20) F dX1_isFree_17 rfl cv_X2_isTied wM_X1_63 (fs hF rfl rfl) rfl (c_X2_isTied hF hn hi eh) (Nat.le_of_ble_eq_true rfl) (Nat.le_of_ble_eq_true rfl) <| rn_if_ne (tg := 27) (np := 23) F dX1_isFree_20 rfl rfl (fun c20 => rn_iconst (np := 28) (v := 0) F dX1_isFree_27 rfl rfl <| rn_zret F Rr dX1_isFree_28 rfl ?_) (fun c20 => rn_iconst (np := 24) (v := 1) F dX1_isFree_23 rfl rfl <| rn_goto (np := 28) F dX1_isFree_24 rfl <| rn_zret F Rr dX1_isFree_28 rfl ?_))
  · refine ⟨by rw [bP_f (fun q => c9 q.1)], rfl⟩
  · refine ⟨by rw [bP_f (fun q => (bP_1 c20) q.2)], rfl⟩
  · refine ⟨by rw [bP_t ⟨c9, Classical.byContradiction (fun q => bP_0 c20 q)⟩], rfl⟩
set_option maxRecDepth 20000 in
theorem c_X1_lessens {G : GxT} (hF : Full G) {h : HpT}   : mci G yX1_lessens cX1_lessens 1 (some .boolean) 3 [.ref (gad G 20)] h (bI (h 20 0 ≠ 0 ∧ h 20 1 < grC h)) (h) := by
  refine mc_of (by decide) (Nat.le_of_ble_eq_true rfl) (fun X hG F Rr hL => ?_)
  subst hG
  have F : FxT X cX1_lessens RX1 3 := F
  show rn X 0 [(0, .ref (gad X.1 20))] [] h
  refine rn_aload_n (np := 1) F dX1_lessens_0 rfl rfl <| rn_getf (np := 4) F dX1_lessens_1 rfl fF_X1_15 (fs hF rfl rfl) rfl <| rn_if_eq (tg := 25) (np := 7) F dX1_lessens_4 rfl rfl (fun c4 => rn_iconst (np := 26) (v := 0) F dX1_lessens_25 rfl rfl <| rn_zret F Rr dX1_lessens_26 rfl ?_) (fun c4 => rn_aload_n (np := 8) F dX1_lessens_7 rfl rfl <| rn_getf (np := 11) F dX1_lessens_8 rfl fF_X1_36 (fs hF rfl rfl) rfl <| rn_aload_n (np := 12) F dX1_lessens_11 rfl rfl <| rn_getr (np := 15) F dX1_lessens_12 rfl fF_X1_9 (fs hF rfl rfl) rfl <| rn_cV0i (np := 18) F dX1_lessens_15 rfl cv_X2_griefNow wM_X1_39 (fs hF rfl rfl) rfl (c_X2_griefNow hF) (Nat.le_of_ble_eq_true rfl) (Nat.le_of_ble_eq_true rfl) <| rn_icmp_ge (tg := 25) (np := 21) F dX1_lessens_18 rfl rfl (fun c18 => rn_iconst (np := 26) (v := 0) F dX1_lessens_25 rfl rfl <| rn_zret F Rr dX1_lessens_26 rfl ?_) (fun c18 => rn_iconst (np := 22) (v := 1) F dX1_lessens_21 rfl rfl <| rn_goto (np := 26) F dX1_lessens_22 rfl <| rn_zret F Rr dX1_lessens_26 rfl ?_))
  all_goals (refine rI ?_ rfl; grind [bI])
set_option maxRecDepth 20000 in
theorem l_X1_tryChanges {X : XxT} {post : Option Value → HpT → Prop} (hF : Full X.1) (F : FxT X cX1_tryChanges RX1 4) (Rr : RxT X none post) (hL : X.2.2.2.2.2.2.2.2.2.2.2.2.2.1 = 4) {h : HpT} {n i : Nat} {g : Nat → Int32} (hS : SI n h) (hi : i < n) {p0 : Nat} (h0 : p0 < 3) (e0 : h 4 i = nI p0) (hp : post none (stt n h (tcF (cmpC (h 2) (h 3) (h 9) (h 1 11) n) (h 4) i (h 20) 3) (h 4))) : ∀ (k : Nat) (p c : Nat), 3 - p < k → p ≤ 3 → c < 3 → rn X 12 [(0, .ref (gad X.1 20)), (1, .int (nI i)), (2, .int (nI p0)), (3, .int (nI p))] [] (stt n h (tcF (cmpC (h 2) (h 3) (h 9) (h 1 11) n) (h 4) i (h 20) p) (upd (h 4) i (nI c))) := by
  intro k
  induction k with
  | zero => intro p c hk; exact absurd hk (Nat.not_lt_zero _)
  | succ k ih =>
    intro p c hk hpp hc
    have hn := hS.1
    refine rn_iload_n (np := 13) F dX1_tryChanges_12 rfl rfl <| rn_iconst (np := 14) (v := 3) F dX1_tryChanges_13 rfl rfl <| rn_Nge (tg := 44) (np := 17) (b := 3) F dX1_tryChanges_14 rfl rfl rfl rfl (by omega) (fun c14 => rn_aload_n (np := 45) F dX1_tryChanges_44 rfl rfl <| rn_getr (np := 48) F dX1_tryChanges_45 rfl fF_X1_9 (fs hF rfl rfl) rfl <| rn_iload_n (np := 49) F dX1_tryChanges_48 rfl rfl <| rn_iload_n (np := 50) F dX1_tryChanges_49 rfl rfl <| rn_cV2v (np := 53) F dX1_tryChanges_50 rfl cv_X2_setPhase wM_X1_52 (fs hF rfl rfl) rfl (c_X2_setPhase hF (SI_stt hS (upd_rg hc hS.2.2.2.1)) hi h0 rfl) (Nat.le_of_ble_eq_true rfl) (Nat.le_of_ble_eq_true rfl) <| rn_vret F Rr dX1_tryChanges_53 ?_) (fun c14 => rn_iload_n (np := 18) F dX1_tryChanges_17 rfl rfl <| rn_iload_n (np := 19) F dX1_tryChanges_18 rfl rfl <| rn_Neq (tg := 38) (np := 22) F dX1_tryChanges_19 rfl rfl rfl rfl (by omega) (fun c19 => rn_iincN (np := 41) F dX1_tryChanges_38 rfl rfl hL rfl <| rn_goto (np := 12) F dX1_tryChanges_41 rfl <| ?_) (fun c19 => rn_aload_n (np := 23) F dX1_tryChanges_22 rfl rfl <| rn_getr (np := 26) F dX1_tryChanges_23 rfl fF_X1_9 (fs hF rfl rfl) rfl <| rn_iload_n (np := 27) F dX1_tryChanges_26 rfl rfl <| rn_iload_n (np := 28) F dX1_tryChanges_27 rfl rfl <| rn_cV2v (np := 31) F dX1_tryChanges_28 rfl cv_X2_setPhase wM_X1_52 (fs hF rfl rfl) rfl (c_X2_setPhase hF (SI_stt hS (upd_rg hc hS.2.2.2.1)) hi (by omega) rfl) (Nat.le_of_ble_eq_true rfl) (Nat.le_of_ble_eq_true rfl) <| rn_aload_n (np := 32) F dX1_tryChanges_31 rfl rfl <| rn_iconst (np := 33) (v := 0) F dX1_tryChanges_32 rfl rfl <| rn_iload_n (np := 34) F dX1_tryChanges_33 rfl rfl <| rn_iload_n (np := 35) F dX1_tryChanges_34 rfl rfl <| rn_cV3v (np := 38) F dX1_tryChanges_35 rfl cv_X1_compare wM_X1_69 (fs hF rfl rfl) rfl (c_X1_compare (n := n) hF (by rw [stt_sp]; exact SI_stt hS (by rw [upd_upd]; exact upd_rg (by omega) hS.2.2.2.1))) (Nat.le_of_ble_eq_true rfl) (Nat.le_of_ble_eq_true rfl) <| rn_iincN (np := 41) F dX1_tryChanges_38 rfl rfl hL rfl <| rn_goto (np := 12) F dX1_tryChanges_41 rfl <| ?_))
    · rw [stt_sp, upd_upd, ← e0, upd_id, show p = 3 by omega]; exact hp
    · have e : tcF (cmpC (h 2) (h 3) (h 9) (h 1 11) n) (h 4) i (h 20) (p + 1) = tcF (cmpC (h 2) (h 3) (h 9) (h 1 11) n) (h 4) i (h 20) p := by rw [tcF, if_pos (by rw [e0, c19])]
      exact e ▸ ih (p + 1) c (by omega) (by omega) hc
    · have e : tcF (cmpC (h 2) (h 3) (h 9) (h 1 11) n) (h 4) i (h 20) (p + 1) = cmpC (h 2) (h 3) (h 9) (h 1 11) n (tcF (cmpC (h 2) (h 3) (h 9) (h 1 11) n) (h 4) i (h 20) p) (upd (h 4) i (nI p)) 0 (nI i) (nI p) := by rw [tcF, if_neg (by rw [e0, nI_eqs (by omega) (by omega)]; exact c19)]
      have z := ih (p + 1) p (by omega) (by omega) (by omega)
      rw [e] at z
      rw [stt_sp, upd_upd]
      show rn X 12 _ [] (va_up (stt n h (tcF (cmpC (h 2) (h 3) (h 9) (h 1 11) n) (h 4) i (h 20) p) (upd (h 4) i (nI p))) 20 (cmpC (h 2) (h 3) (h 9) (h 1 11) n (tcF (cmpC (h 2) (h 3) (h 9) (h 1 11) n) (h 4) i (h 20) p) (upd (h 4) i (nI p)) 0 (nI i) (nI p)))
      rw [stt_20]
      exact z
set_option maxRecDepth 20000 in
theorem c_X1_tryChanges {G : GxT} (hF : Full G) {h : HpT} {n i : Nat} (hS : SI n h) (hi : i < n) : mcv G yX1_tryChanges cX1_tryChanges 4 none 4 [.ref (gad G 20), .int (nI i)] h (stt n h (tcF (cmpC (h 2) (h 3) (h 9) (h 1 11) n) (h 4) i (h 20) 3) (h 4)) := by
  refine mc_of (by decide) (Nat.le_of_ble_eq_true rfl) (fun X hG F Rr hL => ?_)
  subst hG
  have F : FxT X cX1_tryChanges RX1 4 := F
  show rn X 0 [(0, .ref (gad X.1 20)), (1, .int (nI i))] [] h
  have hn := hS.1
  obtain ⟨p0, h0, e0⟩ := hS.2.2.2.1 i (by omega)
  refine rn_aload_n (np := 1) F dX1_tryChanges_0 rfl rfl <| rn_getr (np := 4) F dX1_tryChanges_1 rfl fF_X1_9 (fs hF rfl rfl) rfl <| rn_getr (np := 7) F dX1_tryChanges_4 rfl fF_X1_66 (fs hF rfl rfl) rfl <| rn_iload_n (np := 8) F dX1_tryChanges_7 rfl rfl <| rn_ialdE (np := 9) F dX1_tryChanges_8 rfl (fs hF rfl rfl) rfl (by omega) e0 <| rn_istore_n (np := 10) F dX1_tryChanges_9 rfl hL rfl <| rn_iconst (np := 11) (v := 0) F dX1_tryChanges_10 rfl rfl <| rn_istore_n (np := 12) F dX1_tryChanges_11 rfl hL rfl <| ?_
  have z := l_X1_tryChanges (h := h) (g := h 4) hF F Rr hL hS hi h0 e0 ⟨rfl, rfl⟩ 4 0 p0 (by omega) (by omega) h0
  rw [tcF, ← e0, upd_id, stt_self hS, e0] at z
  exact z
/-- whether a house is free to take part in a step -/
noncomputable def frC (h : HpT) (n : Nat) : Nat → Int32 := fun i => bP (h 5 i = 0 ∧ ∀ j, j < n → ¬ (j ≠ i ∧ h 6 j = h 6 i))
set_option maxRecDepth 20000 in
theorem l_X1_trySwaps {X : XxT} {post : Option Value → HpT → Prop} (hF : Full X.1) (F : FxT X cX1_trySwaps RX1 4) (Rr : RxT X none post) (hL : X.2.2.2.2.2.2.2.2.2.2.2.2.2.1 = 3) {h : HpT} {n i : Nat} (hS : SI n h) (hi : i < n) (hp : post none (stt n h (tsF (cmpC (h 2) (h 3) (h 9) (h 1 11) n) (frC h n) (h 4) i (h 20) (n - (i + 1))) (h 4))) : ∀ (k : Nat) (q : Nat), n - (i + 1 + q) < k → i + 1 + q ≤ n → rn X 4 [(0, .ref (gad X.1 20)), (1, .int (nI i)), (2, .int (nI (i + 1 + q)))] [] (stt n h (tsF (cmpC (h 2) (h 3) (h 9) (h 1 11) n) (frC h n) (h 4) i (h 20) q) (h 4)) := by
  intro k
  induction k with
  | zero => intro q hk; exact absurd hk (Nat.not_lt_zero _)
  | succ k ih =>
    intro q hk hq
    have hn := hS.1
    refine rn_iload_n (np := 5) F dX1_trySwaps_4 rfl rfl <| rn_aload_n (np := 6) F dX1_trySwaps_5 rfl rfl <| rn_getr (np := 9) F dX1_trySwaps_6 rfl fF_X1_9 (fs hF rfl rfl) rfl <| rn_getfE (np := 12) F dX1_trySwaps_9 rfl fF_X1_19 (fs hF rfl rfl) rfl hS.2.1 <| rn_Nge (tg := 75) (np := 15) F dX1_trySwaps_12 rfl rfl rfl rfl (by omega) (fun c12 => rn_vret F Rr dX1_trySwaps_75 ?_) (fun c12 => rn_aload_n (np := 16) F dX1_trySwaps_15 rfl rfl <| rn_iload_n (np := 17) F dX1_trySwaps_16 rfl rfl <| rn_cV1i (np := 20) F dX1_trySwaps_17 rfl cv_X1_isFree wM_X1_25 (fs hF rfl rfl) rfl (c_X1_isFree hF hn (by omega) hS.2.1) (Nat.le_of_ble_eq_true rfl) (Nat.le_of_ble_eq_true rfl) <| rn_if_eq (tg := 69) (np := 23) F dX1_trySwaps_20 rfl rfl (fun c20 => rn_iincN (np := 72) F dX1_trySwaps_69 rfl rfl hL rfl <| rn_goto (np := 4) F dX1_trySwaps_72 rfl <| ?_) (fun c20 => rn_aload_n (np := 24) F dX1_trySwaps_23 rfl rfl <| rn_getr (np := 27) F dX1_trySwaps_24 rfl fF_X1_9 (fs hF rfl rfl) rfl <| rn_getr (np := 30) F dX1_trySwaps_27 rfl fF_X1_66 (fs hF rfl rfl) rfl <| rn_iload_n (np := 31) F dX1_trySwaps_30 rfl rfl <| rn_ialdN (np := 32) F dX1_trySwaps_31 rfl (fs hF rfl rfl) rfl (by omega) <| rn_aload_n (np := 33) F dX1_trySwaps_32 rfl rfl <| rn_getr (np := 36) F dX1_trySwaps_33 rfl fF_X1_9 (fs hF rfl rfl) rfl <| rn_getr (np := 39) F dX1_trySwaps_36 rfl fF_X1_66 (fs hF rfl rfl) rfl <| rn_iload_n (np := 40) F dX1_trySwaps_39 rfl rfl <| rn_ialdN (np := 41) F dX1_trySwaps_40 rfl (fs hF rfl rfl) rfl (by omega) <| rn_icmp_eq (tg := 69) (np := 44) F dX1_trySwaps_41 rfl rfl (fun c41 => rn_iincN (np := 72) F dX1_trySwaps_69 rfl rfl hL rfl <| rn_goto (np := 4) F dX1_trySwaps_72 rfl <| ?_) (fun c41 => rn_aload_n (np := 45) F dX1_trySwaps_44 rfl rfl <| rn_getr (np := 48) F dX1_trySwaps_45 rfl fF_X1_9 (fs hF rfl rfl) rfl <| rn_iload_n (np := 49) F dX1_trySwaps_48 rfl rfl <| rn_iload_n (np := 50) F dX1_trySwaps_49 rfl rfl <| rn_cV2v (np := 53) F dX1_trySwaps_50 rfl cv_X2_swapPhases wM_X1_56 (fs hF rfl rfl) rfl (c_X2_swapPhases hF (SI_stt hS hS.2.2.2.1) hi (by omega)) (Nat.le_of_ble_eq_true rfl) (Nat.le_of_ble_eq_true rfl) <| rn_aload_n (np := 54) F dX1_trySwaps_53 rfl rfl <| rn_iconst (np := 55) (v := 1) F dX1_trySwaps_54 rfl rfl <| rn_iload_n (np := 56) F dX1_trySwaps_55 rfl rfl <| rn_iload_n (np := 57) F dX1_trySwaps_56 rfl rfl <| rn_cV3v (np := 60) F dX1_trySwaps_57 rfl cv_X1_compare wM_X1_69 (fs hF rfl rfl) rfl (c_X1_compare (n := n) hF (by rw [stt_ph]; exact SI_stt hS (swp_rg (by omega) (by omega) hS.2.2.2.1))) (Nat.le_of_ble_eq_true rfl) (Nat.le_of_ble_eq_true rfl) <| rn_aload_n (np := 61) F dX1_trySwaps_60 rfl rfl <| rn_getr (np := 64) F dX1_trySwaps_61 rfl fF_X1_9 (fs hF rfl rfl) rfl <| rn_iload_n (np := 65) F dX1_trySwaps_64 rfl rfl <| rn_iload_n (np := 66) F dX1_trySwaps_65 rfl rfl <| rn_cV2v (np := 69) F dX1_trySwaps_66 rfl cv_X2_swapPhases wM_X1_56 (fs hF rfl rfl) rfl (c_X2_swapPhases (n := n) hF (by rw [stt_ph, stt_20]; exact SI_stt hS (swp_rg (by omega) (by omega) hS.2.2.2.1)) hi (by omega)) (Nat.le_of_ble_eq_true rfl) (Nat.le_of_ble_eq_true rfl) <| rn_iincN (np := 72) F dX1_trySwaps_69 rfl rfl hL rfl <| rn_goto (np := 4) F dX1_trySwaps_72 rfl <| ?_)))
    · rw [show q = n - (i + 1) by omega]; exact hp
    · have e : tsF (cmpC (h 2) (h 3) (h 9) (h 1 11) n) (frC h n) (h 4) i (h 20) (q + 1) = tsF (cmpC (h 2) (h 3) (h 9) (h 1 11) n) (frC h n) (h 4) i (h 20) q := by rw [tsF]; exact if_pos (Or.inl c20)
      exact e ▸ ih (q + 1) (by omega) (by omega)
    · have e : tsF (cmpC (h 2) (h 3) (h 9) (h 1 11) n) (frC h n) (h 4) i (h 20) (q + 1) = tsF (cmpC (h 2) (h 3) (h 9) (h 1 11) n) (frC h n) (h 4) i (h 20) q := by rw [tsF]; exact if_pos (Or.inr c41)
      exact e ▸ ih (q + 1) (by omega) (by omega)
    · have e : tsF (cmpC (h 2) (h 3) (h 9) (h 1 11) n) (frC h n) (h 4) i (h 20) (q + 1) = cmpC (h 2) (h 3) (h 9) (h 1 11) n (tsF (cmpC (h 2) (h 3) (h 9) (h 1 11) n) (frC h n) (h 4) i (h 20) q) (swp (h 4) i (i + 1 + q)) 1 (nI i) (nI (i + 1 + q)) := by rw [tsF]; exact if_neg (fun z => z.elim c20 c41)
      have z := ih (q + 1) (by omega) (by omega)
      rw [e] at z
      rw [stt_ph]
      show rn X 4 _ [] (cano n (va_up (va_up (stt n h (tsF (cmpC (h 2) (h 3) (h 9) (h 1 11) n) (frC h n) (h 4) i (h 20) q) (swp (h 4) i (i + 1 + q))) 20 (cmpC (h 2) (h 3) (h 9) (h 1 11) n (tsF (cmpC (h 2) (h 3) (h 9) (h 1 11) n) (frC h n) (h 4) i (h 20) q) (swp (h 4) i (i + 1 + q)) 1 (nI i) (nI (i + 1 + q)))) 4 (swp (swp (h 4) i (i + 1 + q)) i (i + 1 + q))))
      rw [stt_20, stt_ph, swp_swp _ (by omega)]
      exact z
set_option maxRecDepth 20000 in
theorem c_X1_trySwaps {G : GxT} (hF : Full G) {h : HpT} {n i : Nat} (hS : SI n h) (hi : i < n) : mcv G yX1_trySwaps cX1_trySwaps 3 none 4 [.ref (gad G 20), .int (nI i)] h (stt n h (tsF (cmpC (h 2) (h 3) (h 9) (h 1 11) n) (frC h n) (h 4) i (h 20) (n - (i + 1))) (h 4)) := by
  refine mc_of (by decide) (Nat.le_of_ble_eq_true rfl) (fun X hG F Rr hL => ?_)
  subst hG
  have F : FxT X cX1_trySwaps RX1 4 := F
  show rn X 0 [(0, .ref (gad X.1 20)), (1, .int (nI i))] [] h
  refine rn_iload_n (np := 1) F dX1_trySwaps_0 rfl rfl <| rn_iconst (np := 2) (v := 1) F dX1_trySwaps_1 rfl rfl <| rn_iadd (np := 3) F dX1_trySwaps_2 rfl <| rn_topE (nI_1 i) <| rn_istore_n (np := 4) F dX1_trySwaps_3 rfl hL rfl <| ?_
  have z := l_X1_trySwaps (h := h) hF F Rr hL hS hi ⟨rfl, rfl⟩ (n + 1) 0 (by omega) (by omega)
  rw [tsF, stt_self hS] at z
  exact z
set_option maxRecDepth 20000 in
theorem l2_X1_find {X : XxT} {post : Option Value → HpT → Prop} (hF : Full X.1) (F : FxT X cX1_find RX1 5) (Rr : RxT X none post) (hL : X.2.2.2.2.2.2.2.2.2.2.2.2.2.1 = 2) {h : HpT} {n : Nat} {f : StF} (hS : SI n h) (hp : post none (stt n h (fsF (cmpC (h 2) (h 3) (h 9) (h 1 11) n) (frC h n) (h 4) n f n) (h 4))) : ∀ (k : Nat) (i : Nat), n - i < k → i ≤ n → rn X 39 [(0, .ref (gad X.1 20)), (1, .int (nI i))] [] (stt n h (fsF (cmpC (h 2) (h 3) (h 9) (h 1 11) n) (frC h n) (h 4) n f i) (h 4)) := by
  intro k
  induction k with
  | zero => intro i hk; exact absurd hk (Nat.not_lt_zero _)
  | succ k ih =>
    intro i hk hi
    have hn := hS.1
    refine rn_iload_n (np := 40) F dX1_find_39 rfl rfl <| rn_aload_n (np := 41) F dX1_find_40 rfl rfl <| rn_getr (np := 44) F dX1_find_41 rfl fF_X1_9 (fs hF rfl rfl) rfl <| rn_getfE (np := 47) F dX1_find_44 rfl fF_X1_19 (fs hF rfl rfl) rfl hS.2.1 <| rn_Nge (tg := 69) (np := 50) F dX1_find_47 rfl rfl rfl rfl (by omega) (fun c47 => rn_vret F Rr dX1_find_69 ?_) (fun c47 => rn_aload_n (np := 51) F dX1_find_50 rfl rfl <| rn_iload_n (np := 52) F dX1_find_51 rfl rfl <| rn_cV1i (np := 55) F dX1_find_52 rfl cv_X1_isFree wM_X1_25 (fs hF rfl rfl) rfl (c_X1_isFree hF hn (by omega) hS.2.1) (Nat.le_of_ble_eq_true rfl) (Nat.le_of_ble_eq_true rfl) <| rn_if_eq (tg := 63) (np := 58) F dX1_find_55 rfl rfl (fun c55 => rn_iincN (np := 66) F dX1_find_63 rfl rfl hL rfl <| rn_goto (np := 39) F dX1_find_66 rfl <| ?_) (fun c55 => rn_aload_n (np := 59) F dX1_find_58 rfl rfl <| rn_iload_n (np := 60) F dX1_find_59 rfl rfl <| rn_cV1v (np := 63) F dX1_find_60 rfl cv_X1_trySwaps wM_X1_33 (fs hF rfl rfl) rfl (c_X1_trySwaps (n := n) hF (SI_stt hS hS.2.2.2.1) (by omega)) (Nat.le_of_ble_eq_true rfl) (Nat.le_of_ble_eq_true rfl) <| rn_iincN (np := 66) F dX1_find_63 rfl rfl hL rfl <| rn_goto (np := 39) F dX1_find_66 rfl <| ?_))
    · rw [show i = n by omega]; exact hp
    · have e : fsF (cmpC (h 2) (h 3) (h 9) (h 1 11) n) (frC h n) (h 4) n f (i + 1) = fsF (cmpC (h 2) (h 3) (h 9) (h 1 11) n) (frC h n) (h 4) n f i := by rw [fsF]; exact if_pos c55
      exact e ▸ ih (i + 1) (by omega) (by omega)
    · have e : fsF (cmpC (h 2) (h 3) (h 9) (h 1 11) n) (frC h n) (h 4) n f (i + 1) = tsF (cmpC (h 2) (h 3) (h 9) (h 1 11) n) (frC h n) (h 4) i (fsF (cmpC (h 2) (h 3) (h 9) (h 1 11) n) (frC h n) (h 4) n f i) (n - (i + 1)) := by rw [fsF]; exact if_neg c55
      have z := ih (i + 1) (by omega) (by omega)
      rw [e] at z
      show rn X 39 _ [] (stt n (stt n h (fsF (cmpC (h 2) (h 3) (h 9) (h 1 11) n) (frC h n) (h 4) n f i) (h 4)) (tsF (cmpC (h 2) (h 3) (h 9) (h 1 11) n) (frC h n) (h 4) i (fsF (cmpC (h 2) (h 3) (h 9) (h 1 11) n) (frC h n) (h 4) n f i) (n - (i + 1))) (h 4))
      rw [stt_stt]
      exact z
set_option maxRecDepth 20000 in
theorem l1_X1_find {X : XxT} {post : Option Value → HpT → Prop} (hF : Full X.1) (F : FxT X cX1_find RX1 5) (Rr : RxT X none post) (hL : X.2.2.2.2.2.2.2.2.2.2.2.2.2.1 = 2) {h : HpT} {n : Nat} {f : StF} (hS : SI n h) (hp : post none (stt n h (fdF (cmpC (h 2) (h 3) (h 9) (h 1 11) n) (frC h n) (h 4) n f) (h 4))) : ∀ (k : Nat) (i : Nat), n - i < k → i ≤ n → rn X 7 [(0, .ref (gad X.1 20)), (1, .int (nI i))] [] (stt n h (fcF (cmpC (h 2) (h 3) (h 9) (h 1 11) n) (frC h n) (h 4) f i) (h 4)) := by
  intro k
  induction k with
  | zero => intro i hk; exact absurd hk (Nat.not_lt_zero _)
  | succ k ih =>
    intro i hk hi
    have hn := hS.1
    refine rn_iload_n (np := 8) F dX1_find_7 rfl rfl <| rn_aload_n (np := 9) F dX1_find_8 rfl rfl <| rn_getr (np := 12) F dX1_find_9 rfl fF_X1_9 (fs hF rfl rfl) rfl <| rn_getfE (np := 15) F dX1_find_12 rfl fF_X1_19 (fs hF rfl rfl) rfl hS.2.1 <| rn_Nge (tg := 37) (np := 18) F dX1_find_15 rfl rfl rfl rfl (by omega) (fun c15 => rn_iconst (np := 38) (v := 0) F dX1_find_37 rfl rfl <| rn_istore_n (np := 39) F dX1_find_38 rfl hL rfl <| ?_) (fun c15 => rn_aload_n (np := 19) F dX1_find_18 rfl rfl <| rn_iload_n (np := 20) F dX1_find_19 rfl rfl <| rn_cV1i (np := 23) F dX1_find_20 rfl cv_X1_isFree wM_X1_25 (fs hF rfl rfl) rfl (c_X1_isFree hF hn (by omega) hS.2.1) (Nat.le_of_ble_eq_true rfl) (Nat.le_of_ble_eq_true rfl) <| rn_if_eq (tg := 31) (np := 26) F dX1_find_23 rfl rfl (fun c23 => rn_iincN (np := 34) F dX1_find_31 rfl rfl hL rfl <| rn_goto (np := 7) F dX1_find_34 rfl <| ?_) (fun c23 => rn_aload_n (np := 27) F dX1_find_26 rfl rfl <| rn_iload_n (np := 28) F dX1_find_27 rfl rfl <| rn_cV1v (np := 31) F dX1_find_28 rfl cv_X1_tryChanges wM_X1_29 (fs hF rfl rfl) rfl (c_X1_tryChanges (n := n) hF (SI_stt hS hS.2.2.2.1) (by omega)) (Nat.le_of_ble_eq_true rfl) (Nat.le_of_ble_eq_true rfl) <| rn_iincN (np := 34) F dX1_find_31 rfl rfl hL rfl <| rn_goto (np := 7) F dX1_find_34 rfl <| ?_))
    · rw [show i = n by omega]
      have z := l2_X1_find (h := h) (f := fcF (cmpC (h 2) (h 3) (h 9) (h 1 11) n) (frC h n) (h 4) f n) hF F Rr hL hS hp (n + 1) 0 (by omega) (by omega)
      exact z
    · have e : fcF (cmpC (h 2) (h 3) (h 9) (h 1 11) n) (frC h n) (h 4) f (i + 1) = fcF (cmpC (h 2) (h 3) (h 9) (h 1 11) n) (frC h n) (h 4) f i := by rw [fcF]; exact if_pos c23
      exact e ▸ ih (i + 1) (by omega) (by omega)
    · have e : fcF (cmpC (h 2) (h 3) (h 9) (h 1 11) n) (frC h n) (h 4) f (i + 1) = tcF (cmpC (h 2) (h 3) (h 9) (h 1 11) n) (h 4) i (fcF (cmpC (h 2) (h 3) (h 9) (h 1 11) n) (frC h n) (h 4) f i) 3 := by rw [fcF]; exact if_neg c23
      have z := ih (i + 1) (by omega) (by omega)
      rw [e] at z
      show rn X 7 _ [] (stt n (stt n h (fcF (cmpC (h 2) (h 3) (h 9) (h 1 11) n) (frC h n) (h 4) f i) (h 4)) (tcF (cmpC (h 2) (h 3) (h 9) (h 1 11) n) (h 4) i (fcF (cmpC (h 2) (h 3) (h 9) (h 1 11) n) (frC h n) (h 4) f i) 3) (h 4))
      rw [stt_stt]
      exact z
set_option maxRecDepth 20000 in
theorem c_X1_find {G : GxT} (hF : Full G) {h : HpT} {n : Nat} (hS : SI n h) : mcv G yX1_find cX1_find 2 none 5 [.ref (gad G 20)] h (stt n h (fdF (cmpC (h 2) (h 3) (h 9) (h 1 11) n) (frC h n) (h 4) n (upd (h 20) 0 0)) (h 4)) := by
  refine mc_of (by decide) (Nat.le_of_ble_eq_true rfl) (fun X hG F Rr hL => ?_)
  subst hG
  have F : FxT X cX1_find RX1 5 := F
  show rn X 0 [(0, .ref (gad X.1 20))] [] h
  refine rn_aload_n (np := 1) F dX1_find_0 rfl rfl <| rn_iconst (np := 2) (v := 0) F dX1_find_1 rfl rfl <| rn_putf (np := 5) F dX1_find_2 rfl fP_X1_15 (fs hF rfl rfl) rfl rfl rfl <| rn_iconst (np := 6) (v := 0) F dX1_find_5 rfl rfl <| rn_istore_n (np := 7) F dX1_find_6 rfl hL rfl <| ?_
  have z := l1_X1_find (h := h) (f := upd (h 20) 0 0) hF F Rr hL hS ⟨rfl, rfl⟩ (n + 1) 0 (by omega) (by omega)
  rw [fcF] at z
  have e : stt n h (upd (h 20) 0 0) (h 4) = hs h 20 0 0 := by
    have := stt_20 (n := n) (h := h) (f := h 20) (f2 := upd (h 20) 0 0) (g := h 4)
    rw [stt_self hS] at this
    exact this.symm
  rw [e] at z
  exact z
set_option maxRecDepth 20000 in
theorem c_X1_take0 {G : GxT} (hF : Full G) {h : HpT} {n i p : Nat} (hS : SI n h) (hk : h 20 2 = 0) (hi : i < n) (hp : p < 3) (e3 : h 20 3 = nI i) (e4 : h 20 4 = nI p) : mcv G yX1_take cX1_take 1 none 4 [.ref (gad G 20)] h (cano n (hs h 4 i (nI p))) := by
  refine mc_of (by decide) (Nat.le_of_ble_eq_true rfl) (fun X hG F Rr hL => ?_)
  subst hG
  have F : FxT X cX1_take RX1 4 := F
  show rn X 0 [(0, .ref (gad X.1 20))] [] h
  refine rn_aload_n (np := 1) F dX1_take_0 rfl rfl <| rn_getf (np := 4) F dX1_take_1 rfl fF_X1_43 (fs hF rfl rfl) rfl <| rn_if_ne (tg := 25) (np := 7) F dX1_take_4 rfl rfl (fun q => absurd q ((fun z => z hk))) (fun _ => rn_aload_n (np := 8) F dX1_take_7 rfl rfl <| rn_getr (np := 11) F dX1_take_8 rfl fF_X1_9 (fs hF rfl rfl) rfl <| rn_aload_n (np := 12) F dX1_take_11 rfl rfl <| rn_getfE (np := 15) F dX1_take_12 rfl fF_X1_46 (fs hF rfl rfl) rfl e3 <| rn_aload_n (np := 16) F dX1_take_15 rfl rfl <| rn_getfE (np := 19) F dX1_take_16 rfl fF_X1_49 (fs hF rfl rfl) rfl e4 <| rn_cV2v (np := 22) F dX1_take_19 rfl cv_X2_setPhase wM_X1_52 (fs hF rfl rfl) rfl (c_X2_setPhase hF hS hi hp rfl) (Nat.le_of_ble_eq_true rfl) (Nat.le_of_ble_eq_true rfl) <| rn_goto (np := 40) F dX1_take_22 rfl <| rn_vret F Rr dX1_take_40 ?_)
  · exact ⟨rfl, rfl⟩
set_option maxRecDepth 20000 in
theorem c_X1_take1 {G : GxT} (hF : Full G) {h : HpT} {n i o : Nat} (hS : SI n h) (hk : ¬ h 20 2 = 0) (hi : i < n) (ho : o < n) (e3 : h 20 3 = nI i) (e4 : h 20 4 = nI o) : mcv G yX1_take cX1_take 1 none 4 [.ref (gad G 20)] h (cano n (va_up h 4 (swp (h 4) i o))) := by
  refine mc_of (by decide) (Nat.le_of_ble_eq_true rfl) (fun X hG F Rr hL => ?_)
  subst hG
  have F : FxT X cX1_take RX1 4 := F
  show rn X 0 [(0, .ref (gad X.1 20))] [] h
  refine rn_aload_n (np := 1) F dX1_take_0 rfl rfl <| rn_getf (np := 4) F dX1_take_1 rfl fF_X1_43 (fs hF rfl rfl) rfl <| rn_if_ne (tg := 25) (np := 7) F dX1_take_4 rfl rfl (fun _ => rn_aload_n (np := 26) F dX1_take_25 rfl rfl <| rn_getr (np := 29) F dX1_take_26 rfl fF_X1_9 (fs hF rfl rfl) rfl <| rn_aload_n (np := 30) F dX1_take_29 rfl rfl <| rn_getfE (np := 33) F dX1_take_30 rfl fF_X1_46 (fs hF rfl rfl) rfl e3 <| rn_aload_n (np := 34) F dX1_take_33 rfl rfl <| rn_getfE (np := 37) F dX1_take_34 rfl fF_X1_49 (fs hF rfl rfl) rfl e4 <| rn_cV2v (np := 40) F dX1_take_37 rfl cv_X2_swapPhases wM_X1_56 (fs hF rfl rfl) rfl (c_X2_swapPhases hF hS hi ho) (Nat.le_of_ble_eq_true rfl) (Nat.le_of_ble_eq_true rfl) <| rn_vret F Rr dX1_take_40 ?_) (fun q => absurd q (hk))
  · exact ⟨rfl, rfl⟩
end
section
def rtF (h : HpT) (k : Nat) : Nat → Int32 := fun j => if j < k then tkV (h 2 (j / 6)) (h 3 (j / 6)) (j % 6) else h 15 j
theorem rt_step (h : HpT) (i t : Nat) (ht : t < 6) : hs (va_up h 15 (rtF h (i * 6 + t))) 15 (i * 6 + t) (tkV (h 2 i) (h 3 i) t) = va_up h 15 (rtF h (i * 6 + (t + 1))) := by
  rw [hs_up]
  congr 1
  funext j
  simp only [upd, rtF]
  by_cases h1 : j = i * 6 + t
  · subst h1
    rw [if_pos rfl, if_pos (by omega), show (i * 6 + t) / 6 = i by omega, show (i * 6 + t) % 6 = t by omega]
  · rw [if_neg h1]
    by_cases h2 : j < i * 6 + t
    · rw [if_pos h2, if_pos (by omega)]
    · rw [if_neg h2, if_neg (by omega)]
theorem rt_0 (h : HpT) : rtF h 0 = h 15 := by funext j; simp [rtF]
theorem ix9 (p t : Nat) : nI p * 9 + nI t = nI (p * 9 + t) := by rw [show (9 : Int32) = nI 9 from rfl, pk_mul, nI_add]
theorem ix3 (p t : Nat) : nI p * 3 + nI t = nI (p * 3 + t) := by rw [show (3 : Int32) = nI 3 from rfl, pk_mul, nI_add]
def mxI (x y : Int32) : Int32 := if x < y then y else x
/-- what houses take, and give, in an hour; f: takings -/
def takS (f : Nat → Int32) (t : Nat) : Nat → Int32
  | 0 => 0
  | i + 1 => takS f t i + mxI (f (i * 6 + t)) 0
def givS (f : Nat → Int32) (t : Nat) : Nat → Int32
  | 0 => 0
  | i + 1 => givS f t i + mxI (-f (i * 6 + t)) 0
/-- whether an hour is tight -/
def tgB (f : Nat → Int32) (fu : Int32) (n t : Nat) : Bool := decide (fu < mxI (takS f t n) (givS f t n))
def tcN (b : Nat → Bool) : Nat → Nat
  | 0 => 0
  | t + 1 => tcN b t + (if b t then 1 else 0)
def thF (b : Nat → Bool) (f : Nat → Int32) : Nat → (Nat → Int32)
  | 0 => f
  | t + 1 => if b t then upd (thF b f t) (tcN b t) (nI t) else thF b f t
theorem tcN_le (b : Nat → Bool) : ∀ t, tcN b t ≤ t
  | 0 => Nat.le_refl _
  | t + 1 => by unfold tcN; have := tcN_le b t; split <;> omega
def prF (w : Nat → Int32) (f : Nat → Int32) (i o : Nat) : Nat → Int32
  | 0 => 0
  | t + 1 => prF w f i o t + w t * f (i * 6 + t) * f (o * 6 + t)
def mpF (h : HpT) (i o : Nat) : Nat → Int32 := fun j => if (j / 9 < i ∧ j % 9 ≤ j / 9) ∨ (j / 9 = i ∧ j % 9 < o) then prF (h 9) (h 15) (j / 9) (j % 9) 6 else h 16 j
theorem mp_step (h : HpT) (i o : Nat) (ho : o < 9) : hs (va_up h 16 (mpF h i o)) 16 (i * 9 + o) (prF (h 9) (h 15) i o 6) = va_up h 16 (mpF h i (o + 1)) := by
  rw [hs_up]
  congr 1
  funext j
  simp only [upd, mpF]
  by_cases h1 : j = i * 9 + o
  · subst h1
    rw [if_pos rfl, if_pos (Or.inr ⟨by omega, by omega⟩), show (i * 9 + o) / 9 = i by omega, show (i * 9 + o) % 9 = o by omega]
  · rw [if_neg h1]
    by_cases h2 : (j / 9 < i ∧ j % 9 ≤ j / 9) ∨ (j / 9 = i ∧ j % 9 < o)
    · rw [if_pos h2, if_pos (by omega)]
    · rw [if_neg h2, if_neg (by omega)]
theorem mp_next (h : HpT) (i : Nat) : mpF h i (i + 1) = mpF h (i + 1) 0 := by
  funext j
  simp only [mpF]
  by_cases h2 : (j / 9 < i ∧ j % 9 ≤ j / 9) ∨ (j / 9 = i ∧ j % 9 < i + 1)
  · rw [if_pos h2, if_pos (by omega)]
  · rw [if_neg h2, if_neg (by omega)]
theorem mp_0 (h : HpT) : mpF h 0 0 = h 16 := by funext j; simp [mpF]
def gaI (f : Nat → Int32) (i : Nat) (x : Int32) : Nat → Int32
  | 0 => x
  | o + 1 => gaI f i x o - f (i * 9 + o)
def gaF (f : Nat → Int32) : Nat → Int32
  | 0 => 0
  | i + 1 => gaI f i (gaF f i + f (i * 9 + i)) i
end
section
set_option maxRecDepth 20000 in
theorem l_X0_readTakings {X : XxT} {post : Option Value → HpT → Prop} (hF : Full X.1) (F : FxT X cX0_readTakings RX0 1) (Rr : RxT X none post) (hL : X.2.2.2.2.2.2.2.2.2.2.2.2.2.1 = 3) {h : HpT} {n : Nat} (hS : SI n h) (hp : post none (va_up h 15 (rtF h (n * 6)))) : ∀ (k : Nat) (i t : Nat), 7 * n - (7 * i + t) < k → i < n → t ≤ 6 → rn X 15 [(0, .ref (gad X.1 11)), (1, .int (nI i)), (2, .int (nI t))] [] (va_up h 15 (rtF h (i * 6 + t))) := by
  intro k
  induction k with
  | zero => intro i t hk; exact absurd hk (Nat.not_lt_zero _)
  | succ k ih =>
    intro i t hk hi ht
    have hn := hS.1
    obtain ⟨a, ha, ea⟩ := hS.2.2.1 i (by omega)
    refine rn_iload_n (np := 16) F dX0_readTakings_15 rfl rfl <| rn_bipush (np := 18) (v := 6) F dX0_readTakings_16 rfl rfl <| rn_Nge (tg := 47) (np := 21) (b := 6) F dX0_readTakings_18 rfl rfl rfl rfl (by omega) (fun c18 => rn_iincN (np := 50) F dX0_readTakings_47 rfl rfl hL rfl <| rn_goto (np := 2) F dX0_readTakings_50 rfl <| rn_iload_n (np := 3) F dX0_readTakings_2 rfl rfl <| rn_aload_n (np := 4) F dX0_readTakings_3 rfl rfl <| rn_getr (np := 7) F dX0_readTakings_4 rfl fF_X0_36 (fs hF rfl rfl) rfl <| rn_getfE (np := 10) F dX0_readTakings_7 rfl fF_X0_80 (fs hF rfl rfl) rfl hS.2.1 <| rn_Nge (tg := 53) (np := 13) F dX0_readTakings_10 rfl rfl rfl rfl (by omega) (fun c10 => rn_vret F Rr dX0_readTakings_53 ?_) (fun c10 => rn_iconst (np := 14) (v := 0) F dX0_readTakings_13 rfl rfl <| rn_istore_n (np := 15) F dX0_readTakings_14 rfl hL rfl <| ?_)) (fun c18 => rn_aload_n (np := 22) F dX0_readTakings_21 rfl rfl <| rn_getr (np := 25) F dX0_readTakings_22 rfl fF_X0_21 (fs hF rfl rfl) rfl <| rn_iload_n (np := 26) F dX0_readTakings_25 rfl rfl <| rn_bipush (np := 28) (v := 6) F dX0_readTakings_26 rfl rfl <| rn_imul (np := 29) F dX0_readTakings_28 rfl <| rn_iload_n (np := 30) F dX0_readTakings_29 rfl rfl <| rn_iadd (np := 31) F dX0_readTakings_30 rfl <| rn_aload_n (np := 32) F dX0_readTakings_31 rfl rfl <| rn_getr (np := 35) F dX0_readTakings_32 rfl fF_X0_36 (fs hF rfl rfl) rfl <| rn_iload_n (np := 36) F dX0_readTakings_35 rfl rfl <| rn_iload_n (np := 37) F dX0_readTakings_36 rfl rfl <| rn_cV2i (np := 40) F dX0_readTakings_37 rfl cv_X2_takenBy wM_X0_85 (fs hF rfl rfl) rfl (c_X2_takenBy hF (by omega) (by omega) ha ea) (Nat.le_of_ble_eq_true rfl) (Nat.le_of_ble_eq_true rfl) <| rn_iastN (np := 41) F dX0_readTakings_40 rfl (fs hF rfl rfl) (ix6 i t) (by omega) <| rn_iincN (np := 44) F dX0_readTakings_41 rfl rfl hL rfl <| rn_goto (np := 15) F dX0_readTakings_44 rfl <| ?_)
    · rw [show i * 6 + t = n * 6 by omega]; exact hp
    · have z := ih (i + 1) 0 (by omega) (by omega) (by omega)
      rw [show (i + 1) * 6 + 0 = i * 6 + t by omega] at z
      exact z
    · rw [show tkV (va_up h 15 (rtF h (i * 6 + t)) 2 i) (va_up h 15 (rtF h (i * 6 + t)) 3 i) t = tkV (h 2 i) (h 3 i) t from rfl, rt_step h i t (by omega)]
      exact ih i (t + 1) (by omega) (by omega) (by omega)
set_option maxRecDepth 20000 in
theorem c_X0_readTakings {G : GxT} (hF : Full G) {h : HpT} {n : Nat} (hS : SI n h) : mcv G yX0_readTakings cX0_readTakings 3 none 1 [.ref (gad G 11)] h (va_up h 15 (rtF h (n * 6))) := by
  refine mc_of (by decide) (Nat.le_of_ble_eq_true rfl) (fun X hG F Rr hL => ?_)
  subst hG
  have F : FxT X cX0_readTakings RX0 1 := F
  show rn X 0 [(0, .ref (gad X.1 11))] [] h
  have hn := hS.1
  have e : va_up h 15 (rtF h 0) = h := by rw [rt_0, up_id]
  refine rn_iconst (np := 1) (v := 0) F dX0_readTakings_0 rfl rfl <| rn_istore_n (np := 2) F dX0_readTakings_1 rfl hL rfl <| rn_iload_n (np := 3) F dX0_readTakings_2 rfl rfl <| rn_aload_n (np := 4) F dX0_readTakings_3 rfl rfl <| rn_getr (np := 7) F dX0_readTakings_4 rfl fF_X0_36 (fs hF rfl rfl) rfl <| rn_getfE (np := 10) F dX0_readTakings_7 rfl fF_X0_80 (fs hF rfl rfl) rfl hS.2.1 <| rn_Nge (tg := 53) (np := 13) F dX0_readTakings_10 rfl rfl (show (0 : Int32) = nI 0 from rfl) rfl (by omega) (fun c10 => rn_vret F Rr dX0_readTakings_53 ?_) (fun c10 => rn_iconst (np := 14) (v := 0) F dX0_readTakings_13 rfl rfl <| rn_istore_n (np := 15) F dX0_readTakings_14 rfl hL rfl <| ?_)
  · exact ⟨rfl, by rw [show n * 6 = 0 by omega, e]⟩
  · have z := l_X0_readTakings (h := h) hF F Rr hL hS ⟨rfl, rfl⟩ (7 * n + 1) 0 0 (by omega) (by omega) (by omega)
    rw [show 0 * 6 + 0 = 0 from rfl, e] at z
    exact z
set_option maxRecDepth 20000 in
theorem l_X0_product {X : XxT} {post : Option Value → HpT → Prop} (hF : Full X.1) (F : FxT X cX0_product RX0 0) (Rr : RxT X (some .int) post) (hL : X.2.2.2.2.2.2.2.2.2.2.2.2.2.1 = 5) {h : HpT} {i o : Nat} (hi : i < 9) (ho : o < 9) (hp : post (some (.int (prF (h 9) (h 15) i o 6))) h) : ∀ (k : Nat) (t : Nat), 6 - t < k → t ≤ 6 → rn X 5 [(0, .ref (gad X.1 11)), (1, .int (nI i)), (2, .int (nI o)), (3, .int (prF (h 9) (h 15) i o t)), (4, .int (nI t))] [] h := by
  intro k
  induction k with
  | zero => intro t hk; exact absurd hk (Nat.not_lt_zero _)
  | succ k ih =>
    intro t hk ht
    refine rn_iload (np := 7) F dX0_product_5 rfl rfl <| rn_bipush (np := 9) (v := 6) F dX0_product_7 rfl rfl <| rn_Nge (tg := 57) (np := 12) (b := 6) F dX0_product_9 rfl rfl rfl rfl (by omega) (fun c9 => rn_iload_n (np := 58) F dX0_product_57 rfl rfl <| rn_iret F Rr dX0_product_58 ?_) (fun c9 => rn_iload_n (np := 13) F dX0_product_12 rfl rfl <| rn_aload_n (np := 14) F dX0_product_13 rfl rfl <| rn_getr (np := 17) F dX0_product_14 rfl fF_X0_36 (fs hF rfl rfl) rfl <| rn_getr (np := 20) F dX0_product_17 rfl fF_X0_103 (fs hF rfl rfl) rfl <| rn_iload (np := 22) F dX0_product_20 rfl rfl <| rn_ialdN (np := 23) F dX0_product_22 rfl (fs hF rfl rfl) rfl (by omega) <| rn_aload_n (np := 24) F dX0_product_23 rfl rfl <| rn_getr (np := 27) F dX0_product_24 rfl fF_X0_21 (fs hF rfl rfl) rfl <| rn_iload_n (np := 28) F dX0_product_27 rfl rfl <| rn_bipush (np := 30) (v := 6) F dX0_product_28 rfl rfl <| rn_imul (np := 31) F dX0_product_30 rfl <| rn_iload (np := 33) F dX0_product_31 rfl rfl <| rn_iadd (np := 34) F dX0_product_33 rfl <| rn_ialdN (np := 35) F dX0_product_34 rfl (fs hF rfl rfl) (ix6 i t) (by omega) <| rn_imul (np := 36) F dX0_product_35 rfl <| rn_aload_n (np := 37) F dX0_product_36 rfl rfl <| rn_getr (np := 40) F dX0_product_37 rfl fF_X0_21 (fs hF rfl rfl) rfl <| rn_iload_n (np := 41) F dX0_product_40 rfl rfl <| rn_bipush (np := 43) (v := 6) F dX0_product_41 rfl rfl <| rn_imul (np := 44) F dX0_product_43 rfl <| rn_iload (np := 46) F dX0_product_44 rfl rfl <| rn_iadd (np := 47) F dX0_product_46 rfl <| rn_ialdN (np := 48) F dX0_product_47 rfl (fs hF rfl rfl) (ix6 o t) (by omega) <| rn_imul (np := 49) F dX0_product_48 rfl <| rn_iadd (np := 50) F dX0_product_49 rfl <| rn_istore_n (np := 51) F dX0_product_50 rfl hL rfl <| rn_iincN (np := 54) F dX0_product_51 rfl rfl hL rfl <| rn_goto (np := 5) F dX0_product_54 rfl <| ?_)
    · rw [show t = 6 by omega]; exact hp
    · exact ih (t + 1) (by omega) (by omega)
set_option maxRecDepth 20000 in
theorem c_X0_product {G : GxT} (hF : Full G) {h : HpT} {i o : Nat} (hi : i < 9) (ho : o < 9) : mci G yX0_product cX0_product 5 (some .int) 0 [.ref (gad G 11), .int (nI i), .int (nI o)] h (prF (h 9) (h 15) i o 6) (h) := by
  refine mc_of (by decide) (Nat.le_of_ble_eq_true rfl) (fun X hG F Rr hL => ?_)
  subst hG
  have F : FxT X cX0_product RX0 0 := F
  show rn X 0 [(0, .ref (gad X.1 11)), (1, .int (nI i)), (2, .int (nI o))] [] h
  refine rn_iconst (np := 1) (v := 0) F dX0_product_0 rfl rfl <| rn_istore_n (np := 2) F dX0_product_1 rfl hL rfl <| rn_iconst (np := 3) (v := 0) F dX0_product_2 rfl rfl <| rn_istore (np := 5) F dX0_product_3 rfl hL rfl <| ?_
  exact l_X0_product hF F Rr hL hi ho ⟨rfl, rfl⟩ 7 0 (by omega) (by omega)
set_option maxRecDepth 20000 in
theorem l_X0_multiplyTakings {X : XxT} {post : Option Value → HpT → Prop} (hF : Full X.1) (F : FxT X cX0_multiplyTakings RX0 1) (Rr : RxT X none post) (hL : X.2.2.2.2.2.2.2.2.2.2.2.2.2.1 = 3) {h : HpT} {n : Nat} (hn : n ≤ 9) (eh : h 1 9 = nI n) (hp : post none (va_up h 16 (mpF h n 0))) : ∀ (k : Nat) (i o : Nat), 11 * n - (11 * i + o) < k → i < n → o ≤ i + 1 → rn X 15 [(0, .ref (gad X.1 11)), (1, .int (nI i)), (2, .int (nI o))] [] (va_up h 16 (mpF h i o)) := by
  intro k
  induction k with
  | zero => intro i o hk; exact absurd hk (Nat.not_lt_zero _)
  | succ k ih =>
    intro i o hk hi ho
    refine rn_iload_n (np := 16) F dX0_multiplyTakings_15 rfl rfl <| rn_iload_n (np := 17) F dX0_multiplyTakings_16 rfl rfl <| rn_Ngt (tg := 43) (np := 20) F dX0_multiplyTakings_17 rfl rfl rfl rfl (by omega) (fun c17 => rn_iincN (np := 46) F dX0_multiplyTakings_43 rfl rfl hL rfl <| rn_goto (np := 2) F dX0_multiplyTakings_46 rfl <| rn_iload_n (np := 3) F dX0_multiplyTakings_2 rfl rfl <| rn_aload_n (np := 4) F dX0_multiplyTakings_3 rfl rfl <| rn_getr (np := 7) F dX0_multiplyTakings_4 rfl fF_X0_36 (fs hF rfl rfl) rfl <| rn_getfE (np := 10) F dX0_multiplyTakings_7 rfl fF_X0_80 (fs hF rfl rfl) rfl eh <| rn_Nge (tg := 49) (np := 13) F dX0_multiplyTakings_10 rfl rfl rfl rfl (by omega) (fun c10 => rn_vret F Rr dX0_multiplyTakings_49 ?_) (fun c10 => rn_iconst (np := 14) (v := 0) F dX0_multiplyTakings_13 rfl rfl <| rn_istore_n (np := 15) F dX0_multiplyTakings_14 rfl hL rfl <| ?_)) (fun c17 => rn_aload_n (np := 21) F dX0_multiplyTakings_20 rfl rfl <| rn_getr (np := 24) F dX0_multiplyTakings_21 rfl fF_X0_24 (fs hF rfl rfl) rfl <| rn_iload_n (np := 25) F dX0_multiplyTakings_24 rfl rfl <| rn_bipush (np := 27) (v := 9) F dX0_multiplyTakings_25 rfl rfl <| rn_imul (np := 28) F dX0_multiplyTakings_27 rfl <| rn_iload_n (np := 29) F dX0_multiplyTakings_28 rfl rfl <| rn_iadd (np := 30) F dX0_multiplyTakings_29 rfl <| rn_aload_n (np := 31) F dX0_multiplyTakings_30 rfl rfl <| rn_iload_n (np := 32) F dX0_multiplyTakings_31 rfl rfl <| rn_iload_n (np := 33) F dX0_multiplyTakings_32 rfl rfl <| rn_cV2i (np := 36) F dX0_multiplyTakings_33 rfl cv_X0_product wM_X0_100 (fs hF rfl rfl) rfl (c_X0_product hF (by omega) (by omega)) (Nat.le_of_ble_eq_true rfl) (Nat.le_of_ble_eq_true rfl) <| rn_iastN (np := 37) F dX0_multiplyTakings_36 rfl (fs hF rfl rfl) (ix9 i o) (by omega) <| rn_iincN (np := 40) F dX0_multiplyTakings_37 rfl rfl hL rfl <| rn_goto (np := 15) F dX0_multiplyTakings_40 rfl <| ?_)
    · rw [show o = i + 1 by omega, mp_next, show i + 1 = n by omega]; exact hp
    · rw [show o = i + 1 by omega, mp_next]
      exact ih (i + 1) 0 (by omega) (by omega) (by omega)
    · rw [show prF (va_up h 16 (mpF h i o) 9) (va_up h 16 (mpF h i o) 15) i o 6 = prF (h 9) (h 15) i o 6 from rfl, mp_step h i o (by omega)]
      exact ih i (o + 1) (by omega) (by omega) (by omega)
set_option maxRecDepth 20000 in
theorem c_X0_multiplyTakings {G : GxT} (hF : Full G) {h : HpT} {n : Nat} (hn : n ≤ 9) (eh : h 1 9 = nI n) : mcv G yX0_multiplyTakings cX0_multiplyTakings 3 none 1 [.ref (gad G 11)] h (va_up h 16 (mpF h n 0)) := by
  refine mc_of (by decide) (Nat.le_of_ble_eq_true rfl) (fun X hG F Rr hL => ?_)
  subst hG
  have F : FxT X cX0_multiplyTakings RX0 1 := F
  show rn X 0 [(0, .ref (gad X.1 11))] [] h
  have e : va_up h 16 (mpF h 0 0) = h := by rw [mp_0, up_id]
  refine rn_iconst (np := 1) (v := 0) F dX0_multiplyTakings_0 rfl rfl <| rn_istore_n (np := 2) F dX0_multiplyTakings_1 rfl hL rfl <| rn_iload_n (np := 3) F dX0_multiplyTakings_2 rfl rfl <| rn_aload_n (np := 4) F dX0_multiplyTakings_3 rfl rfl <| rn_getr (np := 7) F dX0_multiplyTakings_4 rfl fF_X0_36 (fs hF rfl rfl) rfl <| rn_getfE (np := 10) F dX0_multiplyTakings_7 rfl fF_X0_80 (fs hF rfl rfl) rfl eh <| rn_Nge (tg := 49) (np := 13) F dX0_multiplyTakings_10 rfl rfl (show (0 : Int32) = nI 0 from rfl) rfl (by omega) (fun c10 => rn_vret F Rr dX0_multiplyTakings_49 ?_) (fun c10 => rn_iconst (np := 14) (v := 0) F dX0_multiplyTakings_13 rfl rfl <| rn_istore_n (np := 15) F dX0_multiplyTakings_14 rfl hL rfl <| ?_)
  · exact ⟨rfl, by rw [show n = 0 by omega, e]⟩
  · have z := l_X0_multiplyTakings (h := h) hF F Rr hL hn eh ⟨rfl, rfl⟩ (11 * n + 1) 0 0 (by omega) (by omega) (by omega)
    rw [e] at z
    exact z
set_option maxRecDepth 20000 in
theorem l_X0_griefApart {X : XxT} {post : Option Value → HpT → Prop} (hF : Full X.1) (F : FxT X cX0_griefApart RX0 0) (Rr : RxT X (some .int) post) (hL : X.2.2.2.2.2.2.2.2.2.2.2.2.2.1 = 4) {h : HpT} {n : Nat} (hn : n ≤ 9) (eh : h 1 9 = nI n) (hp : post (some (.int (gaF (h 16) n))) h) : ∀ (k : Nat) (i o : Nat), 11 * n - (11 * i + o) < k → i < n → o ≤ i → rn X 31 [(0, .ref (gad X.1 11)), (1, .int (gaI (h 16) i (gaF (h 16) i + h 16 (i * 9 + i)) o)), (2, .int (nI i)), (3, .int (nI o))] [] h := by
  intro k
  induction k with
  | zero => intro i o hk; exact absurd hk (Nat.not_lt_zero _)
  | succ k ih =>
    intro i o hk hi ho
    refine rn_iload_n (np := 32) F dX0_griefApart_31 rfl rfl <| rn_iload_n (np := 33) F dX0_griefApart_32 rfl rfl <| rn_Nge (tg := 56) (np := 36) F dX0_griefApart_33 rfl rfl rfl rfl (by omega) (fun c33 => rn_iincN (np := 59) F dX0_griefApart_56 rfl rfl hL rfl <| rn_goto (np := 4) F dX0_griefApart_59 rfl <| rn_iload_n (np := 5) F dX0_griefApart_4 rfl rfl <| rn_aload_n (np := 6) F dX0_griefApart_5 rfl rfl <| rn_getr (np := 9) F dX0_griefApart_6 rfl fF_X0_36 (fs hF rfl rfl) rfl <| rn_getfE (np := 12) F dX0_griefApart_9 rfl fF_X0_80 (fs hF rfl rfl) rfl eh <| rn_Nge (tg := 62) (np := 15) F dX0_griefApart_12 rfl rfl rfl rfl (by omega) (fun c12 => rn_iload_n (np := 63) F dX0_griefApart_62 rfl rfl <| rn_iret F Rr dX0_griefApart_63 ?_) (fun c12 => rn_iload_n (np := 16) F dX0_griefApart_15 rfl rfl <| rn_aload_n (np := 17) F dX0_griefApart_16 rfl rfl <| rn_getr (np := 20) F dX0_griefApart_17 rfl fF_X0_24 (fs hF rfl rfl) rfl <| rn_iload_n (np := 21) F dX0_griefApart_20 rfl rfl <| rn_bipush (np := 23) (v := 9) F dX0_griefApart_21 rfl rfl <| rn_imul (np := 24) F dX0_griefApart_23 rfl <| rn_iload_n (np := 25) F dX0_griefApart_24 rfl rfl <| rn_iadd (np := 26) F dX0_griefApart_25 rfl <| rn_ialdN (np := 27) F dX0_griefApart_26 rfl (fs hF rfl rfl) (ix9 (i + 1) (i + 1)) (by omega) <| rn_iadd (np := 28) F dX0_griefApart_27 rfl <| rn_istore_n (np := 29) F dX0_griefApart_28 rfl hL rfl <| rn_iconst (np := 30) (v := 0) F dX0_griefApart_29 rfl rfl <| rn_istore_n (np := 31) F dX0_griefApart_30 rfl hL rfl <| ?_)) (fun c33 => rn_iload_n (np := 37) F dX0_griefApart_36 rfl rfl <| rn_aload_n (np := 38) F dX0_griefApart_37 rfl rfl <| rn_getr (np := 41) F dX0_griefApart_38 rfl fF_X0_24 (fs hF rfl rfl) rfl <| rn_iload_n (np := 42) F dX0_griefApart_41 rfl rfl <| rn_bipush (np := 44) (v := 9) F dX0_griefApart_42 rfl rfl <| rn_imul (np := 45) F dX0_griefApart_44 rfl <| rn_iload_n (np := 46) F dX0_griefApart_45 rfl rfl <| rn_iadd (np := 47) F dX0_griefApart_46 rfl <| rn_ialdN (np := 48) F dX0_griefApart_47 rfl (fs hF rfl rfl) (ix9 i o) (by omega) <| rn_isub (np := 49) F dX0_griefApart_48 rfl <| rn_istore_n (np := 50) F dX0_griefApart_49 rfl hL rfl <| rn_iincN (np := 53) F dX0_griefApart_50 rfl rfl hL rfl <| rn_goto (np := 31) F dX0_griefApart_53 rfl <| ?_)
    · have e : gaI (h 16) i (gaF (h 16) i + h 16 (i * 9 + i)) o = gaF (h 16) n := by rw [show o = i by omega, show n = i + 1 by omega]; rfl
      rw [e]; exact hp
    · have e : gaI (h 16) i (gaF (h 16) i + h 16 (i * 9 + i)) o = gaF (h 16) (i + 1) := by rw [show o = i by omega]; rfl
      have z := ih (i + 1) 0 (by omega) (by omega) (by omega)
      rw [e]
      exact z
    · exact ih i (o + 1) (by omega) (by omega) (by omega)
set_option maxRecDepth 20000 in
theorem c_X0_griefApart {G : GxT} (hF : Full G) {h : HpT} {n : Nat} (hn : n ≤ 9) (eh : h 1 9 = nI n) : mci G yX0_griefApart cX0_griefApart 4 (some .int) 0 [.ref (gad G 11)] h (gaF (h 16) n) (h) := by
  refine mc_of (by decide) (Nat.le_of_ble_eq_true rfl) (fun X hG F Rr hL => ?_)
  subst hG
  have F : FxT X cX0_griefApart RX0 0 := F
  show rn X 0 [(0, .ref (gad X.1 11))] [] h
  refine rn_iconst (np := 1) (v := 0) F dX0_griefApart_0 rfl rfl <| rn_istore_n (np := 2) F dX0_griefApart_1 rfl hL rfl <| rn_iconst (np := 3) (v := 0) F dX0_griefApart_2 rfl rfl <| rn_istore_n (np := 4) F dX0_griefApart_3 rfl hL rfl <| rn_iload_n (np := 5) F dX0_griefApart_4 rfl rfl <| rn_aload_n (np := 6) F dX0_griefApart_5 rfl rfl <| rn_getr (np := 9) F dX0_griefApart_6 rfl fF_X0_36 (fs hF rfl rfl) rfl <| rn_getfE (np := 12) F dX0_griefApart_9 rfl fF_X0_80 (fs hF rfl rfl) rfl eh <| rn_Nge (tg := 62) (np := 15) F dX0_griefApart_12 rfl rfl (show (0 : Int32) = nI 0 from rfl) rfl (by omega) (fun c12 => rn_iload_n (np := 63) F dX0_griefApart_62 rfl rfl <| rn_iret F Rr dX0_griefApart_63 ?_) (fun c12 => rn_iload_n (np := 16) F dX0_griefApart_15 rfl rfl <| rn_aload_n (np := 17) F dX0_griefApart_16 rfl rfl <| rn_getr (np := 20) F dX0_griefApart_17 rfl fF_X0_24 (fs hF rfl rfl) rfl <| rn_iload_n (np := 21) F dX0_griefApart_20 rfl rfl <| rn_bipush (np := 23) (v := 9) F dX0_griefApart_21 rfl rfl <| rn_imul (np := 24) F dX0_griefApart_23 rfl <| rn_iload_n (np := 25) F dX0_griefApart_24 rfl rfl <| rn_iadd (np := 26) F dX0_griefApart_25 rfl <| rn_ialdN (np := 27) F dX0_griefApart_26 rfl (fs hF rfl rfl) (ix9 0 0) (by omega) <| rn_iadd (np := 28) F dX0_griefApart_27 rfl <| rn_istore_n (np := 29) F dX0_griefApart_28 rfl hL rfl <| rn_iconst (np := 30) (v := 0) F dX0_griefApart_29 rfl rfl <| rn_istore_n (np := 31) F dX0_griefApart_30 rfl hL rfl <| ?_)
  · exact ⟨by rw [show n = 0 by omega]; rfl, rfl⟩
  · exact l_X0_griefApart (h := h) hF F Rr hL hn eh ⟨rfl, rfl⟩ (11 * n + 1) 0 0 (by omega) (by omega) (by omega)
end
section
def tgh (h : HpT) (b : Nat → Bool) (t : Nat) : HpT := va_up (va_up h 11 (upd (h 11) 10 (nI (tcN b t)))) 19 (thF b (h 19) t)
theorem tg_skip {h : HpT} {b : Nat → Bool} {t : Nat} (e : b t = false) : tgh h b t = tgh h b (t + 1) := by
  unfold tgh; rw [tcN, thF, e]; simp
theorem tg_step {h : HpT} {b : Nat → Bool} {t : Nat} (e : b t = true) : hs (hs (tgh h b t) 19 (tcN b t) (nI t)) 11 10 (nI (tcN b t + 1)) = tgh h b (t + 1) := by
  unfold tgh
  rw [hs_up, tcN, thF, e]
  simp only [if_true]
  show va_up (va_up (va_up h 11 (upd (h 11) 10 (nI (tcN b t)))) 19 (upd (thF b (h 19) t) (tcN b t) (nI t))) 11 (upd (upd (h 11) 10 (nI (tcN b t))) 10 (nI (tcN b t + 1))) = _
  rw [up_comm _ _ _ (by decide), up_up, upd_upd]
theorem thF_in (b : Nat → Bool) (f : Nat → Int32) : ∀ (t j : Nat), j < tcN b t → ∃ q, q < t ∧ b q = true ∧ thF b f t j = nI q ∧ tcN b q = j
  | 0, j, hj => absurd hj (Nat.not_lt_zero _)
  | t + 1, j, hj => by
    unfold tcN at hj
    unfold thF
    by_cases e : b t = true
    · rw [if_pos e] at hj
      rw [if_pos e]
      by_cases e2 : j = tcN b t
      · subst e2; exact ⟨t, by omega, e, pk_us, rfl⟩
      · obtain ⟨q, h1, h2, h3, h4⟩ := thF_in b f t j (by omega)
        exact ⟨q, by omega, h2, by rw [pk_un e2]; exact h3, h4⟩
    · rw [if_neg e] at hj
      rw [if_neg e]
      obtain ⟨q, h1, h2, h3, h4⟩ := thF_in b f t j (by omega)
      exact ⟨q, by omega, h2, h3, h4⟩
theorem thF_at (b : Nat → Bool) (f : Nat → Int32) : ∀ (t q : Nat), q < t → b q = true → thF b f t (tcN b q) = nI q ∧ tcN b q < tcN b t
  | 0, q, hq, _ => absurd hq (Nat.not_lt_zero _)
  | t + 1, q, hq, hb => by
    unfold thF
    by_cases e2 : q = t
    · subst e2
      rw [if_pos hb, pk_us, tcN, if_pos hb]
      exact ⟨rfl, by omega⟩
    · obtain ⟨h1, h2⟩ := thF_at b f t q (by omega) hb
      by_cases e : b t = true
      · rw [if_pos e, pk_un (by omega), tcN, if_pos e]
        exact ⟨h1, by omega⟩
      · rw [if_neg e, tcN, if_neg e]
        exact ⟨h1, by omega⟩
theorem tcN_mono (b : Nat → Bool) {q t : Nat} (h : q ≤ t) : tcN b q ≤ tcN b t := by
  induction t with
  | zero => rw [show q = 0 by omega]; exact Nat.le_refl _
  | succ t ih =>
    by_cases e : q = t + 1
    · rw [e]; exact Nat.le_refl _
    · have := ih (by omega)
      rw [tcN]
      omega
end
section
set_option maxRecDepth 20000 in
theorem l1_X0_findTightHours {X : XxT} {post : Option Value → HpT → Prop} (hF : Full X.1) (F : FxT X cX0_findTightHours RX0 1) (Rr : RxT X none post) (hL : X.2.2.2.2.2.2.2.2.2.2.2.2.2.1 = 5) {h : HpT} {n t : Nat} (hn : n ≤ 9) (ht : t < 6) (eh : h 1 9 = nI n) (hkk : rn X 77 [(0, .ref (gad X.1 11)), (1, .int (nI t)), (2, .int (takS (h 15) t n)), (3, .int (givS (h 15) t n)), (4, .int (nI n))] [] h) : ∀ (k : Nat) (i : Nat), n - i < k → i ≤ n → rn X 20 [(0, .ref (gad X.1 11)), (1, .int (nI t)), (2, .int (takS (h 15) t i)), (3, .int (givS (h 15) t i)), (4, .int (nI i))] [] h := by
  intro k
  induction k with
  | zero => intro i hk; exact absurd hk (Nat.not_lt_zero _)
  | succ k ih =>
    intro i hk hi
    refine rn_iload (np := 22) F dX0_findTightHours_20 rfl rfl <| rn_aload_n (np := 23) F dX0_findTightHours_22 rfl rfl <| rn_getr (np := 26) F dX0_findTightHours_23 rfl fF_X0_36 (fs hF rfl rfl) rfl <| rn_getfE (np := 29) F dX0_findTightHours_26 rfl fF_X0_80 (fs hF rfl rfl) rfl eh <| rn_Nge (tg := 77) (np := 32) F dX0_findTightHours_29 rfl rfl rfl rfl (by omega) (fun c29 => ?_) (fun c29 => rn_iload_n (np := 33) F dX0_findTightHours_32 rfl rfl <| rn_aload_n (np := 34) F dX0_findTightHours_33 rfl rfl <| rn_getr (np := 37) F dX0_findTightHours_34 rfl fF_X0_21 (fs hF rfl rfl) rfl <| rn_iload (np := 39) F dX0_findTightHours_37 rfl rfl <| rn_bipush (np := 41) (v := 6) F dX0_findTightHours_39 rfl rfl <| rn_imul (np := 42) F dX0_findTightHours_41 rfl <| rn_iload_n (np := 43) F dX0_findTightHours_42 rfl rfl <| rn_iadd (np := 44) F dX0_findTightHours_43 rfl <| rn_ialdN (np := 45) F dX0_findTightHours_44 rfl (fs hF rfl rfl) (ix6 i t) (by omega) <| rn_iconst (np := 46) (v := 0) F dX0_findTightHours_45 rfl rfl <| rn_mmax (np := 49) F dX0_findTightHours_46 rfl wM_X0_92 wT_yJ9_max_7cf53 wN_J9 wC_yJ9_max_7cf53 (Nat.le_of_ble_eq_true rfl) (Nat.le_of_ble_eq_true rfl) <| rn_iadd (np := 50) F dX0_findTightHours_49 rfl <| rn_istore_n (np := 51) F dX0_findTightHours_50 rfl hL rfl <| rn_iload_n (np := 52) F dX0_findTightHours_51 rfl rfl <| rn_aload_n (np := 53) F dX0_findTightHours_52 rfl rfl <| rn_getr (np := 56) F dX0_findTightHours_53 rfl fF_X0_21 (fs hF rfl rfl) rfl <| rn_iload (np := 58) F dX0_findTightHours_56 rfl rfl <| rn_bipush (np := 60) (v := 6) F dX0_findTightHours_58 rfl rfl <| rn_imul (np := 61) F dX0_findTightHours_60 rfl <| rn_iload_n (np := 62) F dX0_findTightHours_61 rfl rfl <| rn_iadd (np := 63) F dX0_findTightHours_62 rfl <| rn_ialdN (np := 64) F dX0_findTightHours_63 rfl (fs hF rfl rfl) (ix6 i t) (by omega) <| rn_ineg (np := 65) F dX0_findTightHours_64 rfl <| rn_iconst (np := 66) (v := 0) F dX0_findTightHours_65 rfl rfl <| rn_mmax (np := 69) F dX0_findTightHours_66 rfl wM_X0_92 wT_yJ9_max_7cf53 wN_J9 wC_yJ9_max_7cf53 (Nat.le_of_ble_eq_true rfl) (Nat.le_of_ble_eq_true rfl) <| rn_iadd (np := 70) F dX0_findTightHours_69 rfl <| rn_istore_n (np := 71) F dX0_findTightHours_70 rfl hL rfl <| rn_iincN (np := 74) F dX0_findTightHours_71 rfl rfl hL rfl <| rn_goto (np := 20) F dX0_findTightHours_74 rfl <| ?_)
    · have e : i = n := by omega
      subst e; exact hkk
    · exact ih (i + 1) (by omega) (by omega)
set_option maxRecDepth 20000 in
theorem l_X0_findTightHours {X : XxT} {post : Option Value → HpT → Prop} (hF : Full X.1) (F : FxT X cX0_findTightHours RX0 1) (Rr : RxT X none post) (hL : X.2.2.2.2.2.2.2.2.2.2.2.2.2.1 = 5) {h : HpT} {n : Nat} (hn : n ≤ 9) (eh : h 1 9 = nI n) (hp : post none (va_up (va_up h 11 (upd (h 11) 10 (nI (tcN (tgB (h 15) (h 1 11) n) 6)))) 19 (thF (tgB (h 15) (h 1 11) n) (h 19) 6))) : ∀ (k : Nat) (t : Nat), 6 - t < k → t ≤ 6 → rn X 7 [(0, .ref (gad X.1 11)), (1, .int (nI t))] [] (tgh h (tgB (h 15) (h 1 11) n) t) := by
  intro k
  induction k with
  | zero => intro t hk; exact absurd hk (Nat.not_lt_zero _)
  | succ k ih =>
    intro t hk ht
    refine rn_iload_n (np := 8) F dX0_findTightHours_7 rfl rfl <| rn_bipush (np := 10) (v := 6) F dX0_findTightHours_8 rfl rfl <| rn_Nge (tg := 118) (np := 13) (b := 6) F dX0_findTightHours_10 rfl rfl rfl rfl (by omega) (fun c10 => rn_vret F Rr dX0_findTightHours_118 ?_) (fun c10 => rn_iconst (np := 14) (v := 0) F dX0_findTightHours_13 rfl rfl <| rn_istore_n (np := 15) F dX0_findTightHours_14 rfl hL rfl <| rn_iconst (np := 16) (v := 0) F dX0_findTightHours_15 rfl rfl <| rn_istore_n (np := 17) F dX0_findTightHours_16 rfl hL rfl <| rn_iconst (np := 18) (v := 0) F dX0_findTightHours_17 rfl rfl <| rn_istore (np := 20) F dX0_findTightHours_18 rfl hL rfl <| ?_)
    · rw [show t = 6 by omega]; exact hp
    · refine l1_X0_findTightHours (h := tgh h (tgB (h 15) (h 1 11) n) t) hF F Rr hL hn (by omega) eh ?_ (n + 1) 0 (by omega) (by omega)
      refine rn_iload_n (np := 78) F dX0_findTightHours_77 rfl rfl <| rn_iload_n (np := 79) F dX0_findTightHours_78 rfl rfl <| rn_mmax (np := 82) F dX0_findTightHours_79 rfl wM_X0_92 wT_yJ9_max_7cf53 wN_J9 wC_yJ9_max_7cf53 (Nat.le_of_ble_eq_true rfl) (Nat.le_of_ble_eq_true rfl) <| rn_aload_n (np := 83) F dX0_findTightHours_82 rfl rfl <| rn_getr (np := 86) F dX0_findTightHours_83 rfl fF_X0_36 (fs hF rfl rfl) rfl <| rn_getf (np := 89) F dX0_findTightHours_86 rfl fF_X0_97 (fs hF rfl rfl) rfl <| rn_icmp_le (tg := 112) (np := 92) F dX0_findTightHours_89 rfl rfl (fun c89 => rn_iincN (np := 115) F dX0_findTightHours_112 rfl rfl hL rfl <| rn_goto (np := 7) F dX0_findTightHours_115 rfl <| ?_) (fun c89 => rn_aload_n (np := 93) F dX0_findTightHours_92 rfl rfl <| rn_getr (np := 96) F dX0_findTightHours_93 rfl fF_X0_33 (fs hF rfl rfl) rfl <| rn_aload_n (np := 97) F dX0_findTightHours_96 rfl rfl <| rn_getfE (np := 100) F dX0_findTightHours_97 rfl fF_X0_89 (fs hF rfl rfl) rfl (pk_us : upd (h 11) 10 (nI (tcN (tgB (h 15) (h 1 11) n) t)) 10 = nI (tcN (tgB (h 15) (h 1 11) n) t)) <| rn_iload_n (np := 101) F dX0_findTightHours_100 rfl rfl <| rn_iastN (np := 102) F dX0_findTightHours_101 rfl (fs hF rfl rfl) rfl (by have := tcN_le (tgB (h 15) (h 1 11) n) t; omega) <| rn_aload_n (np := 103) F dX0_findTightHours_102 rfl rfl <| rn_dup (np := 104) F dX0_findTightHours_103 rfl rfl <| rn_getfE (np := 107) F dX0_findTightHours_104 rfl fF_X0_89 (fs hF rfl rfl) rfl (pk_us : upd (h 11) 10 (nI (tcN (tgB (h 15) (h 1 11) n) t)) 10 = nI (tcN (tgB (h 15) (h 1 11) n) t)) <| rn_iconst (np := 108) (v := 1) F dX0_findTightHours_107 rfl rfl <| rn_iadd (np := 109) F dX0_findTightHours_108 rfl <| rn_topE (nI_1 _) <| rn_putf (np := 112) F dX0_findTightHours_109 rfl fP_X0_89 (fs hF rfl rfl) rfl rfl rfl <| rn_iincN (np := 115) F dX0_findTightHours_112 rfl rfl hL rfl <| rn_goto (np := 7) F dX0_findTightHours_115 rfl <| ?_)
      · have e : (tgB (h 15) (h 1 11) n) t = false := decide_eq_false (Int32.not_lt.mpr c89)
        have z := ih (t + 1) (by omega) (by omega)
        rw [← tg_skip e] at z
        exact rn_pick [0, 1] rfl z
      · have e : (tgB (h 15) (h 1 11) n) t = true := decide_eq_true (Int32.not_le.mp c89)
        have z := ih (t + 1) (by omega) (by omega)
        rw [← tg_step e] at z
        exact rn_pick [0, 1] rfl z
set_option maxRecDepth 20000 in
theorem c_X0_findTightHours {G : GxT} (hF : Full G) {h : HpT} {n : Nat} (hn : n ≤ 9) (eh : h 1 9 = nI n) : mcv G yX0_findTightHours cX0_findTightHours 5 none 1 [.ref (gad G 11)] h (tgh h (tgB (h 15) (h 1 11) n) 6) := by
  refine mc_of (by decide) (Nat.le_of_ble_eq_true rfl) (fun X hG F Rr hL => ?_)
  subst hG
  have F : FxT X cX0_findTightHours RX0 1 := F
  show rn X 0 [(0, .ref (gad X.1 11))] [] h
  refine rn_aload_n (np := 1) F dX0_findTightHours_0 rfl rfl <| rn_iconst (np := 2) (v := 0) F dX0_findTightHours_1 rfl rfl <| rn_putf (np := 5) F dX0_findTightHours_2 rfl fP_X0_89 (fs hF rfl rfl) rfl rfl rfl <| rn_iconst (np := 6) (v := 0) F dX0_findTightHours_5 rfl rfl <| rn_istore_n (np := 7) F dX0_findTightHours_6 rfl hL rfl <| ?_
  have e : tgh h (tgB (h 15) (h 1 11) n) 0 = hs h 11 10 0 := by
    show va_up (hs h 11 10 0) 19 (h 19) = _
    exact up_id (hs h 11 10 0) 19
  rw [← e]
  exact l_X0_findTightHours (h := h) hF F Rr hL hn eh ⟨rfl, rfl⟩ 7 0 (by omega) (by omega)
end
section
theorem tcN_inj (b : Nat → Bool) {q r : Nat} (hq : b q = true) (hr : b r = true) (e : tcN b q = tcN b r) : q = r := by
  rcases Nat.lt_trichotomy q r with z | z | z
  · have h1 := tcN_mono b (show q + 1 ≤ r from z)
    rw [tcN, if_pos hq] at h1
    omega
  · exact z
  · have h1 := tcN_mono b (show r + 1 ≤ q from z)
    rw [tcN, if_pos hr] at h1
    omega
/-- loads of the laid ones in tight hours, the first k of these: one more is laid on p -/
def alT (b : Nat → Bool) (f : Nat → Int32) (p : Nat) (v : Nat → Int32) (k : Nat) : Nat → Int32 := fun j => if j / 6 = p ∧ b (j % 6) = true ∧ tcN b (j % 6) < k then f j + v (j % 6) else f j
theorem alT_0 (b : Nat → Bool) (f : Nat → Int32) (p : Nat) (v : Nat → Int32) : alT b f p v 0 = f := by funext j; simp [alT]
theorem alT_step (b : Nat → Bool) (h : HpT) (f : Nat → Int32) (p q : Nat) (v : Nat → Int32) (hq : q < 6) (hb : b q = true) : hs (va_up h 18 (alT b f p v (tcN b q))) 18 (p * 6 + q) (alT b f p v (tcN b q) (p * 6 + q) + v q) = va_up h 18 (alT b f p v (tcN b q + 1)) := by
  rw [hs_up]
  congr 1
  funext j
  simp only [upd, alT]
  by_cases h1 : j = p * 6 + q
  · subst h1
    rw [if_pos rfl, show (p * 6 + q) / 6 = p by omega, show (p * 6 + q) % 6 = q by omega, if_neg (by omega), if_pos ⟨rfl, hb, by omega⟩]
  · rw [if_neg h1]
    by_cases h2 : j / 6 = p ∧ b (j % 6) = true ∧ tcN b (j % 6) < tcN b q
    · rw [if_pos h2, if_pos ⟨h2.1, h2.2.1, by omega⟩]
    · rw [if_neg h2, if_neg (fun z => h2 ⟨z.1, z.2.1, by
        rcases Nat.lt_or_ge (tcN b (j % 6)) (tcN b q) with y | y
        · exact y
        · have := tcN_inj b z.2.1 hb (by omega)
          omega⟩)]
theorem alT_undo (b : Nat → Bool) (f : Nat → Int32) (p : Nat) (v : Nat → Int32) (k : Nat) : alT b (alT b f p (fun t => 1 * v t) k) p (fun t => -1 * v t) k = f := by
  funext j
  simp only [alT]
  by_cases h2 : j / 6 = p ∧ b (j % 6) = true ∧ tcN b (j % 6) < k
  · rw [if_pos h2, if_pos h2]; grind
  · rw [if_neg h2, if_neg h2]
def TG (b : Nat → Bool) (h : HpT) : Prop := h 11 10 = nI (tcN b 6) ∧ ∃ f, h 19 = thF b f 6
def sfT (b : Nat → Bool) (l : Nat → Int32) (fu : Int32) : Prop := ∀ t, t < 6 → b t = true → ∀ p, p < 3 → absI (l (p * 6 + t)) ≤ fu
def mtF (a f : Nat → Int32) (i p : Nat) : Nat → Int32
  | 0 => 0
  | o + 1 => mtF a f i p o + (if a o = nI p then f (i * 9 + o) else 0)
def mzF (f : Nat → Int32) (i k : Nat) : Nat → Int32 := fun x => if i * 3 ≤ x ∧ x < i * 3 + k then 0 else f x
def meF (f a pr : Nat → Int32) (i o : Nat) : Nat → Int32 := fun x => if i * 3 ≤ x ∧ x < i * 3 + 3 then mtF a pr i (x - i * 3) o else f x
theorem mz_step (h : HpT) (f : Nat → Int32) (i k : Nat) : hs (va_up h 17 (mzF f i k)) 17 (i * 3 + k) 0 = va_up h 17 (mzF f i (k + 1)) := by
  rw [hs_up]
  congr 1
  funext j
  simp only [upd, mzF]
  by_cases h1 : j = i * 3 + k
  · rw [if_pos h1, if_pos (by omega)]
  · rw [if_neg h1]
    by_cases h2 : i * 3 ≤ j ∧ j < i * 3 + k
    · rw [if_pos h2, if_pos (by omega)]
    · rw [if_neg h2, if_neg (by omega)]
theorem mz_me (f a pr : Nat → Int32) (i : Nat) : mzF f i 3 = meF f a pr i 0 := rfl
theorem mz_0 (f : Nat → Int32) (i : Nat) : mzF f i 0 = f := by funext j; unfold mzF; rw [if_neg (by omega)]
theorem me_step (h : HpT) (f a pr : Nat → Int32) (i o p : Nat) (hp : p < 3) (e : a o = nI p) : hs (va_up h 17 (meF f a pr i o)) 17 (i * 3 + p) (meF f a pr i o (i * 3 + p) + pr (i * 9 + o)) = va_up h 17 (meF f a pr i (o + 1)) := by
  rw [hs_up]
  congr 1
  funext j
  simp only [upd, meF]
  by_cases h1 : j = i * 3 + p
  · subst h1
    rw [if_pos rfl, if_pos (by omega), if_pos (by omega), Nat.add_sub_cancel_left, mtF, if_pos e]
  · rw [if_neg h1]
    by_cases h2 : i * 3 ≤ j ∧ j < i * 3 + 3
    · rw [if_pos h2, if_pos h2, mtF, e, if_neg (fun z => h1 (by
        have := (nI_eqs (by omega) (by omega)).mp z
        omega))]
      grind
    · rw [if_neg h2, if_neg h2]
end
section
set_option maxRecDepth 20000 in
theorem l_X0_addLoads {X : XxT} {post : Option Value → HpT → Prop} (hF : Full X.1) (F : FxT X cX0_addLoads RX0 0) (Rr : RxT X none post) (hL : X.2.2.2.2.2.2.2.2.2.2.2.2.2.1 = 6) {h : HpT} {b : Nat → Bool} {i p : Nat} {tm : Int32} (hi : i < 9) (hpp : p < 3) (hT : TG b h) (hp : post none (va_up h 18 (alT b (h 18) p (fun t => tm * h 15 (i * 6 + t)) (tcN b 6)))) : ∀ (k : Nat) (j : Nat), tcN b 6 - j < k → j ≤ tcN b 6 → rn X 3 [(0, .ref (gad X.1 11)), (1, .int (nI i)), (2, .int (nI p)), (3, .int tm), (4, .int (nI j))] [] (va_up h 18 (alT b (h 18) p (fun t => tm * h 15 (i * 6 + t)) j)) := by
  intro k
  induction k with
  | zero => intro j hk; exact absurd hk (Nat.not_lt_zero _)
  | succ k ih =>
    intro j hk hj
    have h6 := tcN_le b 6
    refine rn_iload (np := 5) F dX0_addLoads_3 rfl rfl <| rn_aload_n (np := 6) F dX0_addLoads_5 rfl rfl <| rn_getfE (np := 9) F dX0_addLoads_6 rfl fF_X0_89 (fs hF rfl rfl) rfl hT.1 <| rn_Nge (tg := 56) (np := 12) F dX0_addLoads_9 rfl rfl rfl rfl (by omega) (fun c9 => rn_vret F Rr dX0_addLoads_56 ?_) (fun c9 => ?_)
    · rw [show j = tcN b 6 by omega]; exact hp
    · obtain ⟨f, ef⟩ := hT.2
      obtain ⟨q, hq, hb, e1, e2⟩ := thF_in b f 6 j (by omega)
      subst e2
      refine rn_aload_n (np := 13) F dX0_addLoads_12 rfl rfl <| rn_getr (np := 16) F dX0_addLoads_13 rfl fF_X0_33 (fs hF rfl rfl) rfl <| rn_iload (np := 18) F dX0_addLoads_16 rfl rfl <| rn_ialdE (np := 19) F dX0_addLoads_18 rfl (fs hF rfl rfl) rfl (by omega) (show h 19 (tcN b q) = nI q by rw [ef]; exact e1) <| rn_istore (np := 21) F dX0_addLoads_19 rfl hL rfl <| rn_aload_n (np := 22) F dX0_addLoads_21 rfl rfl <| rn_getr (np := 25) F dX0_addLoads_22 rfl fF_X0_30 (fs hF rfl rfl) rfl <| rn_iload_n (np := 26) F dX0_addLoads_25 rfl rfl <| rn_bipush (np := 28) (v := 6) F dX0_addLoads_26 rfl rfl <| rn_imul (np := 29) F dX0_addLoads_28 rfl <| rn_iload (np := 31) F dX0_addLoads_29 rfl rfl <| rn_iadd (np := 32) F dX0_addLoads_31 rfl <| rn_dup2 (np := 33) F dX0_addLoads_32 rfl rfl rfl <| rn_ialdN (np := 34) F dX0_addLoads_33 rfl (fs hF rfl rfl) (ix6 p q) (by omega) <| rn_iload_n (np := 35) F dX0_addLoads_34 rfl rfl <| rn_aload_n (np := 36) F dX0_addLoads_35 rfl rfl <| rn_getr (np := 39) F dX0_addLoads_36 rfl fF_X0_21 (fs hF rfl rfl) rfl <| rn_iload_n (np := 40) F dX0_addLoads_39 rfl rfl <| rn_bipush (np := 42) (v := 6) F dX0_addLoads_40 rfl rfl <| rn_imul (np := 43) F dX0_addLoads_42 rfl <| rn_iload (np := 45) F dX0_addLoads_43 rfl rfl <| rn_iadd (np := 46) F dX0_addLoads_45 rfl <| rn_ialdN (np := 47) F dX0_addLoads_46 rfl (fs hF rfl rfl) (ix6 i q) (by omega) <| rn_imul (np := 48) F dX0_addLoads_47 rfl <| rn_iadd (np := 49) F dX0_addLoads_48 rfl <| rn_iastN (np := 50) F dX0_addLoads_49 rfl (fs hF rfl rfl) (ix6 p q) (by omega) <| rn_iincN (np := 53) F dX0_addLoads_50 rfl rfl hL rfl <| rn_goto (np := 3) F dX0_addLoads_53 rfl <| ?_
      have z := ih (tcN b q + 1) (by omega) (by omega)
      rw [← alT_step b h (h 18) p q (fun t => tm * h 15 (i * 6 + t)) hq hb] at z
      exact rn_pick [0, 1, 2, 3, 4] rfl z
set_option maxRecDepth 20000 in
theorem c_X0_addLoads {G : GxT} (hF : Full G) {h : HpT} {b : Nat → Bool} {i p : Nat} {tm : Int32} (hi : i < 9) (hpp : p < 3) (hT : TG b h) : mcv G yX0_addLoads cX0_addLoads 6 none 0 [.ref (gad G 11), .int (nI i), .int (nI p), .int tm] h (va_up h 18 (alT b (h 18) p (fun t => tm * h 15 (i * 6 + t)) (tcN b 6))) := by
  refine mc_of (by decide) (Nat.le_of_ble_eq_true rfl) (fun X hG F Rr hL => ?_)
  subst hG
  have F : FxT X cX0_addLoads RX0 0 := F
  show rn X 0 [(0, .ref (gad X.1 11)), (1, .int (nI i)), (2, .int (nI p)), (3, .int tm)] [] h
  refine rn_iconst (np := 1) (v := 0) F dX0_addLoads_0 rfl rfl <| rn_istore (np := 3) F dX0_addLoads_1 rfl hL rfl <| ?_
  have z := l_X0_addLoads (h := h) hF F Rr hL hi hpp hT ⟨rfl, rfl⟩ (tcN b 6 + 1) 0 (by omega) (by omega)
  rw [alT_0, up_id] at z
  exact z
set_option maxRecDepth 20000 in
theorem l_X0_isLaidSafe {X : XxT} {post : Option Value → HpT → Prop} (hF : Full X.1) (F : FxT X cX0_isLaidSafe RX0 1) (Rr : RxT X (some .boolean) post) (hL : X.2.2.2.2.2.2.2.2.2.2.2.2.2.1 = 3) {h : HpT} {b : Nat → Bool} (hT : TG b h) (h1 : sfT b (h 18) (h 1 11) → post (some (.int 1)) h) (h0 : ¬ sfT b (h 18) (h 1 11) → post (some (.int 0)) h) : ∀ (k : Nat) (j p : Nat), 4 * tcN b 6 - (4 * j + p) < k → j < tcN b 6 → p ≤ 3 → (∀ t, t < 6 → b t = true → (tcN b t < j ∨ tcN b t = j) → ∀ x, x < 3 → (tcN b t = j → x < p) → absI (h 18 (x * 6 + t)) ≤ h 1 11) → rn X 12 [(0, .ref (gad X.1 11)), (1, .int (nI j)), (2, .int (nI p))] [] h := by
  intro k
  induction k with
  | zero => intro j p hk; exact absurd hk (Nat.not_lt_zero _)
  | succ k ih =>
    intro j p hk hj hpp hall
    have h6 := tcN_le b 6
    obtain ⟨f, ef⟩ := hT.2
    obtain ⟨q, hq, hbq, e1, e2⟩ := thF_in b f 6 j (by omega)
    refine rn_iload_n (np := 13) F dX0_isLaidSafe_12 rfl rfl <| rn_iconst (np := 14) (v := 3) F dX0_isLaidSafe_13 rfl rfl <| rn_Nge (tg := 54) (np := 17) (b := 3) F dX0_isLaidSafe_14 rfl rfl rfl rfl (by omega) (fun c14 => rn_iincN (np := 57) F dX0_isLaidSafe_54 rfl rfl hL rfl <| rn_goto (np := 2) F dX0_isLaidSafe_57 rfl <| rn_iload_n (np := 3) F dX0_isLaidSafe_2 rfl rfl <| rn_aload_n (np := 4) F dX0_isLaidSafe_3 rfl rfl <| rn_getfE (np := 7) F dX0_isLaidSafe_4 rfl fF_X0_89 (fs hF rfl rfl) rfl hT.1 <| rn_Nge (tg := 60) (np := 10) F dX0_isLaidSafe_7 rfl rfl rfl rfl (by omega) (fun c7 => rn_iconst (np := 61) (v := 1) F dX0_isLaidSafe_60 rfl rfl <| rn_zret F Rr dX0_isLaidSafe_61 rfl ?_) (fun c7 => rn_iconst (np := 11) (v := 0) F dX0_isLaidSafe_10 rfl rfl <| rn_istore_n (np := 12) F dX0_isLaidSafe_11 rfl hL rfl <| ?_)) (fun c14 => rn_aload_n (np := 18) F dX0_isLaidSafe_17 rfl rfl <| rn_getr (np := 21) F dX0_isLaidSafe_18 rfl fF_X0_30 (fs hF rfl rfl) rfl <| rn_iload_n (np := 22) F dX0_isLaidSafe_21 rfl rfl <| rn_bipush (np := 24) (v := 6) F dX0_isLaidSafe_22 rfl rfl <| rn_imul (np := 25) F dX0_isLaidSafe_24 rfl <| rn_aload_n (np := 26) F dX0_isLaidSafe_25 rfl rfl <| rn_getr (np := 29) F dX0_isLaidSafe_26 rfl fF_X0_33 (fs hF rfl rfl) rfl <| rn_iload_n (np := 30) F dX0_isLaidSafe_29 rfl rfl <| rn_ialdE (np := 31) F dX0_isLaidSafe_30 rfl (fs hF rfl rfl) rfl (by omega) (show h 19 j = nI q by rw [ef]; exact e1) <| rn_iadd (np := 32) F dX0_isLaidSafe_31 rfl <| rn_ialdN (np := 33) F dX0_isLaidSafe_32 rfl (fs hF rfl rfl) (ix6 p q) (by omega) <| rn_mabs (np := 36) F dX0_isLaidSafe_33 rfl wM_X0_130 wT_yJ9_abs_0f7a4 wN_J9 wC_yJ9_abs_0f7a4 (Nat.le_of_ble_eq_true rfl) (Nat.le_of_ble_eq_true rfl) <| rn_aload_n (np := 37) F dX0_isLaidSafe_36 rfl rfl <| rn_getr (np := 40) F dX0_isLaidSafe_37 rfl fF_X0_36 (fs hF rfl rfl) rfl <| rn_getf (np := 43) F dX0_isLaidSafe_40 rfl fF_X0_97 (fs hF rfl rfl) rfl <| rn_icmp_le (tg := 48) (np := 46) F dX0_isLaidSafe_43 rfl rfl (fun c43 => rn_iincN (np := 51) F dX0_isLaidSafe_48 rfl rfl hL rfl <| rn_goto (np := 12) F dX0_isLaidSafe_51 rfl <| ?_) (fun c43 => rn_iconst (np := 47) (v := 0) F dX0_isLaidSafe_46 rfl rfl <| rn_zret F Rr dX0_isLaidSafe_47 rfl ?_))
    · refine h1 (fun t ht hb x hx => ?_)
      have := (thF_at b f 6 t ht hb).2
      exact hall t ht hb (by omega) x hx (by omega)
    · refine ih (j + 1) 0 (by omega) (by omega) (by omega) (fun t ht hb ho x hx hy => ?_)
      exact hall t ht hb (by omega) x hx (by omega)
    · refine ih j (p + 1) (by omega) (by omega) (by omega) (fun t ht hb ho x hx hy => ?_)
      by_cases e : tcN b t = j ∧ x = p
      · obtain ⟨e, rfl⟩ := e
        have : t = q := tcN_inj b hb hbq (by omega)
        subst this
        exact c43
      · exact hall t ht hb ho x hx (by omega)
    · exact h0 (fun z => c43 (z q hq hbq p (by omega)))
set_option maxRecDepth 20000 in
theorem c_X0_isLaidSafe {G : GxT} (hF : Full G) {h : HpT} {b : Nat → Bool} (hT : TG b h) : mci G yX0_isLaidSafe cX0_isLaidSafe 3 (some .boolean) 1 [.ref (gad G 11)] h (bP (sfT b (h 18) (h 1 11))) (h) := by
  refine mc_of (by decide) (Nat.le_of_ble_eq_true rfl) (fun X hG F Rr hL => ?_)
  subst hG
  have F : FxT X cX0_isLaidSafe RX0 1 := F
  show rn X 0 [(0, .ref (gad X.1 11))] [] h
  have h6 := tcN_le b 6
  obtain ⟨f, ef⟩ := hT.2
  refine rn_iconst (np := 1) (v := 0) F dX0_isLaidSafe_0 rfl rfl <| rn_istore_n (np := 2) F dX0_isLaidSafe_1 rfl hL rfl <| rn_iload_n (np := 3) F dX0_isLaidSafe_2 rfl rfl <| rn_aload_n (np := 4) F dX0_isLaidSafe_3 rfl rfl <| rn_getfE (np := 7) F dX0_isLaidSafe_4 rfl fF_X0_89 (fs hF rfl rfl) rfl hT.1 <| rn_Nge (tg := 60) (np := 10) F dX0_isLaidSafe_7 rfl rfl (show (0 : Int32) = nI 0 from rfl) rfl (by omega) (fun c7 => rn_iconst (np := 61) (v := 1) F dX0_isLaidSafe_60 rfl rfl <| rn_zret F Rr dX0_isLaidSafe_61 rfl ?_) (fun c7 => rn_iconst (np := 11) (v := 0) F dX0_isLaidSafe_10 rfl rfl <| rn_istore_n (np := 12) F dX0_isLaidSafe_11 rfl hL rfl <| ?_)
  · refine ⟨?_, rfl⟩
    rw [bP_t]
    intro t ht hb
    have := (thF_at b f 6 t ht hb).2
    omega
  · exact l_X0_isLaidSafe hF F Rr hL hT (fun q => ⟨by rw [bP_t q], rfl⟩) (fun q => ⟨by rw [bP_f q], rfl⟩) (4 * tcN b 6 + 1) 0 0 (by omega) (by omega) (by omega) (fun t _ _ _ x _ _ => by omega)
set_option maxRecDepth 20000 in
theorem c_X0_mayLie {G : GxT} (hF : Full G) {h : HpT} {i p a : Nat} (hi : i < 9) (hp : p < 3) (ha : a ≤ i) (e6 : h 6 i = nI a) : mci G yX0_mayLie cX0_mayLie 4 (some .boolean) 0 [.ref (gad G 11), .int (nI i), .int (nI p)] h (bP ((h 5 i = 1 → nI p = h 4 i) ∧ (a = i ∨ nI p = h 14 a))) (h) := by
  refine mc_of (by decide) (Nat.le_of_ble_eq_true rfl) (fun X hG F Rr hL => ?_)
  subst hG
  have F : FxT X cX0_mayLie RX0 0 := F
  show rn X 0 [(0, .ref (gad X.1 11)), (1, .int (nI i)), (2, .int (nI p))] [] h
  refine rn_aload_n (np := 1) F dX0_mayLie_0 rfl rfl <| rn_getr (np := 4) F dX0_mayLie_1 rfl fF_X0_36 (fs hF rfl rfl) rfl <| rn_getr (np := 7) F dX0_mayLie_4 rfl fF_X0_124 (fs hF rfl rfl) rfl <| rn_iload_n (np := 8) F dX0_mayLie_7 rfl rfl <| rn_ialdN (np := 9) F dX0_mayLie_8 rfl (fs hF rfl rfl) rfl (by omega) <| rn_iconst (np := 10) (v := 1) F dX0_mayLie_9 rfl rfl <| rn_icmp_ne (tg := 28) (np := 13) F dX0_mayLie_10 rfl rfl (fun c10 => rn_aload_n (np := 29) F dX0_mayLie_28 rfl rfl <| rn_getr (np := 32) F dX0_mayLie_29 rfl fF_X0_36 (fs hF rfl rfl) rfl <| rn_getr (np := 35) F dX0_mayLie_32 rfl fF_X0_127 (fs hF rfl rfl) rfl <| rn_iload_n (np := 36) F dX0_mayLie_35 rfl rfl <| rn_ialdE (np := 37) F dX0_mayLie_36 rfl (fs hF rfl rfl) rfl (by omega) e6 <| rn_istore_n (np := 38) F dX0_mayLie_37 rfl hL rfl <| rn_iload_n (np := 39) F dX0_mayLie_38 rfl rfl <| rn_iload_n (np := 40) F dX0_mayLie_39 rfl rfl <| rn_Neq (tg := 53) (np := 43) F dX0_mayLie_40 rfl rfl rfl rfl (by omega) (fun c40 => rn_iconst (np := 54) (v := 1) F dX0_mayLie_53 rfl rfl <| rn_goto (np := 58) F dX0_mayLie_54 rfl <| rn_zret F Rr dX0_mayLie_58 rfl ?_) (fun c40 => rn_iload_n (np := 44) F dX0_mayLie_43 rfl rfl <| rn_aload_n (np := 45) F dX0_mayLie_44 rfl rfl <| rn_getr (np := 48) F dX0_mayLie_45 rfl fF_X0_18 (fs hF rfl rfl) rfl <| rn_iload_n (np := 49) F dX0_mayLie_48 rfl rfl <| rn_ialdN (np := 50) F dX0_mayLie_49 rfl (fs hF rfl rfl) rfl (by omega) <| rn_icmp_ne (tg := 57) (np := 53) F dX0_mayLie_50 rfl rfl (fun c50 => rn_iconst (np := 58) (v := 0) F dX0_mayLie_57 rfl rfl <| rn_zret F Rr dX0_mayLie_58 rfl ?_) (fun c50 => rn_iconst (np := 54) (v := 1) F dX0_mayLie_53 rfl rfl <| rn_goto (np := 58) F dX0_mayLie_54 rfl <| rn_zret F Rr dX0_mayLie_58 rfl ?_))) (fun c10 => rn_iload_n (np := 14) F dX0_mayLie_13 rfl rfl <| rn_aload_n (np := 15) F dX0_mayLie_14 rfl rfl <| rn_getr (np := 18) F dX0_mayLie_15 rfl fF_X0_36 (fs hF rfl rfl) rfl <| rn_getr (np := 21) F dX0_mayLie_18 rfl fF_X0_121 (fs hF rfl rfl) rfl <| rn_iload_n (np := 22) F dX0_mayLie_21 rfl rfl <| rn_ialdN (np := 23) F dX0_mayLie_22 rfl (fs hF rfl rfl) rfl (by omega) <| rn_icmp_eq (tg := 28) (np := 26) F dX0_mayLie_23 rfl rfl (fun c23 => rn_aload_n (np := 29) F dX0_mayLie_28 rfl rfl <| rn_getr (np := 32) F dX0_mayLie_29 rfl fF_X0_36 (fs hF rfl rfl) rfl <| rn_getr (np := 35) F dX0_mayLie_32 rfl fF_X0_127 (fs hF rfl rfl) rfl <| rn_iload_n (np := 36) F dX0_mayLie_35 rfl rfl <| rn_ialdE (np := 37) F dX0_mayLie_36 rfl (fs hF rfl rfl) rfl (by omega) e6 <| rn_istore_n (np := 38) F dX0_mayLie_37 rfl hL rfl <| rn_iload_n (np := 39) F dX0_mayLie_38 rfl rfl <| rn_iload_n (np := 40) F dX0_mayLie_39 rfl rfl <| rn_Neq (tg := 53) (np := 43) F dX0_mayLie_40 rfl rfl rfl rfl (by omega) (fun c40 => rn_iconst (np := 54) (v := 1) F dX0_mayLie_53 rfl rfl <| rn_goto (np := 58) F dX0_mayLie_54 rfl <| rn_zret F Rr dX0_mayLie_58 rfl ?_) (fun c40 => rn_iload_n (np := 44) F dX0_mayLie_43 rfl rfl <| rn_aload_n (np := 45) F dX0_mayLie_44 rfl rfl <| rn_getr (np := 48) F dX0_mayLie_45 rfl fF_X0_18 (fs hF rfl rfl) rfl <| rn_iload_n (np := 49) F dX0_mayLie_48 rfl rfl <| rn_ialdN (np := 50) F dX0_mayLie_49 rfl (fs hF rfl rfl) rfl (by omega) <| rn_icmp_ne (tg := 57) (np := 53) F dX0_mayLie_50 rfl rfl (fun c50 => rn_iconst (np := 58) (v := 0) F dX0_mayLie_57 rfl rfl <| rn_zret F Rr dX0_mayLie_58 rfl ?_) (fun c50 => rn_iconst (np := 54) (v := 1) F dX0_mayLie_53 rfl rfl <| rn_goto (np := 58) F dX0_mayLie_54 rfl <| rn_zret F Rr dX0_mayLie_58 rfl ?_))) (fun c23 => rn_iconst (np := 27) (v := 0) F dX0_mayLie_26 rfl rfl <| rn_zret F Rr dX0_mayLie_27 rfl ?_))
  · exact ⟨by rw [bP_t ⟨fun z => absurd z c10, Or.inl c40⟩], rfl⟩
  · exact ⟨by rw [bP_f (fun z => z.2.elim c40 c50)], rfl⟩
  · exact ⟨by rw [bP_t ⟨fun z => absurd z c10, Or.inr c50⟩], rfl⟩
  · exact ⟨by rw [bP_t ⟨fun _ => c23, Or.inl c40⟩], rfl⟩
  · exact ⟨by rw [bP_f (fun z => z.2.elim c40 c50)], rfl⟩
  · exact ⟨by rw [bP_t ⟨fun _ => c23, Or.inr c50⟩], rfl⟩
  · exact ⟨by rw [bP_f (fun z => c23 (z.1 c10))], rfl⟩
set_option maxRecDepth 20000 in
theorem l2_X0_meetEarlier {X : XxT} {post : Option Value → HpT → Prop} (hF : Full X.1) (F : FxT X cX0_meetEarlier RX0 0) (Rr : RxT X none post) (hL : X.2.2.2.2.2.2.2.2.2.2.2.2.2.1 = 4) {h : HpT} {i : Nat} {f0 : Nat → Int32} (hi : i < 9) (hr : ∀ o, o < i → ∃ p, p < 3 ∧ h 14 o = nI p) (hp : post none (va_up h 17 (meF f0 (h 14) (h 16) i i))) : ∀ (k : Nat) (o : Nat), i - o < k → o ≤ i → rn X 28 [(0, .ref (gad X.1 11)), (1, .int (nI i)), (2, .int (nI (i * 3))), (3, .int (nI o))] [] (va_up h 17 (meF f0 (h 14) (h 16) i o)) := by
  intro k
  induction k with
  | zero => intro o hk; exact absurd hk (Nat.not_lt_zero _)
  | succ k ih =>
    intro o hk ho
    refine rn_iload_n (np := 29) F dX0_meetEarlier_28 rfl rfl <| rn_iload_n (np := 30) F dX0_meetEarlier_29 rfl rfl <| rn_Nge (tg := 66) (np := 33) F dX0_meetEarlier_30 rfl rfl rfl rfl (by omega) (fun c30 => rn_vret F Rr dX0_meetEarlier_66 ?_) (fun c30 => ?_)
    · rw [show o = i by omega]; exact hp
    · obtain ⟨p, hpp, ep⟩ := hr o (by omega)
      refine rn_aload_n (np := 34) F dX0_meetEarlier_33 rfl rfl <| rn_getr (np := 37) F dX0_meetEarlier_34 rfl fF_X0_27 (fs hF rfl rfl) rfl <| rn_iload_n (np := 38) F dX0_meetEarlier_37 rfl rfl <| rn_aload_n (np := 39) F dX0_meetEarlier_38 rfl rfl <| rn_getr (np := 42) F dX0_meetEarlier_39 rfl fF_X0_18 (fs hF rfl rfl) rfl <| rn_iload_n (np := 43) F dX0_meetEarlier_42 rfl rfl <| rn_ialdE (np := 44) F dX0_meetEarlier_43 rfl (fs hF rfl rfl) rfl (by omega) ep <| rn_iadd (np := 45) F dX0_meetEarlier_44 rfl <| rn_dup2 (np := 46) F dX0_meetEarlier_45 rfl rfl rfl <| rn_ialdN (np := 47) F dX0_meetEarlier_46 rfl (fs hF rfl rfl) (nI_add (i * 3) p) (by omega) <| rn_aload_n (np := 48) F dX0_meetEarlier_47 rfl rfl <| rn_getr (np := 51) F dX0_meetEarlier_48 rfl fF_X0_24 (fs hF rfl rfl) rfl <| rn_iload_n (np := 52) F dX0_meetEarlier_51 rfl rfl <| rn_bipush (np := 54) (v := 9) F dX0_meetEarlier_52 rfl rfl <| rn_imul (np := 55) F dX0_meetEarlier_54 rfl <| rn_iload_n (np := 56) F dX0_meetEarlier_55 rfl rfl <| rn_iadd (np := 57) F dX0_meetEarlier_56 rfl <| rn_ialdN (np := 58) F dX0_meetEarlier_57 rfl (fs hF rfl rfl) (ix9 i o) (by omega) <| rn_iadd (np := 59) F dX0_meetEarlier_58 rfl <| rn_iastN (np := 60) F dX0_meetEarlier_59 rfl (fs hF rfl rfl) (nI_add (i * 3) p) (by omega) <| rn_iincN (np := 63) F dX0_meetEarlier_60 rfl rfl hL rfl <| rn_goto (np := 28) F dX0_meetEarlier_63 rfl <| ?_
      have z := ih (o + 1) (by omega) (by omega)
      rw [← me_step h f0 (h 14) (h 16) i o p hpp ep] at z
      exact z
set_option maxRecDepth 20000 in
theorem l1_X0_meetEarlier {X : XxT} {post : Option Value → HpT → Prop} (hF : Full X.1) (F : FxT X cX0_meetEarlier RX0 0) (Rr : RxT X none post) (hL : X.2.2.2.2.2.2.2.2.2.2.2.2.2.1 = 4) {h : HpT} {i : Nat} (hi : i < 9) (hr : ∀ o, o < i → ∃ p, p < 3 ∧ h 14 o = nI p) (hp : post none (va_up h 17 (meF (h 17) (h 14) (h 16) i i))) : ∀ (k : Nat) (p : Nat), 3 - p < k → p ≤ 3 → rn X 6 [(0, .ref (gad X.1 11)), (1, .int (nI i)), (2, .int (nI (i * 3))), (3, .int (nI p))] [] (va_up h 17 (mzF (h 17) i p)) := by
  intro k
  induction k with
  | zero => intro p hk; exact absurd hk (Nat.not_lt_zero _)
  | succ k ih =>
    intro p hk hpp
    refine rn_iload_n (np := 7) F dX0_meetEarlier_6 rfl rfl <| rn_iconst (np := 8) (v := 3) F dX0_meetEarlier_7 rfl rfl <| rn_Nge (tg := 26) (np := 11) (b := 3) F dX0_meetEarlier_8 rfl rfl rfl rfl (by omega) (fun c8 => rn_iconst (np := 27) (v := 0) F dX0_meetEarlier_26 rfl rfl <| rn_istore_n (np := 28) F dX0_meetEarlier_27 rfl hL rfl <| ?_) (fun c8 => rn_aload_n (np := 12) F dX0_meetEarlier_11 rfl rfl <| rn_getr (np := 15) F dX0_meetEarlier_12 rfl fF_X0_27 (fs hF rfl rfl) rfl <| rn_iload_n (np := 16) F dX0_meetEarlier_15 rfl rfl <| rn_iload_n (np := 17) F dX0_meetEarlier_16 rfl rfl <| rn_iadd (np := 18) F dX0_meetEarlier_17 rfl <| rn_iconst (np := 19) (v := 0) F dX0_meetEarlier_18 rfl rfl <| rn_iastN (np := 20) F dX0_meetEarlier_19 rfl (fs hF rfl rfl) (nI_add (i * 3) p) (by omega) <| rn_iincN (np := 23) F dX0_meetEarlier_20 rfl rfl hL rfl <| rn_goto (np := 6) F dX0_meetEarlier_23 rfl <| ?_)
    · rw [show p = 3 by omega, mz_me (h 17) (h 14) (h 16) i]
      exact l2_X0_meetEarlier (h := h) hF F Rr hL hi hr hp (i + 1) 0 (by omega) (by omega)
    · rw [mz_step]; exact ih (p + 1) (by omega) (by omega)
set_option maxRecDepth 20000 in
theorem c_X0_meetEarlier {G : GxT} (hF : Full G) {h : HpT} {i : Nat} (hi : i < 9) (hr : ∀ o, o < i → ∃ p, p < 3 ∧ h 14 o = nI p) : mcv G yX0_meetEarlier cX0_meetEarlier 4 none 0 [.ref (gad G 11), .int (nI i)] h (va_up h 17 (meF (h 17) (h 14) (h 16) i i)) := by
  refine mc_of (by decide) (Nat.le_of_ble_eq_true rfl) (fun X hG F Rr hL => ?_)
  subst hG
  have F : FxT X cX0_meetEarlier RX0 0 := F
  show rn X 0 [(0, .ref (gad X.1 11)), (1, .int (nI i))] [] h
  refine rn_iload_n (np := 1) F dX0_meetEarlier_0 rfl rfl <| rn_iconst (np := 2) (v := 3) F dX0_meetEarlier_1 rfl rfl <| rn_imul (np := 3) F dX0_meetEarlier_2 rfl <| rn_topE (pk_mul i 3) <| rn_istore_n (np := 4) F dX0_meetEarlier_3 rfl hL rfl <| rn_iconst (np := 5) (v := 0) F dX0_meetEarlier_4 rfl rfl <| rn_istore_n (np := 6) F dX0_meetEarlier_5 rfl hL rfl <| ?_
  have z := l1_X0_meetEarlier (h := h) hF F Rr hL hi hr ⟨rfl, rfl⟩ 4 0 (by omega) (by omega)
  rw [mz_0, up_id] at z
  exact z
end
section
abbrev RsT : Type := StF × StF × StF
def cn11 (f : StF) (g : Int32) : StF :=
  let f1 := upd f 11 (f 11 + 1)
  let f2 := if f1 12 = -1 ∨ g < f1 12 then upd (upd f1 12 g) 2 0 else f1
  if g = f2 12 then upd f2 2 (f2 2 + 1) else f2
def cnR (r : RsT) (s g : Int32) (c : Nat) (pk : Int32) : RsT := if s = 0 then r else (cn11 r.1 g, if r.2.1 c = -1 ∨ g < r.2.1 c then upd r.2.1 c g else r.2.1, if r.2.1 c = -1 ∨ g < r.2.1 c then upd r.2.2 c pk else r.2.2)
def cntH (h : HpT) (s g : Int32) (c : Nat) (pk : Int32) : HpT := va_up (va_up (va_up h 11 (cnR (h 11, h 12, h 13) s g c pk).1) 12 (cnR (h 11, h 12, h 13) s g c pk).2.1) 13 (cnR (h 11, h 12, h 13) s g c pk).2.2
theorem cntH_0 (h : HpT) (g : Int32) (c : Nat) (pk : Int32) : cntH h 0 g c pk = h := by
  unfold cntH cnR
  rw [if_pos rfl]
  show va_up (va_up (va_up h 11 (h 11)) 12 (h 12)) 13 (h 13) = h
  rw [up_id, up_id, up_id]
theorem cntH_1 (h : HpT) {s : Int32} (hs0 : ¬ s = 0) (g : Int32) (c : Nat) (pk : Int32) : cntH h s g c pk = va_up (va_up (va_up h 11 (cn11 (h 11) g)) 12 (if h 12 c = -1 ∨ g < h 12 c then upd (h 12) c g else h 12)) 13 (if h 12 c = -1 ∨ g < h 12 c then upd (h 13) c pk else h 13) := by
  unfold cntH cnR
  rw [if_neg hs0]
theorem hs2' (h : HpT) (k a b : Nat) (x y : Int32) : hs (hs h k a x) k b y = va_up h k (upd (upd (h k) a x) b y) := by
  show hs (va_up h k (upd (h k) a x)) k b y = _
  rw [hs_up]
theorem hs3' (h : HpT) (k a b c : Nat) (x y z : Int32) : hs (hs (hs h k a x) k b y) k c z = va_up h k (upd (upd (upd (h k) a x) b y) c z) := by
  show hs (hs (va_up h k (upd (h k) a x)) k b y) k c z = _
  rw [hs_up, hs_up]
def lyh (h : HpT) (r : RsT) (a m l : Nat → Int32) : HpT := va_up (va_up (va_up (va_up (va_up (va_up h 11 r.1) 12 r.2.1) 13 r.2.2) 14 a) 17 m) 18 l
theorem ly_18 {h : HpT} {r : RsT} {a m l l2 : Nat → Int32} : va_up (lyh h r a m l) 18 l2 = lyh h r a m l2 := by unfold lyh; rw [up_up]
theorem ly_17 {h : HpT} {r : RsT} {a m l m2 : Nat → Int32} : va_up (lyh h r a m l) 17 m2 = lyh h r a m2 l := by
  unfold lyh; rw [up_comm _ _ _ (by decide), up_up]
theorem ly_14 {h : HpT} {r : RsT} {a m l : Nat → Int32} {i : Nat} {x : Int32} : hs (lyh h r a m l) 14 i x = lyh h r (upd a i x) m l := by
  show va_up (lyh h r a m l) 14 (upd a i x) = _
  unfold lyh; rw [up_comm _ _ _ (by decide), up_comm (va_up _ 14 a) _ _ (by decide), up_up]
theorem ly_cnt {h : HpT} {r : RsT} {a m l : Nat → Int32} {s g : Int32} {c : Nat} {pk : Int32} : cntH (lyh h r a m l) s g c pk = lyh h (cnR r s g c pk) a m l := by
  unfold cntH
  show va_up (va_up (va_up (lyh h r a m l) 11 (cnR r s g c pk).1) 12 (cnR r s g c pk).2.1) 13 (cnR r s g c pk).2.2 = _
  generalize (cnR r s g c pk) = r2
  unfold lyh
  funext q
  simp only [va_up]
  by_cases h1 : q = 11 <;> by_cases h2 : q = 12 <;> by_cases h3 : q = 13 <;> by_cases h4 : q = 14 <;> by_cases h5 : q = 17 <;> by_cases h6 : q = 18 <;> simp_all
theorem cn11_10 (f : StF) (g : Int32) : cn11 f g 10 = f 10 := by
  unfold cn11
  by_cases q : (upd f 11 (f 11 + 1)) 12 = -1 ∨ g < (upd f 11 (f 11 + 1)) 12
  · simp only [q, if_true]
    by_cases q2 : g = (upd (upd (upd f 11 (f 11 + 1)) 12 g) 2 0) 12
    · rw [if_pos q2]; simp [upd]
    · rw [if_neg q2]; simp [upd]
  · simp only [q, if_false]
    by_cases q2 : g = (upd f 11 (f 11 + 1)) 12
    · rw [if_pos q2]; simp [upd]
    · rw [if_neg q2]; simp [upd]
theorem cnR_10 (r : RsT) (s g : Int32) (c : Nat) (pk : Int32) : (cnR r s g c pk).1 10 = r.1 10 := by
  unfold cnR
  split
  · rfl
  · exact cn11_10 _ _
noncomputable def okC (ph fx : Nat → Int32) (lt : Nat → Nat) (a : Nat → Int32) (i p : Nat) : Int32 := bP ((fx i = 1 → nI p = ph i) ∧ (lt i = i ∨ nI p = a (lt i)))
def foP (f : Nat → RsT → RsT) : Nat → RsT → RsT
  | 0, r => r
  | p + 1, r => f p (foP f p r)
noncomputable def plF (b : Nat → Bool) (ph fx tk pr : Nat → Int32) (lt : Nat → Nat) (fu : Int32) (n : Nat) : Nat → Nat → (Nat → Int32) → (Nat → Int32) → Int32 → Nat → RsT → RsT
  | 0, _, a, l, g, c, r => cnR r (bP (sfT b l fu)) g c (packF a n)
  | d + 1, i, a, l, g, c, r => foP (fun p r => if okC ph fx lt a i p = 0 then r else plF b ph fx tk pr lt fu n d (i + 1) (upd a i (nI p)) (alT b l p (fun t => 1 * tk (i * 6 + t)) (tcN b 6)) (g + 3 * mtF a pr i p i) (c + (if nI p = ph i then 0 else 1)) r) 3 r
theorem plF_10 (b : Nat → Bool) (ph fx tk pr : Nat → Int32) (lt : Nat → Nat) (fu : Int32) (n : Nat) : ∀ (d i : Nat) (a l : Nat → Int32) (g : Int32) (c : Nat) (r : RsT), (plF b ph fx tk pr lt fu n d i a l g c r).1 10 = r.1 10
  | 0, _, a, l, g, c, r => by rw [plF, cnR_10]
  | d + 1, i, a, l, g, c, r => by
    rw [plF]
    have key : ∀ p, (foP (fun p r => if okC ph fx lt a i p = 0 then r else plF b ph fx tk pr lt fu n d (i + 1) (upd a i (nI p)) (alT b l p (fun t => 1 * tk (i * 6 + t)) (tcN b 6)) (g + 3 * mtF a pr i p i) (c + (if nI p = ph i then 0 else 1)) r) p r).1 10 = r.1 10 := by
      intro p
      induction p with
      | zero => rfl
      | succ p ih =>
        rw [foP]
        split
        · exact ih
        · rw [plF_10 b ph fx tk pr lt fu n d]; exact ih
    exact key 3
theorem packF_cong {a a2 : Nat → Int32} : ∀ {n : Nat}, (∀ o, o < n → a o = a2 o) → packF a n = packF a2 n
  | 0, _ => rfl
  | n + 1, hh => by unfold packF; rw [packF_cong (fun o ho => hh o (by omega)), hh n (by omega)]
theorem mtF_cong {a a2 f : Nat → Int32} {i p : Nat} : ∀ {n : Nat}, (∀ o, o < n → a o = a2 o) → mtF a f i p n = mtF a2 f i p n
  | 0, _ => rfl
  | n + 1, hh => by unfold mtF; rw [mtF_cong (fun o ho => hh o (by omega)), hh n (by omega)]
end
section
set_option maxRecDepth 20000 in
theorem l62_X0_count {X : XxT} {post : Option Value → HpT → Prop} (hF : Full X.1) (F : FxT X cX0_count RX0 2) (Rr : RxT X none post) (hL : X.2.2.2.2.2.2.2.2.2.2.2.2.2.1 = 3) {h : HpT} {n c : Nat} {g : Int32} (hn : n ≤ 9) (eh : h 1 9 = nI n) (hc : c ≤ 9) (hp : post none (va_up (va_up h 12 (if h 12 c = -1 ∨ g < h 12 c then upd (h 12) c g else h 12)) 13 (if h 12 c = -1 ∨ g < h 12 c then upd (h 13) c (packF (h 14) n) else h 13))) : rn X 62 [(0, .ref (gad X.1 11)), (1, .int g), (2, .int (nI c))] [] h := by
  refine rn_aload_n (np := 63) F dX0_count_62 rfl rfl <| rn_getr (np := 66) F dX0_count_63 rfl fF_X0_9 (fs hF rfl rfl) rfl <| rn_iload_n (np := 67) F dX0_count_66 rfl rfl <| rn_ialdN (np := 68) F dX0_count_67 rfl (fs hF rfl rfl) rfl (by omega) <| rn_iconst (np := 69) (v := (-1)) F dX0_count_68 rfl rfl <| rn_icmp_eq (tg := 82) (np := 72) F dX0_count_69 rfl rfl (fun c69 => rn_aload_n (np := 83) F dX0_count_82 rfl rfl <| rn_getr (np := 86) F dX0_count_83 rfl fF_X0_9 (fs hF rfl rfl) rfl <| rn_iload_n (np := 87) F dX0_count_86 rfl rfl <| rn_iload_n (np := 88) F dX0_count_87 rfl rfl <| rn_iastN (np := 89) F dX0_count_88 rfl (fs hF rfl rfl) rfl (by omega) <| rn_aload_n (np := 90) F dX0_count_89 rfl rfl <| rn_getr (np := 93) F dX0_count_90 rfl fF_X0_15 (fs hF rfl rfl) rfl <| rn_iload_n (np := 94) F dX0_count_93 rfl rfl <| rn_aload_n (np := 95) F dX0_count_94 rfl rfl <| rn_getr (np := 98) F dX0_count_95 rfl fF_X0_18 (fs hF rfl rfl) rfl <| rn_aload_n (np := 99) F dX0_count_98 rfl rfl <| rn_getr (np := 102) F dX0_count_99 rfl fF_X0_36 (fs hF rfl rfl) rfl <| rn_getfE (np := 105) F dX0_count_102 rfl fF_X0_80 (fs hF rfl rfl) rfl eh <| rn_cN2i (np := 108) F dX0_count_105 rfl cs_X4_pack (rn_nw138 F) (c_X4_pack hF (fs hF rfl rfl) (by omega)) (Nat.le_of_ble_eq_true rfl) (Nat.le_of_ble_eq_true rfl) <| rn_iastN (np := 109) F dX0_count_108 rfl (fs hF rfl rfl) rfl (by omega) <| rn_vret F Rr dX0_count_109 ?_) (fun c69 => rn_iload_n (np := 73) F dX0_count_72 rfl rfl <| rn_aload_n (np := 74) F dX0_count_73 rfl rfl <| rn_getr (np := 77) F dX0_count_74 rfl fF_X0_9 (fs hF rfl rfl) rfl <| rn_iload_n (np := 78) F dX0_count_77 rfl rfl <| rn_ialdN (np := 79) F dX0_count_78 rfl (fs hF rfl rfl) rfl (by omega) <| rn_icmp_ge (tg := 109) (np := 82) F dX0_count_79 rfl rfl (fun c79 => rn_vret F Rr dX0_count_109 ?_) (fun c79 => rn_aload_n (np := 83) F dX0_count_82 rfl rfl <| rn_getr (np := 86) F dX0_count_83 rfl fF_X0_9 (fs hF rfl rfl) rfl <| rn_iload_n (np := 87) F dX0_count_86 rfl rfl <| rn_iload_n (np := 88) F dX0_count_87 rfl rfl <| rn_iastN (np := 89) F dX0_count_88 rfl (fs hF rfl rfl) rfl (by omega) <| rn_aload_n (np := 90) F dX0_count_89 rfl rfl <| rn_getr (np := 93) F dX0_count_90 rfl fF_X0_15 (fs hF rfl rfl) rfl <| rn_iload_n (np := 94) F dX0_count_93 rfl rfl <| rn_aload_n (np := 95) F dX0_count_94 rfl rfl <| rn_getr (np := 98) F dX0_count_95 rfl fF_X0_18 (fs hF rfl rfl) rfl <| rn_aload_n (np := 99) F dX0_count_98 rfl rfl <| rn_getr (np := 102) F dX0_count_99 rfl fF_X0_36 (fs hF rfl rfl) rfl <| rn_getfE (np := 105) F dX0_count_102 rfl fF_X0_80 (fs hF rfl rfl) rfl eh <| rn_cN2i (np := 108) F dX0_count_105 rfl cs_X4_pack (rn_nw138 F) (c_X4_pack hF (fs hF rfl rfl) (by omega)) (Nat.le_of_ble_eq_true rfl) (Nat.le_of_ble_eq_true rfl) <| rn_iastN (np := 109) F dX0_count_108 rfl (fs hF rfl rfl) rfl (by omega) <| rn_vret F Rr dX0_count_109 ?_))
  · rw [if_pos (Or.inl c69), if_pos (Or.inl c69)] at hp; exact hp
  · rw [if_neg (fun q => q.elim c69 (Int32.not_lt.mpr c79)), if_neg (fun q => q.elim c69 (Int32.not_lt.mpr c79)), up_id, up_id] at hp; exact hp
  · rw [if_pos (Or.inr (Int32.not_le.mp c79)), if_pos (Or.inr (Int32.not_le.mp c79))] at hp; exact hp
set_option maxRecDepth 20000 in
theorem l44_X0_count {X : XxT} {post : Option Value → HpT → Prop} (hF : Full X.1) (F : FxT X cX0_count RX0 2) (Rr : RxT X none post) (hL : X.2.2.2.2.2.2.2.2.2.2.2.2.2.1 = 3) {h : HpT} {n c : Nat} {g : Int32} (hn : n ≤ 9) (eh : h 1 9 = nI n) (hc : c ≤ 9) (hp : post none (va_up (va_up (va_up h 11 (if g = h 11 12 then upd (h 11) 2 (h 11 2 + 1) else h 11)) 12 (if h 12 c = -1 ∨ g < h 12 c then upd (h 12) c g else h 12)) 13 (if h 12 c = -1 ∨ g < h 12 c then upd (h 13) c (packF (h 14) n) else h 13))) : rn X 44 [(0, .ref (gad X.1 11)), (1, .int g), (2, .int (nI c))] [] h := by
  refine rn_iload_n (np := 45) F dX0_count_44 rfl rfl <| rn_aload_n (np := 46) F dX0_count_45 rfl rfl <| rn_getf (np := 49) F dX0_count_46 rfl fF_X0_60 (fs hF rfl rfl) rfl <| rn_icmp_ne (tg := 62) (np := 52) F dX0_count_49 rfl rfl (fun c49 => ?_) (fun c49 => rn_aload_n (np := 53) F dX0_count_52 rfl rfl <| rn_dup (np := 54) F dX0_count_53 rfl rfl <| rn_getf (np := 57) F dX0_count_54 rfl fF_X0_57 (fs hF rfl rfl) rfl <| rn_iconst (np := 58) (v := 1) F dX0_count_57 rfl rfl <| rn_iadd (np := 59) F dX0_count_58 rfl <| rn_putf (np := 62) F dX0_count_59 rfl fP_X0_57 (fs hF rfl rfl) rfl rfl rfl <| ?_)
  · rw [if_neg c49, up_id] at hp
    exact l62_X0_count hF F Rr hL hn eh hc hp
  · rw [if_pos c49] at hp
    exact l62_X0_count (h := hs h 11 2 (h 11 2 + 1)) hF F Rr hL hn eh hc hp
set_option maxRecDepth 20000 in
theorem c_X0_count {G : GxT} (hF : Full G) {h : HpT} {b : Nat → Bool} {n c : Nat} {g : Int32} (hn : n ≤ 9) (eh : h 1 9 = nI n) (hc : c ≤ 9) (hT : TG b h) : mcv G yX0_count cX0_count 3 none 2 [.ref (gad G 11), .int g, .int (nI c)] h (cntH h (bP (sfT b (h 18) (h 1 11))) g c (packF (h 14) n)) := by
  refine mc_of (by decide) (Nat.le_of_ble_eq_true rfl) (fun X hG F Rr hL => ?_)
  subst hG
  have F : FxT X cX0_count RX0 2 := F
  show rn X 0 [(0, .ref (gad X.1 11)), (1, .int g), (2, .int (nI c))] [] h
  refine rn_aload_n (np := 1) F dX0_count_0 rfl rfl <| rn_cV0i (np := 4) F dX0_count_1 rfl cv_X0_isLaidSafe wM_X0_134 (fs hF rfl rfl) rfl (c_X0_isLaidSafe hF hT) (Nat.le_of_ble_eq_true rfl) (Nat.le_of_ble_eq_true rfl) <| rn_if_ne (tg := 8) (np := 7) F dX0_count_4 rfl rfl (fun c4 => rn_aload_n (np := 9) F dX0_count_8 rfl rfl <| rn_dup (np := 10) F dX0_count_9 rfl rfl <| rn_getf (np := 13) F dX0_count_10 rfl fF_X0_47 (fs hF rfl rfl) rfl <| rn_iconst (np := 14) (v := 1) F dX0_count_13 rfl rfl <| rn_iadd (np := 15) F dX0_count_14 rfl <| rn_putf (np := 18) F dX0_count_15 rfl fP_X0_47 (fs hF rfl rfl) rfl rfl rfl <| rn_aload_n (np := 19) F dX0_count_18 rfl rfl <| rn_getf (np := 22) F dX0_count_19 rfl fF_X0_60 (fs hF rfl rfl) rfl <| rn_iconst (np := 23) (v := (-1)) F dX0_count_22 rfl rfl <| rn_icmp_eq (tg := 34) (np := 26) F dX0_count_23 rfl rfl (fun c23 => rn_aload_n (np := 35) F dX0_count_34 rfl rfl <| rn_iload_n (np := 36) F dX0_count_35 rfl rfl <| rn_putf (np := 39) F dX0_count_36 rfl fP_X0_60 (fs hF rfl rfl) rfl rfl rfl <| rn_aload_n (np := 40) F dX0_count_39 rfl rfl <| rn_iconst (np := 41) (v := 0) F dX0_count_40 rfl rfl <| rn_putf (np := 44) F dX0_count_41 rfl fP_X0_57 (fs hF rfl rfl) rfl rfl rfl <| ?_) (fun c23 => rn_iload_n (np := 27) F dX0_count_26 rfl rfl <| rn_aload_n (np := 28) F dX0_count_27 rfl rfl <| rn_getf (np := 31) F dX0_count_28 rfl fF_X0_60 (fs hF rfl rfl) rfl <| rn_icmp_ge (tg := 44) (np := 34) F dX0_count_31 rfl rfl (fun c31 => ?_) (fun c31 => rn_aload_n (np := 35) F dX0_count_34 rfl rfl <| rn_iload_n (np := 36) F dX0_count_35 rfl rfl <| rn_putf (np := 39) F dX0_count_36 rfl fP_X0_60 (fs hF rfl rfl) rfl rfl rfl <| rn_aload_n (np := 40) F dX0_count_39 rfl rfl <| rn_iconst (np := 41) (v := 0) F dX0_count_40 rfl rfl <| rn_putf (np := 44) F dX0_count_41 rfl fP_X0_57 (fs hF rfl rfl) rfl rfl rfl <| ?_))) (fun c4 => rn_vret F Rr dX0_count_7 ?_)
  · rw [hs3']
    refine l44_X0_count (h := va_up h 11 (upd (upd (upd (h 11) 11 (h 11 11 + 1)) 12 g) 2 0)) hF F Rr hL hn eh hc ⟨rfl, ?_⟩
    rw [cntH_1 h c4, up_up]
    congr 3
    unfold cn11
    have e : (upd (h 11) 11 (h 11 11 + 1)) 12 = -1 := c23
    simp only [e, true_or, if_true]
    rfl
  · refine l44_X0_count (h := va_up h 11 (upd (h 11) 11 (h 11 11 + 1))) hF F Rr hL hn eh hc ⟨rfl, ?_⟩
    rw [cntH_1 h c4, up_up]
    congr 3
    unfold cn11
    have e : ¬ ((upd (h 11) 11 (h 11 11 + 1)) 12 = -1 ∨ g < (upd (h 11) 11 (h 11 11 + 1)) 12) := fun q => q.elim c23 (Int32.not_lt.mpr c31)
    simp only [e, if_false]
    rfl
  · rw [hs3']
    refine l44_X0_count (h := va_up h 11 (upd (upd (upd (h 11) 11 (h 11 11 + 1)) 12 g) 2 0)) hF F Rr hL hn eh hc ⟨rfl, ?_⟩
    rw [cntH_1 h c4, up_up]
    congr 3
    unfold cn11
    have e : ((upd (h 11) 11 (h 11 11 + 1)) 12 = -1 ∨ g < (upd (h 11) 11 (h 11 11 + 1)) 12) := Or.inr (Int32.not_le.mp c31)
    simp only [e, if_true]
    rfl
  · refine ⟨rfl, ?_⟩
    rw [c4, cntH_0]
end
section
def PB (h : HpT) (n : Nat) (b : Nat → Bool) (lt : Nat → Nat) : Prop := n ≤ 9 ∧ h 1 9 = nI n ∧ (∀ i, i < n → lt i ≤ i ∧ h 6 i = nI (lt i)) ∧ (∃ f, h 19 = thF b f 6) ∧ (∀ i, i < 9 → ∃ p, p < 3 ∧ h 4 i = nI p)
def PQ (h : HpT) (r : RsT) (a m l : Nat → Int32) (i : Nat) (h' : HpT) : Prop := ∃ a' m', h' = lyh h r a' m' l ∧ (∀ o, o < i → a' o = a o) ∧ (∀ x, x < i * 3 → m' x = m x)
def PM (G : GxT) (h : HpT) (n : Nat) (b : Nat → Bool) (lt : Nat → Nat) (d i : Nat) : Prop := ∀ (a a0 m l : Nat → Int32) (r : RsT) (g : Int32) (c : Nat), (∀ o, o < i → a0 o = a o) → (∀ o, o < i → ∃ p, p < 3 ∧ a o = nI p) → r.1 10 = nI (tcN b 6) → c ≤ i → mc G yX0_place cX0_place 5 none (3 + d) [.ref (gad G 11), .int (nI i), .int g, .int (nI c)] (lyh h r a0 m l) (fun rr h' => rr = none ∧ PQ h (plF b (h 4) (h 5) (h 15) (h 16) lt (h 1 11) n d i a l g c r) a m l i h')
theorem updag {a a1 : Nat → Int32} {i : Nat} {x : Int32} (hag : ∀ o, o < i → a1 o = a o) : ∀ o, o < i + 1 → upd a1 i x o = upd a i x o := by
  intro o ho
  by_cases e : o = i
  · subst e; rw [pk_us, pk_us]
  · rw [pk_un e, pk_un e]; exact hag o (by omega)
theorem upd_rgi {a : Nat → Int32} {i p : Nat} (hp : p < 3) (hr : ∀ o, o < i → ∃ p, p < 3 ∧ a o = nI p) : ∀ o, o < i + 1 → ∃ q, q < 3 ∧ upd a i (nI p) o = nI q := by
  intro o ho
  by_cases e : o = i
  · subst e; exact ⟨p, hp, pk_us⟩
  · rw [pk_un e]; exact hr o (by omega)
theorem foP_10 (b : Nat → Bool) (ph fx tk pr : Nat → Int32) (lt : Nat → Nat) (fu : Int32) (n d i : Nat) (a l : Nat → Int32) (g : Int32) (c : Nat) (r : RsT) : ∀ p, (foP (fun p r => if okC ph fx lt a i p = 0 then r else plF b ph fx tk pr lt fu n d (i + 1) (upd a i (nI p)) (alT b l p (fun t => 1 * tk (i * 6 + t)) (tcN b 6)) (g + 3 * mtF a pr i p i) (c + (if nI p = ph i then 0 else 1)) r) p r).1 10 = r.1 10
  | 0 => rfl
  | p + 1 => by
    rw [foP]
    split
    · exact foP_10 b ph fx tk pr lt fu n d i a l g c r p
    · rw [plF_10]; exact foP_10 b ph fx tk pr lt fu n d i a l g c r p
set_option maxRecDepth 20000 in
theorem l_X0_place {X : XxT} {post : Option Value → HpT → Prop} (hF : Full X.1) {d : Nat} (F : FxT X cX0_place RX0 (3 + (d + 1))) (Rr : RxT X none post) (hL : X.2.2.2.2.2.2.2.2.2.2.2.2.2.1 = 5) {h : HpT} {n i c : Nat} {b : Nat → Bool} {lt : Nat → Nat} {a l m0 : Nat → Int32} {g : Int32} {r0 : RsT} (hB : PB h n b lt) (hi : i < n) (hr : ∀ o, o < i → ∃ p, p < 3 ∧ a o = nI p) (hr10 : r0.1 10 = nI (tcN b 6)) (hc : c ≤ i) (IH : PM X.1 h n b lt d (i + 1)) (hp : ∀ a' m', (∀ o, o < i → a' o = a o) → (∀ x, x < i * 3 → m' x = m0 x) → post none (lyh h (plF b (h 4) (h 5) (h 15) (h 16) lt (h 1 11) n (d + 1) i a l g c r0) a' m' l)) :
    ∀ (k p : Nat) (a1 m1 : Nat → Int32), 3 - p < k → p ≤ 3 → (∀ o, o < i → a1 o = a o) → (∀ x, x < i * 3 → m1 x = m0 x) → (∀ q, q < 3 → m1 (i * 3 + q) = mtF a (h 16) i q i) → rn X 26 [(0, .ref (gad X.1 11)), (1, .int (nI i)), (2, .int g), (3, .int (nI c)), (4, .int (nI p))] [] (lyh h (foP (fun p r => if okC (h 4) (h 5) lt a i p = 0 then r else plF b (h 4) (h 5) (h 15) (h 16) lt (h 1 11) n d (i + 1) (upd a i (nI p)) (alT b l p (fun t => 1 * h 15 (i * 6 + t)) (tcN b 6)) (g + 3 * mtF a (h 16) i p i) (c + (if nI p = h 4 i then 0 else 1)) r) p r0) a1 m1 l) := by
  have hn := hB.1
  obtain ⟨p4, hp4, e4⟩ := hB.2.2.2.2 i (by omega)
  intro k
  induction k with
  | zero => intro p a1 m1 hk; exact absurd hk (Nat.not_lt_zero _)
  | succ k ih =>
    intro p a1 m1 hk hpp hag hmg hm
    have h10 : (foP (fun p r => if okC (h 4) (h 5) lt a i p = 0 then r else plF b (h 4) (h 5) (h 15) (h 16) lt (h 1 11) n d (i + 1) (upd a i (nI p)) (alT b l p (fun t => 1 * h 15 (i * 6 + t)) (tcN b 6)) (g + 3 * mtF a (h 16) i p i) (c + (if nI p = h 4 i then 0 else 1)) r) p r0).1 10 = nI (tcN b 6) := by rw [foP_10]; exact hr10
    have hla : lt i = i ∨ a1 (lt i) = a (lt i) := by
      have := (hB.2.2.1 i hi).1
      by_cases e : lt i = i
      · exact Or.inl e
      · exact Or.inr (hag _ (by omega))
    have hok : bP ((h 5 i = 1 → nI p = h 4 i) ∧ (lt i = i ∨ nI p = a1 (lt i))) = okC (h 4) (h 5) lt a i p := by
      unfold okC
      congr 1
      rcases hla with e | e
      · simp [e]
      · rw [e]
    refine rn_iload (np := 28) F dX0_place_26 rfl rfl <| rn_iconst (np := 29) (v := 3) F dX0_place_28 rfl rfl <| rn_Nge (tg := 115) (np := 32) (b := 3) F dX0_place_29 rfl rfl rfl rfl (by omega) (fun c29 => rn_vret F Rr dX0_place_115 ?_) (fun c29 => rn_aload_n (np := 33) F dX0_place_32 rfl rfl <| rn_iload_n (np := 34) F dX0_place_33 rfl rfl <| rn_iload (np := 36) F dX0_place_34 rfl rfl <| rn_cV2i (np := 39) F dX0_place_36 rfl cv_X0_mayLie wM_X0_114 (fs hF rfl rfl) rfl (c_X0_mayLie hF (by omega) (by omega) (hB.2.2.1 i hi).1 (hB.2.2.1 i hi).2) (by omega) (Nat.le_of_ble_eq_true rfl) <| rn_if_eq (tg := 109) (np := 42) F dX0_place_39 rfl rfl (fun c39 => rn_iincN (np := 112) F dX0_place_109 rfl rfl hL rfl <| rn_goto (np := 26) F dX0_place_112 rfl <| ?_) (fun c39 => rn_aload_n (np := 43) F dX0_place_42 rfl rfl <| rn_getr (np := 46) F dX0_place_43 rfl fF_X0_18 (fs hF rfl rfl) rfl <| rn_iload_n (np := 47) F dX0_place_46 rfl rfl <| rn_iload (np := 49) F dX0_place_47 rfl rfl <| rn_iastN (np := 50) F dX0_place_49 rfl (fs hF rfl rfl) rfl (by omega) <| rn_hpE ly_14 <| rn_aload_n (np := 51) F dX0_place_50 rfl rfl <| rn_iload_n (np := 52) F dX0_place_51 rfl rfl <| rn_iload (np := 54) F dX0_place_52 rfl rfl <| rn_iconst (np := 55) (v := 1) F dX0_place_54 rfl rfl <| rn_cV3v (np := 58) F dX0_place_55 rfl cv_X0_addLoads wM_X0_118 (fs hF rfl rfl) rfl (c_X0_addLoads (b := b) hF (by omega) (by omega) ⟨h10, hB.2.2.2.1⟩) (by omega) (Nat.le_of_ble_eq_true rfl) <| rn_hpE ly_18 <| rn_aload_n (np := 59) F dX0_place_58 rfl rfl <| rn_iload_n (np := 60) F dX0_place_59 rfl rfl <| rn_iconst (np := 61) (v := 1) F dX0_place_60 rfl rfl <| rn_iadd (np := 62) F dX0_place_61 rfl <| rn_topE (nI_1 i) <| rn_iload_n (np := 63) F dX0_place_62 rfl rfl <| rn_iconst (np := 64) (v := 3) F dX0_place_63 rfl rfl <| rn_aload_n (np := 65) F dX0_place_64 rfl rfl <| rn_getr (np := 68) F dX0_place_65 rfl fF_X0_27 (fs hF rfl rfl) rfl <| rn_iload_n (np := 69) F dX0_place_68 rfl rfl <| rn_iconst (np := 70) (v := 3) F dX0_place_69 rfl rfl <| rn_imul (np := 71) F dX0_place_70 rfl <| rn_iload (np := 73) F dX0_place_71 rfl rfl <| rn_iadd (np := 74) F dX0_place_73 rfl <| rn_ialdE (np := 75) F dX0_place_74 rfl (fs hF rfl rfl) (ix3 i p) (by omega) (hm p (by omega)) <| rn_imul (np := 76) F dX0_place_75 rfl <| rn_iadd (np := 77) F dX0_place_76 rfl <| rn_iload_n (np := 78) F dX0_place_77 rfl rfl <| rn_iload (np := 80) F dX0_place_78 rfl rfl <| rn_aload_n (np := 81) F dX0_place_80 rfl rfl <| rn_getr (np := 84) F dX0_place_81 rfl fF_X0_36 (fs hF rfl rfl) rfl <| rn_getr (np := 87) F dX0_place_84 rfl fF_X0_121 (fs hF rfl rfl) rfl <| rn_iload_n (np := 88) F dX0_place_87 rfl rfl <| rn_ialdE (np := 89) F dX0_place_88 rfl (fs hF rfl rfl) rfl (by omega) e4 <| rn_Nne (tg := 96) (np := 92) F dX0_place_89 rfl rfl rfl rfl (by omega) (fun c89 => rn_iconst (np := 97) (v := nI 1) F dX0_place_96 rfl rfl <| rn_iadd (np := 98) F dX0_place_97 rfl <| rn_topE (nI_add _ _) <| rn_cV3p (np := 101) F dX0_place_98 rfl cv_X0_place wM_X0_76 (fs hF rfl rfl) rfl (IH (upd a i (nI p)) _ _ _ _ _ _ (updag hag) (upd_rgi (by omega) hr) h10 (by omega)) (by omega) (Nat.le_of_ble_eq_true rfl) ?_) (fun c89 => rn_iconst (np := 93) (v := nI 0) F dX0_place_92 rfl rfl <| rn_goto (np := 97) F dX0_place_93 rfl <| rn_iadd (np := 98) F dX0_place_97 rfl <| rn_topE (nI_add _ _) <| rn_cV3p (np := 101) F dX0_place_98 rfl cv_X0_place wM_X0_76 (fs hF rfl rfl) rfl (IH (upd a i (nI p)) _ _ _ _ _ _ (updag hag) (upd_rgi (by omega) hr) h10 (by omega)) (by omega) (Nat.le_of_ble_eq_true rfl) ?_)))
    · rw [show p = 3 by omega]
      exact hp a1 m1 hag hmg
    · have e : foP (fun p r => if okC (h 4) (h 5) lt a i p = 0 then r else plF b (h 4) (h 5) (h 15) (h 16) lt (h 1 11) n d (i + 1) (upd a i (nI p)) (alT b l p (fun t => 1 * h 15 (i * 6 + t)) (tcN b 6)) (g + 3 * mtF a (h 16) i p i) (c + (if nI p = h 4 i then 0 else 1)) r) (p + 1) r0 = foP (fun p r => if okC (h 4) (h 5) lt a i p = 0 then r else plF b (h 4) (h 5) (h 15) (h 16) lt (h 1 11) n d (i + 1) (upd a i (nI p)) (alT b l p (fun t => 1 * h 15 (i * 6 + t)) (tcN b 6)) (g + 3 * mtF a (h 16) i p i) (c + (if nI p = h 4 i then 0 else 1)) r) p r0 := by rw [foP]; exact if_pos (hok ▸ c39)
      exact e ▸ ih (p + 1) a1 m1 (by omega) (by omega) hag hmg hm
    · rintro h2 ⟨a', m', rfl, hag2, hmg2⟩
      have h10b : (plF b (h 4) (h 5) (h 15) (h 16) lt (h 1 11) n d (i + 1) (upd a i (nI p)) (alT b l p (fun t => 1 * h 15 (i * 6 + t)) (tcN b 6)) (g + 3 * mtF a (h 16) i p i) (c + 1) (foP (fun p r => if okC (h 4) (h 5) lt a i p = 0 then r else plF b (h 4) (h 5) (h 15) (h 16) lt (h 1 11) n d (i + 1) (upd a i (nI p)) (alT b l p (fun t => 1 * h 15 (i * 6 + t)) (tcN b 6)) (g + 3 * mtF a (h 16) i p i) (c + (if nI p = h 4 i then 0 else 1)) r) p r0)).1 10 = nI (tcN b 6) := by rw [plF_10]; exact h10
      refine rn_aload_n (np := 102) F dX0_place_101 rfl rfl <| rn_iload_n (np := 103) F dX0_place_102 rfl rfl <| rn_iload (np := 105) F dX0_place_103 rfl rfl <| rn_iconst (np := 106) (v := (-1)) F dX0_place_105 rfl rfl <| rn_cV3v (np := 109) F dX0_place_106 rfl cv_X0_addLoads wM_X0_118 (fs hF rfl rfl) rfl (c_X0_addLoads (b := b) hF (by omega) (by omega) ⟨h10b, hB.2.2.2.1⟩) (by omega) (Nat.le_of_ble_eq_true rfl) <| rn_hpE ly_18 <| rn_iincN (np := 112) F dX0_place_109 rfl rfl hL rfl <| rn_goto (np := 26) F dX0_place_112 rfl <| ?_
      have e : foP (fun p r => if okC (h 4) (h 5) lt a i p = 0 then r else plF b (h 4) (h 5) (h 15) (h 16) lt (h 1 11) n d (i + 1) (upd a i (nI p)) (alT b l p (fun t => 1 * h 15 (i * 6 + t)) (tcN b 6)) (g + 3 * mtF a (h 16) i p i) (c + (if nI p = h 4 i then 0 else 1)) r) (p + 1) r0 = plF b (h 4) (h 5) (h 15) (h 16) lt (h 1 11) n d (i + 1) (upd a i (nI p)) (alT b l p (fun t => 1 * h 15 (i * 6 + t)) (tcN b 6)) (g + 3 * mtF a (h 16) i p i) (c + 1) (foP (fun p r => if okC (h 4) (h 5) lt a i p = 0 then r else plF b (h 4) (h 5) (h 15) (h 16) lt (h 1 11) n d (i + 1) (upd a i (nI p)) (alT b l p (fun t => 1 * h 15 (i * 6 + t)) (tcN b 6)) (g + 3 * mtF a (h 16) i p i) (c + (if nI p = h 4 i then 0 else 1)) r) p r0) := by
        rw [foP, if_neg (fun q => c39 (hok ▸ q)), if_neg (fun q => c89 (by rw [e4] at q; exact (nI_eqs (by omega) (by omega)).mp q))]
      have z := ih (p + 1) a' m' (by omega) (by omega) (fun o ho => by rw [hag2 o (by omega), pk_un (by omega)]) (fun x hx => by rw [hmg2 x (by omega)]; exact hmg x hx) (fun q hq => by rw [hmg2 _ (by omega)]; exact hm q hq)
      rw [e] at z
      show rn X 26 _ [] (lyh h _ a' m' (alT b (alT b l p (fun t => 1 * h 15 (i * 6 + t)) (tcN b 6)) p (fun t => -1 * h 15 (i * 6 + t)) (tcN b 6)))
      rw [alT_undo b l p (fun t => h 15 (i * 6 + t)) (tcN b 6)]
      exact z
    · rintro h2 ⟨a', m', rfl, hag2, hmg2⟩
      have h10b : (plF b (h 4) (h 5) (h 15) (h 16) lt (h 1 11) n d (i + 1) (upd a i (nI p)) (alT b l p (fun t => 1 * h 15 (i * 6 + t)) (tcN b 6)) (g + 3 * mtF a (h 16) i p i) (c + 0) (foP (fun p r => if okC (h 4) (h 5) lt a i p = 0 then r else plF b (h 4) (h 5) (h 15) (h 16) lt (h 1 11) n d (i + 1) (upd a i (nI p)) (alT b l p (fun t => 1 * h 15 (i * 6 + t)) (tcN b 6)) (g + 3 * mtF a (h 16) i p i) (c + (if nI p = h 4 i then 0 else 1)) r) p r0)).1 10 = nI (tcN b 6) := by rw [plF_10]; exact h10
      refine rn_aload_n (np := 102) F dX0_place_101 rfl rfl <| rn_iload_n (np := 103) F dX0_place_102 rfl rfl <| rn_iload (np := 105) F dX0_place_103 rfl rfl <| rn_iconst (np := 106) (v := (-1)) F dX0_place_105 rfl rfl <| rn_cV3v (np := 109) F dX0_place_106 rfl cv_X0_addLoads wM_X0_118 (fs hF rfl rfl) rfl (c_X0_addLoads (b := b) hF (by omega) (by omega) ⟨h10b, hB.2.2.2.1⟩) (by omega) (Nat.le_of_ble_eq_true rfl) <| rn_hpE ly_18 <| rn_iincN (np := 112) F dX0_place_109 rfl rfl hL rfl <| rn_goto (np := 26) F dX0_place_112 rfl <| ?_
      have e : foP (fun p r => if okC (h 4) (h 5) lt a i p = 0 then r else plF b (h 4) (h 5) (h 15) (h 16) lt (h 1 11) n d (i + 1) (upd a i (nI p)) (alT b l p (fun t => 1 * h 15 (i * 6 + t)) (tcN b 6)) (g + 3 * mtF a (h 16) i p i) (c + (if nI p = h 4 i then 0 else 1)) r) (p + 1) r0 = plF b (h 4) (h 5) (h 15) (h 16) lt (h 1 11) n d (i + 1) (upd a i (nI p)) (alT b l p (fun t => 1 * h 15 (i * 6 + t)) (tcN b 6)) (g + 3 * mtF a (h 16) i p i) (c + 0) (foP (fun p r => if okC (h 4) (h 5) lt a i p = 0 then r else plF b (h 4) (h 5) (h 15) (h 16) lt (h 1 11) n d (i + 1) (upd a i (nI p)) (alT b l p (fun t => 1 * h 15 (i * 6 + t)) (tcN b 6)) (g + 3 * mtF a (h 16) i p i) (c + (if nI p = h 4 i then 0 else 1)) r) p r0) := by
        rw [foP, if_neg (fun q => c39 (hok ▸ q)), if_pos (by rw [e4, c89])]
      have z := ih (p + 1) a' m' (by omega) (by omega) (fun o ho => by rw [hag2 o (by omega), pk_un (by omega)]) (fun x hx => by rw [hmg2 x (by omega)]; exact hmg x hx) (fun q hq => by rw [hmg2 _ (by omega)]; exact hm q hq)
      rw [e] at z
      show rn X 26 _ [] (lyh h _ a' m' (alT b (alT b l p (fun t => 1 * h 15 (i * 6 + t)) (tcN b 6)) p (fun t => -1 * h 15 (i * 6 + t)) (tcN b 6)))
      rw [alT_undo b l p (fun t => h 15 (i * 6 + t)) (tcN b 6)]
      exact z
set_option maxRecDepth 20000 in
/-- place: what lies below a beginning is counted -/
theorem c_X0_place {G : GxT} (hF : Full G) {h : HpT} {n : Nat} {b : Nat → Bool} {lt : Nat → Nat} (hB : PB h n b lt) : ∀ (d i : Nat), i + d = n → PM G h n b lt d i := by
  have hn := hB.1
  intro d
  induction d with
  | zero =>
    intro i hid a a0 m l r g c hag hr h10 hc
    refine mc_of (by decide) (Nat.le_of_ble_eq_true rfl) (fun X hG F Rr hL => ?_)
    subst hG
    have F : FxT X cX0_place RX0 3 := F
    show rn X 0 [(0, .ref (gad X.1 11)), (1, .int (nI i)), (2, .int g), (3, .int (nI c))] [] (lyh h r a0 m l)
    refine rn_iload_n (np := 1) F dX0_place_0 rfl rfl <| rn_aload_n (np := 2) F dX0_place_1 rfl rfl <| rn_getr (np := 5) F dX0_place_2 rfl fF_X0_36 (fs hF rfl rfl) rfl <| rn_getfE (np := 8) F dX0_place_5 rfl fF_X0_80 (fs hF rfl rfl) rfl hB.2.1 <| rn_Nlt (tg := 18) (np := 11) F dX0_place_8 rfl rfl rfl rfl (by omega) (fun c8 => rn_aload_n (np := 19) F dX0_place_18 rfl rfl <| rn_iload_n (np := 20) F dX0_place_19 rfl rfl <| rn_cV1v (np := 23) F dX0_place_20 rfl cv_X0_meetEarlier wM_X0_110 (fs hF rfl rfl) rfl (c_X0_meetEarlier hF (by omega) (fun o ho => by obtain ⟨q, h1, h2⟩ := hr o ho; exact ⟨q, h1, by rw [← h2]; exact hag o ho⟩)) (by omega) (Nat.le_of_ble_eq_true rfl) <| rn_hpE ly_17 <| rn_iconst (np := 24) (v := 0) F dX0_place_23 rfl rfl <| rn_istore (np := 26) F dX0_place_24 rfl hL rfl <| ?_) (fun c8 => rn_aload_n (np := 12) F dX0_place_11 rfl rfl <| rn_iload_n (np := 13) F dX0_place_12 rfl rfl <| rn_iload_n (np := 14) F dX0_place_13 rfl rfl <| rn_cV2v (np := 17) F dX0_place_14 rfl cv_X0_count wM_X0_106 (fs hF rfl rfl) rfl (c_X0_count (b := b) hF hn hB.2.1 (by omega) ⟨h10, hB.2.2.2.1⟩) (by omega) (Nat.le_of_ble_eq_true rfl) <| rn_vret F Rr dX0_place_17 ?_)
    · exact absurd c8 (by omega)
    · refine ⟨rfl, a0, m, ?_, hag, fun _ _ => rfl⟩
      rw [ly_cnt, plF]
      show lyh h (cnR r (bP (sfT b l (h 1 11))) g c (packF a0 n)) a0 m l = _
      rw [packF_cong (a2 := a) (fun o ho => hag o (by omega))]
  | succ d IH =>
    intro i hid a a0 m l r g c hag hr h10 hc
    refine mc_of (by decide) (Nat.le_of_ble_eq_true rfl) (fun X hG F Rr hL => ?_)
    subst hG
    have F : FxT X cX0_place RX0 (3 + (d + 1)) := F
    show rn X 0 [(0, .ref (gad X.1 11)), (1, .int (nI i)), (2, .int g), (3, .int (nI c))] [] (lyh h r a0 m l)
    refine rn_iload_n (np := 1) F dX0_place_0 rfl rfl <| rn_aload_n (np := 2) F dX0_place_1 rfl rfl <| rn_getr (np := 5) F dX0_place_2 rfl fF_X0_36 (fs hF rfl rfl) rfl <| rn_getfE (np := 8) F dX0_place_5 rfl fF_X0_80 (fs hF rfl rfl) rfl hB.2.1 <| rn_Nlt (tg := 18) (np := 11) F dX0_place_8 rfl rfl rfl rfl (by omega) (fun c8 => rn_aload_n (np := 19) F dX0_place_18 rfl rfl <| rn_iload_n (np := 20) F dX0_place_19 rfl rfl <| rn_cV1v (np := 23) F dX0_place_20 rfl cv_X0_meetEarlier wM_X0_110 (fs hF rfl rfl) rfl (c_X0_meetEarlier hF (by omega) (fun o ho => by obtain ⟨q, h1, h2⟩ := hr o ho; exact ⟨q, h1, by rw [← h2]; exact hag o ho⟩)) (by omega) (Nat.le_of_ble_eq_true rfl) <| rn_hpE ly_17 <| rn_iconst (np := 24) (v := 0) F dX0_place_23 rfl rfl <| rn_istore (np := 26) F dX0_place_24 rfl hL rfl <| ?_) (fun c8 => rn_aload_n (np := 12) F dX0_place_11 rfl rfl <| rn_iload_n (np := 13) F dX0_place_12 rfl rfl <| rn_iload_n (np := 14) F dX0_place_13 rfl rfl <| rn_cV2v (np := 17) F dX0_place_14 rfl cv_X0_count wM_X0_106 (fs hF rfl rfl) rfl (c_X0_count (b := b) hF hn hB.2.1 (by omega) ⟨h10, hB.2.2.2.1⟩) (by omega) (Nat.le_of_ble_eq_true rfl) <| rn_vret F Rr dX0_place_17 ?_)
    · have z := l_X0_place (a := a) (m0 := m) (r0 := r) (l := l) (g := g) hF F Rr hL hB c8 hr h10 hc (IH (i + 1) (by omega)) (fun a' m' h1 h2 => ⟨rfl, a', m', rfl, h1, h2⟩) 4 0 a0 (meF m a0 (h 16) i i) (by omega) (by omega) hag (fun x hx => by unfold meF; rw [if_neg (by omega)]) (fun q hq => by
        unfold meF
        rw [if_pos (by omega), Nat.add_sub_cancel_left]
        exact mtF_cong hag)
      exact z
    · exact absurd (by omega) c8
end
section
def fa5 (h : HpT) : HpT := hs (hs (hs (va_up (hs h 11 13 1) 12 (fillF (h 12) 10 (-1))) 11 11 0) 11 2 0) 11 12 (-1)
def fa6 (h : HpT) (n : Nat) : HpT := va_up (fa5 h) 15 (rtF (fa5 h) (n * 6))
def fab (h : HpT) (n : Nat) : Nat → Bool := tgB (rtF (fa5 h) (n * 6)) (h 1 11) n
def fa7 (h : HpT) (n : Nat) : HpT := tgh (fa6 h n) (fab h n) 6
def fa8 (h : HpT) (n : Nat) : HpT := va_up (fa7 h n) 16 (mpF (fa7 h n) n 0)
theorem lyh_self (h : HpT) : lyh h (h 11, h 12, h 13) (h 14) (h 17) (h 18) = h := by
  unfold lyh
  funext q
  simp only [va_up]
  by_cases h1 : q = 11 <;> by_cases h2 : q = 12 <;> by_cases h3 : q = 13 <;> by_cases h4 : q = 14 <;> by_cases h5 : q = 17 <;> by_cases h6 : q = 18 <;> simp_all
/-- what a search leaves: raw -/
def FaR (h : HpT) (n : Nat) (lt : Nat → Nat) (h' : HpT) : Prop := (¬ h 11 13 = 0 ∧ h' = h) ∨ (h 11 13 = 0 ∧ ∃ a' m', h' = lyh (fa8 h n) (plF (fab h n) (h 4) (h 5) (rtF (fa5 h) (n * 6)) (mpF (fa7 h n) n 0) lt (h 1 11) n n 0 (h 14) (h 18) (gaF (mpF (fa7 h n) n 0) n) 0 (fa8 h n 11, fa8 h n 12, h 13)) a' m' (h 18))
theorem fa5_cell {h : HpT} {k : Nat} (h1 : k ≠ 11) (h2 : k ≠ 12) : fa5 h k = h k := by unfold fa5 hs; simp only [va_up, h1, h2, if_false]
theorem fa8_cell {h : HpT} {n k : Nat} (h1 : k ≠ 11) (h2 : k ≠ 12) (h3 : k ≠ 15) (h4 : k ≠ 16) (h5 : k ≠ 19) : fa8 h n k = h k := by
  unfold fa8 fa7 tgh fa6
  rw [va_up_ne _ _ h4, va_up_ne _ _ h5, va_up_ne _ _ h1, va_up_ne _ _ h3, fa5_cell h1 h2]
theorem fa8_19 (h : HpT) (n : Nat) : fa8 h n 19 = thF (fab h n) (fa6 h n 19) 6 := by
  unfold fa8 fa7 tgh
  rw [va_up_ne _ _ (by decide), va_up_self]
theorem fa8_11 (h : HpT) (n : Nat) : fa8 h n 11 = upd (fa6 h n 11) 10 (nI (tcN (fab h n) 6)) := by
  unfold fa8 fa7 tgh
  rw [va_up_ne _ _ (by decide), va_up_ne _ _ (by decide), va_up_self]
theorem fa8_10 (h : HpT) (n : Nat) : fa8 h n 11 10 = nI (tcN (fab h n) 6) := by rw [fa8_11, pk_us]
theorem PB_fa {h : HpT} {n : Nat} {lt : Nat → Nat} (hS : SI n h) (hlt : ∀ i, i < n → lt i ≤ i ∧ h 6 i = nI (lt i)) : PB (fa8 h n) n (fab h n) lt := by
  unfold PB
  rw [fa8_cell (k := 1) (by decide) (by decide) (by decide) (by decide) (by decide), fa8_cell (k := 6) (by decide) (by decide) (by decide) (by decide) (by decide), fa8_cell (k := 4) (by decide) (by decide) (by decide) (by decide) (by decide), fa8_19]
  exact ⟨hS.1, hS.2.1, hlt, ⟨_, rfl⟩, hS.2.2.2.1⟩
set_option maxRecDepth 20000 in
theorem c_X0_findAll {G : GxT} (hF : Full G) {h : HpT} {n : Nat} {lt : Nat → Nat} (hS : SI n h) (hlt : ∀ i, i < n → lt i ≤ i ∧ h 6 i = nI (lt i)) : mc G yX0_findAll cX0_findAll 1 none 13 [.ref (gad G 11)] h (fun r h' => r = none ∧ FaR h n lt h') := by
  have hn := hS.1
  refine mc_of (by decide) (Nat.le_of_ble_eq_true rfl) (fun X hG F Rr hL => ?_)
  subst hG
  have F : FxT X cX0_findAll RX0 13 := F
  show rn X 0 [(0, .ref (gad X.1 11))] [] h
  refine rn_aload_n (np := 1) F dX0_findAll_0 rfl rfl <| rn_getf (np := 4) F dX0_findAll_1 rfl fF_X0_40 (fs hF rfl rfl) rfl <| rn_if_eq (tg := 8) (np := 7) F dX0_findAll_4 rfl rfl (fun c4 => ?_) (fun c4 => rn_vret F Rr dX0_findAll_7 ?_)
  · have hS5 : SI n (fa5 h) := ⟨hS.1, hS.2.1, hS.2.2.1, hS.2.2.2.1, hS.2.2.2.2⟩
    refine rn_aload_n (np := 9) F dX0_findAll_8 rfl rfl <| rn_iconst (np := 10) (v := 1) F dX0_findAll_9 rfl rfl <| rn_putf (np := 13) F dX0_findAll_10 rfl fP_X0_40 (fs hF rfl rfl) rfl rfl rfl <| rn_aload_n (np := 14) F dX0_findAll_13 rfl rfl <| rn_getr (np := 17) F dX0_findAll_14 rfl fF_X0_9 (fs hF rfl rfl) rfl <| rn_iconst (np := 18) (v := (-1)) F dX0_findAll_17 rfl rfl <| rn_cS2v (np := 21) F dX0_findAll_18 rfl cs_J7_fill_53178 wM_X0_51 (c_J7_fill_53178 hF (fs hF rfl rfl) (by decide)) (by omega) (Nat.le_of_ble_eq_true rfl) <| rn_aload_n (np := 22) F dX0_findAll_21 rfl rfl <| rn_iconst (np := 23) (v := 0) F dX0_findAll_22 rfl rfl <| rn_putf (np := 26) F dX0_findAll_23 rfl fP_X0_47 (fs hF rfl rfl) rfl rfl rfl <| rn_aload_n (np := 27) F dX0_findAll_26 rfl rfl <| rn_iconst (np := 28) (v := 0) F dX0_findAll_27 rfl rfl <| rn_putf (np := 31) F dX0_findAll_28 rfl fP_X0_57 (fs hF rfl rfl) rfl rfl rfl <| rn_aload_n (np := 32) F dX0_findAll_31 rfl rfl <| rn_iconst (np := 33) (v := (-1)) F dX0_findAll_32 rfl rfl <| rn_putf (np := 36) F dX0_findAll_33 rfl fP_X0_60 (fs hF rfl rfl) rfl rfl rfl <| rn_aload_n (np := 37) F dX0_findAll_36 rfl rfl <| rn_cV0v (np := 40) F dX0_findAll_37 rfl cv_X0_readTakings wM_X0_63 (fs hF rfl rfl) rfl (c_X0_readTakings (n := n) hF hS5) (by omega) (Nat.le_of_ble_eq_true rfl) <| rn_aload_n (np := 41) F dX0_findAll_40 rfl rfl <| rn_cV0v (np := 44) F dX0_findAll_41 rfl cv_X0_findTightHours wM_X0_66 (fs hF rfl rfl) rfl (c_X0_findTightHours (n := n) hF hn hS.2.1) (by omega) (Nat.le_of_ble_eq_true rfl) <| rn_aload_n (np := 45) F dX0_findAll_44 rfl rfl <| rn_cV0v (np := 48) F dX0_findAll_45 rfl cv_X0_multiplyTakings wM_X0_69 (fs hF rfl rfl) rfl (c_X0_multiplyTakings (n := n) hF hn hS.2.1) (by omega) (Nat.le_of_ble_eq_true rfl) <| rn_aload_n (np := 49) F dX0_findAll_48 rfl rfl <| rn_iconst (np := 50) (v := nI 0) F dX0_findAll_49 rfl rfl <| rn_aload_n (np := 51) F dX0_findAll_50 rfl rfl <| rn_cV0i (np := 54) F dX0_findAll_51 rfl cv_X0_griefApart wM_X0_72 (fs hF rfl rfl) rfl (c_X0_griefApart (n := n) hF hn hS.2.1) (by omega) (Nat.le_of_ble_eq_true rfl) <| rn_hpE (show _ = lyh (fa8 h n) (fa8 h n 11, fa8 h n 12, h 13) (h 14) (h 17) (h 18) from (lyh_self (fa8 h n)).symm) <| rn_iconst (np := 55) (v := nI 0) F dX0_findAll_54 rfl rfl <| rn_cV3p (np := 58) F dX0_findAll_55 rfl cv_X0_place wM_X0_76 (fs hF rfl rfl) rfl (c_X0_place (n := n) hF (PB_fa hS hlt) n 0 (by omega) (h 14) _ _ _ _ _ 0 (fun _ _ => rfl) (fun o ho => absurd ho (Nat.not_lt_zero _)) (fa8_10 h n) (Nat.le_refl 0)) (by omega) (Nat.le_of_ble_eq_true rfl) ?_
    rintro h2 ⟨a', m', e, -, -⟩
    refine rn_vret F Rr dX0_findAll_58 ⟨rfl, Or.inr ⟨c4, a', m', e⟩⟩
  · exact ⟨rfl, Or.inl ⟨c4, rfl⟩⟩
end
section
def ov : Option Nat → Int32
  | none => -1
  | some j => nI j
def cobN (f : Nat → Int32) : Nat → Option Nat
  | 0 => none
  | j + 1 => if f j = -1 then cobN f j else match cobN f j with
    | none => some j
    | some q => if f j < f q then some j else some q
theorem cobN_lt (f : Nat → Int32) : ∀ j q, cobN f j = some q → q < j
  | 0, q, h => by cases h
  | j + 1, q, h => by
    unfold cobN at h
    by_cases e : f j = -1
    · rw [if_pos e] at h; have := cobN_lt f j q h; omega
    · rw [if_neg e] at h
      cases hr : cobN f j with
      | none => rw [hr] at h; injection h with h; omega
      | some z =>
        have hz := cobN_lt f j z hr
        rw [hr] at h
        by_cases e2 : f j < f z
        · simp only [e2, if_true] at h; injection h with h; omega
        · simp only [e2, if_false] at h; injection h with h; omega
def fwN (f : Nat → Int32) (g : Int32) : Nat → Option Nat
  | 0 => none
  | j + 1 => match fwN f g j with
    | some q => some q
    | none => if f j = -1 ∨ g < f j then none else some j
theorem fwN_up (f : Nat → Int32) (g : Int32) {j q : Nat} (h : fwN f g j = some q) : ∀ m, fwN f g (j + m) = some q
  | 0 => h
  | m + 1 => by
    show fwN f g (j + m + 1) = _
    rw [fwN, fwN_up f g h m]
theorem nI_m1 {j : Nat} (h : j < 100) : ¬ nI j = -1 := fun e => by
  have := congrArg Int32.toInt e
  rw [nI_toInt (by omega)] at this
  have e2 : (-1 : Int32).toInt = -1 := rfl
  omega
end
section
set_option maxRecDepth 20000 in
theorem l_X0_changesOfBest {X : XxT} {post : Option Value → HpT → Prop} (hF : Full X.1) (F : FxT X cX0_changesOfBest RX0 14) (Rr : RxT X (some .int) post) (hL : X.2.2.2.2.2.2.2.2.2.2.2.2.2.1 = 4) {h : HpT} {n : Nat} (hn : n ≤ 9) (hp : post (some (.int (ov (cobN (h 12) (n + 1))))) h) : ∀ (k : Nat) (j : Nat), n + 1 - j < k → j ≤ n + 1 → rn X 8 [(0, .ref (gad X.1 11)), (1, .int (nI n)), (2, .int (ov (cobN (h 12) j))), (3, .int (nI j))] [] h := by
  intro k
  induction k with
  | zero => intro j hk; exact absurd hk (Nat.not_lt_zero _)
  | succ k ih =>
    intro j hk hj
    refine rn_iload_n (np := 9) F dX0_changesOfBest_8 rfl rfl <| rn_iload_n (np := 10) F dX0_changesOfBest_9 rfl rfl <| rn_Ngt (tg := 57) (np := 13) F dX0_changesOfBest_10 rfl rfl rfl rfl (by omega) (fun c10 => rn_iload_n (np := 58) F dX0_changesOfBest_57 rfl rfl <| rn_iret F Rr dX0_changesOfBest_58 ?_) (fun c10 => rn_iload_n (np := 14) F dX0_changesOfBest_13 rfl rfl <| rn_bipush (np := 16) (v := 9) F dX0_changesOfBest_14 rfl rfl <| rn_Ngt (tg := 57) (np := 19) (b := 9) F dX0_changesOfBest_16 rfl rfl rfl rfl (by omega) (fun c16 => rn_iload_n (np := 58) F dX0_changesOfBest_57 rfl rfl <| rn_iret F Rr dX0_changesOfBest_58 ?_) (fun c16 => rn_aload_n (np := 20) F dX0_changesOfBest_19 rfl rfl <| rn_getr (np := 23) F dX0_changesOfBest_20 rfl fF_X0_9 (fs hF rfl rfl) rfl <| rn_iload_n (np := 24) F dX0_changesOfBest_23 rfl rfl <| rn_ialdN (np := 25) F dX0_changesOfBest_24 rfl (fs hF rfl rfl) rfl (by omega) <| rn_iconst (np := 26) (v := (-1)) F dX0_changesOfBest_25 rfl rfl <| rn_icmp_eq (tg := 51) (np := 29) F dX0_changesOfBest_26 rfl rfl (fun c26 => rn_iincN (np := 54) F dX0_changesOfBest_51 rfl rfl hL rfl <| rn_goto (np := 8) F dX0_changesOfBest_54 rfl <| ?_) (fun c26 => rn_iload_n (np := 30) F dX0_changesOfBest_29 rfl rfl <| rn_iconst (np := 31) (v := (-1)) F dX0_changesOfBest_30 rfl rfl <| rn_icmp_eq (tg := 49) (np := 34) F dX0_changesOfBest_31 rfl rfl (fun c31 => rn_iload_n (np := 50) F dX0_changesOfBest_49 rfl rfl <| rn_istore_n (np := 51) F dX0_changesOfBest_50 rfl hL rfl <| rn_iincN (np := 54) F dX0_changesOfBest_51 rfl rfl hL rfl <| rn_goto (np := 8) F dX0_changesOfBest_54 rfl <| ?_) (fun c31 => ?_))))
    · rw [show j = n + 1 by omega]; exact hp
    · exact absurd c16 (by omega)
    · have e : cobN (h 12) (j + 1) = cobN (h 12) j := by rw [cobN]; exact if_pos c26
      exact e ▸ ih (j + 1) (by omega) (by omega)
    · have e0 : cobN (h 12) j = none := by
        cases hq : cobN (h 12) j with
        | none => rfl
        | some q => rw [hq] at c31; exact absurd c31 (nI_m1 (by have := cobN_lt _ _ _ hq; omega))
      have e : cobN (h 12) (j + 1) = some j := by rw [cobN, if_neg c26, e0]
      have z := ih (j + 1) (by omega) (by omega)
      rw [e] at z
      exact z
    · obtain ⟨q, hq⟩ : ∃ q, cobN (h 12) j = some q := by
        cases hq : cobN (h 12) j with
        | none => rw [hq] at c31; exact absurd rfl c31
        | some q => exact ⟨q, rfl⟩
      have hqj := cobN_lt _ _ _ hq
      rw [hq]
      refine rn_aload_n (np := 35) F dX0_changesOfBest_34 rfl rfl <| rn_getr (np := 38) F dX0_changesOfBest_35 rfl fF_X0_9 (fs hF rfl rfl) rfl <| rn_iload_n (np := 39) F dX0_changesOfBest_38 rfl rfl <| rn_ialdN (np := 40) F dX0_changesOfBest_39 rfl (fs hF rfl rfl) rfl (by omega) <| rn_aload_n (np := 41) F dX0_changesOfBest_40 rfl rfl <| rn_getr (np := 44) F dX0_changesOfBest_41 rfl fF_X0_9 (fs hF rfl rfl) rfl <| rn_iload_n (np := 45) F dX0_changesOfBest_44 rfl rfl <| rn_ialdN (np := 46) F dX0_changesOfBest_45 rfl (fs hF rfl rfl) rfl (by omega) <| rn_icmp_ge (tg := 51) (np := 49) F dX0_changesOfBest_46 rfl rfl (fun c46 => rn_iincN (np := 54) F dX0_changesOfBest_51 rfl rfl hL rfl <| rn_goto (np := 8) F dX0_changesOfBest_54 rfl <| ?_) (fun c46 => rn_iload_n (np := 50) F dX0_changesOfBest_49 rfl rfl <| rn_istore_n (np := 51) F dX0_changesOfBest_50 rfl hL rfl <| rn_iincN (np := 54) F dX0_changesOfBest_51 rfl rfl hL rfl <| rn_goto (np := 8) F dX0_changesOfBest_54 rfl <| ?_)
      · have e : cobN (h 12) (j + 1) = some q := by rw [cobN, if_neg c26, hq]; exact if_neg (Int32.not_lt.mpr c46)
        have z := ih (j + 1) (by omega) (by omega)
        rw [e] at z
        exact z
      · have e : cobN (h 12) (j + 1) = some j := by rw [cobN, if_neg c26, hq]; exact if_pos (Int32.not_le.mp c46)
        have z := ih (j + 1) (by omega) (by omega)
        rw [e] at z
        exact z
set_option maxRecDepth 20000 in
theorem c_X0_changesOfBest {G : GxT} (hF : Full G) {h : HpT} {n q : Nat} {lt : Nat → Nat} (hS : SI n h) (hlt : ∀ i, i < n → lt i ≤ i ∧ h 6 i = nI (lt i)) (hq : q ≤ 9) : mc G yX0_changesOfBest cX0_changesOfBest 4 (some .int) 14 [.ref (gad G 11), .int (nI q)] h (fun r h2 => ∃ x, r = some (.int x) ∧ x = ov (cobN (h2 12) (q + 1)) ∧ FaR h n lt h2) := by
  refine mc_of (by decide) (Nat.le_of_ble_eq_true rfl) (fun X hG F Rr hL => ?_)
  subst hG
  have F : FxT X cX0_changesOfBest RX0 14 := F
  show rn X 0 [(0, .ref (gad X.1 11)), (1, .int (nI q))] [] h
  refine rn_aload_n (np := 1) F dX0_changesOfBest_0 rfl rfl <| rn_cV0p (np := 4) F dX0_changesOfBest_1 rfl cv_X0_findAll wM_X0_44 (fs hF rfl rfl) rfl (c_X0_findAll hF hS hlt) (Nat.le_of_ble_eq_true rfl) (Nat.le_of_ble_eq_true rfl) ?_
  intro h2 hf
  refine rn_iconst (np := 5) (v := (-1)) F dX0_changesOfBest_4 rfl rfl <| rn_istore_n (np := 6) F dX0_changesOfBest_5 rfl hL rfl <| rn_iconst (np := 7) (v := 0) F dX0_changesOfBest_6 rfl rfl <| rn_istore_n (np := 8) F dX0_changesOfBest_7 rfl hL rfl <| ?_
  exact l_X0_changesOfBest (h := h2) hF F Rr hL hq ⟨_, rfl, rfl, hf⟩ (q + 2) 0 (by omega) (by omega)
set_option maxRecDepth 20000 in
theorem l_X0_fewestChangesFor {X : XxT} {post : Option Value → HpT → Prop} (hF : Full X.1) (F : FxT X cX0_fewestChangesFor RX0 14) (Rr : RxT X (some .int) post) (hL : X.2.2.2.2.2.2.2.2.2.2.2.2.2.1 = 3) {h : HpT} {g : Int32} (hp : post (some (.int (ov (fwN (h 12) g 10)))) h) : ∀ (k : Nat) (j : Nat), 10 - j < k → j ≤ 10 → fwN (h 12) g j = none → rn X 6 [(0, .ref (gad X.1 11)), (1, .int g), (2, .int (nI j))] [] h := by
  intro k
  induction k with
  | zero => intro j hk; exact absurd hk (Nat.not_lt_zero _)
  | succ k ih =>
    intro j hk hj hf
    refine rn_iload_n (np := 7) F dX0_fewestChangesFor_6 rfl rfl <| rn_bipush (np := 9) (v := 9) F dX0_fewestChangesFor_7 rfl rfl <| rn_Ngt (tg := 40) (np := 12) (b := 9) F dX0_fewestChangesFor_9 rfl rfl rfl rfl (by omega) (fun c9 => rn_iconst (np := 41) (v := (-1)) F dX0_fewestChangesFor_40 rfl rfl <| rn_iret F Rr dX0_fewestChangesFor_41 ?_) (fun c9 => rn_aload_n (np := 13) F dX0_fewestChangesFor_12 rfl rfl <| rn_getr (np := 16) F dX0_fewestChangesFor_13 rfl fF_X0_9 (fs hF rfl rfl) rfl <| rn_iload_n (np := 17) F dX0_fewestChangesFor_16 rfl rfl <| rn_ialdN (np := 18) F dX0_fewestChangesFor_17 rfl (fs hF rfl rfl) rfl (by omega) <| rn_iconst (np := 19) (v := (-1)) F dX0_fewestChangesFor_18 rfl rfl <| rn_icmp_eq (tg := 34) (np := 22) F dX0_fewestChangesFor_19 rfl rfl (fun c19 => rn_iincN (np := 37) F dX0_fewestChangesFor_34 rfl rfl hL rfl <| rn_goto (np := 6) F dX0_fewestChangesFor_37 rfl <| ?_) (fun c19 => rn_aload_n (np := 23) F dX0_fewestChangesFor_22 rfl rfl <| rn_getr (np := 26) F dX0_fewestChangesFor_23 rfl fF_X0_9 (fs hF rfl rfl) rfl <| rn_iload_n (np := 27) F dX0_fewestChangesFor_26 rfl rfl <| rn_ialdN (np := 28) F dX0_fewestChangesFor_27 rfl (fs hF rfl rfl) rfl (by omega) <| rn_iload_n (np := 29) F dX0_fewestChangesFor_28 rfl rfl <| rn_icmp_gt (tg := 34) (np := 32) F dX0_fewestChangesFor_29 rfl rfl (fun c29 => rn_iincN (np := 37) F dX0_fewestChangesFor_34 rfl rfl hL rfl <| rn_goto (np := 6) F dX0_fewestChangesFor_37 rfl <| ?_) (fun c29 => rn_iload_n (np := 33) F dX0_fewestChangesFor_32 rfl rfl <| rn_iret F Rr dX0_fewestChangesFor_33 ?_)))
    · have e : fwN (h 12) g 10 = none := by rw [show 10 = j by omega]; exact hf
      rw [e] at hp; exact hp
    · exact ih (j + 1) (by omega) (by omega) (by rw [fwN, hf]; exact if_pos (Or.inl c19))
    · exact ih (j + 1) (by omega) (by omega) (by rw [fwN, hf]; exact if_pos (Or.inr c29))
    · have e : fwN (h 12) g (j + 1) = some j := by rw [fwN, hf]; exact if_neg (fun z => z.elim c19 c29)
      have e2 := fwN_up _ _ e (9 - j)
      rw [show j + 1 + (9 - j) = 10 by omega] at e2
      rw [e2] at hp; exact hp
set_option maxRecDepth 20000 in
theorem c_X0_fewestChangesFor {G : GxT} (hF : Full G) {h : HpT} {n : Nat} {lt : Nat → Nat} {g : Int32} (hS : SI n h) (hlt : ∀ i, i < n → lt i ≤ i ∧ h 6 i = nI (lt i)) : mc G yX0_fewestChangesFor cX0_fewestChangesFor 3 (some .int) 14 [.ref (gad G 11), .int g] h (fun r h2 => ∃ x, r = some (.int x) ∧ x = ov (fwN (h2 12) g 10) ∧ FaR h n lt h2) := by
  refine mc_of (by decide) (Nat.le_of_ble_eq_true rfl) (fun X hG F Rr hL => ?_)
  subst hG
  have F : FxT X cX0_fewestChangesFor RX0 14 := F
  show rn X 0 [(0, .ref (gad X.1 11)), (1, .int g)] [] h
  refine rn_aload_n (np := 1) F dX0_fewestChangesFor_0 rfl rfl <| rn_cV0p (np := 4) F dX0_fewestChangesFor_1 rfl cv_X0_findAll wM_X0_44 (fs hF rfl rfl) rfl (c_X0_findAll hF hS hlt) (Nat.le_of_ble_eq_true rfl) (Nat.le_of_ble_eq_true rfl) ?_
  intro h2 hf
  refine rn_iconst (np := 5) (v := 0) F dX0_fewestChangesFor_4 rfl rfl <| rn_istore_n (np := 6) F dX0_fewestChangesFor_5 rfl hL rfl <| ?_
  exact l_X0_fewestChangesFor (h := h2) hF F Rr hL ⟨_, rfl, rfl, hf⟩ 11 0 (by omega) (by omega) rfl
set_option maxRecDepth 20000 in
theorem c_X0_countAll {G : GxT} (hF : Full G) {h : HpT} {n : Nat} {lt : Nat → Nat} (hS : SI n h) (hlt : ∀ i, i < n → lt i ≤ i ∧ h 6 i = nI (lt i)) : mc G yX0_countAll cX0_countAll 1 (some .int) 14 [.ref (gad G 11)] h (fun r h2 => ∃ x, r = some (.int x) ∧ x = h2 11 11 ∧ FaR h n lt h2) := by
  refine mc_of (by decide) (Nat.le_of_ble_eq_true rfl) (fun X hG F Rr hL => ?_)
  subst hG
  have F : FxT X cX0_countAll RX0 14 := F
  show rn X 0 [(0, .ref (gad X.1 11))] [] h
  refine rn_aload_n (np := 1) F dX0_countAll_0 rfl rfl <| rn_cV0p (np := 4) F dX0_countAll_1 rfl cv_X0_findAll wM_X0_44 (fs hF rfl rfl) rfl (c_X0_findAll hF hS hlt) (Nat.le_of_ble_eq_true rfl) (Nat.le_of_ble_eq_true rfl) ?_
  intro h2 hf
  refine rn_aload_n (np := 5) F dX0_countAll_4 rfl rfl <| rn_getf (np := 8) F dX0_countAll_5 rfl fF_X0_47 (fs hF rfl rfl) rfl <| rn_iret F Rr dX0_countAll_8 ?_
  exact ⟨_, rfl, rfl, hf⟩
end
section
theorem rn_topL {X : XxT} {pc : Nat} {lo : List (Nat × Value)} {st : List Value} {h : HpT} {x v : Int64} (e : x = v) (k : rn X pc lo (.long v :: st) h) : rn X pc lo (.long x :: st) h := e ▸ k
/-- the street changes: none to undo, what was found is forgotten -/
def scH (h : HpT) : HpT := hs (hs h 21 0 0) 11 13 0
theorem SI_sc {n : Nat} {h : HpT} (hS : SI n h) : SI n (scH h) := ⟨hS.1, hS.2.1, hS.2.2.1, hS.2.2.2.1, hS.2.2.2.2⟩
def inH (n : Nat) (v : Int32) : Prop := 0 ≤ v ∧ v ≤ nI n - 1
theorem hsI {n i : Nat} (hi : i < n) (hn : n ≤ 9) : 0 ≤ nI i ∧ nI i ≤ nI n - 1 := by
  obtain ⟨k, rfl⟩ : ∃ k, n = k + 1 := ⟨n - 1, by omega⟩
  rw [nI_pred]
  exact ⟨nI_pos' (by omega), nI_le (by omega) (by omega)⟩
theorem hsN {n : Nat} {v : Int32} (hn : n ≤ 9) (h : 0 ≤ v ∧ v ≤ nI n - 1) : ∃ i, i < n ∧ v = nI i := by
  cases n with
  | zero => exact absurd (Int32.le_trans h.1 h.2) (by decide)
  | succ k =>
    rw [nI_pred] at h
    obtain ⟨j, hj, e⟩ := nI_of2 (M := nI k) (n := k) (nI_toInt (by omega)) (Int32.not_lt.mpr h.1) h.2
    exact ⟨j, by omega, e⟩
theorem rgN {v M : Int32} {m : Nat} (hM : M = nI m) (hm : m < 2147483648) (h : 0 ≤ v ∧ v ≤ M) : ∃ i, i ≤ m ∧ v = nI i := nI_of2 (by rw [hM]; exact nI_toInt hm) (Int32.not_lt.mpr h.1) h.2
theorem rgI {i m : Nat} (hi : i ≤ m) (hm : m < 2147483648) : 0 ≤ nI i ∧ nI i ≤ nI m := ⟨nI_pos' (by omega), nI_le hi hm⟩
theorem SI_new {n a p : Nat} {h : HpT} {z : Int32} (hS : SI n h) (hn : n < 9) (ha : a < 6) (hp : p < 3) : SI (n + 1) (cano (n + 1) (newC h n (nI a) z (nI p))) := by
  refine ⟨by omega, by unfold newC; simp [cano, va_up, hs_at], ?_, ?_, cano_LI _ _⟩
  · intro i hi
    show ∃ b, b < 6 ∧ upd (h 2) n (nI a) i = nI b
    by_cases e : i = n
    · subst e; exact ⟨a, ha, pk_us⟩
    · rw [pk_un e]; exact hS.2.2.1 i hi
  · intro i hi
    show ∃ b, b < 3 ∧ upd (h 4) n (nI p) i = nI b
    by_cases e : i = n
    · subst e; exact ⟨p, hp, pk_us⟩
    · rw [pk_un e]; exact hS.2.2.2.1 i hi
def dX (s : Nat) : Nat → Nat
  | 0 => s
  | k + 1 => (dX s k * 1103515245 + 12345) % 2147483648
theorem dX_lt {s : Nat} (hs0 : s < 2147483648) : ∀ k, dX s k < 2147483648
  | 0 => hs0
  | k + 1 => Nat.mod_lt _ (by decide)
def dwH (h : HpT) (s : Nat) : Nat → HpT
  | 0 => h
  | k + 1 => cano (k + 1) (newC (dwH h s k) k (nI (dX s (k + 1) / 65536 % 6)) (nI (dX s (k + 1) / 1024 % 20 + 1)) (nI (dX s (k + 1) / 32768 % 3)))
theorem dw_SI {h : HpT} {s : Nat} (hS : SI 0 h) : ∀ k, k ≤ 9 → SI k (dwH h s k)
  | 0, _ => hS
  | k + 1, hk => SI_new (dw_SI hS k (by omega)) (by omega) (Nat.mod_lt _ (by decide)) (Nat.mod_lt _ (by decide))
theorem drw {x : Nat} (hx : x < 2147483648) : (lN x * 1103515245 + 12345) - (lN x * 1103515245 + 12345) / 2147483648 * 2147483648 = lN ((x * 1103515245 + 12345) % 2147483648) := by
  rw [show (1103515245 : Int64) = lN 1103515245 from rfl, show (12345 : Int64) = lN 12345 from rfl, show (2147483648 : Int64) = lN 2147483648 from rfl, lN_mul, lN_add, pk_lRem (by omega) (by decide) (by decide)]
theorem drd {x d m : Nat} (hx : x < 2147483648) (hd : 0 < d ∧ d < 100000) (hm : 0 < m ∧ m < 100) : (lN x / lN d - lN x / lN d / lN m * lN m).toInt32 = nI (x / d % m) := by
  have h1 : x / d < 2147483648 := Nat.lt_of_le_of_lt (Nat.div_le_self _ _) hx
  rw [pk_lDiv (by omega) hd.1 (by omega), pk_lRem (by omega) hm.1 (by omega), lN_i]
def toF (h : HpT) (n : Nat) (x : Nat) : Int32 := match x with
  | 0 => h 0 4
  | 1 => h 0 5
  | 2 => h 0 6
  | 3 => h 1 9
  | 4 => h 1 10
  | 5 => h 1 11
  | 6 => h 21 0
  | _ => fbF (h 5) n
def dgS (v : Nat → Int32) : Nat → Int64 → Int64
  | 0, x => x
  | k + 1, x => 31 * dgS v k x + (v k).toInt64
def dg3 (u v w : Nat → Int32) : Nat → Int64 → Int64
  | 0, x => x
  | k + 1, x => 31 * (31 * (31 * dg3 u v w k x + (u k).toInt64) + (v k).toInt64) + (w k).toInt64
def dg2 (u v : Nat → Int32) : Nat → Int64 → Int64
  | 0, x => x
  | k + 1, x => 31 * (31 * dg2 u v k x + (u k).toInt64) + (v k).toInt64
end
section
set_option maxRecDepth 20000 in
theorem b_X4_house {G : GxT} (hF : Full G) {h : HpT} {a z p : Int32} (hv : ¬ ((0 ≤ a ∧ a ≤ 5) ∧ (1 ≤ z ∧ z ≤ 20) ∧ (0 ≤ p ∧ p ≤ 2))) : mci G yX4_house cX4_house 4 (some .int) 3 [.ref (gad G 0), .int a, .int z, .int p] h (-2) (refC h (-2)) := by
  refine mc_of (by decide) (Nat.le_of_ble_eq_true rfl) (fun X hG F Rr hL => ?_)
  subst hG
  have F : FxT X cX4_house RX4 3 := F
  show rn X 0 [(0, .ref (gad X.1 0)), (1, .int a), (2, .int z), (3, .int p)] [] h
  refine rn_iload_n (np := 1) F dX4_house_0 rfl rfl <| rn_cS1i (np := 4) F dX4_house_1 rfl cs_X4_isSort wM_X4_39 (c_X4_isSort) (Nat.le_of_ble_eq_true rfl) (Nat.le_of_ble_eq_true rfl) <| rn_if_eq (tg := 21) (np := 7) F dX4_house_4 rfl rfl (fun c4 => rn_aload_n (np := 22) F dX4_house_21 rfl rfl <| rn_bipush (np := 24) (v := (-2)) F dX4_house_22 rfl rfl <| rn_cV1i (np := 27) F dX4_house_24 rfl cv_X4_refuse wM_X4_49 (fs hF rfl rfl) rfl (c_X4_refuse hF) (Nat.le_of_ble_eq_true rfl) (Nat.le_of_ble_eq_true rfl) <| rn_iret F Rr dX4_house_27 ?_) (fun c4 => rn_iload_n (np := 8) F dX4_house_7 rfl rfl <| rn_cS1i (np := 11) F dX4_house_8 rfl cs_X4_isSize wM_X4_43 (c_X4_isSize) (Nat.le_of_ble_eq_true rfl) (Nat.le_of_ble_eq_true rfl) <| rn_if_eq (tg := 21) (np := 14) F dX4_house_11 rfl rfl (fun c11 => rn_aload_n (np := 22) F dX4_house_21 rfl rfl <| rn_bipush (np := 24) (v := (-2)) F dX4_house_22 rfl rfl <| rn_cV1i (np := 27) F dX4_house_24 rfl cv_X4_refuse wM_X4_49 (fs hF rfl rfl) rfl (c_X4_refuse hF) (Nat.le_of_ble_eq_true rfl) (Nat.le_of_ble_eq_true rfl) <| rn_iret F Rr dX4_house_27 ?_) (fun c11 => rn_iload_n (np := 15) F dX4_house_14 rfl rfl <| rn_cS1i (np := 18) F dX4_house_15 rfl cs_X4_isPhase wM_X4_46 (c_X4_isPhase) (Nat.le_of_ble_eq_true rfl) (Nat.le_of_ble_eq_true rfl) <| rn_if_ne (tg := 28) (np := 21) F dX4_house_18 rfl rfl (fun c18 => ?_) (fun c18 => rn_aload_n (np := 22) F dX4_house_21 rfl rfl <| rn_bipush (np := 24) (v := (-2)) F dX4_house_22 rfl rfl <| rn_cV1i (np := 27) F dX4_house_24 rfl cv_X4_refuse wM_X4_49 (fs hF rfl rfl) rfl (c_X4_refuse hF) (Nat.le_of_ble_eq_true rfl) (Nat.le_of_ble_eq_true rfl) <| rn_iret F Rr dX4_house_27 ?_)))
  all_goals first | exact ⟨rfl, rfl⟩ | exact absurd ⟨bI_1 c4, bI_1 c11, bI_1 c18⟩ hv
set_option maxRecDepth 20000 in
theorem f_X4_house {G : GxT} (hF : Full G) {h : HpT} {n : Nat} {a z p : Int32} (hS : SI n h) (hv : ((0 ≤ a ∧ a ≤ 5) ∧ (1 ≤ z ∧ z ≤ 20) ∧ (0 ≤ p ∧ p ≤ 2))) (h9 : n = 9) : mci G yX4_house cX4_house 4 (some .int) 3 [.ref (gad G 0), .int a, .int z, .int p] h (-4) (refC h (-4)) := by
  refine mc_of (by decide) (Nat.le_of_ble_eq_true rfl) (fun X hG F Rr hL => ?_)
  subst hG
  have F : FxT X cX4_house RX4 3 := F
  show rn X 0 [(0, .ref (gad X.1 0)), (1, .int a), (2, .int z), (3, .int p)] [] h
  have hn := hS.1
  refine rn_iload_n (np := 1) F dX4_house_0 rfl rfl <| rn_cS1i (np := 4) F dX4_house_1 rfl cs_X4_isSort wM_X4_39 (c_X4_isSort) (Nat.le_of_ble_eq_true rfl) (Nat.le_of_ble_eq_true rfl) <| rn_if_eq (tg := 21) (np := 7) F dX4_house_4 rfl rfl (fun q => absurd q ((fun q => bI_0 q hv.1))) (fun _ => rn_iload_n (np := 8) F dX4_house_7 rfl rfl <| rn_cS1i (np := 11) F dX4_house_8 rfl cs_X4_isSize wM_X4_43 (c_X4_isSize) (Nat.le_of_ble_eq_true rfl) (Nat.le_of_ble_eq_true rfl) <| rn_if_eq (tg := 21) (np := 14) F dX4_house_11 rfl rfl (fun q => absurd q ((fun q => bI_0 q hv.2.1))) (fun _ => rn_iload_n (np := 15) F dX4_house_14 rfl rfl <| rn_cS1i (np := 18) F dX4_house_15 rfl cs_X4_isPhase wM_X4_46 (c_X4_isPhase) (Nat.le_of_ble_eq_true rfl) (Nat.le_of_ble_eq_true rfl) <| rn_if_ne (tg := 28) (np := 21) F dX4_house_18 rfl rfl (fun _ => rn_aload_n (np := 29) F dX4_house_28 rfl rfl <| rn_getr (np := 32) F dX4_house_29 rfl fF_X4_10 (fs hF rfl rfl) rfl <| rn_getfE (np := 35) F dX4_house_32 rfl fF_X4_53 (fs hF rfl rfl) rfl hS.2.1 <| rn_bipush (np := 37) (v := 9) F dX4_house_35 rfl rfl <| rn_Nlt (tg := 47) (np := 40) (b := 9) F dX4_house_37 rfl rfl rfl rfl (by omega) (fun q => absurd q ((by omega))) (fun _ => rn_aload_n (np := 41) F dX4_house_40 rfl rfl <| rn_bipush (np := 43) (v := (-4)) F dX4_house_41 rfl rfl <| rn_cV1i (np := 46) F dX4_house_43 rfl cv_X4_refuse wM_X4_49 (fs hF rfl rfl) rfl (c_X4_refuse hF) (Nat.le_of_ble_eq_true rfl) (Nat.le_of_ble_eq_true rfl) <| rn_iret F Rr dX4_house_46 ?_)) (fun q => absurd q ((fun q => bI_0 q hv.2.2)))))
  all_goals exact ⟨rfl, rfl⟩
set_option maxRecDepth 20000 in
theorem o_X4_house {G : GxT} (hF : Full G) {h : HpT} {n a p : Nat} {z : Int32} (hS : SI n h) (h9 : n < 9) (ha : a < 6) (hp : p < 3) (hz : 1 ≤ z ∧ z ≤ 20) : mci G yX4_house cX4_house 4 (some .int) 3 [.ref (gad G 0), .int (nI a), .int z, .int (nI p)] h (nI n) (cano (n + 1) (newC (scH h) n (nI a) z (nI p))) := by
  refine mc_of (by decide) (Nat.le_of_ble_eq_true rfl) (fun X hG F Rr hL => ?_)
  subst hG
  have F : FxT X cX4_house RX4 3 := F
  show rn X 0 [(0, .ref (gad X.1 0)), (1, .int (nI a)), (2, .int z), (3, .int (nI p))] [] h
  have hn := hS.1
  refine rn_iload_n (np := 1) F dX4_house_0 rfl rfl <| rn_cS1i (np := 4) F dX4_house_1 rfl cs_X4_isSort wM_X4_39 (c_X4_isSort) (Nat.le_of_ble_eq_true rfl) (Nat.le_of_ble_eq_true rfl) <| rn_if_eq (tg := 21) (np := 7) F dX4_house_4 rfl rfl (fun q => absurd q ((fun q => bI_0 q (rgI (m := 5) (by omega) (by decide))))) (fun _ => rn_iload_n (np := 8) F dX4_house_7 rfl rfl <| rn_cS1i (np := 11) F dX4_house_8 rfl cs_X4_isSize wM_X4_43 (c_X4_isSize) (Nat.le_of_ble_eq_true rfl) (Nat.le_of_ble_eq_true rfl) <| rn_if_eq (tg := 21) (np := 14) F dX4_house_11 rfl rfl (fun q => absurd q ((fun q => bI_0 q hz))) (fun _ => rn_iload_n (np := 15) F dX4_house_14 rfl rfl <| rn_cS1i (np := 18) F dX4_house_15 rfl cs_X4_isPhase wM_X4_46 (c_X4_isPhase) (Nat.le_of_ble_eq_true rfl) (Nat.le_of_ble_eq_true rfl) <| rn_if_ne (tg := 28) (np := 21) F dX4_house_18 rfl rfl (fun _ => rn_aload_n (np := 29) F dX4_house_28 rfl rfl <| rn_getr (np := 32) F dX4_house_29 rfl fF_X4_10 (fs hF rfl rfl) rfl <| rn_getfE (np := 35) F dX4_house_32 rfl fF_X4_53 (fs hF rfl rfl) rfl hS.2.1 <| rn_bipush (np := 37) (v := 9) F dX4_house_35 rfl rfl <| rn_Nlt (tg := 47) (np := 40) (b := 9) F dX4_house_37 rfl rfl rfl rfl (by omega) (fun _ => rn_aload_n (np := 48) F dX4_house_47 rfl rfl <| rn_cV0v (np := 51) F dX4_house_48 rfl cv_X4_streetChanges wM_X4_57 (fs hF rfl rfl) rfl (c_X4_streetChanges hF) (Nat.le_of_ble_eq_true rfl) (Nat.le_of_ble_eq_true rfl) <| rn_aload_n (np := 52) F dX4_house_51 rfl rfl <| rn_getr (np := 55) F dX4_house_52 rfl fF_X4_10 (fs hF rfl rfl) rfl <| rn_iload_n (np := 56) F dX4_house_55 rfl rfl <| rn_iload_n (np := 57) F dX4_house_56 rfl rfl <| rn_iload_n (np := 58) F dX4_house_57 rfl rfl <| rn_cV3i (np := 61) F dX4_house_58 rfl cv_X2_addHouse wM_X4_60 (fs hF rfl rfl) rfl (c_X2_addHouse hF (SI_sc hS) h9 ha hp) (Nat.le_of_ble_eq_true rfl) (Nat.le_of_ble_eq_true rfl) <| rn_iret F Rr dX4_house_61 ?_) (fun q => absurd q ((fun z => z h9)))) (fun q => absurd q ((fun q => bI_0 q (rgI (m := 2) (by omega) (by decide)))))))
  all_goals exact ⟨rfl, rfl⟩
set_option maxRecDepth 20000 in
theorem b_X4_sets {G : GxT} (hF : Full G) {h : HpT} {n : Nat} {v u w : Int32} (hS : SI n h) (hv : ¬ (inH n v ∧ ((u = 0 ∧ 0 ≤ w ∧ w ≤ 5) ∨ (u = 1 ∧ 1 ≤ w ∧ w ≤ 20) ∨ (u = 2 ∧ 0 ≤ w ∧ w ≤ 1)))) : mci G yX4_sets cX4_sets 4 (some .int) 3 [.ref (gad G 0), .int v, .int u, .int w] h (-2) (refC h (-2)) := by
  refine mc_of (by decide) (Nat.le_of_ble_eq_true rfl) (fun X hG F Rr hL => ?_)
  subst hG
  have F : FxT X cX4_sets RX4 3 := F
  show rn X 0 [(0, .ref (gad X.1 0)), (1, .int v), (2, .int u), (3, .int w)] [] h
  refine rn_aload_n (np := 1) F dX4_sets_0 rfl rfl <| rn_iload_n (np := 2) F dX4_sets_1 rfl rfl <| rn_cV1i (np := 5) F dX4_sets_2 rfl cv_X4_isHouse wM_X4_64 (fs hF rfl rfl) rfl (c_X4_isHouse hF) (Nat.le_of_ble_eq_true rfl) (Nat.le_of_ble_eq_true rfl) <| rn_if_eq (tg := 16) (np := 8) F dX4_sets_5 rfl rfl (fun c5 => rn_aload_n (np := 17) F dX4_sets_16 rfl rfl <| rn_bipush (np := 19) (v := (-2)) F dX4_sets_17 rfl rfl <| rn_cV1i (np := 22) F dX4_sets_19 rfl cv_X4_refuse wM_X4_49 (fs hF rfl rfl) rfl (c_X4_refuse hF) (Nat.le_of_ble_eq_true rfl) (Nat.le_of_ble_eq_true rfl) <| rn_iret F Rr dX4_sets_22 ?_) (fun c5 => rn_iload_n (np := 9) F dX4_sets_8 rfl rfl <| rn_iload_n (np := 10) F dX4_sets_9 rfl rfl <| rn_cS2i (np := 13) F dX4_sets_10 rfl cs_X4_isSetting wM_X4_67 (c_X4_isSetting) (Nat.le_of_ble_eq_true rfl) (Nat.le_of_ble_eq_true rfl) <| rn_if_ne (tg := 23) (np := 16) F dX4_sets_13 rfl rfl (fun c13 => ?_) (fun c13 => rn_aload_n (np := 17) F dX4_sets_16 rfl rfl <| rn_bipush (np := 19) (v := (-2)) F dX4_sets_17 rfl rfl <| rn_cV1i (np := 22) F dX4_sets_19 rfl cv_X4_refuse wM_X4_49 (fs hF rfl rfl) rfl (c_X4_refuse hF) (Nat.le_of_ble_eq_true rfl) (Nat.le_of_ble_eq_true rfl) <| rn_iret F Rr dX4_sets_22 ?_))
  · exact ⟨rfl, rfl⟩
  · have q := bI_1 c5
    rw [hS.2.1] at q
    exact absurd ⟨q, bI_1 c13⟩ hv
  · exact ⟨rfl, rfl⟩
set_option maxRecDepth 20000 in
theorem o0_X4_sets {G : GxT} (hF : Full G) {h : HpT} {n i : Nat} {w : Int32} (hS : SI n h) (hi : i < n) {b : Nat} (hb : b < 6) (hw : w = nI b) : mci G yX4_sets cX4_sets 4 (some .int) 3 [.ref (gad G 0), .int (nI i), .int 0, .int w] h (h 2 i) (cano n (hs (scH h) 2 i w)) := by
  refine mc_of (by decide) (Nat.le_of_ble_eq_true rfl) (fun X hG F Rr hL => ?_)
  subst hG
  have F : FxT X cX4_sets RX4 3 := F
  show rn X 0 [(0, .ref (gad X.1 0)), (1, .int (nI i)), (2, .int 0), (3, .int w)] [] h
  refine rn_aload_n (np := 1) F dX4_sets_0 rfl rfl <| rn_iload_n (np := 2) F dX4_sets_1 rfl rfl <| rn_cV1i (np := 5) F dX4_sets_2 rfl cv_X4_isHouse wM_X4_64 (fs hF rfl rfl) rfl (c_X4_isHouse hF) (Nat.le_of_ble_eq_true rfl) (Nat.le_of_ble_eq_true rfl) <| rn_if_eq (tg := 16) (np := 8) F dX4_sets_5 rfl rfl (fun q => absurd q ((fun q => bI_0 q (by rw [hS.2.1]; exact hsI hi hS.1)))) (fun _ => rn_iload_n (np := 9) F dX4_sets_8 rfl rfl <| rn_iload_n (np := 10) F dX4_sets_9 rfl rfl <| rn_cS2i (np := 13) F dX4_sets_10 rfl cs_X4_isSetting wM_X4_67 (c_X4_isSetting) (Nat.le_of_ble_eq_true rfl) (Nat.le_of_ble_eq_true rfl) <| rn_if_ne (tg := 23) (np := 16) F dX4_sets_13 rfl rfl (fun _ => rn_aload_n (np := 24) F dX4_sets_23 rfl rfl <| rn_cV0v (np := 27) F dX4_sets_24 rfl cv_X4_streetChanges wM_X4_57 (fs hF rfl rfl) rfl (c_X4_streetChanges hF) (Nat.le_of_ble_eq_true rfl) (Nat.le_of_ble_eq_true rfl) <| rn_aload_n (np := 28) F dX4_sets_27 rfl rfl <| rn_getr (np := 31) F dX4_sets_28 rfl fF_X4_10 (fs hF rfl rfl) rfl <| rn_iload_n (np := 32) F dX4_sets_31 rfl rfl <| rn_iload_n (np := 33) F dX4_sets_32 rfl rfl <| rn_iload_n (np := 34) F dX4_sets_33 rfl rfl <| rn_cV3i (np := 37) F dX4_sets_34 rfl cv_X2_setHouse wM_X4_71 (fs hF rfl rfl) rfl (c_X2_setHouse0 hF (SI_sc hS) hi hb hw) (Nat.le_of_ble_eq_true rfl) (Nat.le_of_ble_eq_true rfl) <| rn_iret F Rr dX4_sets_37 ?_) (fun q => absurd q ((fun q => bI_0 q (Or.inl ⟨rfl, by rw [hw]; exact rgI (m := 5) (by omega) (by decide)⟩)))))
  all_goals exact ⟨rfl, rfl⟩
set_option maxRecDepth 20000 in
theorem o1_X4_sets {G : GxT} (hF : Full G) {h : HpT} {n i : Nat} {w : Int32} (hS : SI n h) (hi : i < n) (hw : 1 ≤ w ∧ w ≤ 20) : mci G yX4_sets cX4_sets 4 (some .int) 3 [.ref (gad G 0), .int (nI i), .int 1, .int w] h (h 3 i) (cano n (hs (scH h) 3 i w)) := by
  refine mc_of (by decide) (Nat.le_of_ble_eq_true rfl) (fun X hG F Rr hL => ?_)
  subst hG
  have F : FxT X cX4_sets RX4 3 := F
  show rn X 0 [(0, .ref (gad X.1 0)), (1, .int (nI i)), (2, .int 1), (3, .int w)] [] h
  refine rn_aload_n (np := 1) F dX4_sets_0 rfl rfl <| rn_iload_n (np := 2) F dX4_sets_1 rfl rfl <| rn_cV1i (np := 5) F dX4_sets_2 rfl cv_X4_isHouse wM_X4_64 (fs hF rfl rfl) rfl (c_X4_isHouse hF) (Nat.le_of_ble_eq_true rfl) (Nat.le_of_ble_eq_true rfl) <| rn_if_eq (tg := 16) (np := 8) F dX4_sets_5 rfl rfl (fun q => absurd q ((fun q => bI_0 q (by rw [hS.2.1]; exact hsI hi hS.1)))) (fun _ => rn_iload_n (np := 9) F dX4_sets_8 rfl rfl <| rn_iload_n (np := 10) F dX4_sets_9 rfl rfl <| rn_cS2i (np := 13) F dX4_sets_10 rfl cs_X4_isSetting wM_X4_67 (c_X4_isSetting) (Nat.le_of_ble_eq_true rfl) (Nat.le_of_ble_eq_true rfl) <| rn_if_ne (tg := 23) (np := 16) F dX4_sets_13 rfl rfl (fun _ => rn_aload_n (np := 24) F dX4_sets_23 rfl rfl <| rn_cV0v (np := 27) F dX4_sets_24 rfl cv_X4_streetChanges wM_X4_57 (fs hF rfl rfl) rfl (c_X4_streetChanges hF) (Nat.le_of_ble_eq_true rfl) (Nat.le_of_ble_eq_true rfl) <| rn_aload_n (np := 28) F dX4_sets_27 rfl rfl <| rn_getr (np := 31) F dX4_sets_28 rfl fF_X4_10 (fs hF rfl rfl) rfl <| rn_iload_n (np := 32) F dX4_sets_31 rfl rfl <| rn_iload_n (np := 33) F dX4_sets_32 rfl rfl <| rn_iload_n (np := 34) F dX4_sets_33 rfl rfl <| rn_cV3i (np := 37) F dX4_sets_34 rfl cv_X2_setHouse wM_X4_71 (fs hF rfl rfl) rfl (c_X2_setHouse1 hF (SI_sc hS) hi) (Nat.le_of_ble_eq_true rfl) (Nat.le_of_ble_eq_true rfl) <| rn_iret F Rr dX4_sets_37 ?_) (fun q => absurd q ((fun q => bI_0 q (Or.inr (Or.inl ⟨rfl, hw⟩))))))
  all_goals exact ⟨rfl, rfl⟩
set_option maxRecDepth 20000 in
theorem o2_X4_sets {G : GxT} (hF : Full G) {h : HpT} {n i : Nat} {w : Int32} (hS : SI n h) (hi : i < n) (hw : 0 ≤ w ∧ w ≤ 1) : mci G yX4_sets cX4_sets 4 (some .int) 3 [.ref (gad G 0), .int (nI i), .int 2, .int w] h (h 5 i) (cano n (hs (scH h) 5 i w)) := by
  refine mc_of (by decide) (Nat.le_of_ble_eq_true rfl) (fun X hG F Rr hL => ?_)
  subst hG
  have F : FxT X cX4_sets RX4 3 := F
  show rn X 0 [(0, .ref (gad X.1 0)), (1, .int (nI i)), (2, .int 2), (3, .int w)] [] h
  refine rn_aload_n (np := 1) F dX4_sets_0 rfl rfl <| rn_iload_n (np := 2) F dX4_sets_1 rfl rfl <| rn_cV1i (np := 5) F dX4_sets_2 rfl cv_X4_isHouse wM_X4_64 (fs hF rfl rfl) rfl (c_X4_isHouse hF) (Nat.le_of_ble_eq_true rfl) (Nat.le_of_ble_eq_true rfl) <| rn_if_eq (tg := 16) (np := 8) F dX4_sets_5 rfl rfl (fun q => absurd q ((fun q => bI_0 q (by rw [hS.2.1]; exact hsI hi hS.1)))) (fun _ => rn_iload_n (np := 9) F dX4_sets_8 rfl rfl <| rn_iload_n (np := 10) F dX4_sets_9 rfl rfl <| rn_cS2i (np := 13) F dX4_sets_10 rfl cs_X4_isSetting wM_X4_67 (c_X4_isSetting) (Nat.le_of_ble_eq_true rfl) (Nat.le_of_ble_eq_true rfl) <| rn_if_ne (tg := 23) (np := 16) F dX4_sets_13 rfl rfl (fun _ => rn_aload_n (np := 24) F dX4_sets_23 rfl rfl <| rn_cV0v (np := 27) F dX4_sets_24 rfl cv_X4_streetChanges wM_X4_57 (fs hF rfl rfl) rfl (c_X4_streetChanges hF) (Nat.le_of_ble_eq_true rfl) (Nat.le_of_ble_eq_true rfl) <| rn_aload_n (np := 28) F dX4_sets_27 rfl rfl <| rn_getr (np := 31) F dX4_sets_28 rfl fF_X4_10 (fs hF rfl rfl) rfl <| rn_iload_n (np := 32) F dX4_sets_31 rfl rfl <| rn_iload_n (np := 33) F dX4_sets_32 rfl rfl <| rn_iload_n (np := 34) F dX4_sets_33 rfl rfl <| rn_cV3i (np := 37) F dX4_sets_34 rfl cv_X2_setHouse wM_X4_71 (fs hF rfl rfl) rfl (c_X2_setHouse2 hF (SI_sc hS) hi) (Nat.le_of_ble_eq_true rfl) (Nat.le_of_ble_eq_true rfl) <| rn_iret F Rr dX4_sets_37 ?_) (fun q => absurd q ((fun q => bI_0 q (Or.inr (Or.inr ⟨rfl, hw⟩))))))
  all_goals exact ⟨rfl, rfl⟩
set_option maxRecDepth 20000 in
theorem b_X4_weight {G : GxT} (hF : Full G) {h : HpT} {t v : Int32} (hv : ¬ ((0 ≤ t ∧ t ≤ 5) ∧ (0 ≤ v ∧ v ≤ 9))) : mci G yX4_weight cX4_weight 4 (some .int) 2 [.ref (gad G 0), .int t, .int v] h (-2) (refC h (-2)) := by
  refine mc_of (by decide) (Nat.le_of_ble_eq_true rfl) (fun X hG F Rr hL => ?_)
  subst hG
  have F : FxT X cX4_weight RX4 2 := F
  show rn X 0 [(0, .ref (gad X.1 0)), (1, .int t), (2, .int v)] [] h
  refine rn_iload_n (np := 1) F dX4_weight_0 rfl rfl <| rn_cS1i (np := 4) F dX4_weight_1 rfl cs_X4_isHour wM_X4_74 (c_X4_isHour) (Nat.le_of_ble_eq_true rfl) (Nat.le_of_ble_eq_true rfl) <| rn_if_eq (tg := 17) (np := 7) F dX4_weight_4 rfl rfl (fun c4 => rn_aload_n (np := 18) F dX4_weight_17 rfl rfl <| rn_bipush (np := 20) (v := (-2)) F dX4_weight_18 rfl rfl <| rn_cV1i (np := 23) F dX4_weight_20 rfl cv_X4_refuse wM_X4_49 (fs hF rfl rfl) rfl (c_X4_refuse hF) (Nat.le_of_ble_eq_true rfl) (Nat.le_of_ble_eq_true rfl) <| rn_iret F Rr dX4_weight_23 ?_) (fun c4 => rn_iload_n (np := 8) F dX4_weight_7 rfl rfl <| rn_iconst (np := 9) (v := 0) F dX4_weight_8 rfl rfl <| rn_bipush (np := 11) (v := 9) F dX4_weight_9 rfl rfl <| rn_cS3i (np := 14) F dX4_weight_11 rfl cs_X4_isIn wM_X4_77 (c_X4_isIn) (Nat.le_of_ble_eq_true rfl) (Nat.le_of_ble_eq_true rfl) <| rn_if_ne (tg := 24) (np := 17) F dX4_weight_14 rfl rfl (fun c14 => ?_) (fun c14 => rn_aload_n (np := 18) F dX4_weight_17 rfl rfl <| rn_bipush (np := 20) (v := (-2)) F dX4_weight_18 rfl rfl <| rn_cV1i (np := 23) F dX4_weight_20 rfl cv_X4_refuse wM_X4_49 (fs hF rfl rfl) rfl (c_X4_refuse hF) (Nat.le_of_ble_eq_true rfl) (Nat.le_of_ble_eq_true rfl) <| rn_iret F Rr dX4_weight_23 ?_))
  all_goals first | exact ⟨rfl, rfl⟩ | exact absurd ⟨bI_1 c4, bI_1 c14⟩ hv
set_option maxRecDepth 20000 in
theorem o_X4_weight {G : GxT} (hF : Full G) {h : HpT} {t : Nat} {v : Int32} (ht : t < 6) (hv : 0 ≤ v ∧ v ≤ 9) : mci G yX4_weight cX4_weight 4 (some .int) 2 [.ref (gad G 0), .int (nI t), .int v] h (h 9 t) (hs (scH h) 9 t v) := by
  refine mc_of (by decide) (Nat.le_of_ble_eq_true rfl) (fun X hG F Rr hL => ?_)
  subst hG
  have F : FxT X cX4_weight RX4 2 := F
  show rn X 0 [(0, .ref (gad X.1 0)), (1, .int (nI t)), (2, .int v)] [] h
  refine rn_iload_n (np := 1) F dX4_weight_0 rfl rfl <| rn_cS1i (np := 4) F dX4_weight_1 rfl cs_X4_isHour wM_X4_74 (c_X4_isHour) (Nat.le_of_ble_eq_true rfl) (Nat.le_of_ble_eq_true rfl) <| rn_if_eq (tg := 17) (np := 7) F dX4_weight_4 rfl rfl (fun q => absurd q ((fun q => bI_0 q (rgI (m := 5) (by omega) (by decide))))) (fun _ => rn_iload_n (np := 8) F dX4_weight_7 rfl rfl <| rn_iconst (np := 9) (v := 0) F dX4_weight_8 rfl rfl <| rn_bipush (np := 11) (v := 9) F dX4_weight_9 rfl rfl <| rn_cS3i (np := 14) F dX4_weight_11 rfl cs_X4_isIn wM_X4_77 (c_X4_isIn) (Nat.le_of_ble_eq_true rfl) (Nat.le_of_ble_eq_true rfl) <| rn_if_ne (tg := 24) (np := 17) F dX4_weight_14 rfl rfl (fun _ => rn_aload_n (np := 25) F dX4_weight_24 rfl rfl <| rn_cV0v (np := 28) F dX4_weight_25 rfl cv_X4_streetChanges wM_X4_57 (fs hF rfl rfl) rfl (c_X4_streetChanges hF) (Nat.le_of_ble_eq_true rfl) (Nat.le_of_ble_eq_true rfl) <| rn_aload_n (np := 29) F dX4_weight_28 rfl rfl <| rn_getr (np := 32) F dX4_weight_29 rfl fF_X4_10 (fs hF rfl rfl) rfl <| rn_getr (np := 35) F dX4_weight_32 rfl fF_X4_81 (fs hF rfl rfl) rfl <| rn_iload_n (np := 36) F dX4_weight_35 rfl rfl <| rn_ialdN (np := 37) F dX4_weight_36 rfl (fs hF rfl rfl) rfl (by omega) <| rn_istore_n (np := 38) F dX4_weight_37 rfl hL rfl <| rn_aload_n (np := 39) F dX4_weight_38 rfl rfl <| rn_getr (np := 42) F dX4_weight_39 rfl fF_X4_10 (fs hF rfl rfl) rfl <| rn_getr (np := 45) F dX4_weight_42 rfl fF_X4_81 (fs hF rfl rfl) rfl <| rn_iload_n (np := 46) F dX4_weight_45 rfl rfl <| rn_iload_n (np := 47) F dX4_weight_46 rfl rfl <| rn_iastN (np := 48) F dX4_weight_47 rfl (fs hF rfl rfl) rfl (by omega) <| rn_iload_n (np := 49) F dX4_weight_48 rfl rfl <| rn_iret F Rr dX4_weight_49 ?_) (fun q => absurd q ((fun q => bI_0 q hv))))
  all_goals exact ⟨rfl, rfl⟩
set_option maxRecDepth 20000 in
theorem b_X4_fuse {G : GxT} (hF : Full G) {h : HpT} {v : Int32} (hv : ¬ (1 ≤ v ∧ v ≤ 400)) : mci G yX4_fuse cX4_fuse 3 (some .int) 2 [.ref (gad G 0), .int v] h (-2) (refC h (-2)) := by
  refine mc_of (by decide) (Nat.le_of_ble_eq_true rfl) (fun X hG F Rr hL => ?_)
  subst hG
  have F : FxT X cX4_fuse RX4 2 := F
  show rn X 0 [(0, .ref (gad X.1 0)), (1, .int v)] [] h
  refine rn_iload_n (np := 1) F dX4_fuse_0 rfl rfl <| rn_iconst (np := 2) (v := 1) F dX4_fuse_1 rfl rfl <| rn_sipush (np := 5) (v := 400) F dX4_fuse_2 rfl rfl <| rn_cS3i (np := 8) F dX4_fuse_5 rfl cs_X4_isIn wM_X4_77 (c_X4_isIn) (Nat.le_of_ble_eq_true rfl) (Nat.le_of_ble_eq_true rfl) <| rn_if_ne (tg := 18) (np := 11) F dX4_fuse_8 rfl rfl (fun c8 => ?_) (fun c8 => rn_aload_n (np := 12) F dX4_fuse_11 rfl rfl <| rn_bipush (np := 14) (v := (-2)) F dX4_fuse_12 rfl rfl <| rn_cV1i (np := 17) F dX4_fuse_14 rfl cv_X4_refuse wM_X4_49 (fs hF rfl rfl) rfl (c_X4_refuse hF) (Nat.le_of_ble_eq_true rfl) (Nat.le_of_ble_eq_true rfl) <| rn_iret F Rr dX4_fuse_17 ?_)
  all_goals first | exact ⟨rfl, rfl⟩ | exact absurd (bI_1 c8) hv
set_option maxRecDepth 20000 in
theorem o_X4_fuse {G : GxT} (hF : Full G) {h : HpT} {v : Int32} (hv : 1 ≤ v ∧ v ≤ 400) : mci G yX4_fuse cX4_fuse 3 (some .int) 2 [.ref (gad G 0), .int v] h (h 1 11) (hs (scH h) 1 11 v) := by
  refine mc_of (by decide) (Nat.le_of_ble_eq_true rfl) (fun X hG F Rr hL => ?_)
  subst hG
  have F : FxT X cX4_fuse RX4 2 := F
  show rn X 0 [(0, .ref (gad X.1 0)), (1, .int v)] [] h
  refine rn_iload_n (np := 1) F dX4_fuse_0 rfl rfl <| rn_iconst (np := 2) (v := 1) F dX4_fuse_1 rfl rfl <| rn_sipush (np := 5) (v := 400) F dX4_fuse_2 rfl rfl <| rn_cS3i (np := 8) F dX4_fuse_5 rfl cs_X4_isIn wM_X4_77 (c_X4_isIn) (Nat.le_of_ble_eq_true rfl) (Nat.le_of_ble_eq_true rfl) <| rn_if_ne (tg := 18) (np := 11) F dX4_fuse_8 rfl rfl (fun _ => rn_aload_n (np := 19) F dX4_fuse_18 rfl rfl <| rn_cV0v (np := 22) F dX4_fuse_19 rfl cv_X4_streetChanges wM_X4_57 (fs hF rfl rfl) rfl (c_X4_streetChanges hF) (Nat.le_of_ble_eq_true rfl) (Nat.le_of_ble_eq_true rfl) <| rn_aload_n (np := 23) F dX4_fuse_22 rfl rfl <| rn_getr (np := 26) F dX4_fuse_23 rfl fF_X4_10 (fs hF rfl rfl) rfl <| rn_getf (np := 29) F dX4_fuse_26 rfl fF_X4_85 (fs hF rfl rfl) rfl <| rn_istore_n (np := 30) F dX4_fuse_29 rfl hL rfl <| rn_aload_n (np := 31) F dX4_fuse_30 rfl rfl <| rn_getr (np := 34) F dX4_fuse_31 rfl fF_X4_10 (fs hF rfl rfl) rfl <| rn_iload_n (np := 35) F dX4_fuse_34 rfl rfl <| rn_putf (np := 38) F dX4_fuse_35 rfl fP_X4_85 (fs hF rfl rfl) rfl rfl rfl <| rn_iload_n (np := 39) F dX4_fuse_38 rfl rfl <| rn_iret F Rr dX4_fuse_39 ?_) (fun q => absurd q ((fun q => bI_0 q hv)))
  all_goals exact ⟨rfl, rfl⟩
set_option maxRecDepth 20000 in
theorem b_X4_tie {G : GxT} (hF : Full G) {h : HpT} {n : Nat} {v u : Int32} (hS : SI n h) (hv : ¬ (inH n v ∧ inH n u ∧ v ≠ u)) : mci G yX4_tie cX4_tie 3 (some .int) 3 [.ref (gad G 0), .int v, .int u] h (-2) (refC h (-2)) := by
  refine mc_of (by decide) (Nat.le_of_ble_eq_true rfl) (fun X hG F Rr hL => ?_)
  subst hG
  have F : FxT X cX4_tie RX4 3 := F
  show rn X 0 [(0, .ref (gad X.1 0)), (1, .int v), (2, .int u)] [] h
  refine rn_aload_n (np := 1) F dX4_tie_0 rfl rfl <| rn_iload_n (np := 2) F dX4_tie_1 rfl rfl <| rn_iload_n (np := 3) F dX4_tie_2 rfl rfl <| rn_cV2i (np := 6) F dX4_tie_3 rfl cv_X4_areTwoHouses wM_X4_88 (fs hF rfl rfl) rfl (c_X4_areTwoHouses hF) (Nat.le_of_ble_eq_true rfl) (Nat.le_of_ble_eq_true rfl) <| rn_if_ne (tg := 16) (np := 9) F dX4_tie_6 rfl rfl (fun c6 => ?_) (fun c6 => rn_aload_n (np := 10) F dX4_tie_9 rfl rfl <| rn_bipush (np := 12) (v := (-2)) F dX4_tie_10 rfl rfl <| rn_cV1i (np := 15) F dX4_tie_12 rfl cv_X4_refuse wM_X4_49 (fs hF rfl rfl) rfl (c_X4_refuse hF) (Nat.le_of_ble_eq_true rfl) (Nat.le_of_ble_eq_true rfl) <| rn_iret F Rr dX4_tie_15 ?_)
  · have q := bI_1 c6
    rw [hS.2.1] at q
    exact absurd q hv
  · exact ⟨rfl, rfl⟩
set_option maxRecDepth 20000 in
theorem n_X4_tie {G : GxT} (hF : Full G) {h : HpT} {n i o : Nat} (hS : SI n h) (hi : i < n) (ho : o < n) (hio : i ≠ o) (he : h 6 i = h 6 o) : mci G yX4_tie cX4_tie 3 (some .int) 3 [.ref (gad G 0), .int (nI i), .int (nI o)] h (-3) (refC h (-3)) := by
  refine mc_of (by decide) (Nat.le_of_ble_eq_true rfl) (fun X hG F Rr hL => ?_)
  subst hG
  have F : FxT X cX4_tie RX4 3 := F
  show rn X 0 [(0, .ref (gad X.1 0)), (1, .int (nI i)), (2, .int (nI o))] [] h
  have hn := hS.1
  refine rn_aload_n (np := 1) F dX4_tie_0 rfl rfl <| rn_iload_n (np := 2) F dX4_tie_1 rfl rfl <| rn_iload_n (np := 3) F dX4_tie_2 rfl rfl <| rn_cV2i (np := 6) F dX4_tie_3 rfl cv_X4_areTwoHouses wM_X4_88 (fs hF rfl rfl) rfl (c_X4_areTwoHouses hF) (Nat.le_of_ble_eq_true rfl) (Nat.le_of_ble_eq_true rfl) <| rn_if_ne (tg := 16) (np := 9) F dX4_tie_6 rfl rfl (fun _ => rn_aload_n (np := 17) F dX4_tie_16 rfl rfl <| rn_getr (np := 20) F dX4_tie_17 rfl fF_X4_10 (fs hF rfl rfl) rfl <| rn_getr (np := 23) F dX4_tie_20 rfl fF_X4_91 (fs hF rfl rfl) rfl <| rn_iload_n (np := 24) F dX4_tie_23 rfl rfl <| rn_ialdN (np := 25) F dX4_tie_24 rfl (fs hF rfl rfl) rfl (by omega) <| rn_aload_n (np := 26) F dX4_tie_25 rfl rfl <| rn_getr (np := 29) F dX4_tie_26 rfl fF_X4_10 (fs hF rfl rfl) rfl <| rn_getr (np := 32) F dX4_tie_29 rfl fF_X4_91 (fs hF rfl rfl) rfl <| rn_iload_n (np := 33) F dX4_tie_32 rfl rfl <| rn_ialdN (np := 34) F dX4_tie_33 rfl (fs hF rfl rfl) rfl (by omega) <| rn_icmp_ne (tg := 44) (np := 37) F dX4_tie_34 rfl rfl (fun q => absurd q ((fun q => q he))) (fun _ => rn_aload_n (np := 38) F dX4_tie_37 rfl rfl <| rn_bipush (np := 40) (v := (-3)) F dX4_tie_38 rfl rfl <| rn_cV1i (np := 43) F dX4_tie_40 rfl cv_X4_refuse wM_X4_49 (fs hF rfl rfl) rfl (c_X4_refuse hF) (Nat.le_of_ble_eq_true rfl) (Nat.le_of_ble_eq_true rfl) <| rn_iret F Rr dX4_tie_43 ?_)) (fun q => absurd q ((fun q => bI_0 q (by rw [hS.2.1]; exact ⟨hsI hi hS.1, hsI ho hS.1, fun e => hio ((nI_eqs (by have := hS.1; omega) (by have := hS.1; omega)).mp e)⟩))))
  all_goals exact ⟨rfl, rfl⟩
set_option maxRecDepth 20000 in
theorem f_X4_tie {G : GxT} (hF : Full G) {h : HpT} {n i o q : Nat} (hS : SI n h) (hi : i < n) (ho : o < n) (hio : i ≠ o) (he : ¬ h 6 i = h 6 o) (hq : q = 6) (eq : h 1 10 = nI q) : mci G yX4_tie cX4_tie 3 (some .int) 3 [.ref (gad G 0), .int (nI i), .int (nI o)] h (-4) (refC h (-4)) := by
  refine mc_of (by decide) (Nat.le_of_ble_eq_true rfl) (fun X hG F Rr hL => ?_)
  subst hG
  have F : FxT X cX4_tie RX4 3 := F
  show rn X 0 [(0, .ref (gad X.1 0)), (1, .int (nI i)), (2, .int (nI o))] [] h
  have hn := hS.1
  refine rn_aload_n (np := 1) F dX4_tie_0 rfl rfl <| rn_iload_n (np := 2) F dX4_tie_1 rfl rfl <| rn_iload_n (np := 3) F dX4_tie_2 rfl rfl <| rn_cV2i (np := 6) F dX4_tie_3 rfl cv_X4_areTwoHouses wM_X4_88 (fs hF rfl rfl) rfl (c_X4_areTwoHouses hF) (Nat.le_of_ble_eq_true rfl) (Nat.le_of_ble_eq_true rfl) <| rn_if_ne (tg := 16) (np := 9) F dX4_tie_6 rfl rfl (fun _ => rn_aload_n (np := 17) F dX4_tie_16 rfl rfl <| rn_getr (np := 20) F dX4_tie_17 rfl fF_X4_10 (fs hF rfl rfl) rfl <| rn_getr (np := 23) F dX4_tie_20 rfl fF_X4_91 (fs hF rfl rfl) rfl <| rn_iload_n (np := 24) F dX4_tie_23 rfl rfl <| rn_ialdN (np := 25) F dX4_tie_24 rfl (fs hF rfl rfl) rfl (by omega) <| rn_aload_n (np := 26) F dX4_tie_25 rfl rfl <| rn_getr (np := 29) F dX4_tie_26 rfl fF_X4_10 (fs hF rfl rfl) rfl <| rn_getr (np := 32) F dX4_tie_29 rfl fF_X4_91 (fs hF rfl rfl) rfl <| rn_iload_n (np := 33) F dX4_tie_32 rfl rfl <| rn_ialdN (np := 34) F dX4_tie_33 rfl (fs hF rfl rfl) rfl (by omega) <| rn_icmp_ne (tg := 44) (np := 37) F dX4_tie_34 rfl rfl (fun _ => rn_aload_n (np := 45) F dX4_tie_44 rfl rfl <| rn_getr (np := 48) F dX4_tie_45 rfl fF_X4_10 (fs hF rfl rfl) rfl <| rn_getfE (np := 51) F dX4_tie_48 rfl fF_X4_94 (fs hF rfl rfl) rfl eq <| rn_bipush (np := 53) (v := 6) F dX4_tie_51 rfl rfl <| rn_Nlt (tg := 63) (np := 56) (b := 6) F dX4_tie_53 rfl rfl rfl rfl (by omega) (fun q => absurd q ((by omega))) (fun _ => rn_aload_n (np := 57) F dX4_tie_56 rfl rfl <| rn_bipush (np := 59) (v := (-4)) F dX4_tie_57 rfl rfl <| rn_cV1i (np := 62) F dX4_tie_59 rfl cv_X4_refuse wM_X4_49 (fs hF rfl rfl) rfl (c_X4_refuse hF) (Nat.le_of_ble_eq_true rfl) (Nat.le_of_ble_eq_true rfl) <| rn_iret F Rr dX4_tie_62 ?_)) (fun q => absurd q (he))) (fun q => absurd q ((fun q => bI_0 q (by rw [hS.2.1]; exact ⟨hsI hi hS.1, hsI ho hS.1, fun e => hio ((nI_eqs (by have := hS.1; omega) (by have := hS.1; omega)).mp e)⟩))))
  all_goals exact ⟨rfl, rfl⟩
set_option maxRecDepth 20000 in
theorem o_X4_tie {G : GxT} (hF : Full G) {h : HpT} {n i o q : Nat} (hS : SI n h) (hi : i < n) (ho : o < n) (hio : i ≠ o) (he : ¬ h 6 i = h 6 o) (hq : q < 6) (eq : h 1 10 = nI q) : mci G yX4_tie cX4_tie 3 (some .int) 3 [.ref (gad G 0), .int (nI i), .int (nI o)] h (nI (q + 1)) (va_up (hs (hs (hs (scH h) 7 q (nI i)) 8 q (nI o)) 1 10 (nI (q + 1))) 6 (mgF (h 6) (if h 6 o < h 6 i then h 6 o else h 6 i) (if h 6 i < h 6 o then h 6 o else h 6 i) n)) := by
  refine mc_of (by decide) (Nat.le_of_ble_eq_true rfl) (fun X hG F Rr hL => ?_)
  subst hG
  have F : FxT X cX4_tie RX4 3 := F
  show rn X 0 [(0, .ref (gad X.1 0)), (1, .int (nI i)), (2, .int (nI o))] [] h
  have hn := hS.1
  refine rn_aload_n (np := 1) F dX4_tie_0 rfl rfl <| rn_iload_n (np := 2) F dX4_tie_1 rfl rfl <| rn_iload_n (np := 3) F dX4_tie_2 rfl rfl <| rn_cV2i (np := 6) F dX4_tie_3 rfl cv_X4_areTwoHouses wM_X4_88 (fs hF rfl rfl) rfl (c_X4_areTwoHouses hF) (Nat.le_of_ble_eq_true rfl) (Nat.le_of_ble_eq_true rfl) <| rn_if_ne (tg := 16) (np := 9) F dX4_tie_6 rfl rfl (fun _ => rn_aload_n (np := 17) F dX4_tie_16 rfl rfl <| rn_getr (np := 20) F dX4_tie_17 rfl fF_X4_10 (fs hF rfl rfl) rfl <| rn_getr (np := 23) F dX4_tie_20 rfl fF_X4_91 (fs hF rfl rfl) rfl <| rn_iload_n (np := 24) F dX4_tie_23 rfl rfl <| rn_ialdN (np := 25) F dX4_tie_24 rfl (fs hF rfl rfl) rfl (by omega) <| rn_aload_n (np := 26) F dX4_tie_25 rfl rfl <| rn_getr (np := 29) F dX4_tie_26 rfl fF_X4_10 (fs hF rfl rfl) rfl <| rn_getr (np := 32) F dX4_tie_29 rfl fF_X4_91 (fs hF rfl rfl) rfl <| rn_iload_n (np := 33) F dX4_tie_32 rfl rfl <| rn_ialdN (np := 34) F dX4_tie_33 rfl (fs hF rfl rfl) rfl (by omega) <| rn_icmp_ne (tg := 44) (np := 37) F dX4_tie_34 rfl rfl (fun _ => rn_aload_n (np := 45) F dX4_tie_44 rfl rfl <| rn_getr (np := 48) F dX4_tie_45 rfl fF_X4_10 (fs hF rfl rfl) rfl <| rn_getfE (np := 51) F dX4_tie_48 rfl fF_X4_94 (fs hF rfl rfl) rfl eq <| rn_bipush (np := 53) (v := 6) F dX4_tie_51 rfl rfl <| rn_Nlt (tg := 63) (np := 56) (b := 6) F dX4_tie_53 rfl rfl rfl rfl (by omega) (fun _ => rn_aload_n (np := 64) F dX4_tie_63 rfl rfl <| rn_cV0v (np := 67) F dX4_tie_64 rfl cv_X4_streetChanges wM_X4_57 (fs hF rfl rfl) rfl (c_X4_streetChanges hF) (Nat.le_of_ble_eq_true rfl) (Nat.le_of_ble_eq_true rfl) <| rn_aload_n (np := 68) F dX4_tie_67 rfl rfl <| rn_getr (np := 71) F dX4_tie_68 rfl fF_X4_10 (fs hF rfl rfl) rfl <| rn_iload_n (np := 72) F dX4_tie_71 rfl rfl <| rn_iload_n (np := 73) F dX4_tie_72 rfl rfl <| rn_cV2v (np := 76) F dX4_tie_73 rfl cv_X2_addPair wM_X4_97 (fs hF rfl rfl) rfl (c_X2_addPair (n := n) (q := q) hF hS.1 hS.2.1 hi ho hq eq) (Nat.le_of_ble_eq_true rfl) (Nat.le_of_ble_eq_true rfl) <| rn_aload_n (np := 77) F dX4_tie_76 rfl rfl <| rn_getr (np := 80) F dX4_tie_77 rfl fF_X4_10 (fs hF rfl rfl) rfl <| rn_getfE (np := 83) F dX4_tie_80 rfl fF_X4_94 (fs hF rfl rfl) rfl (show _ = nI (q + 1) from rfl) <| rn_iret F Rr dX4_tie_83 ?_) (fun q => absurd q ((fun z => z hq)))) (fun q => absurd q (he))) (fun q => absurd q ((fun q => bI_0 q (by rw [hS.2.1]; exact ⟨hsI hi hS.1, hsI ho hS.1, fun e => hio ((nI_eqs (by have := hS.1; omega) (by have := hS.1; omega)).mp e)⟩))))
  all_goals exact ⟨rfl, rfl⟩
set_option maxRecDepth 20000 in
theorem c_X4_loosens {G : GxT} (hF : Full G) {h : HpT} {n : Nat} (hS : SI n h) : mci G yX4_loosens cX4_loosens 2 (some .int) 2 [.ref (gad G 0)] h (h 1 10) (va_up (hs (scH h) 1 10 0) 6 (idF (h 6) n)) := by
  refine mc_of (by decide) (Nat.le_of_ble_eq_true rfl) (fun X hG F Rr hL => ?_)
  subst hG
  have F : FxT X cX4_loosens RX4 2 := F
  show rn X 0 [(0, .ref (gad X.1 0))] [] h
  refine rn_aload_n (np := 1) F dX4_loosens_0 rfl rfl <| rn_cV0v (np := 4) F dX4_loosens_1 rfl cv_X4_streetChanges wM_X4_57 (fs hF rfl rfl) rfl (c_X4_streetChanges hF) (Nat.le_of_ble_eq_true rfl) (Nat.le_of_ble_eq_true rfl) <| rn_aload_n (np := 5) F dX4_loosens_4 rfl rfl <| rn_getr (np := 8) F dX4_loosens_5 rfl fF_X4_10 (fs hF rfl rfl) rfl <| rn_getf (np := 11) F dX4_loosens_8 rfl fF_X4_94 (fs hF rfl rfl) rfl <| rn_istore_n (np := 12) F dX4_loosens_11 rfl hL rfl <| rn_aload_n (np := 13) F dX4_loosens_12 rfl rfl <| rn_getr (np := 16) F dX4_loosens_13 rfl fF_X4_10 (fs hF rfl rfl) rfl <| rn_cV0v (np := 19) F dX4_loosens_16 rfl cv_X2_dropPairs wM_X4_101 (fs hF rfl rfl) rfl (c_X2_dropPairs (n := n) hF hS.1 hS.2.1) (Nat.le_of_ble_eq_true rfl) (Nat.le_of_ble_eq_true rfl) <| rn_iload_n (np := 20) F dX4_loosens_19 rfl rfl <| rn_iret F Rr dX4_loosens_20 ?_
  all_goals exact ⟨rfl, rfl⟩
set_option maxRecDepth 20000 in
theorem c_X4_anew {G : GxT} (hF : Full G) {h : HpT} {n : Nat} (hS : SI n h) : mci G yX4_anew cX4_anew 2 (some .int) 2 [.ref (gad G 0)] h (h 1 9) (hs (va_up (va_up (hs (va_up (hs (scH h) 1 10 0) 6 (idF (h 6) n)) 1 9 0) 10 (fillF (h 10) 18 0)) 9 (fillF (h 9) 6 1)) 1 11 400) := by
  refine mc_of (by decide) (Nat.le_of_ble_eq_true rfl) (fun X hG F Rr hL => ?_)
  subst hG
  have F : FxT X cX4_anew RX4 2 := F
  show rn X 0 [(0, .ref (gad X.1 0))] [] h
  refine rn_aload_n (np := 1) F dX4_anew_0 rfl rfl <| rn_cV0v (np := 4) F dX4_anew_1 rfl cv_X4_streetChanges wM_X4_57 (fs hF rfl rfl) rfl (c_X4_streetChanges hF) (Nat.le_of_ble_eq_true rfl) (Nat.le_of_ble_eq_true rfl) <| rn_aload_n (np := 5) F dX4_anew_4 rfl rfl <| rn_getr (np := 8) F dX4_anew_5 rfl fF_X4_10 (fs hF rfl rfl) rfl <| rn_getf (np := 11) F dX4_anew_8 rfl fF_X4_53 (fs hF rfl rfl) rfl <| rn_istore_n (np := 12) F dX4_anew_11 rfl hL rfl <| rn_aload_n (np := 13) F dX4_anew_12 rfl rfl <| rn_getr (np := 16) F dX4_anew_13 rfl fF_X4_10 (fs hF rfl rfl) rfl <| rn_cV0v (np := 19) F dX4_anew_16 rfl cv_X2_dropHouses wM_X4_104 (fs hF rfl rfl) rfl (c_X2_dropHouses (n := n) hF hS.1 hS.2.1) (Nat.le_of_ble_eq_true rfl) (Nat.le_of_ble_eq_true rfl) <| rn_aload_n (np := 20) F dX4_anew_19 rfl rfl <| rn_getr (np := 23) F dX4_anew_20 rfl fF_X4_10 (fs hF rfl rfl) rfl <| rn_cV0v (np := 26) F dX4_anew_23 rfl cv_X2_resetLimits wM_X4_107 (fs hF rfl rfl) rfl (c_X2_resetLimits hF) (Nat.le_of_ble_eq_true rfl) (Nat.le_of_ble_eq_true rfl) <| rn_iload_n (np := 27) F dX4_anew_26 rfl rfl <| rn_iret F Rr dX4_anew_27 ?_
  all_goals exact ⟨rfl, rfl⟩
end

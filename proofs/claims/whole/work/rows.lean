section
-- ===== PART A: goes FIRST, ahead of the names: the tables' words, and 'selects' of the private methods out of them =====
/-- a private method of a class that the tables say can be made, by its rows of tables_1 -/
def lw_okq (q : MethodName × Nat) : Prop := (q.1.cls ≠ "java/lang/invoke/MethodHandle" ∧ q.1.cls ≠ "java/lang/invoke/VarHandle") ∧ Cond.instantiable q.1.cls q.2 ∈ tables_1 ∧ Cond.privateMethod q.1 ∈ tables_1 ∧ Cond.instanceMethod q.1 ∈ tables_1
theorem lw_p0 : lw_okq (⟨"HallBuilds$History", "stateAt", "(I)LHallBuilds$Hall;"⟩, 3) := ⟨⟨by decide +kernel, by decide +kernel⟩, List.mem_of_getElem? (i := 147) (by decide +kernel), List.mem_of_getElem? (i := 263) (by decide +kernel), List.mem_of_getElem? (i := 264) (by decide +kernel)⟩
theorem lw_p1 : lw_okq (⟨"HallBuilds$Hall", "passOneHour", "()I"⟩, 7) := ⟨⟨by decide +kernel, by decide +kernel⟩, List.mem_of_getElem? (i := 21) (by decide +kernel), List.mem_of_getElem? (i := 369) (by decide +kernel), List.mem_of_getElem? (i := 370) (by decide +kernel)⟩
theorem lw_p2 : lw_okq (⟨"HallBuilds$Hall", "lorriesLeave", "()V"⟩, 7) := ⟨⟨by decide +kernel, by decide +kernel⟩, List.mem_of_getElem? (i := 21) (by decide +kernel), List.mem_of_getElem? (i := 373) (by decide +kernel), List.mem_of_getElem? (i := 374) (by decide +kernel)⟩
theorem lw_p3 : lw_okq (⟨"HallBuilds$Hall", "lorriesCome", "()V"⟩, 7) := ⟨⟨by decide +kernel, by decide +kernel⟩, List.mem_of_getElem? (i := 21) (by decide +kernel), List.mem_of_getElem? (i := 377) (by decide +kernel), List.mem_of_getElem? (i := 378) (by decide +kernel)⟩
theorem lw_p4 : lw_okq (⟨"HallBuilds$Hall", "crewsTakeStands", "()V"⟩, 7) := ⟨⟨by decide +kernel, by decide +kernel⟩, List.mem_of_getElem? (i := 21) (by decide +kernel), List.mem_of_getElem? (i := 385) (by decide +kernel), List.mem_of_getElem? (i := 386) (by decide +kernel)⟩
theorem lw_p5 : lw_okq (⟨"HallBuilds$Hall", "beginToDismantle", "(I)V"⟩, 7) := ⟨⟨by decide +kernel, by decide +kernel⟩, List.mem_of_getElem? (i := 21) (by decide +kernel), List.mem_of_getElem? (i := 405) (by decide +kernel), List.mem_of_getElem? (i := 406) (by decide +kernel)⟩
theorem lw_p6 : lw_okq (⟨"HallBuilds$Hall", "takeOffPhase", "(I)V"⟩, 7) := ⟨⟨by decide +kernel, by decide +kernel⟩, List.mem_of_getElem? (i := 21) (by decide +kernel), List.mem_of_getElem? (i := 409) (by decide +kernel), List.mem_of_getElem? (i := 410) (by decide +kernel)⟩
theorem lw_p7 : lw_okq (⟨"HallBuilds$Hall", "crewsWork", "(I)I"⟩, 7) := ⟨⟨by decide +kernel, by decide +kernel⟩, List.mem_of_getElem? (i := 21) (by decide +kernel), List.mem_of_getElem? (i := 413) (by decide +kernel), List.mem_of_getElem? (i := 414) (by decide +kernel)⟩
theorem lw_p8 : lw_okq (⟨"HallBuilds$Hall", "finish", "(II)V"⟩, 7) := ⟨⟨by decide +kernel, by decide +kernel⟩, List.mem_of_getElem? (i := 21) (by decide +kernel), List.mem_of_getElem? (i := 420) (by decide +kernel), List.mem_of_getElem? (i := 421) (by decide +kernel)⟩
theorem lw_p9 : lw_okq (⟨"HallBuilds$Hall", "putOnPhase", "(I)V"⟩, 7) := ⟨⟨by decide +kernel, by decide +kernel⟩, List.mem_of_getElem? (i := 21) (by decide +kernel), List.mem_of_getElem? (i := 424) (by decide +kernel), List.mem_of_getElem? (i := 425) (by decide +kernel)⟩
theorem lw_p10 : lw_okq (⟨"HallBuilds$Hall", "allAreIn", "()Z"⟩, 7) := ⟨⟨by decide +kernel, by decide +kernel⟩, List.mem_of_getElem? (i := 21) (by decide +kernel), List.mem_of_getElem? (i := 491) (by decide +kernel), List.mem_of_getElem? (i := 492) (by decide +kernel)⟩
theorem lw_p11 : lw_okq (⟨"HallBuilds$Hall", "quietHours", "()I"⟩, 7) := ⟨⟨by decide +kernel, by decide +kernel⟩, List.mem_of_getElem? (i := 21) (by decide +kernel), List.mem_of_getElem? (i := 495) (by decide +kernel), List.mem_of_getElem? (i := 496) (by decide +kernel)⟩
theorem lw_p12 : lw_okq (⟨"HallBuilds$Hall", "passQuietHours", "(I)V"⟩, 7) := ⟨⟨by decide +kernel, by decide +kernel⟩, List.mem_of_getElem? (i := 21) (by decide +kernel), List.mem_of_getElem? (i := 500) (by decide +kernel), List.mem_of_getElem? (i := 501) (by decide +kernel)⟩
theorem lw_p13 : lw_okq (⟨"HallBuilds", "hoursWithDock", "(II)I"⟩, 6) := ⟨⟨by decide +kernel, by decide +kernel⟩, List.mem_of_getElem? (i := 13) (by decide +kernel), List.mem_of_getElem? (i := 512) (by decide +kernel), List.mem_of_getElem? (i := 513) (by decide +kernel)⟩
theorem lw_p14 : lw_okq (⟨"HallBuilds$OrderReader", "readNumber", "()I"⟩, 8) := ⟨⟨by decide +kernel, by decide +kernel⟩, List.mem_of_getElem? (i := 183) (by decide +kernel), List.mem_of_getElem? (i := 561) (by decide +kernel), List.mem_of_getElem? (i := 562) (by decide +kernel)⟩
theorem lw_p15 : lw_okq (⟨"HallBuilds$OrderReader", "readDigit", "()I"⟩, 8) := ⟨⟨by decide +kernel, by decide +kernel⟩, List.mem_of_getElem? (i := 183) (by decide +kernel), List.mem_of_getElem? (i := 565) (by decide +kernel), List.mem_of_getElem? (i := 566) (by decide +kernel)⟩
def lw_privs_1 : List (MethodName × Nat) := [(⟨"HallBuilds$History", "stateAt", "(I)LHallBuilds$Hall;"⟩, 3), (⟨"HallBuilds$Hall", "passOneHour", "()I"⟩, 7), (⟨"HallBuilds$Hall", "lorriesLeave", "()V"⟩, 7), (⟨"HallBuilds$Hall", "lorriesCome", "()V"⟩, 7), (⟨"HallBuilds$Hall", "crewsTakeStands", "()V"⟩, 7), (⟨"HallBuilds$Hall", "beginToDismantle", "(I)V"⟩, 7), (⟨"HallBuilds$Hall", "takeOffPhase", "(I)V"⟩, 7), (⟨"HallBuilds$Hall", "crewsWork", "(I)I"⟩, 7), (⟨"HallBuilds$Hall", "finish", "(II)V"⟩, 7), (⟨"HallBuilds$Hall", "putOnPhase", "(I)V"⟩, 7), (⟨"HallBuilds$Hall", "allAreIn", "()Z"⟩, 7), (⟨"HallBuilds$Hall", "quietHours", "()I"⟩, 7), (⟨"HallBuilds$Hall", "passQuietHours", "(I)V"⟩, 7), (⟨"HallBuilds", "hoursWithDock", "(II)I"⟩, 6), (⟨"HallBuilds$OrderReader", "readNumber", "()I"⟩, 8), (⟨"HallBuilds$OrderReader", "readDigit", "()I"⟩, 8)]
theorem lw_r1 : ∀ q ∈ lw_privs_1, lw_okq q := List.forall_mem_cons.mpr ⟨lw_p0, List.forall_mem_cons.mpr ⟨lw_p1, List.forall_mem_cons.mpr ⟨lw_p2, List.forall_mem_cons.mpr ⟨lw_p3, List.forall_mem_cons.mpr ⟨lw_p4, List.forall_mem_cons.mpr ⟨lw_p5, List.forall_mem_cons.mpr ⟨lw_p6, List.forall_mem_cons.mpr ⟨lw_p7, List.forall_mem_cons.mpr ⟨lw_p8, List.forall_mem_cons.mpr ⟨lw_p9, List.forall_mem_cons.mpr ⟨lw_p10, List.forall_mem_cons.mpr ⟨lw_p11, List.forall_mem_cons.mpr ⟨lw_p12, List.forall_mem_cons.mpr ⟨lw_p13, List.forall_mem_cons.mpr ⟨lw_p14, List.forall_mem_cons.mpr ⟨lw_p15, fun _ h => absurd h List.not_mem_nil⟩⟩⟩⟩⟩⟩⟩⟩⟩⟩⟩⟩⟩⟩⟩⟩
theorem lw_p16 : lw_okq (⟨"HallBuilds$OrderReader", "expect", "(C)V"⟩, 8) := ⟨⟨by decide +kernel, by decide +kernel⟩, List.mem_of_getElem? (i := 183) (by decide +kernel), List.mem_of_getElem? (i := 570) (by decide +kernel), List.mem_of_getElem? (i := 571) (by decide +kernel)⟩
theorem lw_p17 : lw_okq (⟨"HallBuilds", "carryOutOne", "()I"⟩, 6) := ⟨⟨by decide +kernel, by decide +kernel⟩, List.mem_of_getElem? (i := 13) (by decide +kernel), List.mem_of_getElem? (i := 580) (by decide +kernel), List.mem_of_getElem? (i := 581) (by decide +kernel)⟩
theorem lw_p18 : lw_okq (⟨"HallBuildsModel", "record", "()V"⟩, 14) := ⟨⟨by decide +kernel, by decide +kernel⟩, List.mem_of_getElem? (i := 610) (by decide +kernel), List.mem_of_getElem? (i := 669) (by decide +kernel), List.mem_of_getElem? (i := 670) (by decide +kernel)⟩
theorem lw_p19 : lw_okq (⟨"HallBuildsModel", "whyNoStand", "(IIII)I"⟩, 14) := ⟨⟨by decide +kernel, by decide +kernel⟩, List.mem_of_getElem? (i := 610) (by decide +kernel), List.mem_of_getElem? (i := 680) (by decide +kernel), List.mem_of_getElem? (i := 681) (by decide +kernel)⟩
theorem lw_p20 : lw_okq (⟨"HallBuildsModel", "isStand", "(I)Z"⟩, 14) := ⟨⟨by decide +kernel, by decide +kernel⟩, List.mem_of_getElem? (i := 610) (by decide +kernel), List.mem_of_getElem? (i := 684) (by decide +kernel), List.mem_of_getElem? (i := 685) (by decide +kernel)⟩
theorem lw_p21 : lw_okq (⟨"HallBuildsModel", "isHow", "(II)Z"⟩, 14) := ⟨⟨by decide +kernel, by decide +kernel⟩, List.mem_of_getElem? (i := 610) (by decide +kernel), List.mem_of_getElem? (i := 688) (by decide +kernel), List.mem_of_getElem? (i := 689) (by decide +kernel)⟩
theorem lw_p22 : lw_okq (⟨"HallBuildsModel", "part", "(II)I"⟩, 14) := ⟨⟨by decide +kernel, by decide +kernel⟩, List.mem_of_getElem? (i := 610) (by decide +kernel), List.mem_of_getElem? (i := 692) (by decide +kernel), List.mem_of_getElem? (i := 693) (by decide +kernel)⟩
theorem lw_p23 : lw_okq (⟨"HallBuildsModel", "comes", "(IIII)I"⟩, 14) := ⟨⟨by decide +kernel, by decide +kernel⟩, List.mem_of_getElem? (i := 610) (by decide +kernel), List.mem_of_getElem? (i := 696) (by decide +kernel), List.mem_of_getElem? (i := 697) (by decide +kernel)⟩
theorem lw_p24 : lw_okq (⟨"HallBuildsModel", "setPart", "(III)V"⟩, 14) := ⟨⟨by decide +kernel, by decide +kernel⟩, List.mem_of_getElem? (i := 610) (by decide +kernel), List.mem_of_getElem? (i := 700) (by decide +kernel), List.mem_of_getElem? (i := 701) (by decide +kernel)⟩
theorem lw_p25 : lw_okq (⟨"HallBuildsModel", "whyNoCrew", "(II)I"⟩, 14) := ⟨⟨by decide +kernel, by decide +kernel⟩, List.mem_of_getElem? (i := 610) (by decide +kernel), List.mem_of_getElem? (i := 708) (by decide +kernel), List.mem_of_getElem? (i := 709) (by decide +kernel)⟩
theorem lw_p26 : lw_okq (⟨"HallBuildsModel", "comesCrew", "(II)I"⟩, 14) := ⟨⟨by decide +kernel, by decide +kernel⟩, List.mem_of_getElem? (i := 610) (by decide +kernel), List.mem_of_getElem? (i := 712) (by decide +kernel), List.mem_of_getElem? (i := 713) (by decide +kernel)⟩
theorem lw_p27 : lw_okq (⟨"HallBuildsModel", "setCrew", "(III)V"⟩, 14) := ⟨⟨by decide +kernel, by decide +kernel⟩, List.mem_of_getElem? (i := 610) (by decide +kernel), List.mem_of_getElem? (i := 716) (by decide +kernel), List.mem_of_getElem? (i := 717) (by decide +kernel)⟩
theorem lw_p28 : lw_okq (⟨"HallBuildsModel", "ends", "()I"⟩, 14) := ⟨⟨by decide +kernel, by decide +kernel⟩, List.mem_of_getElem? (i := 610) (by decide +kernel), List.mem_of_getElem? (i := 724) (by decide +kernel), List.mem_of_getElem? (i := 725) (by decide +kernel)⟩
theorem lw_p29 : lw_okq (⟨"HallBuildsModel", "whyNotPassed", "(I)I"⟩, 14) := ⟨⟨by decide +kernel, by decide +kernel⟩, List.mem_of_getElem? (i := 610) (by decide +kernel), List.mem_of_getElem? (i := 736) (by decide +kernel), List.mem_of_getElem? (i := 737) (by decide +kernel)⟩
theorem lw_p30 : lw_okq (⟨"HallBuildsModel", "passes", "(I)I"⟩, 14) := ⟨⟨by decide +kernel, by decide +kernel⟩, List.mem_of_getElem? (i := 610) (by decide +kernel), List.mem_of_getElem? (i := 740) (by decide +kernel), List.mem_of_getElem? (i := 741) (by decide +kernel)⟩
theorem lw_p31 : lw_okq (⟨"HallBuildsModel", "passesOne", "()I"⟩, 14) := ⟨⟨by decide +kernel, by decide +kernel⟩, List.mem_of_getElem? (i := 610) (by decide +kernel), List.mem_of_getElem? (i := 744) (by decide +kernel), List.mem_of_getElem? (i := 745) (by decide +kernel)⟩
def lw_privs_2 : List (MethodName × Nat) := [(⟨"HallBuilds$OrderReader", "expect", "(C)V"⟩, 8), (⟨"HallBuilds", "carryOutOne", "()I"⟩, 6), (⟨"HallBuildsModel", "record", "()V"⟩, 14), (⟨"HallBuildsModel", "whyNoStand", "(IIII)I"⟩, 14), (⟨"HallBuildsModel", "isStand", "(I)Z"⟩, 14), (⟨"HallBuildsModel", "isHow", "(II)Z"⟩, 14), (⟨"HallBuildsModel", "part", "(II)I"⟩, 14), (⟨"HallBuildsModel", "comes", "(IIII)I"⟩, 14), (⟨"HallBuildsModel", "setPart", "(III)V"⟩, 14), (⟨"HallBuildsModel", "whyNoCrew", "(II)I"⟩, 14), (⟨"HallBuildsModel", "comesCrew", "(II)I"⟩, 14), (⟨"HallBuildsModel", "setCrew", "(III)V"⟩, 14), (⟨"HallBuildsModel", "ends", "()I"⟩, 14), (⟨"HallBuildsModel", "whyNotPassed", "(I)I"⟩, 14), (⟨"HallBuildsModel", "passes", "(I)I"⟩, 14), (⟨"HallBuildsModel", "passesOne", "()I"⟩, 14)]
theorem lw_r2 : ∀ q ∈ lw_privs_2, lw_okq q := List.forall_mem_cons.mpr ⟨lw_p16, List.forall_mem_cons.mpr ⟨lw_p17, List.forall_mem_cons.mpr ⟨lw_p18, List.forall_mem_cons.mpr ⟨lw_p19, List.forall_mem_cons.mpr ⟨lw_p20, List.forall_mem_cons.mpr ⟨lw_p21, List.forall_mem_cons.mpr ⟨lw_p22, List.forall_mem_cons.mpr ⟨lw_p23, List.forall_mem_cons.mpr ⟨lw_p24, List.forall_mem_cons.mpr ⟨lw_p25, List.forall_mem_cons.mpr ⟨lw_p26, List.forall_mem_cons.mpr ⟨lw_p27, List.forall_mem_cons.mpr ⟨lw_p28, List.forall_mem_cons.mpr ⟨lw_p29, List.forall_mem_cons.mpr ⟨lw_p30, List.forall_mem_cons.mpr ⟨lw_p31, fun _ h => absurd h List.not_mem_nil⟩⟩⟩⟩⟩⟩⟩⟩⟩⟩⟩⟩⟩⟩⟩⟩
theorem lw_p32 : lw_okq (⟨"HallBuildsModel", "lorries", "()V"⟩, 14) := ⟨⟨by decide +kernel, by decide +kernel⟩, List.mem_of_getElem? (i := 610) (by decide +kernel), List.mem_of_getElem? (i := 748) (by decide +kernel), List.mem_of_getElem? (i := 749) (by decide +kernel)⟩
theorem lw_p33 : lw_okq (⟨"HallBuildsModel", "meters", "()I"⟩, 14) := ⟨⟨by decide +kernel, by decide +kernel⟩, List.mem_of_getElem? (i := 610) (by decide +kernel), List.mem_of_getElem? (i := 752) (by decide +kernel), List.mem_of_getElem? (i := 753) (by decide +kernel)⟩
theorem lw_p34 : lw_okq (⟨"HallBuildsModel", "ofCrewPart", "(II)I"⟩, 14) := ⟨⟨by decide +kernel, by decide +kernel⟩, List.mem_of_getElem? (i := 610) (by decide +kernel), List.mem_of_getElem? (i := 756) (by decide +kernel), List.mem_of_getElem? (i := 757) (by decide +kernel)⟩
theorem lw_p35 : lw_okq (⟨"HallBuildsModel", "nextStand", "()I"⟩, 14) := ⟨⟨by decide +kernel, by decide +kernel⟩, List.mem_of_getElem? (i := 610) (by decide +kernel), List.mem_of_getElem? (i := 760) (by decide +kernel), List.mem_of_getElem? (i := 761) (by decide +kernel)⟩
theorem lw_p36 : lw_okq (⟨"HallBuildsModel", "standingOn", "(I)I"⟩, 14) := ⟨⟨by decide +kernel, by decide +kernel⟩, List.mem_of_getElem? (i := 610) (by decide +kernel), List.mem_of_getElem? (i := 764) (by decide +kernel), List.mem_of_getElem? (i := 765) (by decide +kernel)⟩
theorem lw_p37 : lw_okq (⟨"HallBuildsModel", "hasBase", "(I)Z"⟩, 14) := ⟨⟨by decide +kernel, by decide +kernel⟩, List.mem_of_getElem? (i := 610) (by decide +kernel), List.mem_of_getElem? (i := 768) (by decide +kernel), List.mem_of_getElem? (i := 769) (by decide +kernel)⟩
theorem lw_p38 : lw_okq (⟨"HallBuildsModel", "takes", "(II)V"⟩, 14) := ⟨⟨by decide +kernel, by decide +kernel⟩, List.mem_of_getElem? (i := 610) (by decide +kernel), List.mem_of_getElem? (i := 772) (by decide +kernel), List.mem_of_getElem? (i := 773) (by decide +kernel)⟩
theorem lw_p39 : lw_okq (⟨"HallBuildsModel", "works", "(I)Z"⟩, 14) := ⟨⟨by decide +kernel, by decide +kernel⟩, List.mem_of_getElem? (i := 610) (by decide +kernel), List.mem_of_getElem? (i := 776) (by decide +kernel), List.mem_of_getElem? (i := 777) (by decide +kernel)⟩
theorem lw_p40 : lw_okq (⟨"HallBuildsModel", "finishes", "(II)V"⟩, 14) := ⟨⟨by decide +kernel, by decide +kernel⟩, List.mem_of_getElem? (i := 610) (by decide +kernel), List.mem_of_getElem? (i := 780) (by decide +kernel), List.mem_of_getElem? (i := 781) (by decide +kernel)⟩
theorem lw_p41 : lw_okq (⟨"HallBuildsModel", "leastLoaded", "()I"⟩, 14) := ⟨⟨by decide +kernel, by decide +kernel⟩, List.mem_of_getElem? (i := 610) (by decide +kernel), List.mem_of_getElem? (i := 784) (by decide +kernel), List.mem_of_getElem? (i := 785) (by decide +kernel)⟩
theorem lw_p42 : lw_okq (⟨"HallBuildsModel", "loadOf", "(I)I"⟩, 14) := ⟨⟨by decide +kernel, by decide +kernel⟩, List.mem_of_getElem? (i := 610) (by decide +kernel), List.mem_of_getElem? (i := 788) (by decide +kernel), List.mem_of_getElem? (i := 789) (by decide +kernel)⟩
theorem lw_p43 : lw_okq (⟨"HallBuildsModel", "leftOf", "(I)I"⟩, 14) := ⟨⟨by decide +kernel, by decide +kernel⟩, List.mem_of_getElem? (i := 610) (by decide +kernel), List.mem_of_getElem? (i := 796) (by decide +kernel), List.mem_of_getElem? (i := 797) (by decide +kernel)⟩
theorem lw_p44 : lw_okq (⟨"HallBuildsModel", "isCrew", "(I)Z"⟩, 14) := ⟨⟨by decide +kernel, by decide +kernel⟩, List.mem_of_getElem? (i := 610) (by decide +kernel), List.mem_of_getElem? (i := 804) (by decide +kernel), List.mem_of_getElem? (i := 805) (by decide +kernel)⟩
theorem lw_p45 : lw_okq (⟨"HallBuildsModel", "withHow", "(I)I"⟩, 14) := ⟨⟨by decide +kernel, by decide +kernel⟩, List.mem_of_getElem? (i := 610) (by decide +kernel), List.mem_of_getElem? (i := 816) (by decide +kernel), List.mem_of_getElem? (i := 817) (by decide +kernel)⟩
theorem lw_p46 : lw_okq (⟨"HallBuildsModel", "allCosts", "()I"⟩, 14) := ⟨⟨by decide +kernel, by decide +kernel⟩, List.mem_of_getElem? (i := 610) (by decide +kernel), List.mem_of_getElem? (i := 820) (by decide +kernel), List.mem_of_getElem? (i := 821) (by decide +kernel)⟩
theorem lw_p47 : lw_okq (⟨"HallBuildsModel", "withoutPower", "()I"⟩, 14) := ⟨⟨by decide +kernel, by decide +kernel⟩, List.mem_of_getElem? (i := 610) (by decide +kernel), List.mem_of_getElem? (i := 824) (by decide +kernel), List.mem_of_getElem? (i := 825) (by decide +kernel)⟩
def lw_privs_3 : List (MethodName × Nat) := [(⟨"HallBuildsModel", "lorries", "()V"⟩, 14), (⟨"HallBuildsModel", "meters", "()I"⟩, 14), (⟨"HallBuildsModel", "ofCrewPart", "(II)I"⟩, 14), (⟨"HallBuildsModel", "nextStand", "()I"⟩, 14), (⟨"HallBuildsModel", "standingOn", "(I)I"⟩, 14), (⟨"HallBuildsModel", "hasBase", "(I)Z"⟩, 14), (⟨"HallBuildsModel", "takes", "(II)V"⟩, 14), (⟨"HallBuildsModel", "works", "(I)Z"⟩, 14), (⟨"HallBuildsModel", "finishes", "(II)V"⟩, 14), (⟨"HallBuildsModel", "leastLoaded", "()I"⟩, 14), (⟨"HallBuildsModel", "loadOf", "(I)I"⟩, 14), (⟨"HallBuildsModel", "leftOf", "(I)I"⟩, 14), (⟨"HallBuildsModel", "isCrew", "(I)Z"⟩, 14), (⟨"HallBuildsModel", "withHow", "(I)I"⟩, 14), (⟨"HallBuildsModel", "allCosts", "()I"⟩, 14), (⟨"HallBuildsModel", "withoutPower", "()I"⟩, 14)]
theorem lw_r3 : ∀ q ∈ lw_privs_3, lw_okq q := List.forall_mem_cons.mpr ⟨lw_p32, List.forall_mem_cons.mpr ⟨lw_p33, List.forall_mem_cons.mpr ⟨lw_p34, List.forall_mem_cons.mpr ⟨lw_p35, List.forall_mem_cons.mpr ⟨lw_p36, List.forall_mem_cons.mpr ⟨lw_p37, List.forall_mem_cons.mpr ⟨lw_p38, List.forall_mem_cons.mpr ⟨lw_p39, List.forall_mem_cons.mpr ⟨lw_p40, List.forall_mem_cons.mpr ⟨lw_p41, List.forall_mem_cons.mpr ⟨lw_p42, List.forall_mem_cons.mpr ⟨lw_p43, List.forall_mem_cons.mpr ⟨lw_p44, List.forall_mem_cons.mpr ⟨lw_p45, List.forall_mem_cons.mpr ⟨lw_p46, List.forall_mem_cons.mpr ⟨lw_p47, fun _ h => absurd h List.not_mem_nil⟩⟩⟩⟩⟩⟩⟩⟩⟩⟩⟩⟩⟩⟩⟩⟩
theorem lw_p48 : lw_okq (⟨"HallBuildsModel", "goesOn", "()I"⟩, 14) := ⟨⟨by decide +kernel, by decide +kernel⟩, List.mem_of_getElem? (i := 610) (by decide +kernel), List.mem_of_getElem? (i := 836) (by decide +kernel), List.mem_of_getElem? (i := 837) (by decide +kernel)⟩
theorem lw_p49 : lw_okq (⟨"HallBuildsModel", "isAllDone", "()Z"⟩, 14) := ⟨⟨by decide +kernel, by decide +kernel⟩, List.mem_of_getElem? (i := 610) (by decide +kernel), List.mem_of_getElem? (i := 840) (by decide +kernel), List.mem_of_getElem? (i := 841) (by decide +kernel)⟩
theorem lw_p50 : lw_okq (⟨"HallBuildsModel", "allWith", "(I)I"⟩, 14) := ⟨⟨by decide +kernel, by decide +kernel⟩, List.mem_of_getElem? (i := 610) (by decide +kernel), List.mem_of_getElem? (i := 852) (by decide +kernel), List.mem_of_getElem? (i := 853) (by decide +kernel)⟩
theorem lw_p51 : lw_okq (⟨"HallBuildsModel", "findFault", "()I"⟩, 14) := ⟨⟨by decide +kernel, by decide +kernel⟩, List.mem_of_getElem? (i := 610) (by decide +kernel), List.mem_of_getElem? (i := 869) (by decide +kernel), List.mem_of_getElem? (i := 870) (by decide +kernel)⟩
theorem lw_p52 : lw_okq (⟨"HallBuildsModel", "readsOrder", "()Z"⟩, 14) := ⟨⟨by decide +kernel, by decide +kernel⟩, List.mem_of_getElem? (i := 610) (by decide +kernel), List.mem_of_getElem? (i := 873) (by decide +kernel), List.mem_of_getElem? (i := 874) (by decide +kernel)⟩
theorem lw_p53 : lw_okq (⟨"HallBuildsModel", "character", "(I)I"⟩, 14) := ⟨⟨by decide +kernel, by decide +kernel⟩, List.mem_of_getElem? (i := 610) (by decide +kernel), List.mem_of_getElem? (i := 877) (by decide +kernel), List.mem_of_getElem? (i := 878) (by decide +kernel)⟩
theorem lw_p54 : lw_okq (⟨"HallBuildsModel", "readsStand", "()Z"⟩, 14) := ⟨⟨by decide +kernel, by decide +kernel⟩, List.mem_of_getElem? (i := 610) (by decide +kernel), List.mem_of_getElem? (i := 881) (by decide +kernel), List.mem_of_getElem? (i := 882) (by decide +kernel)⟩
theorem lw_p55 : lw_okq (⟨"HallBuildsModel", "takeNumber", "()I"⟩, 14) := ⟨⟨by decide +kernel, by decide +kernel⟩, List.mem_of_getElem? (i := 610) (by decide +kernel), List.mem_of_getElem? (i := 885) (by decide +kernel), List.mem_of_getElem? (i := 886) (by decide +kernel)⟩
theorem lw_p56 : lw_okq (⟨"HallBuildsModel", "takeDigit", "(I)I"⟩, 14) := ⟨⟨by decide +kernel, by decide +kernel⟩, List.mem_of_getElem? (i := 610) (by decide +kernel), List.mem_of_getElem? (i := 889) (by decide +kernel), List.mem_of_getElem? (i := 890) (by decide +kernel)⟩
theorem lw_p57 : lw_okq (⟨"HallBuildsModel", "isNext", "(I)Z"⟩, 14) := ⟨⟨by decide +kernel, by decide +kernel⟩, List.mem_of_getElem? (i := 610) (by decide +kernel), List.mem_of_getElem? (i := 893) (by decide +kernel), List.mem_of_getElem? (i := 894) (by decide +kernel)⟩
theorem lw_p58 : lw_okq (⟨"HallBuildsModel", "whyNotDone", "()I"⟩, 14) := ⟨⟨by decide +kernel, by decide +kernel⟩, List.mem_of_getElem? (i := 610) (by decide +kernel), List.mem_of_getElem? (i := 901) (by decide +kernel), List.mem_of_getElem? (i := 902) (by decide +kernel)⟩
theorem lw_p59 : lw_okq (⟨"HallBuildsModel", "does", "()V"⟩, 14) := ⟨⟨by decide +kernel, by decide +kernel⟩, List.mem_of_getElem? (i := 610) (by decide +kernel), List.mem_of_getElem? (i := 905) (by decide +kernel), List.mem_of_getElem? (i := 906) (by decide +kernel)⟩
def lw_privs_4 : List (MethodName × Nat) := [(⟨"HallBuildsModel", "goesOn", "()I"⟩, 14), (⟨"HallBuildsModel", "isAllDone", "()Z"⟩, 14), (⟨"HallBuildsModel", "allWith", "(I)I"⟩, 14), (⟨"HallBuildsModel", "findFault", "()I"⟩, 14), (⟨"HallBuildsModel", "readsOrder", "()Z"⟩, 14), (⟨"HallBuildsModel", "character", "(I)I"⟩, 14), (⟨"HallBuildsModel", "readsStand", "()Z"⟩, 14), (⟨"HallBuildsModel", "takeNumber", "()I"⟩, 14), (⟨"HallBuildsModel", "takeDigit", "(I)I"⟩, 14), (⟨"HallBuildsModel", "isNext", "(I)Z"⟩, 14), (⟨"HallBuildsModel", "whyNotDone", "()I"⟩, 14), (⟨"HallBuildsModel", "does", "()V"⟩, 14)]
theorem lw_r4 : ∀ q ∈ lw_privs_4, lw_okq q := List.forall_mem_cons.mpr ⟨lw_p48, List.forall_mem_cons.mpr ⟨lw_p49, List.forall_mem_cons.mpr ⟨lw_p50, List.forall_mem_cons.mpr ⟨lw_p51, List.forall_mem_cons.mpr ⟨lw_p52, List.forall_mem_cons.mpr ⟨lw_p53, List.forall_mem_cons.mpr ⟨lw_p54, List.forall_mem_cons.mpr ⟨lw_p55, List.forall_mem_cons.mpr ⟨lw_p56, List.forall_mem_cons.mpr ⟨lw_p57, List.forall_mem_cons.mpr ⟨lw_p58, List.forall_mem_cons.mpr ⟨lw_p59, fun _ h => absurd h List.not_mem_nil⟩⟩⟩⟩⟩⟩⟩⟩⟩⟩⟩⟩
def lw_privs : List (MethodName × Nat) := lw_privs_1 ++ (lw_privs_2 ++ (lw_privs_3 ++ (lw_privs_4)))
def lw_tbl : List Cond := k2_sels lw_privs ++ tables_1
theorem lw_privs_ok : ∀ q ∈ lw_privs, lw_okq q := by
  show ∀ q ∈ lw_privs_1 ++ (lw_privs_2 ++ (lw_privs_3 ++ (lw_privs_4))), lw_okq q
  exact List.forall_mem_append.mpr ⟨lw_r1, List.forall_mem_append.mpr ⟨lw_r2, List.forall_mem_append.mpr ⟨lw_r3, lw_r4⟩⟩⟩
-- ===== end of PART A; then your names; then what follows =====
/-! ===== BEGIN words of one list among another's, by their places ===== -/
theorem goodIn_r {big : List Cond} (ws : List Cond) (ps : List Nat) (hp : ws = ps.filterMap (fun i => big[i]?)) (h : ws.all goodWord = true) : GoodIn big ws := by
  intro w hw
  have h1 := List.all_eq_true.mp h w hw
  rw [hp] at hw
  obtain ⟨i, -, hi⟩ := List.mem_filterMap.mp hw
  have hm : w ∈ big := by first | exact List.mem_of_getElem? hi | exact List.getElem?_mem hi
  exact ⟨hm, good_of_word h1⟩
theorem goodIn_app {big a b : List Cond} (ha : GoodIn big a) (hb : GoodIn big b) : GoodIn big (a ++ b) := fun w h => (List.mem_append.mp h).elim (ha w) (hb w)
theorem goodIn_ca {big a b : List Cond} {c : Cond} (ha : GoodIn big (c :: a)) (hb : GoodIn big b) : GoodIn big (c :: (a ++ b)) := fun w h => (List.mem_cons.mp h).elim (fun e => ha w (List.mem_cons.mpr (Or.inl e))) (fun h => (List.mem_append.mp h).elim (fun h => ha w (List.mem_cons.mpr (Or.inr h))) (hb w))
theorem goodIn_sub {big ws : List Cond} (hm : ∀ w ∈ ws, w ∈ big) (h : ws.all goodWord = true) : GoodIn big ws := fun w hw => ⟨hm w hw, good_of_word (List.all_eq_true.mp h w hw)⟩
/-! ===== END ===== -/

/-! ===== BEGIN printed: names, fields, word lists, decode rows ===== -/
def RX0 : String := "HallBuilds$Crews"
def TX0 : u_T := fun k => match k with
  | 0 => ("HallBuilds$Crews", "count", "I", false)
  | 1 => ("HallBuilds$Crews", "speed", "[I", true)
  | 2 => ("HallBuilds$Crews", "rate", "[I", true)
  | 3 => ("HallBuilds$Crews", "stand", "[I", true)
  | 4 => ("HallBuilds$Crews", "worked", "[I", true)
  | 5 => ("HallBuilds$Crews", "built", "[I", true)
  | _ => ("HallBuilds$Crews", "dismantled", "[I", true)
def tyX0 : Nat → FieldType := fun k => match k with
  | 0 => .int
  | 1 => .array .int
  | 2 => .array .int
  | 3 => .array .int
  | 4 => .array .int
  | 5 => .array .int
  | _ => .array .int
abbrev wsX00 : List Cond := u_ws RX0 TX0 7
theorem nmX0 : ∀ a, a < 7 → ∀ b, b < 7 → a ≠ b → (TX0 a).2.1 ≠ (TX0 b).2.1 := by decide +kernel
theorem tyX0_ok : ∀ k, k < 7 → parseFieldDescriptor (TX0 k).2.2.1 = some (tyX0 k) := by decide +kernel
abbrev cX0_init : ByteArray := prog_2_method_1_code
def yX0_init : MethodName := ⟨RX0, "<init>", "()V"⟩
abbrev cX0_copyFrom : ByteArray := prog_2_method_2_code
def yX0_copyFrom : MethodName := ⟨RX0, "copyFrom", "(LHallBuilds$Crews;)V"⟩
abbrev cX0_append : ByteArray := prog_2_method_3_code
def yX0_append : MethodName := ⟨RX0, "append", "(II)I"⟩
abbrev cX0_tell : ByteArray := prog_2_method_4_code
def yX0_tell : MethodName := ⟨RX0, "tell", "(II)I"⟩
abbrev cX0_costs : ByteArray := prog_2_method_5_code
def yX0_costs : MethodName := ⟨RX0, "costs", "()I"⟩
abbrev cX0_letAllGo : ByteArray := prog_2_method_6_code
def yX0_letAllGo : MethodName := ⟨RX0, "letAllGo", "()V"⟩
def RX1 : String := "HallBuilds$Hall"
def TX1 : u_T := fun k => match k with
  | 0 => ("HallBuilds$Hall", "settings", "[I", true)
  | 1 => ("HallBuilds$Hall", "loads", "[I", true)
  | 2 => ("HallBuilds$Hall", "stands", "LHallBuilds$Stands;", true)
  | 3 => ("HallBuilds$Hall", "crews", "LHallBuilds$Crews;", true)
  | 4 => ("HallBuilds$Hall", "hour", "I", false)
  | 5 => ("HallBuilds$Hall", "ended", "Z", false)
  | _ => ("HallBuilds$Hall", "lost", "I", false)
def tyX1 : Nat → FieldType := fun k => match k with
  | 0 => .array .int
  | 1 => .array .int
  | 2 => .object "HallBuilds$Stands"
  | 3 => .object "HallBuilds$Crews"
  | 4 => .int
  | 5 => .boolean
  | _ => .int
abbrev wsX10 : List Cond := u_ws RX1 TX1 7
theorem nmX1 : ∀ a, a < 7 → ∀ b, b < 7 → a ≠ b → (TX1 a).2.1 ≠ (TX1 b).2.1 := by decide +kernel
theorem tyX1_ok : ∀ k, k < 7 → parseFieldDescriptor (TX1 k).2.2.1 = some (tyX1 k) := by decide +kernel
abbrev cX1_init : ByteArray := prog_3_method_1_code
def yX1_init : MethodName := ⟨RX1, "<init>", "()V"⟩
abbrev cX1_copyFrom : ByteArray := prog_3_method_2_code
def yX1_copyFrom : MethodName := ⟨RX1, "copyFrom", "(LHallBuilds$Hall;)V"⟩
abbrev cX1_changeSetting : ByteArray := prog_3_method_3_code
def yX1_changeSetting : MethodName := ⟨RX1, "changeSetting", "(II)I"⟩
abbrev cX1_addStand : ByteArray := prog_3_method_4_code
def yX1_addStand : MethodName := ⟨RX1, "addStand", "(IIII)I"⟩
abbrev cX1_addCrew : ByteArray := prog_3_method_5_code
def yX1_addCrew : MethodName := ⟨RX1, "addCrew", "(II)I"⟩
abbrev cX1_endFair : ByteArray := prog_3_method_6_code
def yX1_endFair : MethodName := ⟨RX1, "endFair", "()I"⟩
abbrev cX1_findLost : ByteArray := prog_3_method_7_code
def yX1_findLost : MethodName := ⟨RX1, "findLost", "()I"⟩
abbrev cX1_passHours : ByteArray := prog_3_method_8_code
def yX1_passHours : MethodName := ⟨RX1, "passHours", "(I)I"⟩
abbrev cX1_loadOf : ByteArray := prog_3_method_9_code
def yX1_loadOf : MethodName := ⟨RX1, "loadOf", "(I)I"⟩
abbrev cX1_number : ByteArray := prog_3_method_10_code
def yX1_number : MethodName := ⟨RX1, "number", "(I)I"⟩
abbrev cX1_reasonToWait : ByteArray := prog_3_method_11_code
def yX1_reasonToWait : MethodName := ⟨RX1, "reasonToWait", "(I)I"⟩
abbrev cX1_hoursUntilAllIn : ByteArray := prog_3_method_12_code
def yX1_hoursUntilAllIn : MethodName := ⟨RX1, "hoursUntilAllIn", "(I)I"⟩
abbrev cX1_allAreIn : ByteArray := prog_3_method_13_code
def yX1_allAreIn : MethodName := ⟨RX1, "allAreIn", "()Z"⟩
abbrev cX1_passOneHour : ByteArray := prog_3_method_14_code
def yX1_passOneHour : MethodName := ⟨RX1, "passOneHour", "()I"⟩
abbrev cX1_quietHours : ByteArray := prog_3_method_15_code
def yX1_quietHours : MethodName := ⟨RX1, "quietHours", "()I"⟩
abbrev cX1_passQuietHours : ByteArray := prog_3_method_16_code
def yX1_passQuietHours : MethodName := ⟨RX1, "passQuietHours", "(I)V"⟩
abbrev cX1_lorriesLeave : ByteArray := prog_3_method_17_code
def yX1_lorriesLeave : MethodName := ⟨RX1, "lorriesLeave", "()V"⟩
abbrev cX1_lorriesCome : ByteArray := prog_3_method_18_code
def yX1_lorriesCome : MethodName := ⟨RX1, "lorriesCome", "()V"⟩
abbrev cX1_crewsTakeStands : ByteArray := prog_3_method_19_code
def yX1_crewsTakeStands : MethodName := ⟨RX1, "crewsTakeStands", "()V"⟩
abbrev cX1_beginToDismantle : ByteArray := prog_3_method_20_code
def yX1_beginToDismantle : MethodName := ⟨RX1, "beginToDismantle", "(I)V"⟩
abbrev cX1_crewsWork : ByteArray := prog_3_method_21_code
def yX1_crewsWork : MethodName := ⟨RX1, "crewsWork", "(I)I"⟩
abbrev cX1_finish : ByteArray := prog_3_method_22_code
def yX1_finish : MethodName := ⟨RX1, "finish", "(II)V"⟩
abbrev cX1_putOnPhase : ByteArray := prog_3_method_23_code
def yX1_putOnPhase : MethodName := ⟨RX1, "putOnPhase", "(I)V"⟩
abbrev cX1_takeOffPhase : ByteArray := prog_3_method_24_code
def yX1_takeOffPhase : MethodName := ⟨RX1, "takeOffPhase", "(I)V"⟩
def RX2 : String := "HallBuilds$History"
def TX2 : u_T := fun k => match k with
  | 0 => ("HallBuilds$History", "states", "[LHallBuilds$Hall;", true)
  | 1 => ("HallBuilds$History", "next", "I", false)
  | _ => ("HallBuilds$History", "kept", "I", false)
def tyX2 : Nat → FieldType := fun k => match k with
  | 0 => .array (.object "HallBuilds$Hall")
  | 1 => .int
  | _ => .int
abbrev wsX20 : List Cond := u_ws RX2 TX2 3
theorem nmX2 : ∀ a, a < 3 → ∀ b, b < 3 → a ≠ b → (TX2 a).2.1 ≠ (TX2 b).2.1 := by decide +kernel
theorem tyX2_ok : ∀ k, k < 3 → parseFieldDescriptor (TX2 k).2.2.1 = some (tyX2 k) := by decide +kernel
abbrev cX2_init : ByteArray := prog_4_method_1_code
def yX2_init : MethodName := ⟨RX2, "<init>", "()V"⟩
abbrev cX2_prepare : ByteArray := prog_4_method_2_code
def yX2_prepare : MethodName := ⟨RX2, "prepare", "(LHallBuilds$Hall;)V"⟩
abbrev cX2_settle : ByteArray := prog_4_method_3_code
def yX2_settle : MethodName := ⟨RX2, "settle", "(I)I"⟩
abbrev cX2_stepBack : ByteArray := prog_4_method_4_code
def yX2_stepBack : MethodName := ⟨RX2, "stepBack", "(LHallBuilds$Hall;)I"⟩
abbrev cX2_stateAt : ByteArray := prog_4_method_5_code
def yX2_stateAt : MethodName := ⟨RX2, "stateAt", "(I)LHallBuilds$Hall;"⟩
def RX3 : String := "HallBuilds$OrderReader"
def TX3 : u_T := fun k => match k with
  | 0 => ("HallBuilds$OrderReader", "pad", "LHallBuilds$Pad;", true)
  | 1 => ("HallBuilds$OrderReader", "at", "I", false)
  | 2 => ("HallBuilds$OrderReader", "faulty", "Z", false)
  | 3 => ("HallBuilds$OrderReader", "kind", "I", false)
  | 4 => ("HallBuilds$OrderReader", "first", "I", false)
  | 5 => ("HallBuilds$OrderReader", "second", "I", false)
  | 6 => ("HallBuilds$OrderReader", "third", "I", false)
  | _ => ("HallBuilds$OrderReader", "base", "I", false)
def tyX3 : Nat → FieldType := fun k => match k with
  | 0 => .object "HallBuilds$Pad"
  | 1 => .int
  | 2 => .boolean
  | 3 => .int
  | 4 => .int
  | 5 => .int
  | 6 => .int
  | _ => .int
abbrev wsX30 : List Cond := u_ws RX3 TX3 8
theorem nmX3 : ∀ a, a < 8 → ∀ b, b < 8 → a ≠ b → (TX3 a).2.1 ≠ (TX3 b).2.1 := by decide +kernel
theorem tyX3_ok : ∀ k, k < 8 → parseFieldDescriptor (TX3 k).2.2.1 = some (tyX3 k) := by decide +kernel
abbrev cX3_init : ByteArray := prog_5_method_1_code
def yX3_init : MethodName := ⟨RX3, "<init>", "()V"⟩
abbrev cX3_start : ByteArray := prog_5_method_2_code
def yX3_start : MethodName := ⟨RX3, "start", "()V"⟩
abbrev cX3_findFault : ByteArray := prog_5_method_3_code
def yX3_findFault : MethodName := ⟨RX3, "findFault", "()I"⟩
abbrev cX3_readOrder : ByteArray := prog_5_method_4_code
def yX3_readOrder : MethodName := ⟨RX3, "readOrder", "()V"⟩
abbrev cX3_take : ByteArray := prog_5_method_5_code
def yX3_take : MethodName := ⟨RX3, "take", "(C)Z"⟩
abbrev cX3_expect : ByteArray := prog_5_method_6_code
def yX3_expect : MethodName := ⟨RX3, "expect", "(C)V"⟩
abbrev cX3_readNumber : ByteArray := prog_5_method_7_code
def yX3_readNumber : MethodName := ⟨RX3, "readNumber", "()I"⟩
abbrev cX3_readDigit : ByteArray := prog_5_method_8_code
def yX3_readDigit : MethodName := ⟨RX3, "readDigit", "()I"⟩
def RX4 : String := "HallBuilds$Pad"
def TX4 : u_T := fun k => match k with
  | 0 => ("HallBuilds$Pad", "text", "[C", true)
  | _ => ("HallBuilds$Pad", "length", "I", false)
def tyX4 : Nat → FieldType := fun k => match k with
  | 0 => .array .char
  | _ => .int
abbrev wsX40 : List Cond := u_ws RX4 TX4 2
theorem nmX4 : ∀ a, a < 2 → ∀ b, b < 2 → a ≠ b → (TX4 a).2.1 ≠ (TX4 b).2.1 := by decide +kernel
theorem tyX4_ok : ∀ k, k < 2 → parseFieldDescriptor (TX4 k).2.2.1 = some (tyX4 k) := by decide +kernel
abbrev cX4_init : ByteArray := prog_6_method_1_code
def yX4_init : MethodName := ⟨RX4, "<init>", "()V"⟩
abbrev cX4_at : ByteArray := prog_6_method_2_code
def yX4_at : MethodName := ⟨RX4, "at", "(I)C"⟩
abbrev cX4_append : ByteArray := prog_6_method_3_code
def yX4_append : MethodName := ⟨RX4, "append", "(J)I"⟩
abbrev cX4_clear : ByteArray := prog_6_method_4_code
def yX4_clear : MethodName := ⟨RX4, "clear", "()I"⟩
abbrev cX4_wellFormed : ByteArray := prog_6_method_5_code
def yX4_wellFormed : MethodName := ⟨RX4, "wellFormed", "(J)I"⟩
def RX5 : String := "HallBuilds$Slots"
def TX5 : u_T := fun k => match k with
  | 0 => ("HallBuilds$Slots", "states", "[LHallBuilds$Hall;", true)
  | _ => ("HallBuilds$Slots", "saved", "[Z", true)
def tyX5 : Nat → FieldType := fun k => match k with
  | 0 => .array (.object "HallBuilds$Hall")
  | _ => .array .boolean
abbrev wsX50 : List Cond := u_ws RX5 TX5 2
theorem nmX5 : ∀ a, a < 2 → ∀ b, b < 2 → a ≠ b → (TX5 a).2.1 ≠ (TX5 b).2.1 := by decide +kernel
theorem tyX5_ok : ∀ k, k < 2 → parseFieldDescriptor (TX5 k).2.2.1 = some (tyX5 k) := by decide +kernel
abbrev cX5_init : ByteArray := prog_7_method_1_code
def yX5_init : MethodName := ⟨RX5, "<init>", "()V"⟩
abbrev cX5_keep : ByteArray := prog_7_method_2_code
def yX5_keep : MethodName := ⟨RX5, "keep", "(ILHallBuilds$Hall;)I"⟩
abbrev cX5_giveBack : ByteArray := prog_7_method_3_code
def yX5_giveBack : MethodName := ⟨RX5, "giveBack", "(ILHallBuilds$Hall;)I"⟩
def RX6 : String := "HallBuilds$Stands"
def TX6 : u_T := fun k => match k with
  | 0 => ("HallBuilds$Stands", "count", "I", false)
  | 1 => ("HallBuilds$Stands", "hours", "[I", true)
  | 2 => ("HallBuilds$Stands", "length", "[I", true)
  | 3 => ("HallBuilds$Stands", "power", "[I", true)
  | 4 => ("HallBuilds$Stands", "base", "[I", true)
  | 5 => ("HallBuilds$Stands", "state", "[I", true)
  | 6 => ("HallBuilds$Stands", "left", "[I", true)
  | 7 => ("HallBuilds$Stands", "phase", "[I", true)
  | 8 => ("HallBuilds$Stands", "crew", "[I", true)
  | 9 => ("HallBuilds$Stands", "spent", "[I", true)
  | _ => ("HallBuilds$Stands", "leaving", "[I", true)
def tyX6 : Nat → FieldType := fun k => match k with
  | 0 => .int
  | 1 => .array .int
  | 2 => .array .int
  | 3 => .array .int
  | 4 => .array .int
  | 5 => .array .int
  | 6 => .array .int
  | 7 => .array .int
  | 8 => .array .int
  | 9 => .array .int
  | _ => .array .int
abbrev wsX60 : List Cond := u_ws RX6 TX6 11
theorem nmX6 : ∀ a, a < 11 → ∀ b, b < 11 → a ≠ b → (TX6 a).2.1 ≠ (TX6 b).2.1 := by decide +kernel
theorem tyX6_ok : ∀ k, k < 11 → parseFieldDescriptor (TX6 k).2.2.1 = some (tyX6 k) := by decide +kernel
abbrev cX6_init : ByteArray := prog_8_method_1_code
def yX6_init : MethodName := ⟨RX6, "<init>", "()V"⟩
abbrev cX6_copyFrom : ByteArray := prog_8_method_2_code
def yX6_copyFrom : MethodName := ⟨RX6, "copyFrom", "(LHallBuilds$Stands;)V"⟩
abbrev cX6_has : ByteArray := prog_8_method_3_code
def yX6_has : MethodName := ⟨RX6, "has", "(I)Z"⟩
abbrev cX6_isGone : ByteArray := prog_8_method_4_code
def yX6_isGone : MethodName := ⟨RX6, "isGone", "(I)Z"⟩
abbrev cX6_append : ByteArray := prog_8_method_5_code
def yX6_append : MethodName := ⟨RX6, "append", "(IIII)I"⟩
abbrev cX6_tell : ByteArray := prog_8_method_6_code
def yX6_tell : MethodName := ⟨RX6, "tell", "(II)I"⟩
abbrev cX6_standingOn : ByteArray := prog_8_method_7_code
def yX6_standingOn : MethodName := ⟨RX6, "standingOn", "(I)I"⟩
abbrev cX6_countIn : ByteArray := prog_8_method_8_code
def yX6_countIn : MethodName := ⟨RX6, "countIn", "(I)I"⟩
abbrev cX6_metersAtDock : ByteArray := prog_8_method_9_code
def yX6_metersAtDock : MethodName := ⟨RX6, "metersAtDock", "()I"⟩
abbrev cX6_builtWithoutPower : ByteArray := prog_8_method_10_code
def yX6_builtWithoutPower : MethodName := ⟨RX6, "builtWithoutPower", "()I"⟩
abbrev cX6_baseIsBuilt : ByteArray := prog_8_method_11_code
def yX6_baseIsBuilt : MethodName := ⟨RX6, "baseIsBuilt", "(I)Z"⟩
abbrev cX6_nextToBuild : ByteArray := prog_8_method_12_code
def yX6_nextToBuild : MethodName := ⟨RX6, "nextToBuild", "()I"⟩
abbrev cX6_nextToDismantle : ByteArray := prog_8_method_13_code
def yX6_nextToDismantle : MethodName := ⟨RX6, "nextToDismantle", "()I"⟩
abbrev cX6_clearUnbuilt : ByteArray := prog_8_method_14_code
def yX6_clearUnbuilt : MethodName := ⟨RX6, "clearUnbuilt", "()I"⟩
def RX7 : String := "HallBuilds"
def TX7 : u_T := fun k => match k with
  | 0 => ("HallBuilds", "hall", "LHallBuilds$Hall;", true)
  | 1 => ("HallBuilds", "trial", "LHallBuilds$Hall;", true)
  | 2 => ("HallBuilds", "history", "LHallBuilds$History;", true)
  | 3 => ("HallBuilds", "slots", "LHallBuilds$Slots;", true)
  | 4 => ("HallBuilds", "reader", "LHallBuilds$OrderReader;", true)
  | _ => ("HallBuilds", "pad", "LHallBuilds$Pad;", true)
def tyX7 : Nat → FieldType := fun k => match k with
  | 0 => .object "HallBuilds$Hall"
  | 1 => .object "HallBuilds$Hall"
  | 2 => .object "HallBuilds$History"
  | 3 => .object "HallBuilds$Slots"
  | 4 => .object "HallBuilds$OrderReader"
  | _ => .object "HallBuilds$Pad"
abbrev wsX70 : List Cond := u_ws RX7 TX7 6
theorem nmX7 : ∀ a, a < 6 → ∀ b, b < 6 → a ≠ b → (TX7 a).2.1 ≠ (TX7 b).2.1 := by decide +kernel
theorem tyX7_ok : ∀ k, k < 6 → parseFieldDescriptor (TX7 k).2.2.1 = some (tyX7 k) := by decide +kernel
abbrev cX7_init : ByteArray := prog_1_method_1_code
def yX7_init : MethodName := ⟨RX7, "<init>", "()V"⟩
abbrev cX7_set : ByteArray := prog_1_method_2_code
def yX7_set : MethodName := ⟨RX7, "set", "(II)I"⟩
abbrev cX7_stand : ByteArray := prog_1_method_3_code
def yX7_stand : MethodName := ⟨RX7, "stand", "(IIII)I"⟩
abbrev cX7_crew : ByteArray := prog_1_method_4_code
def yX7_crew : MethodName := ⟨RX7, "crew", "(II)I"⟩
abbrev cX7_end : ByteArray := prog_1_method_5_code
def yX7_end : MethodName := ⟨RX7, "end", "()I"⟩
abbrev cX7_find : ByteArray := prog_1_method_6_code
def yX7_find : MethodName := ⟨RX7, "find", "()I"⟩
abbrev cX7_pass : ByteArray := prog_1_method_7_code
def yX7_pass : MethodName := ⟨RX7, "pass", "(I)I"⟩
abbrev cX7_ofStand : ByteArray := prog_1_method_8_code
def yX7_ofStand : MethodName := ⟨RX7, "ofStand", "(II)I"⟩
abbrev cX7_ofCrew : ByteArray := prog_1_method_9_code
def yX7_ofCrew : MethodName := ⟨RX7, "ofCrew", "(II)I"⟩
abbrev cX7_load : ByteArray := prog_1_method_10_code
def yX7_load : MethodName := ⟨RX7, "load", "(I)I"⟩
abbrev cX7_count : ByteArray := prog_1_method_11_code
def yX7_count : MethodName := ⟨RX7, "count", "(I)I"⟩
abbrev cX7_waitsFor : ByteArray := prog_1_method_12_code
def yX7_waitsFor : MethodName := ⟨RX7, "waitsFor", "(I)I"⟩
abbrev cX7_allIn : ByteArray := prog_1_method_13_code
def yX7_allIn : MethodName := ⟨RX7, "allIn", "()I"⟩
abbrev cX7_withCrew : ByteArray := prog_1_method_14_code
def yX7_withCrew : MethodName := ⟨RX7, "withCrew", "(I)I"⟩
abbrev cX7_leastDock : ByteArray := prog_1_method_15_code
def yX7_leastDock : MethodName := ⟨RX7, "leastDock", "()I"⟩
abbrev cX7_hoursWithDock : ByteArray := prog_1_method_16_code
def yX7_hoursWithDock : MethodName := ⟨RX7, "hoursWithDock", "(II)I"⟩
abbrev cX7_put : ByteArray := prog_1_method_17_code
def yX7_put : MethodName := ⟨RX7, "put", "(J)I"⟩
abbrev cX7_wipe : ByteArray := prog_1_method_18_code
def yX7_wipe : MethodName := ⟨RX7, "wipe", "()I"⟩
abbrev cX7_fault : ByteArray := prog_1_method_19_code
def yX7_fault : MethodName := ⟨RX7, "fault", "()I"⟩
abbrev cX7_carryOut : ByteArray := prog_1_method_20_code
def yX7_carryOut : MethodName := ⟨RX7, "carryOut", "()I"⟩
abbrev cX7_carryOutOne : ByteArray := prog_1_method_21_code
def yX7_carryOutOne : MethodName := ⟨RX7, "carryOutOne", "()I"⟩
abbrev cX7_undo : ByteArray := prog_1_method_22_code
def yX7_undo : MethodName := ⟨RX7, "undo", "()I"⟩
abbrev cX7_save : ByteArray := prog_1_method_23_code
def yX7_save : MethodName := ⟨RX7, "save", "(I)I"⟩
abbrev cX7_restore : ByteArray := prog_1_method_24_code
def yX7_restore : MethodName := ⟨RX7, "restore", "(I)I"⟩
abbrev cX7_isWithin : ByteArray := prog_1_method_25_code
def yX7_isWithin : MethodName := ⟨RX7, "isWithin", "(III)Z"⟩
abbrev cX7_copyRow : ByteArray := prog_1_method_26_code
def yX7_copyRow : MethodName := ⟨RX7, "copyRow", "([I[I)V"⟩
def RX8 : String := "HallBuildsModel"
def TX8 : u_T := fun k => match k with
  | 0 => ("HallBuildsModel", "state", "[I", true)
  | 1 => ("HallBuildsModel", "kept", "[I", true)
  | 2 => ("HallBuildsModel", "history", "[I", true)
  | 3 => ("HallBuildsModel", "recorded", "I", false)
  | 4 => ("HallBuildsModel", "slots", "[I", true)
  | 5 => ("HallBuildsModel", "isSaved", "[I", true)
  | 6 => ("HallBuildsModel", "pad", "[I", true)
  | 7 => ("HallBuildsModel", "padLength", "I", false)
  | 8 => ("HallBuildsModel", "at", "I", false)
  | 9 => ("HallBuildsModel", "letter", "I", false)
  | 10 => ("HallBuildsModel", "first", "I", false)
  | 11 => ("HallBuildsModel", "second", "I", false)
  | 12 => ("HallBuildsModel", "third", "I", false)
  | _ => ("HallBuildsModel", "fourth", "I", false)
def tyX8 : Nat → FieldType := fun k => match k with
  | 0 => .array .int
  | 1 => .array .int
  | 2 => .array .int
  | 3 => .int
  | 4 => .array .int
  | 5 => .array .int
  | 6 => .array .int
  | 7 => .int
  | 8 => .int
  | 9 => .int
  | 10 => .int
  | 11 => .int
  | 12 => .int
  | _ => .int
abbrev wsX80 : List Cond := u_ws RX8 TX8 14
theorem nmX8 : ∀ a, a < 14 → ∀ b, b < 14 → a ≠ b → (TX8 a).2.1 ≠ (TX8 b).2.1 := by decide +kernel
theorem tyX8_ok : ∀ k, k < 14 → parseFieldDescriptor (TX8 k).2.2.1 = some (tyX8 k) := by decide +kernel
abbrev cX8_init : ByteArray := prog_10_method_1_code
def yX8_init : MethodName := ⟨RX8, "<init>", "()V"⟩
abbrev cX8_moves : ByteArray := prog_10_method_3_code
def yX8_moves : MethodName := ⟨RX8, "moves", "([II[II)V"⟩
abbrev cX8_within : ByteArray := prog_10_method_4_code
def yX8_within : MethodName := ⟨RX8, "within", "(III)Z"⟩
abbrev cX8_record : ByteArray := prog_10_method_5_code
def yX8_record : MethodName := ⟨RX8, "record", "()V"⟩
abbrev cX8_isStand : ByteArray := prog_10_method_6_code
def yX8_isStand : MethodName := ⟨RX8, "isStand", "(I)Z"⟩
abbrev cX8_isCrew : ByteArray := prog_10_method_7_code
def yX8_isCrew : MethodName := ⟨RX8, "isCrew", "(I)Z"⟩
abbrev cX8_part : ByteArray := prog_10_method_8_code
def yX8_part : MethodName := ⟨RX8, "part", "(II)I"⟩
abbrev cX8_setPart : ByteArray := prog_10_method_9_code
def yX8_setPart : MethodName := ⟨RX8, "setPart", "(III)V"⟩
abbrev cX8_ofCrewPart : ByteArray := prog_10_method_10_code
def yX8_ofCrewPart : MethodName := ⟨RX8, "ofCrewPart", "(II)I"⟩
abbrev cX8_setCrew : ByteArray := prog_10_method_11_code
def yX8_setCrew : MethodName := ⟨RX8, "setCrew", "(III)V"⟩
abbrev cX8_isHow : ByteArray := prog_10_method_12_code
def yX8_isHow : MethodName := ⟨RX8, "isHow", "(II)Z"⟩
abbrev cX8_withHow : ByteArray := prog_10_method_13_code
def yX8_withHow : MethodName := ⟨RX8, "withHow", "(I)I"⟩
abbrev cX8_standingOn : ByteArray := prog_10_method_14_code
def yX8_standingOn : MethodName := ⟨RX8, "standingOn", "(I)I"⟩
abbrev cX8_meters : ByteArray := prog_10_method_15_code
def yX8_meters : MethodName := ⟨RX8, "meters", "()I"⟩
abbrev cX8_loadOf : ByteArray := prog_10_method_16_code
def yX8_loadOf : MethodName := ⟨RX8, "loadOf", "(I)I"⟩
abbrev cX8_hasBase : ByteArray := prog_10_method_17_code
def yX8_hasBase : MethodName := ⟨RX8, "hasBase", "(I)Z"⟩
abbrev cX8_lorries : ByteArray := prog_10_method_18_code
def yX8_lorries : MethodName := ⟨RX8, "lorries", "()V"⟩
abbrev cX8_nextStand : ByteArray := prog_10_method_19_code
def yX8_nextStand : MethodName := ⟨RX8, "nextStand", "()I"⟩
abbrev cX8_takes : ByteArray := prog_10_method_20_code
def yX8_takes : MethodName := ⟨RX8, "takes", "(II)V"⟩
abbrev cX8_leastLoaded : ByteArray := prog_10_method_21_code
def yX8_leastLoaded : MethodName := ⟨RX8, "leastLoaded", "()I"⟩
abbrev cX8_finishes : ByteArray := prog_10_method_22_code
def yX8_finishes : MethodName := ⟨RX8, "finishes", "(II)V"⟩
abbrev cX8_works : ByteArray := prog_10_method_23_code
def yX8_works : MethodName := ⟨RX8, "works", "(I)Z"⟩
abbrev cX8_passesOne : ByteArray := prog_10_method_24_code
def yX8_passesOne : MethodName := ⟨RX8, "passesOne", "()I"⟩
abbrev cX8_passes : ByteArray := prog_10_method_25_code
def yX8_passes : MethodName := ⟨RX8, "passes", "(I)I"⟩
abbrev cX8_isValue : ByteArray := prog_10_method_26_code
def yX8_isValue : MethodName := ⟨RX8, "isValue", "(II)Z"⟩
abbrev cX8_set : ByteArray := prog_10_method_27_code
def yX8_set : MethodName := ⟨RX8, "set", "(II)I"⟩
abbrev cX8_whyNoStand : ByteArray := prog_10_method_28_code
def yX8_whyNoStand : MethodName := ⟨RX8, "whyNoStand", "(IIII)I"⟩
abbrev cX8_comes : ByteArray := prog_10_method_29_code
def yX8_comes : MethodName := ⟨RX8, "comes", "(IIII)I"⟩
abbrev cX8_stand : ByteArray := prog_10_method_30_code
def yX8_stand : MethodName := ⟨RX8, "stand", "(IIII)I"⟩
abbrev cX8_whyNoCrew : ByteArray := prog_10_method_31_code
def yX8_whyNoCrew : MethodName := ⟨RX8, "whyNoCrew", "(II)I"⟩
abbrev cX8_comesCrew : ByteArray := prog_10_method_32_code
def yX8_comesCrew : MethodName := ⟨RX8, "comesCrew", "(II)I"⟩
abbrev cX8_crew : ByteArray := prog_10_method_33_code
def yX8_crew : MethodName := ⟨RX8, "crew", "(II)I"⟩
abbrev cX8_ends : ByteArray := prog_10_method_34_code
def yX8_ends : MethodName := ⟨RX8, "ends", "()I"⟩
abbrev cX8_end : ByteArray := prog_10_method_35_code
def yX8_end : MethodName := ⟨RX8, "end", "()I"⟩
abbrev cX8_find : ByteArray := prog_10_method_36_code
def yX8_find : MethodName := ⟨RX8, "find", "()I"⟩
abbrev cX8_whyNotPassed : ByteArray := prog_10_method_37_code
def yX8_whyNotPassed : MethodName := ⟨RX8, "whyNotPassed", "(I)I"⟩
abbrev cX8_pass : ByteArray := prog_10_method_38_code
def yX8_pass : MethodName := ⟨RX8, "pass", "(I)I"⟩
abbrev cX8_leftOf : ByteArray := prog_10_method_39_code
def yX8_leftOf : MethodName := ⟨RX8, "leftOf", "(I)I"⟩
abbrev cX8_ofStand : ByteArray := prog_10_method_40_code
def yX8_ofStand : MethodName := ⟨RX8, "ofStand", "(II)I"⟩
abbrev cX8_ofCrew : ByteArray := prog_10_method_41_code
def yX8_ofCrew : MethodName := ⟨RX8, "ofCrew", "(II)I"⟩
abbrev cX8_load : ByteArray := prog_10_method_42_code
def yX8_load : MethodName := ⟨RX8, "load", "(I)I"⟩
abbrev cX8_allCosts : ByteArray := prog_10_method_43_code
def yX8_allCosts : MethodName := ⟨RX8, "allCosts", "()I"⟩
abbrev cX8_withoutPower : ByteArray := prog_10_method_44_code
def yX8_withoutPower : MethodName := ⟨RX8, "withoutPower", "()I"⟩
abbrev cX8_count : ByteArray := prog_10_method_45_code
def yX8_count : MethodName := ⟨RX8, "count", "(I)I"⟩
abbrev cX8_waitsFor : ByteArray := prog_10_method_46_code
def yX8_waitsFor : MethodName := ⟨RX8, "waitsFor", "(I)I"⟩
abbrev cX8_isAllDone : ByteArray := prog_10_method_47_code
def yX8_isAllDone : MethodName := ⟨RX8, "isAllDone", "()Z"⟩
abbrev cX8_goesOn : ByteArray := prog_10_method_48_code
def yX8_goesOn : MethodName := ⟨RX8, "goesOn", "()I"⟩
abbrev cX8_allIn : ByteArray := prog_10_method_49_code
def yX8_allIn : MethodName := ⟨RX8, "allIn", "()I"⟩
abbrev cX8_withCrew : ByteArray := prog_10_method_50_code
def yX8_withCrew : MethodName := ⟨RX8, "withCrew", "(I)I"⟩
abbrev cX8_allWith : ByteArray := prog_10_method_51_code
def yX8_allWith : MethodName := ⟨RX8, "allWith", "(I)I"⟩
abbrev cX8_leastDock : ByteArray := prog_10_method_52_code
def yX8_leastDock : MethodName := ⟨RX8, "leastDock", "()I"⟩
abbrev cX8_put : ByteArray := prog_10_method_53_code
def yX8_put : MethodName := ⟨RX8, "put", "(J)I"⟩
abbrev cX8_wipe : ByteArray := prog_10_method_54_code
def yX8_wipe : MethodName := ⟨RX8, "wipe", "()I"⟩
abbrev cX8_character : ByteArray := prog_10_method_55_code
def yX8_character : MethodName := ⟨RX8, "character", "(I)I"⟩
abbrev cX8_isNext : ByteArray := prog_10_method_56_code
def yX8_isNext : MethodName := ⟨RX8, "isNext", "(I)Z"⟩
abbrev cX8_takeDigit : ByteArray := prog_10_method_57_code
def yX8_takeDigit : MethodName := ⟨RX8, "takeDigit", "(I)I"⟩
abbrev cX8_takeNumber : ByteArray := prog_10_method_58_code
def yX8_takeNumber : MethodName := ⟨RX8, "takeNumber", "()I"⟩
abbrev cX8_readsStand : ByteArray := prog_10_method_59_code
def yX8_readsStand : MethodName := ⟨RX8, "readsStand", "()Z"⟩
abbrev cX8_readsOrder : ByteArray := prog_10_method_60_code
def yX8_readsOrder : MethodName := ⟨RX8, "readsOrder", "()Z"⟩
abbrev cX8_findFault : ByteArray := prog_10_method_61_code
def yX8_findFault : MethodName := ⟨RX8, "findFault", "()I"⟩
abbrev cX8_fault : ByteArray := prog_10_method_62_code
def yX8_fault : MethodName := ⟨RX8, "fault", "()I"⟩
abbrev cX8_whyNotDone : ByteArray := prog_10_method_63_code
def yX8_whyNotDone : MethodName := ⟨RX8, "whyNotDone", "()I"⟩
abbrev cX8_does : ByteArray := prog_10_method_64_code
def yX8_does : MethodName := ⟨RX8, "does", "()V"⟩
abbrev cX8_carryOut : ByteArray := prog_10_method_65_code
def yX8_carryOut : MethodName := ⟨RX8, "carryOut", "()I"⟩
abbrev cX8_undo : ByteArray := prog_10_method_66_code
def yX8_undo : MethodName := ⟨RX8, "undo", "()I"⟩
abbrev cX8_save : ByteArray := prog_10_method_67_code
def yX8_save : MethodName := ⟨RX8, "save", "(I)I"⟩
abbrev cX8_restore : ByteArray := prog_10_method_68_code
def yX8_restore : MethodName := ⟨RX8, "restore", "(I)I"⟩
def RJx8e188 : String := "java/lang/Cloneable"
def TJx8e188 : u_T := fun k => match k with
  | _ => ("", "", "", false)
def tyJx8e188 : Nat → FieldType := fun k => match k with
  | _ => .int
abbrev wsJx8e1880 : List Cond := u_ws RJx8e188 TJx8e188 0
theorem nmJx8e188 : ∀ a, a < 0 → ∀ b, b < 0 → a ≠ b → (TJx8e188 a).2.1 ≠ (TJx8e188 b).2.1 := by decide +kernel
theorem tyJx8e188_ok : ∀ k, k < 0 → parseFieldDescriptor (TJx8e188 k).2.2.1 = some (tyJx8e188 k) := by decide +kernel
def RJ9 : String := "java/lang/Math"
def TJ9 : u_T := fun k => match k with
  | _ => ("", "", "", false)
def tyJ9 : Nat → FieldType := fun k => match k with
  | _ => .int
abbrev wsJ90 : List Cond := u_ws RJ9 TJ9 0
theorem nmJ9 : ∀ a, a < 0 → ∀ b, b < 0 → a ≠ b → (TJ9 a).2.1 ≠ (TJ9 b).2.1 := by decide +kernel
theorem tyJ9_ok : ∀ k, k < 0 → parseFieldDescriptor (TJ9 k).2.2.1 = some (tyJ9 k) := by decide +kernel
abbrev cJ9_max_7cf53 : ByteArray := prog_12_method_65_code
def yJ9_max_7cf53 : MethodName := ⟨RJ9, "max", "(II)I"⟩
abbrev cJ9_min_7cf53 : ByteArray := prog_12_method_69_code
def yJ9_min_7cf53 : MethodName := ⟨RJ9, "min", "(II)I"⟩
def RJ10 : String := "java/lang/System"
def TJ10 : u_T := fun k => match k with
  | _ => ("", "", "", false)
def tyJ10 : Nat → FieldType := fun k => match k with
  | _ => .int
abbrev wsJ100 : List Cond := u_ws RJ10 TJ10 0
theorem nmJ10 : ∀ a, a < 0 → ∀ b, b < 0 → a ≠ b → (TJ10 a).2.1 ≠ (TJ10 b).2.1 := by decide +kernel
theorem tyJ10_ok : ∀ k, k < 0 → parseFieldDescriptor (TJ10 k).2.2.1 = some (tyJ10 k) := by decide +kernel
def RL : String := "HallBuildsLaw"
abbrev cL_law : ByteArray := code
def yL_law : MethodName := ⟨RL, "law", "([I)Z"⟩
def wsX0_init : List Cond := .code yX0_init cX0_init 1 none :: ([.methodLink RX0 3 objectInit, .instanceMethod objectInit, .code objectInit ⟨#[0xb1]⟩ 1 none, .arrayClass .int, .fieldLink RX0 9 "HallBuilds$Crews" "speed" "[I", .fieldLink RX0 15 "HallBuilds$Crews" "rate" "[I", .fieldLink RX0 18 "HallBuilds$Crews" "stand" "[I", .fieldLink RX0 21 "HallBuilds$Crews" "worked" "[I", .fieldLink RX0 24 "HallBuilds$Crews" "built" "[I", .fieldLink RX0 27 "HallBuilds$Crews" "dismantled" "[I"] ++ wsX00)
def wsX7_copyRow : List Cond := .code yX7_copyRow cX7_copyRow 2 none :: ([.methodLink RX7 166 Lib.Math.min.name, .static Lib.Math.min.name, .initialized "java/lang/Math", .code Lib.Math.min.name Lib.Math.min.code 2 (some .int), .methodLink RX7 171 arraycopyName, .native arraycopyName, .static arraycopyName, .initialized "java/lang/System"])
def wsX0_copyFrom : List Cond := .code yX0_copyFrom cX0_copyFrom 2 none :: ([.fieldLink RX0 30 "HallBuilds$Crews" "count" "I", .fieldLink RX0 9 "HallBuilds$Crews" "speed" "[I", .fieldLink RX0 15 "HallBuilds$Crews" "rate" "[I", .fieldLink RX0 18 "HallBuilds$Crews" "stand" "[I", .fieldLink RX0 21 "HallBuilds$Crews" "worked" "[I", .fieldLink RX0 24 "HallBuilds$Crews" "built" "[I", .fieldLink RX0 27 "HallBuilds$Crews" "dismantled" "[I", .static yX7_copyRow, .initialized RX7, .code yX7_copyRow cX7_copyRow 2 none, .methodLink RX7 166 Lib.Math.min.name, .static Lib.Math.min.name, .initialized "java/lang/Math", .code Lib.Math.min.name Lib.Math.min.code 2 (some .int), .methodLink RX7 171 arraycopyName, .native arraycopyName, .static arraycopyName, .initialized "java/lang/System"] ++ wsX00)
def wsX0_append : List Cond := .code yX0_append cX0_append 4 (some .int) :: ([.fieldLink RX0 30 "HallBuilds$Crews" "count" "I", .fieldLink RX0 9 "HallBuilds$Crews" "speed" "[I", .fieldLink RX0 15 "HallBuilds$Crews" "rate" "[I", .fieldLink RX0 18 "HallBuilds$Crews" "stand" "[I", .fieldLink RX0 21 "HallBuilds$Crews" "worked" "[I", .fieldLink RX0 24 "HallBuilds$Crews" "built" "[I", .fieldLink RX0 27 "HallBuilds$Crews" "dismantled" "[I"] ++ wsX00)
def wsX0_tell : List Cond := .code yX0_tell cX0_tell 3 (some .int) :: ([.fieldLink RX0 30 "HallBuilds$Crews" "count" "I", .fieldLink RX0 9 "HallBuilds$Crews" "speed" "[I", .fieldLink RX0 15 "HallBuilds$Crews" "rate" "[I", .fieldLink RX0 18 "HallBuilds$Crews" "stand" "[I", .fieldLink RX0 21 "HallBuilds$Crews" "worked" "[I", .fieldLink RX0 24 "HallBuilds$Crews" "built" "[I", .fieldLink RX0 27 "HallBuilds$Crews" "dismantled" "[I"] ++ wsX00)
def wsX0_costs : List Cond := .code yX0_costs cX0_costs 3 (some .int) :: ([.fieldLink RX0 30 "HallBuilds$Crews" "count" "I", .fieldLink RX0 21 "HallBuilds$Crews" "worked" "[I", .fieldLink RX0 15 "HallBuilds$Crews" "rate" "[I"] ++ wsX00)
def wsX0_letAllGo : List Cond := .code yX0_letAllGo cX0_letAllGo 2 none :: ([.fieldLink RX0 30 "HallBuilds$Crews" "count" "I", .fieldLink RX0 18 "HallBuilds$Crews" "stand" "[I"] ++ wsX00)
def wsX6_init : List Cond := .code yX6_init cX6_init 1 none :: ([.methodLink RX6 3 objectInit, .instanceMethod objectInit, .code objectInit ⟨#[0xb1]⟩ 1 none, .arrayClass .int, .fieldLink RX6 9 "HallBuilds$Stands" "hours" "[I", .fieldLink RX6 15 "HallBuilds$Stands" "length" "[I", .fieldLink RX6 18 "HallBuilds$Stands" "power" "[I", .fieldLink RX6 21 "HallBuilds$Stands" "base" "[I", .fieldLink RX6 24 "HallBuilds$Stands" "state" "[I", .fieldLink RX6 27 "HallBuilds$Stands" "left" "[I", .fieldLink RX6 30 "HallBuilds$Stands" "phase" "[I", .fieldLink RX6 33 "HallBuilds$Stands" "crew" "[I", .fieldLink RX6 36 "HallBuilds$Stands" "spent" "[I", .fieldLink RX6 39 "HallBuilds$Stands" "leaving" "[I"] ++ wsX60)
def wsX1_init_r1 : List Cond := [Cond.methodLink RX1 3 objectInit, Cond.instanceMethod objectInit, Cond.code objectInit ⟨#[0xb1]⟩ 1 none, Cond.methodLink RX1 13 ⟨"[I", "clone", "()Ljava/lang/Object;"⟩, Cond.sameMethod "[I" "java/lang/Object" "clone" "()Ljava/lang/Object;", Cond.native ⟨"java/lang/Object", "clone", "()Ljava/lang/Object;"⟩, Cond.instanceMethod ⟨"java/lang/Object", "clone", "()Ljava/lang/Object;"⟩, Cond.selects "[I" ⟨"[I", "clone", "()Ljava/lang/Object;"⟩ ⟨"java/lang/Object", "clone", "()Ljava/lang/Object;"⟩, Cond.classLink RX1 14 "[I", Cond.fieldLink RX1 18 "HallBuilds$Hall" "settings" "[I", Cond.arrayClass .int, Cond.fieldLink RX1 23 "HallBuilds$Hall" "loads" "[I", Cond.classLink RX1 26 RX6, Cond.instantiable RX6 11, Cond.initialized RX6, Cond.fieldLink RX1 29 "HallBuilds$Hall" "stands" "LHallBuilds$Stands;", Cond.classLink RX1 33 RX0, Cond.instantiable RX0 7, Cond.initialized RX0, Cond.fieldLink RX1 36 "HallBuilds$Hall" "crews" "LHallBuilds$Crews;", Cond.instanceMethod yX6_init, Cond.code yX6_init cX6_init 1 none, Cond.methodLink RX6 3 objectInit, Cond.fieldLink RX6 9 "HallBuilds$Stands" "hours" "[I"]
def wsX1_init_r2 : List Cond := [Cond.fieldLink RX6 15 "HallBuilds$Stands" "length" "[I", Cond.fieldLink RX6 18 "HallBuilds$Stands" "power" "[I", Cond.fieldLink RX6 21 "HallBuilds$Stands" "base" "[I", Cond.fieldLink RX6 24 "HallBuilds$Stands" "state" "[I", Cond.fieldLink RX6 27 "HallBuilds$Stands" "left" "[I", Cond.fieldLink RX6 30 "HallBuilds$Stands" "phase" "[I", Cond.fieldLink RX6 33 "HallBuilds$Stands" "crew" "[I", Cond.fieldLink RX6 36 "HallBuilds$Stands" "spent" "[I", Cond.fieldLink RX6 39 "HallBuilds$Stands" "leaving" "[I", Cond.instanceMethod yX0_init, Cond.code yX0_init cX0_init 1 none, Cond.methodLink RX0 3 objectInit, Cond.fieldLink RX0 9 "HallBuilds$Crews" "speed" "[I", Cond.fieldLink RX0 15 "HallBuilds$Crews" "rate" "[I", Cond.fieldLink RX0 18 "HallBuilds$Crews" "stand" "[I", Cond.fieldLink RX0 21 "HallBuilds$Crews" "worked" "[I", Cond.fieldLink RX0 24 "HallBuilds$Crews" "built" "[I", Cond.fieldLink RX0 27 "HallBuilds$Crews" "dismantled" "[I"]
def wsX1_init : List Cond := .code yX1_init cX1_init 1 none :: ((wsX1_init_r1 ++ wsX1_init_r2) ++ wsX10 ++ wsX60 ++ wsX00)
def wsX6_copyFrom : List Cond := .code yX6_copyFrom cX6_copyFrom 2 none :: ([.fieldLink RX6 42 "HallBuilds$Stands" "count" "I", .fieldLink RX6 9 "HallBuilds$Stands" "hours" "[I", .fieldLink RX6 15 "HallBuilds$Stands" "length" "[I", .fieldLink RX6 18 "HallBuilds$Stands" "power" "[I", .fieldLink RX6 21 "HallBuilds$Stands" "base" "[I", .fieldLink RX6 24 "HallBuilds$Stands" "state" "[I", .fieldLink RX6 27 "HallBuilds$Stands" "left" "[I", .fieldLink RX6 30 "HallBuilds$Stands" "phase" "[I", .fieldLink RX6 33 "HallBuilds$Stands" "crew" "[I", .fieldLink RX6 36 "HallBuilds$Stands" "spent" "[I", .fieldLink RX6 39 "HallBuilds$Stands" "leaving" "[I", .static yX7_copyRow, .initialized RX7, .code yX7_copyRow cX7_copyRow 2 none, .methodLink RX7 166 Lib.Math.min.name, .static Lib.Math.min.name, .initialized "java/lang/Math", .code Lib.Math.min.name Lib.Math.min.code 2 (some .int), .methodLink RX7 171 arraycopyName, .native arraycopyName, .static arraycopyName, .initialized "java/lang/System"] ++ wsX60)
def wsX1_copyFrom_r1 : List Cond := [Cond.fieldLink RX1 18 "HallBuilds$Hall" "settings" "[I", Cond.fieldLink RX1 23 "HallBuilds$Hall" "loads" "[I", Cond.fieldLink RX1 29 "HallBuilds$Hall" "stands" "LHallBuilds$Stands;", Cond.fieldLink RX1 36 "HallBuilds$Hall" "crews" "LHallBuilds$Crews;", Cond.fieldLink RX1 51 "HallBuilds$Hall" "hour" "I", Cond.fieldLink RX1 55 "HallBuilds$Hall" "ended" "Z", Cond.fieldLink RX1 59 "HallBuilds$Hall" "lost" "I", Cond.static yX7_copyRow, Cond.initialized RX7, Cond.code yX7_copyRow cX7_copyRow 2 none, Cond.methodLink RX7 166 Lib.Math.min.name, Cond.static Lib.Math.min.name, Cond.initialized "java/lang/Math", Cond.code Lib.Math.min.name Lib.Math.min.code 2 (some .int), Cond.methodLink RX7 171 arraycopyName, Cond.native arraycopyName, Cond.static arraycopyName, Cond.initialized "java/lang/System", Cond.methodLink RX1 44 yX6_copyFrom, Cond.instanceMethod yX6_copyFrom, Cond.selects RX6 yX6_copyFrom yX6_copyFrom, Cond.initialized RX6, Cond.code yX6_copyFrom cX6_copyFrom 2 none, Cond.fieldLink RX6 42 "HallBuilds$Stands" "count" "I"]
def wsX1_copyFrom_r2 : List Cond := [Cond.fieldLink RX6 9 "HallBuilds$Stands" "hours" "[I", Cond.fieldLink RX6 15 "HallBuilds$Stands" "length" "[I", Cond.fieldLink RX6 18 "HallBuilds$Stands" "power" "[I", Cond.fieldLink RX6 21 "HallBuilds$Stands" "base" "[I", Cond.fieldLink RX6 24 "HallBuilds$Stands" "state" "[I", Cond.fieldLink RX6 27 "HallBuilds$Stands" "left" "[I", Cond.fieldLink RX6 30 "HallBuilds$Stands" "phase" "[I", Cond.fieldLink RX6 33 "HallBuilds$Stands" "crew" "[I", Cond.fieldLink RX6 36 "HallBuilds$Stands" "spent" "[I", Cond.fieldLink RX6 39 "HallBuilds$Stands" "leaving" "[I", Cond.methodLink RX1 48 yX0_copyFrom, Cond.instanceMethod yX0_copyFrom, Cond.selects RX0 yX0_copyFrom yX0_copyFrom, Cond.initialized RX0, Cond.code yX0_copyFrom cX0_copyFrom 2 none, Cond.fieldLink RX0 30 "HallBuilds$Crews" "count" "I", Cond.fieldLink RX0 9 "HallBuilds$Crews" "speed" "[I", Cond.fieldLink RX0 15 "HallBuilds$Crews" "rate" "[I", Cond.fieldLink RX0 18 "HallBuilds$Crews" "stand" "[I", Cond.fieldLink RX0 21 "HallBuilds$Crews" "worked" "[I", Cond.fieldLink RX0 24 "HallBuilds$Crews" "built" "[I", Cond.fieldLink RX0 27 "HallBuilds$Crews" "dismantled" "[I"]
def wsX1_copyFrom : List Cond := .code yX1_copyFrom cX1_copyFrom 2 none :: ((wsX1_copyFrom_r1 ++ wsX1_copyFrom_r2) ++ wsX10 ++ wsX60 ++ wsX00)
def wsX7_isWithin : List Cond := .code yX7_isWithin cX7_isWithin 3 (some .boolean) :: ([])
def wsX1_changeSetting : List Cond := .code yX1_changeSetting cX1_changeSetting 4 (some .int) :: ([.fieldLink RX1 18 "HallBuilds$Hall" "settings" "[I", .static yX7_isWithin, .initialized RX7, .code yX7_isWithin cX7_isWithin 3 (some .boolean)] ++ wsX10)
def wsX6_has : List Cond := .code yX6_has cX6_has 2 (some .boolean) :: ([.fieldLink RX6 42 "HallBuilds$Stands" "count" "I"] ++ wsX60)
def wsX6_isGone : List Cond := .code yX6_isGone cX6_isGone 2 (some .boolean) :: ([.fieldLink RX6 24 "HallBuilds$Stands" "state" "[I", .methodLink RX6 50 yX6_has, .instanceMethod yX6_has, .selects RX6 yX6_has yX6_has, .initialized RX6, .code yX6_has cX6_has 2 (some .boolean), .fieldLink RX6 42 "HallBuilds$Stands" "count" "I"] ++ wsX60)
def wsX6_append : List Cond := .code yX6_append cX6_append 6 (some .int) :: ([.fieldLink RX6 42 "HallBuilds$Stands" "count" "I", .fieldLink RX6 9 "HallBuilds$Stands" "hours" "[I", .fieldLink RX6 15 "HallBuilds$Stands" "length" "[I", .fieldLink RX6 18 "HallBuilds$Stands" "power" "[I", .fieldLink RX6 21 "HallBuilds$Stands" "base" "[I", .fieldLink RX6 24 "HallBuilds$Stands" "state" "[I", .fieldLink RX6 27 "HallBuilds$Stands" "left" "[I", .fieldLink RX6 30 "HallBuilds$Stands" "phase" "[I", .fieldLink RX6 33 "HallBuilds$Stands" "crew" "[I", .fieldLink RX6 36 "HallBuilds$Stands" "spent" "[I", .fieldLink RX6 39 "HallBuilds$Stands" "leaving" "[I"] ++ wsX60)
def wsX1_addStand_r1 : List Cond := [Cond.fieldLink RX1 29 "HallBuilds$Hall" "stands" "LHallBuilds$Stands;", Cond.fieldLink RX1 55 "HallBuilds$Hall" "ended" "Z", Cond.static yX7_isWithin, Cond.initialized RX7, Cond.code yX7_isWithin cX7_isWithin 3 (some .boolean), Cond.methodLink RX1 69 yX6_has, Cond.instanceMethod yX6_has, Cond.selects RX6 yX6_has yX6_has, Cond.initialized RX6, Cond.code yX6_has cX6_has 2 (some .boolean), Cond.fieldLink RX6 42 "HallBuilds$Stands" "count" "I", Cond.methodLink RX1 76 yX6_isGone, Cond.instanceMethod yX6_isGone, Cond.selects RX6 yX6_isGone yX6_isGone, Cond.code yX6_isGone cX6_isGone 2 (some .boolean), Cond.fieldLink RX6 24 "HallBuilds$Stands" "state" "[I", Cond.methodLink RX6 50 yX6_has, Cond.methodLink RX1 79 yX6_append, Cond.instanceMethod yX6_append, Cond.selects RX6 yX6_append yX6_append, Cond.code yX6_append cX6_append 6 (some .int), Cond.fieldLink RX6 9 "HallBuilds$Stands" "hours" "[I", Cond.fieldLink RX6 15 "HallBuilds$Stands" "length" "[I", Cond.fieldLink RX6 18 "HallBuilds$Stands" "power" "[I"]
def wsX1_addStand_r2 : List Cond := [Cond.fieldLink RX6 21 "HallBuilds$Stands" "base" "[I", Cond.fieldLink RX6 27 "HallBuilds$Stands" "left" "[I", Cond.fieldLink RX6 30 "HallBuilds$Stands" "phase" "[I", Cond.fieldLink RX6 33 "HallBuilds$Stands" "crew" "[I", Cond.fieldLink RX6 36 "HallBuilds$Stands" "spent" "[I", Cond.fieldLink RX6 39 "HallBuilds$Stands" "leaving" "[I"]
def wsX1_addStand : List Cond := .code yX1_addStand cX1_addStand 5 (some .int) :: ((wsX1_addStand_r1 ++ wsX1_addStand_r2) ++ wsX10 ++ wsX60)
def wsX1_addCrew : List Cond := .code yX1_addCrew cX1_addCrew 3 (some .int) :: ([.fieldLink RX1 36 "HallBuilds$Hall" "crews" "LHallBuilds$Crews;", .static yX7_isWithin, .initialized RX7, .code yX7_isWithin cX7_isWithin 3 (some .boolean), .methodLink RX1 83 yX0_append, .instanceMethod yX0_append, .selects RX0 yX0_append yX0_append, .initialized RX0, .code yX0_append cX0_append 4 (some .int), .fieldLink RX0 30 "HallBuilds$Crews" "count" "I", .fieldLink RX0 9 "HallBuilds$Crews" "speed" "[I", .fieldLink RX0 15 "HallBuilds$Crews" "rate" "[I", .fieldLink RX0 18 "HallBuilds$Crews" "stand" "[I", .fieldLink RX0 21 "HallBuilds$Crews" "worked" "[I", .fieldLink RX0 24 "HallBuilds$Crews" "built" "[I", .fieldLink RX0 27 "HallBuilds$Crews" "dismantled" "[I"] ++ wsX10 ++ wsX00)
def wsX6_clearUnbuilt : List Cond := .code yX6_clearUnbuilt cX6_clearUnbuilt 3 (some .int) :: ([.fieldLink RX6 42 "HallBuilds$Stands" "count" "I", .fieldLink RX6 24 "HallBuilds$Stands" "state" "[I", .fieldLink RX6 27 "HallBuilds$Stands" "left" "[I", .fieldLink RX6 33 "HallBuilds$Stands" "crew" "[I"] ++ wsX60)
def wsX1_endFair : List Cond := .code yX1_endFair cX1_endFair 1 (some .int) :: ([.fieldLink RX1 55 "HallBuilds$Hall" "ended" "Z", .fieldLink RX1 36 "HallBuilds$Hall" "crews" "LHallBuilds$Crews;", .fieldLink RX1 29 "HallBuilds$Hall" "stands" "LHallBuilds$Stands;", .methodLink RX1 86 yX0_letAllGo, .instanceMethod yX0_letAllGo, .selects RX0 yX0_letAllGo yX0_letAllGo, .initialized RX0, .code yX0_letAllGo cX0_letAllGo 2 none, .fieldLink RX0 30 "HallBuilds$Crews" "count" "I", .fieldLink RX0 18 "HallBuilds$Crews" "stand" "[I", .methodLink RX1 89 yX6_clearUnbuilt, .instanceMethod yX6_clearUnbuilt, .selects RX6 yX6_clearUnbuilt yX6_clearUnbuilt, .initialized RX6, .code yX6_clearUnbuilt cX6_clearUnbuilt 3 (some .int), .fieldLink RX6 42 "HallBuilds$Stands" "count" "I", .fieldLink RX6 24 "HallBuilds$Stands" "state" "[I", .fieldLink RX6 27 "HallBuilds$Stands" "left" "[I", .fieldLink RX6 33 "HallBuilds$Stands" "crew" "[I"] ++ wsX10 ++ wsX00 ++ wsX60)
def wsX1_findLost : List Cond := .code yX1_findLost cX1_findLost 1 (some .int) :: ([.fieldLink RX1 59 "HallBuilds$Hall" "lost" "I"] ++ wsX10)
def wsX1_lorriesLeave : List Cond := .code yX1_lorriesLeave cX1_lorriesLeave 2 none :: ([.fieldLink RX1 29 "HallBuilds$Hall" "stands" "LHallBuilds$Stands;", .fieldLink RX1 51 "HallBuilds$Hall" "hour" "I"] ++ wsX10 ++ wsX60)
def wsX6_metersAtDock : List Cond := .code yX6_metersAtDock cX6_metersAtDock 3 (some .int) :: ([.fieldLink RX6 42 "HallBuilds$Stands" "count" "I", .fieldLink RX6 24 "HallBuilds$Stands" "state" "[I", .fieldLink RX6 15 "HallBuilds$Stands" "length" "[I"] ++ wsX60)
def wsX1_lorriesCome : List Cond := .code yX1_lorriesCome cX1_lorriesCome 3 none :: ([.fieldLink RX1 29 "HallBuilds$Hall" "stands" "LHallBuilds$Stands;", .fieldLink RX1 18 "HallBuilds$Hall" "settings" "[I", .fieldLink RX1 51 "HallBuilds$Hall" "hour" "I", .methodLink RX1 101 yX6_metersAtDock, .instanceMethod yX6_metersAtDock, .selects RX6 yX6_metersAtDock yX6_metersAtDock, .initialized RX6, .code yX6_metersAtDock cX6_metersAtDock 3 (some .int), .fieldLink RX6 42 "HallBuilds$Stands" "count" "I", .fieldLink RX6 24 "HallBuilds$Stands" "state" "[I", .fieldLink RX6 15 "HallBuilds$Stands" "length" "[I"] ++ wsX10 ++ wsX60)
def wsX6_standingOn : List Cond := .code yX6_standingOn cX6_standingOn 4 (some .int) :: ([.fieldLink RX6 42 "HallBuilds$Stands" "count" "I", .fieldLink RX6 21 "HallBuilds$Stands" "base" "[I", .fieldLink RX6 24 "HallBuilds$Stands" "state" "[I"] ++ wsX60)
def wsX6_nextToDismantle : List Cond := .code yX6_nextToDismantle cX6_nextToDismantle 2 (some .int) :: ([.fieldLink RX6 42 "HallBuilds$Stands" "count" "I", .fieldLink RX6 24 "HallBuilds$Stands" "state" "[I", .methodLink RX6 54 yX6_standingOn, .instanceMethod yX6_standingOn, .selects RX6 yX6_standingOn yX6_standingOn, .initialized RX6, .code yX6_standingOn cX6_standingOn 4 (some .int), .fieldLink RX6 21 "HallBuilds$Stands" "base" "[I"] ++ wsX60)
def wsX6_baseIsBuilt : List Cond := .code yX6_baseIsBuilt cX6_baseIsBuilt 3 (some .boolean) :: ([.fieldLink RX6 21 "HallBuilds$Stands" "base" "[I", .fieldLink RX6 24 "HallBuilds$Stands" "state" "[I", .methodLink RX6 50 yX6_has, .instanceMethod yX6_has, .selects RX6 yX6_has yX6_has, .initialized RX6, .code yX6_has cX6_has 2 (some .boolean), .fieldLink RX6 42 "HallBuilds$Stands" "count" "I"] ++ wsX60)
def wsX6_nextToBuild : List Cond := .code yX6_nextToBuild cX6_nextToBuild 2 (some .int) :: ([.fieldLink RX6 42 "HallBuilds$Stands" "count" "I", .fieldLink RX6 24 "HallBuilds$Stands" "state" "[I", .methodLink RX6 58 yX6_baseIsBuilt, .instanceMethod yX6_baseIsBuilt, .selects RX6 yX6_baseIsBuilt yX6_baseIsBuilt, .initialized RX6, .code yX6_baseIsBuilt cX6_baseIsBuilt 3 (some .boolean), .fieldLink RX6 21 "HallBuilds$Stands" "base" "[I", .methodLink RX6 50 yX6_has, .instanceMethod yX6_has, .selects RX6 yX6_has yX6_has, .code yX6_has cX6_has 2 (some .boolean)] ++ wsX60)
def wsX1_takeOffPhase : List Cond := .code yX1_takeOffPhase cX1_takeOffPhase 3 none :: ([.fieldLink RX1 29 "HallBuilds$Hall" "stands" "LHallBuilds$Stands;", .fieldLink RX1 23 "HallBuilds$Hall" "loads" "[I", .methodLink RX1 69 yX6_has, .instanceMethod yX6_has, .selects RX6 yX6_has yX6_has, .initialized RX6, .code yX6_has cX6_has 2 (some .boolean), .fieldLink RX6 42 "HallBuilds$Stands" "count" "I"] ++ wsX10 ++ wsX60)
def wsX1_beginToDismantle : List Cond := .code yX1_beginToDismantle cX1_beginToDismantle 2 none :: ([.fieldLink RX1 29 "HallBuilds$Hall" "stands" "LHallBuilds$Stands;", .methodLink RX1 69 yX6_has, .instanceMethod yX6_has, .selects RX6 yX6_has yX6_has, .initialized RX6, .code yX6_has cX6_has 2 (some .boolean), .fieldLink RX6 42 "HallBuilds$Stands" "count" "I", .methodLink RX1 174 yX1_takeOffPhase, .instanceMethod yX1_takeOffPhase, .selects RX1 yX1_takeOffPhase yX1_takeOffPhase, .initialized RX1, .code yX1_takeOffPhase cX1_takeOffPhase 3 none, .fieldLink RX1 23 "HallBuilds$Hall" "loads" "[I"] ++ wsX10 ++ wsX60)
def wsX1_crewsTakeStands_r1 : List Cond := [Cond.fieldLink RX1 36 "HallBuilds$Hall" "crews" "LHallBuilds$Crews;", Cond.fieldLink RX1 55 "HallBuilds$Hall" "ended" "Z", Cond.fieldLink RX1 29 "HallBuilds$Hall" "stands" "LHallBuilds$Stands;", Cond.methodLink RX1 162 yX6_nextToDismantle, Cond.instanceMethod yX6_nextToDismantle, Cond.selects RX6 yX6_nextToDismantle yX6_nextToDismantle, Cond.initialized RX6, Cond.code yX6_nextToDismantle cX6_nextToDismantle 2 (some .int), Cond.fieldLink RX6 42 "HallBuilds$Stands" "count" "I", Cond.fieldLink RX6 24 "HallBuilds$Stands" "state" "[I", Cond.methodLink RX6 54 yX6_standingOn, Cond.instanceMethod yX6_standingOn, Cond.selects RX6 yX6_standingOn yX6_standingOn, Cond.code yX6_standingOn cX6_standingOn 4 (some .int), Cond.fieldLink RX6 21 "HallBuilds$Stands" "base" "[I", Cond.methodLink RX1 165 yX6_nextToBuild, Cond.instanceMethod yX6_nextToBuild, Cond.selects RX6 yX6_nextToBuild yX6_nextToBuild, Cond.code yX6_nextToBuild cX6_nextToBuild 2 (some .int), Cond.methodLink RX6 58 yX6_baseIsBuilt, Cond.instanceMethod yX6_baseIsBuilt, Cond.selects RX6 yX6_baseIsBuilt yX6_baseIsBuilt, Cond.code yX6_baseIsBuilt cX6_baseIsBuilt 3 (some .boolean), Cond.methodLink RX6 50 yX6_has]
def wsX1_crewsTakeStands_r2 : List Cond := [Cond.instanceMethod yX6_has, Cond.selects RX6 yX6_has yX6_has, Cond.code yX6_has cX6_has 2 (some .boolean), Cond.methodLink RX1 69 yX6_has, Cond.methodLink RX1 171 yX1_beginToDismantle, Cond.instanceMethod yX1_beginToDismantle, Cond.selects RX1 yX1_beginToDismantle yX1_beginToDismantle, Cond.initialized RX1, Cond.code yX1_beginToDismantle cX1_beginToDismantle 2 none, Cond.methodLink RX1 174 yX1_takeOffPhase, Cond.instanceMethod yX1_takeOffPhase, Cond.selects RX1 yX1_takeOffPhase yX1_takeOffPhase, Cond.code yX1_takeOffPhase cX1_takeOffPhase 3 none, Cond.fieldLink RX1 23 "HallBuilds$Hall" "loads" "[I"]
def wsX1_crewsTakeStands : List Cond := .code yX1_crewsTakeStands cX1_crewsTakeStands 3 none :: ((wsX1_crewsTakeStands_r1 ++ wsX1_crewsTakeStands_r2) ++ wsX10 ++ wsX00 ++ wsX60)
def wsX1_putOnPhase : List Cond := .code yX1_putOnPhase cX1_putOnPhase 4 none :: ([.fieldLink RX1 29 "HallBuilds$Hall" "stands" "LHallBuilds$Stands;", .fieldLink RX1 23 "HallBuilds$Hall" "loads" "[I", .fieldLink RX1 18 "HallBuilds$Hall" "settings" "[I", .methodLink RX1 69 yX6_has, .instanceMethod yX6_has, .selects RX6 yX6_has yX6_has, .initialized RX6, .code yX6_has cX6_has 2 (some .boolean), .fieldLink RX6 42 "HallBuilds$Stands" "count" "I"] ++ wsX10 ++ wsX60)
def wsX1_finish : List Cond := .code yX1_finish cX1_finish 3 none :: ([.fieldLink RX1 36 "HallBuilds$Hall" "crews" "LHallBuilds$Crews;", .fieldLink RX1 29 "HallBuilds$Hall" "stands" "LHallBuilds$Stands;", .fieldLink RX1 51 "HallBuilds$Hall" "hour" "I", .fieldLink RX1 59 "HallBuilds$Hall" "lost" "I", .methodLink RX1 69 yX6_has, .instanceMethod yX6_has, .selects RX6 yX6_has yX6_has, .initialized RX6, .code yX6_has cX6_has 2 (some .boolean), .fieldLink RX6 42 "HallBuilds$Stands" "count" "I", .methodLink RX1 196 yX1_putOnPhase, .instanceMethod yX1_putOnPhase, .selects RX1 yX1_putOnPhase yX1_putOnPhase, .initialized RX1, .code yX1_putOnPhase cX1_putOnPhase 4 none, .fieldLink RX1 23 "HallBuilds$Hall" "loads" "[I", .fieldLink RX1 18 "HallBuilds$Hall" "settings" "[I"] ++ wsX10 ++ wsX00 ++ wsX60)
def wsX1_crewsWork_r1 : List Cond := [Cond.fieldLink RX1 36 "HallBuilds$Hall" "crews" "LHallBuilds$Crews;", Cond.fieldLink RX1 29 "HallBuilds$Hall" "stands" "LHallBuilds$Stands;", Cond.methodLink RX1 186 Lib.Math.max.name, Cond.static Lib.Math.max.name, Cond.initialized "java/lang/Math", Cond.code Lib.Math.max.name Lib.Math.max.code 2 (some .int), Cond.methodLink RX1 69 yX6_has, Cond.instanceMethod yX6_has, Cond.selects RX6 yX6_has yX6_has, Cond.initialized RX6, Cond.code yX6_has cX6_has 2 (some .boolean), Cond.fieldLink RX6 42 "HallBuilds$Stands" "count" "I", Cond.methodLink RX1 189 yX1_finish, Cond.instanceMethod yX1_finish, Cond.selects RX1 yX1_finish yX1_finish, Cond.initialized RX1, Cond.code yX1_finish cX1_finish 3 none, Cond.fieldLink RX1 51 "HallBuilds$Hall" "hour" "I", Cond.fieldLink RX1 59 "HallBuilds$Hall" "lost" "I", Cond.methodLink RX1 196 yX1_putOnPhase, Cond.instanceMethod yX1_putOnPhase, Cond.selects RX1 yX1_putOnPhase yX1_putOnPhase, Cond.code yX1_putOnPhase cX1_putOnPhase 4 none, Cond.fieldLink RX1 23 "HallBuilds$Hall" "loads" "[I"]
def wsX1_crewsWork_r2 : List Cond := [Cond.fieldLink RX1 18 "HallBuilds$Hall" "settings" "[I"]
def wsX1_crewsWork : List Cond := .code yX1_crewsWork cX1_crewsWork 5 (some .int) :: ((wsX1_crewsWork_r1 ++ wsX1_crewsWork_r2) ++ wsX10 ++ wsX00 ++ wsX60)
def wsX1_passOneHour_r1 : List Cond := [Cond.fieldLink RX1 51 "HallBuilds$Hall" "hour" "I", Cond.methodLink RX1 135 yX1_lorriesLeave, Cond.instanceMethod yX1_lorriesLeave, Cond.selects RX1 yX1_lorriesLeave yX1_lorriesLeave, Cond.initialized RX1, Cond.code yX1_lorriesLeave cX1_lorriesLeave 2 none, Cond.fieldLink RX1 29 "HallBuilds$Hall" "stands" "LHallBuilds$Stands;", Cond.methodLink RX1 138 yX1_lorriesCome, Cond.instanceMethod yX1_lorriesCome, Cond.selects RX1 yX1_lorriesCome yX1_lorriesCome, Cond.code yX1_lorriesCome cX1_lorriesCome 3 none, Cond.fieldLink RX1 18 "HallBuilds$Hall" "settings" "[I", Cond.methodLink RX1 101 yX6_metersAtDock, Cond.instanceMethod yX6_metersAtDock, Cond.selects RX6 yX6_metersAtDock yX6_metersAtDock, Cond.initialized RX6, Cond.code yX6_metersAtDock cX6_metersAtDock 3 (some .int), Cond.fieldLink RX6 42 "HallBuilds$Stands" "count" "I", Cond.fieldLink RX6 24 "HallBuilds$Stands" "state" "[I", Cond.fieldLink RX6 15 "HallBuilds$Stands" "length" "[I", Cond.methodLink RX1 141 yX1_crewsTakeStands, Cond.instanceMethod yX1_crewsTakeStands, Cond.selects RX1 yX1_crewsTakeStands yX1_crewsTakeStands, Cond.code yX1_crewsTakeStands cX1_crewsTakeStands 3 none]
def wsX1_passOneHour_r2 : List Cond := [Cond.fieldLink RX1 36 "HallBuilds$Hall" "crews" "LHallBuilds$Crews;", Cond.fieldLink RX1 55 "HallBuilds$Hall" "ended" "Z", Cond.methodLink RX1 162 yX6_nextToDismantle, Cond.instanceMethod yX6_nextToDismantle, Cond.selects RX6 yX6_nextToDismantle yX6_nextToDismantle, Cond.code yX6_nextToDismantle cX6_nextToDismantle 2 (some .int), Cond.methodLink RX6 54 yX6_standingOn, Cond.instanceMethod yX6_standingOn, Cond.selects RX6 yX6_standingOn yX6_standingOn, Cond.code yX6_standingOn cX6_standingOn 4 (some .int), Cond.fieldLink RX6 21 "HallBuilds$Stands" "base" "[I", Cond.methodLink RX1 165 yX6_nextToBuild, Cond.instanceMethod yX6_nextToBuild, Cond.selects RX6 yX6_nextToBuild yX6_nextToBuild, Cond.code yX6_nextToBuild cX6_nextToBuild 2 (some .int), Cond.methodLink RX6 58 yX6_baseIsBuilt, Cond.instanceMethod yX6_baseIsBuilt, Cond.selects RX6 yX6_baseIsBuilt yX6_baseIsBuilt, Cond.code yX6_baseIsBuilt cX6_baseIsBuilt 3 (some .boolean), Cond.methodLink RX6 50 yX6_has, Cond.instanceMethod yX6_has, Cond.selects RX6 yX6_has yX6_has, Cond.code yX6_has cX6_has 2 (some .boolean), Cond.methodLink RX1 69 yX6_has]
def wsX1_passOneHour_r3 : List Cond := [Cond.methodLink RX1 171 yX1_beginToDismantle, Cond.instanceMethod yX1_beginToDismantle, Cond.selects RX1 yX1_beginToDismantle yX1_beginToDismantle, Cond.code yX1_beginToDismantle cX1_beginToDismantle 2 none, Cond.methodLink RX1 174 yX1_takeOffPhase, Cond.instanceMethod yX1_takeOffPhase, Cond.selects RX1 yX1_takeOffPhase yX1_takeOffPhase, Cond.code yX1_takeOffPhase cX1_takeOffPhase 3 none, Cond.fieldLink RX1 23 "HallBuilds$Hall" "loads" "[I", Cond.methodLink RX1 144 yX1_crewsWork, Cond.instanceMethod yX1_crewsWork, Cond.selects RX1 yX1_crewsWork yX1_crewsWork, Cond.code yX1_crewsWork cX1_crewsWork 5 (some .int), Cond.methodLink RX1 186 Lib.Math.max.name, Cond.static Lib.Math.max.name, Cond.initialized "java/lang/Math", Cond.code Lib.Math.max.name Lib.Math.max.code 2 (some .int), Cond.methodLink RX1 189 yX1_finish, Cond.instanceMethod yX1_finish, Cond.selects RX1 yX1_finish yX1_finish, Cond.code yX1_finish cX1_finish 3 none, Cond.fieldLink RX1 59 "HallBuilds$Hall" "lost" "I", Cond.methodLink RX1 196 yX1_putOnPhase, Cond.instanceMethod yX1_putOnPhase]
def wsX1_passOneHour_r4 : List Cond := [Cond.selects RX1 yX1_putOnPhase yX1_putOnPhase, Cond.code yX1_putOnPhase cX1_putOnPhase 4 none]
def wsX1_passOneHour : List Cond := .code yX1_passOneHour cX1_passOneHour 2 (some .int) :: ((wsX1_passOneHour_r1 ++ (wsX1_passOneHour_r2 ++ (wsX1_passOneHour_r3 ++ wsX1_passOneHour_r4))) ++ wsX10 ++ wsX60 ++ wsX00)
def wsX1_passHours_r1 : List Cond := [Cond.fieldLink RX1 51 "HallBuilds$Hall" "hour" "I", Cond.static yX7_isWithin, Cond.initialized RX7, Cond.code yX7_isWithin cX7_isWithin 3 (some .boolean), Cond.methodLink RX1 93 yX1_passOneHour, Cond.instanceMethod yX1_passOneHour, Cond.selects RX1 yX1_passOneHour yX1_passOneHour, Cond.initialized RX1, Cond.code yX1_passOneHour cX1_passOneHour 2 (some .int), Cond.methodLink RX1 135 yX1_lorriesLeave, Cond.instanceMethod yX1_lorriesLeave, Cond.selects RX1 yX1_lorriesLeave yX1_lorriesLeave, Cond.code yX1_lorriesLeave cX1_lorriesLeave 2 none, Cond.fieldLink RX1 29 "HallBuilds$Hall" "stands" "LHallBuilds$Stands;", Cond.methodLink RX1 138 yX1_lorriesCome, Cond.instanceMethod yX1_lorriesCome, Cond.selects RX1 yX1_lorriesCome yX1_lorriesCome, Cond.code yX1_lorriesCome cX1_lorriesCome 3 none, Cond.fieldLink RX1 18 "HallBuilds$Hall" "settings" "[I", Cond.methodLink RX1 101 yX6_metersAtDock, Cond.instanceMethod yX6_metersAtDock, Cond.selects RX6 yX6_metersAtDock yX6_metersAtDock, Cond.initialized RX6, Cond.code yX6_metersAtDock cX6_metersAtDock 3 (some .int)]
def wsX1_passHours_r2 : List Cond := [Cond.fieldLink RX6 42 "HallBuilds$Stands" "count" "I", Cond.fieldLink RX6 24 "HallBuilds$Stands" "state" "[I", Cond.fieldLink RX6 15 "HallBuilds$Stands" "length" "[I", Cond.methodLink RX1 141 yX1_crewsTakeStands, Cond.instanceMethod yX1_crewsTakeStands, Cond.selects RX1 yX1_crewsTakeStands yX1_crewsTakeStands, Cond.code yX1_crewsTakeStands cX1_crewsTakeStands 3 none, Cond.fieldLink RX1 36 "HallBuilds$Hall" "crews" "LHallBuilds$Crews;", Cond.fieldLink RX1 55 "HallBuilds$Hall" "ended" "Z", Cond.methodLink RX1 162 yX6_nextToDismantle, Cond.instanceMethod yX6_nextToDismantle, Cond.selects RX6 yX6_nextToDismantle yX6_nextToDismantle, Cond.code yX6_nextToDismantle cX6_nextToDismantle 2 (some .int), Cond.methodLink RX6 54 yX6_standingOn, Cond.instanceMethod yX6_standingOn, Cond.selects RX6 yX6_standingOn yX6_standingOn, Cond.code yX6_standingOn cX6_standingOn 4 (some .int), Cond.fieldLink RX6 21 "HallBuilds$Stands" "base" "[I", Cond.methodLink RX1 165 yX6_nextToBuild, Cond.instanceMethod yX6_nextToBuild, Cond.selects RX6 yX6_nextToBuild yX6_nextToBuild, Cond.code yX6_nextToBuild cX6_nextToBuild 2 (some .int), Cond.methodLink RX6 58 yX6_baseIsBuilt, Cond.instanceMethod yX6_baseIsBuilt]
def wsX1_passHours_r3 : List Cond := [Cond.selects RX6 yX6_baseIsBuilt yX6_baseIsBuilt, Cond.code yX6_baseIsBuilt cX6_baseIsBuilt 3 (some .boolean), Cond.methodLink RX6 50 yX6_has, Cond.instanceMethod yX6_has, Cond.selects RX6 yX6_has yX6_has, Cond.code yX6_has cX6_has 2 (some .boolean), Cond.methodLink RX1 69 yX6_has, Cond.methodLink RX1 171 yX1_beginToDismantle, Cond.instanceMethod yX1_beginToDismantle, Cond.selects RX1 yX1_beginToDismantle yX1_beginToDismantle, Cond.code yX1_beginToDismantle cX1_beginToDismantle 2 none, Cond.methodLink RX1 174 yX1_takeOffPhase, Cond.instanceMethod yX1_takeOffPhase, Cond.selects RX1 yX1_takeOffPhase yX1_takeOffPhase, Cond.code yX1_takeOffPhase cX1_takeOffPhase 3 none, Cond.fieldLink RX1 23 "HallBuilds$Hall" "loads" "[I", Cond.methodLink RX1 144 yX1_crewsWork, Cond.instanceMethod yX1_crewsWork, Cond.selects RX1 yX1_crewsWork yX1_crewsWork, Cond.code yX1_crewsWork cX1_crewsWork 5 (some .int), Cond.methodLink RX1 186 Lib.Math.max.name, Cond.static Lib.Math.max.name, Cond.initialized "java/lang/Math", Cond.code Lib.Math.max.name Lib.Math.max.code 2 (some .int)]
def wsX1_passHours_r4 : List Cond := [Cond.methodLink RX1 189 yX1_finish, Cond.instanceMethod yX1_finish, Cond.selects RX1 yX1_finish yX1_finish, Cond.code yX1_finish cX1_finish 3 none, Cond.fieldLink RX1 59 "HallBuilds$Hall" "lost" "I", Cond.methodLink RX1 196 yX1_putOnPhase, Cond.instanceMethod yX1_putOnPhase, Cond.selects RX1 yX1_putOnPhase yX1_putOnPhase, Cond.code yX1_putOnPhase cX1_putOnPhase 4 none]
def wsX1_passHours : List Cond := .code yX1_passHours cX1_passHours 4 (some .int) :: ((wsX1_passHours_r1 ++ (wsX1_passHours_r2 ++ (wsX1_passHours_r3 ++ wsX1_passHours_r4))) ++ wsX10 ++ wsX60 ++ wsX00)
def wsX1_loadOf : List Cond := .code yX1_loadOf cX1_loadOf 2 (some .int) :: ([.fieldLink RX1 23 "HallBuilds$Hall" "loads" "[I"] ++ wsX10)
def wsX6_countIn : List Cond := .code yX6_countIn cX6_countIn 4 (some .int) :: ([.fieldLink RX6 42 "HallBuilds$Stands" "count" "I", .fieldLink RX6 24 "HallBuilds$Stands" "state" "[I"] ++ wsX60)
def wsX6_builtWithoutPower : List Cond := .code yX6_builtWithoutPower cX6_builtWithoutPower 3 (some .int) :: ([.fieldLink RX6 42 "HallBuilds$Stands" "count" "I", .fieldLink RX6 24 "HallBuilds$Stands" "state" "[I", .fieldLink RX6 18 "HallBuilds$Stands" "power" "[I", .fieldLink RX6 30 "HallBuilds$Stands" "phase" "[I"] ++ wsX60)
def wsX1_number_r1 : List Cond := [Cond.fieldLink RX1 51 "HallBuilds$Hall" "hour" "I", Cond.fieldLink RX1 29 "HallBuilds$Hall" "stands" "LHallBuilds$Stands;", Cond.fieldLink RX1 36 "HallBuilds$Hall" "crews" "LHallBuilds$Crews;", Cond.fieldLink RX1 55 "HallBuilds$Hall" "ended" "Z", Cond.fieldLink RX1 59 "HallBuilds$Hall" "lost" "I", Cond.fieldLink RX1 18 "HallBuilds$Hall" "settings" "[I", Cond.methodLink RX1 97 yX6_countIn, Cond.instanceMethod yX6_countIn, Cond.selects RX6 yX6_countIn yX6_countIn, Cond.initialized RX6, Cond.code yX6_countIn cX6_countIn 4 (some .int), Cond.fieldLink RX6 42 "HallBuilds$Stands" "count" "I", Cond.fieldLink RX6 24 "HallBuilds$Stands" "state" "[I", Cond.methodLink RX1 101 yX6_metersAtDock, Cond.instanceMethod yX6_metersAtDock, Cond.selects RX6 yX6_metersAtDock yX6_metersAtDock, Cond.code yX6_metersAtDock cX6_metersAtDock 3 (some .int), Cond.fieldLink RX6 15 "HallBuilds$Stands" "length" "[I", Cond.methodLink RX1 104 yX0_costs, Cond.instanceMethod yX0_costs, Cond.selects RX0 yX0_costs yX0_costs, Cond.initialized RX0, Cond.code yX0_costs cX0_costs 3 (some .int), Cond.fieldLink RX0 30 "HallBuilds$Crews" "count" "I"]
def wsX1_number_r2 : List Cond := [Cond.fieldLink RX0 21 "HallBuilds$Crews" "worked" "[I", Cond.fieldLink RX0 15 "HallBuilds$Crews" "rate" "[I", Cond.methodLink RX1 107 yX6_builtWithoutPower, Cond.instanceMethod yX6_builtWithoutPower, Cond.selects RX6 yX6_builtWithoutPower yX6_builtWithoutPower, Cond.code yX6_builtWithoutPower cX6_builtWithoutPower 3 (some .int), Cond.fieldLink RX6 18 "HallBuilds$Stands" "power" "[I", Cond.fieldLink RX6 30 "HallBuilds$Stands" "phase" "[I"]
def wsX1_number : List Cond := .code yX1_number cX1_number 2 (some .int) :: ((wsX1_number_r1 ++ wsX1_number_r2) ++ wsX10 ++ wsX60 ++ wsX00)
def wsX1_reasonToWait : List Cond := .code yX1_reasonToWait cX1_reasonToWait 2 (some .int) :: ([.fieldLink RX1 29 "HallBuilds$Hall" "stands" "LHallBuilds$Stands;", .fieldLink RX1 55 "HallBuilds$Hall" "ended" "Z", .methodLink RX1 69 yX6_has, .instanceMethod yX6_has, .selects RX6 yX6_has yX6_has, .initialized RX6, .code yX6_has cX6_has 2 (some .boolean), .fieldLink RX6 42 "HallBuilds$Stands" "count" "I", .methodLink RX1 113 yX6_baseIsBuilt, .instanceMethod yX6_baseIsBuilt, .selects RX6 yX6_baseIsBuilt yX6_baseIsBuilt, .code yX6_baseIsBuilt cX6_baseIsBuilt 3 (some .boolean), .fieldLink RX6 21 "HallBuilds$Stands" "base" "[I", .fieldLink RX6 24 "HallBuilds$Stands" "state" "[I", .methodLink RX6 50 yX6_has, .methodLink RX1 116 yX6_standingOn, .instanceMethod yX6_standingOn, .selects RX6 yX6_standingOn yX6_standingOn, .code yX6_standingOn cX6_standingOn 4 (some .int)] ++ wsX10 ++ wsX60)
def wsX1_allAreIn : List Cond := .code yX1_allAreIn cX1_allAreIn 2 (some .boolean) :: ([.fieldLink RX1 29 "HallBuilds$Hall" "stands" "LHallBuilds$Stands;", .fieldLink RX1 55 "HallBuilds$Hall" "ended" "Z", .methodLink RX1 97 yX6_countIn, .instanceMethod yX6_countIn, .selects RX6 yX6_countIn yX6_countIn, .initialized RX6, .code yX6_countIn cX6_countIn 4 (some .int), .fieldLink RX6 42 "HallBuilds$Stands" "count" "I", .fieldLink RX6 24 "HallBuilds$Stands" "state" "[I"] ++ wsX10 ++ wsX60)
def wsX1_quietHours : List Cond := .code yX1_quietHours cX1_quietHours 5 (some .int) :: ([.fieldLink RX1 29 "HallBuilds$Hall" "stands" "LHallBuilds$Stands;", .fieldLink RX1 51 "HallBuilds$Hall" "hour" "I", .methodLink RX1 126 Lib.Math.min.name, .static Lib.Math.min.name, .initialized "java/lang/Math", .code Lib.Math.min.name Lib.Math.min.code 2 (some .int), .fieldLink RX1 36 "HallBuilds$Hall" "crews" "LHallBuilds$Crews;", .methodLink RX1 69 yX6_has, .instanceMethod yX6_has, .selects RX6 yX6_has yX6_has, .initialized RX6, .code yX6_has cX6_has 2 (some .boolean), .fieldLink RX6 42 "HallBuilds$Stands" "count" "I"] ++ wsX10 ++ wsX60 ++ wsX00)
def wsX1_passQuietHours_r1 : List Cond := [Cond.fieldLink RX1 51 "HallBuilds$Hall" "hour" "I", Cond.methodLink RX1 144 yX1_crewsWork, Cond.instanceMethod yX1_crewsWork, Cond.selects RX1 yX1_crewsWork yX1_crewsWork, Cond.initialized RX1, Cond.code yX1_crewsWork cX1_crewsWork 5 (some .int), Cond.fieldLink RX1 36 "HallBuilds$Hall" "crews" "LHallBuilds$Crews;", Cond.fieldLink RX1 29 "HallBuilds$Hall" "stands" "LHallBuilds$Stands;", Cond.methodLink RX1 186 Lib.Math.max.name, Cond.static Lib.Math.max.name, Cond.initialized "java/lang/Math", Cond.code Lib.Math.max.name Lib.Math.max.code 2 (some .int), Cond.methodLink RX1 69 yX6_has, Cond.instanceMethod yX6_has, Cond.selects RX6 yX6_has yX6_has, Cond.initialized RX6, Cond.code yX6_has cX6_has 2 (some .boolean), Cond.fieldLink RX6 42 "HallBuilds$Stands" "count" "I", Cond.methodLink RX1 189 yX1_finish, Cond.instanceMethod yX1_finish, Cond.selects RX1 yX1_finish yX1_finish, Cond.code yX1_finish cX1_finish 3 none, Cond.fieldLink RX1 59 "HallBuilds$Hall" "lost" "I", Cond.methodLink RX1 196 yX1_putOnPhase]
def wsX1_passQuietHours_r2 : List Cond := [Cond.instanceMethod yX1_putOnPhase, Cond.selects RX1 yX1_putOnPhase yX1_putOnPhase, Cond.code yX1_putOnPhase cX1_putOnPhase 4 none, Cond.fieldLink RX1 23 "HallBuilds$Hall" "loads" "[I", Cond.fieldLink RX1 18 "HallBuilds$Hall" "settings" "[I"]
def wsX1_passQuietHours : List Cond := .code yX1_passQuietHours cX1_passQuietHours 2 none :: ((wsX1_passQuietHours_r1 ++ wsX1_passQuietHours_r2) ++ wsX10 ++ wsX00 ++ wsX60)
def wsX1_hoursUntilAllIn_r1 : List Cond := [Cond.fieldLink RX1 51 "HallBuilds$Hall" "hour" "I", Cond.methodLink RX1 126 Lib.Math.min.name, Cond.static Lib.Math.min.name, Cond.initialized "java/lang/Math", Cond.code Lib.Math.min.name Lib.Math.min.code 2 (some .int), Cond.methodLink RX1 119 yX1_allAreIn, Cond.instanceMethod yX1_allAreIn, Cond.selects RX1 yX1_allAreIn yX1_allAreIn, Cond.initialized RX1, Cond.code yX1_allAreIn cX1_allAreIn 2 (some .boolean), Cond.fieldLink RX1 29 "HallBuilds$Hall" "stands" "LHallBuilds$Stands;", Cond.fieldLink RX1 55 "HallBuilds$Hall" "ended" "Z", Cond.methodLink RX1 97 yX6_countIn, Cond.instanceMethod yX6_countIn, Cond.selects RX6 yX6_countIn yX6_countIn, Cond.initialized RX6, Cond.code yX6_countIn cX6_countIn 4 (some .int), Cond.fieldLink RX6 42 "HallBuilds$Stands" "count" "I", Cond.fieldLink RX6 24 "HallBuilds$Stands" "state" "[I", Cond.methodLink RX1 93 yX1_passOneHour, Cond.instanceMethod yX1_passOneHour, Cond.selects RX1 yX1_passOneHour yX1_passOneHour, Cond.code yX1_passOneHour cX1_passOneHour 2 (some .int), Cond.methodLink RX1 135 yX1_lorriesLeave]
def wsX1_hoursUntilAllIn_r2 : List Cond := [Cond.instanceMethod yX1_lorriesLeave, Cond.selects RX1 yX1_lorriesLeave yX1_lorriesLeave, Cond.code yX1_lorriesLeave cX1_lorriesLeave 2 none, Cond.methodLink RX1 138 yX1_lorriesCome, Cond.instanceMethod yX1_lorriesCome, Cond.selects RX1 yX1_lorriesCome yX1_lorriesCome, Cond.code yX1_lorriesCome cX1_lorriesCome 3 none, Cond.fieldLink RX1 18 "HallBuilds$Hall" "settings" "[I", Cond.methodLink RX1 101 yX6_metersAtDock, Cond.instanceMethod yX6_metersAtDock, Cond.selects RX6 yX6_metersAtDock yX6_metersAtDock, Cond.code yX6_metersAtDock cX6_metersAtDock 3 (some .int), Cond.fieldLink RX6 15 "HallBuilds$Stands" "length" "[I", Cond.methodLink RX1 141 yX1_crewsTakeStands, Cond.instanceMethod yX1_crewsTakeStands, Cond.selects RX1 yX1_crewsTakeStands yX1_crewsTakeStands, Cond.code yX1_crewsTakeStands cX1_crewsTakeStands 3 none, Cond.fieldLink RX1 36 "HallBuilds$Hall" "crews" "LHallBuilds$Crews;", Cond.methodLink RX1 162 yX6_nextToDismantle, Cond.instanceMethod yX6_nextToDismantle, Cond.selects RX6 yX6_nextToDismantle yX6_nextToDismantle, Cond.code yX6_nextToDismantle cX6_nextToDismantle 2 (some .int), Cond.methodLink RX6 54 yX6_standingOn, Cond.instanceMethod yX6_standingOn]
def wsX1_hoursUntilAllIn_r3 : List Cond := [Cond.selects RX6 yX6_standingOn yX6_standingOn, Cond.code yX6_standingOn cX6_standingOn 4 (some .int), Cond.fieldLink RX6 21 "HallBuilds$Stands" "base" "[I", Cond.methodLink RX1 165 yX6_nextToBuild, Cond.instanceMethod yX6_nextToBuild, Cond.selects RX6 yX6_nextToBuild yX6_nextToBuild, Cond.code yX6_nextToBuild cX6_nextToBuild 2 (some .int), Cond.methodLink RX6 58 yX6_baseIsBuilt, Cond.instanceMethod yX6_baseIsBuilt, Cond.selects RX6 yX6_baseIsBuilt yX6_baseIsBuilt, Cond.code yX6_baseIsBuilt cX6_baseIsBuilt 3 (some .boolean), Cond.methodLink RX6 50 yX6_has, Cond.instanceMethod yX6_has, Cond.selects RX6 yX6_has yX6_has, Cond.code yX6_has cX6_has 2 (some .boolean), Cond.methodLink RX1 69 yX6_has, Cond.methodLink RX1 171 yX1_beginToDismantle, Cond.instanceMethod yX1_beginToDismantle, Cond.selects RX1 yX1_beginToDismantle yX1_beginToDismantle, Cond.code yX1_beginToDismantle cX1_beginToDismantle 2 none, Cond.methodLink RX1 174 yX1_takeOffPhase, Cond.instanceMethod yX1_takeOffPhase, Cond.selects RX1 yX1_takeOffPhase yX1_takeOffPhase, Cond.code yX1_takeOffPhase cX1_takeOffPhase 3 none]
def wsX1_hoursUntilAllIn_r4 : List Cond := [Cond.fieldLink RX1 23 "HallBuilds$Hall" "loads" "[I", Cond.methodLink RX1 144 yX1_crewsWork, Cond.instanceMethod yX1_crewsWork, Cond.selects RX1 yX1_crewsWork yX1_crewsWork, Cond.code yX1_crewsWork cX1_crewsWork 5 (some .int), Cond.methodLink RX1 186 Lib.Math.max.name, Cond.static Lib.Math.max.name, Cond.code Lib.Math.max.name Lib.Math.max.code 2 (some .int), Cond.methodLink RX1 189 yX1_finish, Cond.instanceMethod yX1_finish, Cond.selects RX1 yX1_finish yX1_finish, Cond.code yX1_finish cX1_finish 3 none, Cond.fieldLink RX1 59 "HallBuilds$Hall" "lost" "I", Cond.methodLink RX1 196 yX1_putOnPhase, Cond.instanceMethod yX1_putOnPhase, Cond.selects RX1 yX1_putOnPhase yX1_putOnPhase, Cond.code yX1_putOnPhase cX1_putOnPhase 4 none, Cond.methodLink RX1 123 yX1_quietHours, Cond.instanceMethod yX1_quietHours, Cond.selects RX1 yX1_quietHours yX1_quietHours, Cond.code yX1_quietHours cX1_quietHours 5 (some .int), Cond.methodLink RX1 131 yX1_passQuietHours, Cond.instanceMethod yX1_passQuietHours, Cond.selects RX1 yX1_passQuietHours yX1_passQuietHours]
def wsX1_hoursUntilAllIn_r5 : List Cond := [Cond.code yX1_passQuietHours cX1_passQuietHours 2 none]
def wsX1_hoursUntilAllIn : List Cond := .code yX1_hoursUntilAllIn cX1_hoursUntilAllIn 6 (some .int) :: ((wsX1_hoursUntilAllIn_r1 ++ (wsX1_hoursUntilAllIn_r2 ++ (wsX1_hoursUntilAllIn_r3 ++ (wsX1_hoursUntilAllIn_r4 ++ wsX1_hoursUntilAllIn_r5)))) ++ wsX10 ++ wsX60 ++ wsX00)
def wsX2_init_r1 : List Cond := [Cond.methodLink RX2 3 objectInit, Cond.instanceMethod objectInit, Cond.code objectInit ⟨#[0xb1]⟩ 1 none, Cond.classLink RX2 9 RX1, Cond.fieldLink RX2 11 "HallBuilds$History" "states" "[LHallBuilds$Hall;", Cond.instantiable RX1 7, Cond.initialized RX1, Cond.instanceMethod yX1_init, Cond.code yX1_init cX1_init 1 none, Cond.methodLink RX1 3 objectInit, Cond.methodLink RX1 13 ⟨"[I", "clone", "()Ljava/lang/Object;"⟩, Cond.sameMethod "[I" "java/lang/Object" "clone" "()Ljava/lang/Object;", Cond.native ⟨"java/lang/Object", "clone", "()Ljava/lang/Object;"⟩, Cond.instanceMethod ⟨"java/lang/Object", "clone", "()Ljava/lang/Object;"⟩, Cond.selects "[I" ⟨"[I", "clone", "()Ljava/lang/Object;"⟩ ⟨"java/lang/Object", "clone", "()Ljava/lang/Object;"⟩, Cond.classLink RX1 14 "[I", Cond.fieldLink RX1 18 "HallBuilds$Hall" "settings" "[I", Cond.arrayClass .int, Cond.fieldLink RX1 23 "HallBuilds$Hall" "loads" "[I", Cond.classLink RX1 26 RX6, Cond.instantiable RX6 11, Cond.initialized RX6, Cond.fieldLink RX1 29 "HallBuilds$Hall" "stands" "LHallBuilds$Stands;", Cond.classLink RX1 33 RX0]
def wsX2_init_r2 : List Cond := [Cond.instantiable RX0 7, Cond.initialized RX0, Cond.fieldLink RX1 36 "HallBuilds$Hall" "crews" "LHallBuilds$Crews;", Cond.instanceMethod yX6_init, Cond.code yX6_init cX6_init 1 none, Cond.methodLink RX6 3 objectInit, Cond.fieldLink RX6 9 "HallBuilds$Stands" "hours" "[I", Cond.fieldLink RX6 15 "HallBuilds$Stands" "length" "[I", Cond.fieldLink RX6 18 "HallBuilds$Stands" "power" "[I", Cond.fieldLink RX6 21 "HallBuilds$Stands" "base" "[I", Cond.fieldLink RX6 24 "HallBuilds$Stands" "state" "[I", Cond.fieldLink RX6 27 "HallBuilds$Stands" "left" "[I", Cond.fieldLink RX6 30 "HallBuilds$Stands" "phase" "[I", Cond.fieldLink RX6 33 "HallBuilds$Stands" "crew" "[I", Cond.fieldLink RX6 36 "HallBuilds$Stands" "spent" "[I", Cond.fieldLink RX6 39 "HallBuilds$Stands" "leaving" "[I", Cond.instanceMethod yX0_init, Cond.code yX0_init cX0_init 1 none, Cond.methodLink RX0 3 objectInit, Cond.fieldLink RX0 9 "HallBuilds$Crews" "speed" "[I", Cond.fieldLink RX0 15 "HallBuilds$Crews" "rate" "[I", Cond.fieldLink RX0 18 "HallBuilds$Crews" "stand" "[I", Cond.fieldLink RX0 21 "HallBuilds$Crews" "worked" "[I", Cond.fieldLink RX0 24 "HallBuilds$Crews" "built" "[I"]
def wsX2_init_r3 : List Cond := [Cond.fieldLink RX0 27 "HallBuilds$Crews" "dismantled" "[I"]
def wsX2_init : List Cond := .code yX2_init cX2_init 2 none :: ((wsX2_init_r1 ++ (wsX2_init_r2 ++ wsX2_init_r3)) ++ wsX20 ++ wsX10 ++ wsX60 ++ wsX00)
def wsX2_stateAt : List Cond := .code yX2_stateAt cX2_stateAt 2 (some (.object "HallBuilds$Hall")) :: ([.fieldLink RX2 11 "HallBuilds$History" "states" "[LHallBuilds$Hall;"] ++ wsX20)
def wsX2_prepare_r1 : List Cond := [Cond.fieldLink RX2 18 "HallBuilds$History" "next" "I", Cond.methodLink RX2 22 yX2_stateAt, Cond.instanceMethod yX2_stateAt, Cond.selects RX2 yX2_stateAt yX2_stateAt, Cond.initialized RX2, Cond.code yX2_stateAt cX2_stateAt 2 (some (.object "HallBuilds$Hall")), Cond.fieldLink RX2 11 "HallBuilds$History" "states" "[LHallBuilds$Hall;", Cond.methodLink RX2 26 yX1_copyFrom, Cond.instanceMethod yX1_copyFrom, Cond.selects RX1 yX1_copyFrom yX1_copyFrom, Cond.initialized RX1, Cond.code yX1_copyFrom cX1_copyFrom 2 none, Cond.fieldLink RX1 18 "HallBuilds$Hall" "settings" "[I", Cond.fieldLink RX1 23 "HallBuilds$Hall" "loads" "[I", Cond.fieldLink RX1 29 "HallBuilds$Hall" "stands" "LHallBuilds$Stands;", Cond.fieldLink RX1 36 "HallBuilds$Hall" "crews" "LHallBuilds$Crews;", Cond.fieldLink RX1 51 "HallBuilds$Hall" "hour" "I", Cond.fieldLink RX1 55 "HallBuilds$Hall" "ended" "Z", Cond.fieldLink RX1 59 "HallBuilds$Hall" "lost" "I", Cond.static yX7_copyRow, Cond.initialized RX7, Cond.code yX7_copyRow cX7_copyRow 2 none, Cond.methodLink RX7 166 Lib.Math.min.name, Cond.static Lib.Math.min.name]
def wsX2_prepare_r2 : List Cond := [Cond.initialized "java/lang/Math", Cond.code Lib.Math.min.name Lib.Math.min.code 2 (some .int), Cond.methodLink RX7 171 arraycopyName, Cond.native arraycopyName, Cond.static arraycopyName, Cond.initialized "java/lang/System", Cond.methodLink RX1 44 yX6_copyFrom, Cond.instanceMethod yX6_copyFrom, Cond.selects RX6 yX6_copyFrom yX6_copyFrom, Cond.initialized RX6, Cond.code yX6_copyFrom cX6_copyFrom 2 none, Cond.fieldLink RX6 42 "HallBuilds$Stands" "count" "I", Cond.fieldLink RX6 9 "HallBuilds$Stands" "hours" "[I", Cond.fieldLink RX6 15 "HallBuilds$Stands" "length" "[I", Cond.fieldLink RX6 18 "HallBuilds$Stands" "power" "[I", Cond.fieldLink RX6 21 "HallBuilds$Stands" "base" "[I", Cond.fieldLink RX6 24 "HallBuilds$Stands" "state" "[I", Cond.fieldLink RX6 27 "HallBuilds$Stands" "left" "[I", Cond.fieldLink RX6 30 "HallBuilds$Stands" "phase" "[I", Cond.fieldLink RX6 33 "HallBuilds$Stands" "crew" "[I", Cond.fieldLink RX6 36 "HallBuilds$Stands" "spent" "[I", Cond.fieldLink RX6 39 "HallBuilds$Stands" "leaving" "[I", Cond.methodLink RX1 48 yX0_copyFrom, Cond.instanceMethod yX0_copyFrom]
def wsX2_prepare_r3 : List Cond := [Cond.selects RX0 yX0_copyFrom yX0_copyFrom, Cond.initialized RX0, Cond.code yX0_copyFrom cX0_copyFrom 2 none, Cond.fieldLink RX0 30 "HallBuilds$Crews" "count" "I", Cond.fieldLink RX0 9 "HallBuilds$Crews" "speed" "[I", Cond.fieldLink RX0 15 "HallBuilds$Crews" "rate" "[I", Cond.fieldLink RX0 18 "HallBuilds$Crews" "stand" "[I", Cond.fieldLink RX0 21 "HallBuilds$Crews" "worked" "[I", Cond.fieldLink RX0 24 "HallBuilds$Crews" "built" "[I", Cond.fieldLink RX0 27 "HallBuilds$Crews" "dismantled" "[I"]
def wsX2_prepare : List Cond := .code yX2_prepare cX2_prepare 3 none :: ((wsX2_prepare_r1 ++ (wsX2_prepare_r2 ++ wsX2_prepare_r3)) ++ wsX20 ++ wsX10 ++ wsX60 ++ wsX00)
def wsX2_settle : List Cond := .code yX2_settle cX2_settle 2 (some .int) :: ([.fieldLink RX2 18 "HallBuilds$History" "next" "I", .fieldLink RX2 11 "HallBuilds$History" "states" "[LHallBuilds$Hall;", .fieldLink RX2 30 "HallBuilds$History" "kept" "I", .methodLink RX2 33 Lib.Math.min.name, .static Lib.Math.min.name, .initialized "java/lang/Math", .code Lib.Math.min.name Lib.Math.min.code 2 (some .int)] ++ wsX20)
def wsX2_stepBack_r1 : List Cond := [Cond.fieldLink RX2 30 "HallBuilds$History" "kept" "I", Cond.fieldLink RX2 18 "HallBuilds$History" "next" "I", Cond.fieldLink RX2 11 "HallBuilds$History" "states" "[LHallBuilds$Hall;", Cond.methodLink RX2 22 yX2_stateAt, Cond.instanceMethod yX2_stateAt, Cond.selects RX2 yX2_stateAt yX2_stateAt, Cond.initialized RX2, Cond.code yX2_stateAt cX2_stateAt 2 (some (.object "HallBuilds$Hall")), Cond.methodLink RX2 26 yX1_copyFrom, Cond.instanceMethod yX1_copyFrom, Cond.selects RX1 yX1_copyFrom yX1_copyFrom, Cond.initialized RX1, Cond.code yX1_copyFrom cX1_copyFrom 2 none, Cond.fieldLink RX1 18 "HallBuilds$Hall" "settings" "[I", Cond.fieldLink RX1 23 "HallBuilds$Hall" "loads" "[I", Cond.fieldLink RX1 29 "HallBuilds$Hall" "stands" "LHallBuilds$Stands;", Cond.fieldLink RX1 36 "HallBuilds$Hall" "crews" "LHallBuilds$Crews;", Cond.fieldLink RX1 51 "HallBuilds$Hall" "hour" "I", Cond.fieldLink RX1 55 "HallBuilds$Hall" "ended" "Z", Cond.fieldLink RX1 59 "HallBuilds$Hall" "lost" "I", Cond.static yX7_copyRow, Cond.initialized RX7, Cond.code yX7_copyRow cX7_copyRow 2 none, Cond.methodLink RX7 166 Lib.Math.min.name]
def wsX2_stepBack_r2 : List Cond := [Cond.static Lib.Math.min.name, Cond.initialized "java/lang/Math", Cond.code Lib.Math.min.name Lib.Math.min.code 2 (some .int), Cond.methodLink RX7 171 arraycopyName, Cond.native arraycopyName, Cond.static arraycopyName, Cond.initialized "java/lang/System", Cond.methodLink RX1 44 yX6_copyFrom, Cond.instanceMethod yX6_copyFrom, Cond.selects RX6 yX6_copyFrom yX6_copyFrom, Cond.initialized RX6, Cond.code yX6_copyFrom cX6_copyFrom 2 none, Cond.fieldLink RX6 42 "HallBuilds$Stands" "count" "I", Cond.fieldLink RX6 9 "HallBuilds$Stands" "hours" "[I", Cond.fieldLink RX6 15 "HallBuilds$Stands" "length" "[I", Cond.fieldLink RX6 18 "HallBuilds$Stands" "power" "[I", Cond.fieldLink RX6 21 "HallBuilds$Stands" "base" "[I", Cond.fieldLink RX6 24 "HallBuilds$Stands" "state" "[I", Cond.fieldLink RX6 27 "HallBuilds$Stands" "left" "[I", Cond.fieldLink RX6 30 "HallBuilds$Stands" "phase" "[I", Cond.fieldLink RX6 33 "HallBuilds$Stands" "crew" "[I", Cond.fieldLink RX6 36 "HallBuilds$Stands" "spent" "[I", Cond.fieldLink RX6 39 "HallBuilds$Stands" "leaving" "[I", Cond.methodLink RX1 48 yX0_copyFrom]
def wsX2_stepBack_r3 : List Cond := [Cond.instanceMethod yX0_copyFrom, Cond.selects RX0 yX0_copyFrom yX0_copyFrom, Cond.initialized RX0, Cond.code yX0_copyFrom cX0_copyFrom 2 none, Cond.fieldLink RX0 30 "HallBuilds$Crews" "count" "I", Cond.fieldLink RX0 9 "HallBuilds$Crews" "speed" "[I", Cond.fieldLink RX0 15 "HallBuilds$Crews" "rate" "[I", Cond.fieldLink RX0 18 "HallBuilds$Crews" "stand" "[I", Cond.fieldLink RX0 21 "HallBuilds$Crews" "worked" "[I", Cond.fieldLink RX0 24 "HallBuilds$Crews" "built" "[I", Cond.fieldLink RX0 27 "HallBuilds$Crews" "dismantled" "[I"]
def wsX2_stepBack : List Cond := .code yX2_stepBack cX2_stepBack 3 (some .int) :: ((wsX2_stepBack_r1 ++ (wsX2_stepBack_r2 ++ wsX2_stepBack_r3)) ++ wsX20 ++ wsX10 ++ wsX60 ++ wsX00)
def wsX4_init : List Cond := .code yX4_init cX4_init 1 none :: ([.methodLink RX4 3 objectInit, .instanceMethod objectInit, .code objectInit ⟨#[0xb1]⟩ 1 none, .arrayClass .char, .fieldLink RX4 9 "HallBuilds$Pad" "text" "[C"] ++ wsX40)
def wsX3_init : List Cond := .code yX3_init cX3_init 1 none :: ([.methodLink RX3 3 objectInit, .instanceMethod objectInit, .code objectInit ⟨#[0xb1]⟩ 1 none, .classLink RX3 9 RX4, .instantiable RX4 2, .initialized RX4, .fieldLink RX3 12 "HallBuilds$OrderReader" "pad" "LHallBuilds$Pad;", .instanceMethod yX4_init, .code yX4_init cX4_init 1 none, .methodLink RX4 3 objectInit, .arrayClass .char, .fieldLink RX4 9 "HallBuilds$Pad" "text" "[C"] ++ wsX40 ++ wsX30)
def wsX3_start : List Cond := .code yX3_start cX3_start 1 none :: ([.fieldLink RX3 18 "HallBuilds$OrderReader" "at" "I", .fieldLink RX3 22 "HallBuilds$OrderReader" "faulty" "Z"] ++ wsX30)
def wsX4_at : List Cond := .code yX4_at cX4_at 2 (some .char) :: ([.fieldLink RX4 15 "HallBuilds$Pad" "length" "I", .fieldLink RX4 9 "HallBuilds$Pad" "text" "[C"] ++ wsX40)
def wsX3_take : List Cond := .code yX3_take cX3_take 2 (some .boolean) :: ([.fieldLink RX3 22 "HallBuilds$OrderReader" "faulty" "Z", .fieldLink RX3 12 "HallBuilds$OrderReader" "pad" "LHallBuilds$Pad;", .fieldLink RX3 18 "HallBuilds$OrderReader" "at" "I", .methodLink RX3 39 yX4_at, .instanceMethod yX4_at, .selects RX4 yX4_at yX4_at, .initialized RX4, .code yX4_at cX4_at 2 (some .char), .fieldLink RX4 15 "HallBuilds$Pad" "length" "I", .fieldLink RX4 9 "HallBuilds$Pad" "text" "[C"] ++ wsX30 ++ wsX40)
def wsX3_readDigit : List Cond := .code yX3_readDigit cX3_readDigit 2 (some .int) :: ([.fieldLink RX3 12 "HallBuilds$OrderReader" "pad" "LHallBuilds$Pad;", .fieldLink RX3 18 "HallBuilds$OrderReader" "at" "I", .fieldLink RX3 22 "HallBuilds$OrderReader" "faulty" "Z", .methodLink RX3 39 yX4_at, .instanceMethod yX4_at, .selects RX4 yX4_at yX4_at, .initialized RX4, .code yX4_at cX4_at 2 (some .char), .fieldLink RX4 15 "HallBuilds$Pad" "length" "I", .fieldLink RX4 9 "HallBuilds$Pad" "text" "[C", .static yX7_isWithin, .initialized RX7, .code yX7_isWithin cX7_isWithin 3 (some .boolean)] ++ wsX30 ++ wsX40)
def wsX3_readNumber : List Cond := .code yX3_readNumber cX3_readNumber 2 (some .int) :: ([.fieldLink RX3 22 "HallBuilds$OrderReader" "faulty" "Z", .fieldLink RX3 12 "HallBuilds$OrderReader" "pad" "LHallBuilds$Pad;", .fieldLink RX3 18 "HallBuilds$OrderReader" "at" "I", .methodLink RX3 32 yX3_take, .instanceMethod yX3_take, .selects RX3 yX3_take yX3_take, .initialized RX3, .code yX3_take cX3_take 2 (some .boolean), .methodLink RX3 39 yX4_at, .instanceMethod yX4_at, .selects RX4 yX4_at yX4_at, .initialized RX4, .code yX4_at cX4_at 2 (some .char), .fieldLink RX4 15 "HallBuilds$Pad" "length" "I", .fieldLink RX4 9 "HallBuilds$Pad" "text" "[C", .methodLink RX3 65 yX3_readDigit, .instanceMethod yX3_readDigit, .selects RX3 yX3_readDigit yX3_readDigit, .code yX3_readDigit cX3_readDigit 2 (some .int), .static yX7_isWithin, .initialized RX7, .code yX7_isWithin cX7_isWithin 3 (some .boolean)] ++ wsX30 ++ wsX40)
def wsX3_expect : List Cond := .code yX3_expect cX3_expect 2 none :: ([.fieldLink RX3 22 "HallBuilds$OrderReader" "faulty" "Z", .methodLink RX3 32 yX3_take, .instanceMethod yX3_take, .selects RX3 yX3_take yX3_take, .initialized RX3, .code yX3_take cX3_take 2 (some .boolean), .fieldLink RX3 12 "HallBuilds$OrderReader" "pad" "LHallBuilds$Pad;", .fieldLink RX3 18 "HallBuilds$OrderReader" "at" "I", .methodLink RX3 39 yX4_at, .instanceMethod yX4_at, .selects RX4 yX4_at yX4_at, .initialized RX4, .code yX4_at cX4_at 2 (some .char), .fieldLink RX4 15 "HallBuilds$Pad" "length" "I", .fieldLink RX4 9 "HallBuilds$Pad" "text" "[C"] ++ wsX30 ++ wsX40)
def wsX3_readOrder_r1 : List Cond := [Cond.fieldLink RX3 12 "HallBuilds$OrderReader" "pad" "LHallBuilds$Pad;", Cond.fieldLink RX3 18 "HallBuilds$OrderReader" "at" "I", Cond.fieldLink RX3 42 "HallBuilds$OrderReader" "kind" "I", Cond.fieldLink RX3 45 "HallBuilds$OrderReader" "base" "I", Cond.fieldLink RX3 52 "HallBuilds$OrderReader" "first" "I", Cond.fieldLink RX3 59 "HallBuilds$OrderReader" "second" "I", Cond.fieldLink RX3 62 "HallBuilds$OrderReader" "third" "I", Cond.methodLink RX3 39 yX4_at, Cond.instanceMethod yX4_at, Cond.selects RX4 yX4_at yX4_at, Cond.initialized RX4, Cond.code yX4_at cX4_at 2 (some .char), Cond.fieldLink RX4 15 "HallBuilds$Pad" "length" "I", Cond.fieldLink RX4 9 "HallBuilds$Pad" "text" "[C", Cond.methodLink RX3 32 yX3_take, Cond.instanceMethod yX3_take, Cond.selects RX3 yX3_take yX3_take, Cond.initialized RX3, Cond.code yX3_take cX3_take 2 (some .boolean), Cond.fieldLink RX3 22 "HallBuilds$OrderReader" "faulty" "Z", Cond.methodLink RX3 48 yX3_readNumber, Cond.instanceMethod yX3_readNumber, Cond.selects RX3 yX3_readNumber yX3_readNumber, Cond.code yX3_readNumber cX3_readNumber 2 (some .int)]
def wsX3_readOrder_r2 : List Cond := [Cond.methodLink RX3 65 yX3_readDigit, Cond.instanceMethod yX3_readDigit, Cond.selects RX3 yX3_readDigit yX3_readDigit, Cond.code yX3_readDigit cX3_readDigit 2 (some .int), Cond.static yX7_isWithin, Cond.initialized RX7, Cond.code yX7_isWithin cX7_isWithin 3 (some .boolean), Cond.methodLink RX3 55 yX3_expect, Cond.instanceMethod yX3_expect, Cond.selects RX3 yX3_expect yX3_expect, Cond.code yX3_expect cX3_expect 2 none]
def wsX3_readOrder : List Cond := .code yX3_readOrder cX3_readOrder 1 none :: ((wsX3_readOrder_r1 ++ wsX3_readOrder_r2) ++ wsX30 ++ wsX40)
def wsX3_findFault_r1 : List Cond := [Cond.fieldLink RX3 22 "HallBuilds$OrderReader" "faulty" "Z", Cond.fieldLink RX3 18 "HallBuilds$OrderReader" "at" "I", Cond.fieldLink RX3 12 "HallBuilds$OrderReader" "pad" "LHallBuilds$Pad;", Cond.methodLink RX3 26 yX3_start, Cond.instanceMethod yX3_start, Cond.selects RX3 yX3_start yX3_start, Cond.initialized RX3, Cond.code yX3_start cX3_start 1 none, Cond.methodLink RX3 29 yX3_readOrder, Cond.instanceMethod yX3_readOrder, Cond.selects RX3 yX3_readOrder yX3_readOrder, Cond.code yX3_readOrder cX3_readOrder 1 none, Cond.fieldLink RX3 42 "HallBuilds$OrderReader" "kind" "I", Cond.fieldLink RX3 45 "HallBuilds$OrderReader" "base" "I", Cond.fieldLink RX3 52 "HallBuilds$OrderReader" "first" "I", Cond.fieldLink RX3 59 "HallBuilds$OrderReader" "second" "I", Cond.fieldLink RX3 62 "HallBuilds$OrderReader" "third" "I", Cond.methodLink RX3 39 yX4_at, Cond.instanceMethod yX4_at, Cond.selects RX4 yX4_at yX4_at, Cond.initialized RX4, Cond.code yX4_at cX4_at 2 (some .char), Cond.fieldLink RX4 15 "HallBuilds$Pad" "length" "I", Cond.fieldLink RX4 9 "HallBuilds$Pad" "text" "[C"]
def wsX3_findFault_r2 : List Cond := [Cond.methodLink RX3 32 yX3_take, Cond.instanceMethod yX3_take, Cond.selects RX3 yX3_take yX3_take, Cond.code yX3_take cX3_take 2 (some .boolean), Cond.methodLink RX3 48 yX3_readNumber, Cond.instanceMethod yX3_readNumber, Cond.selects RX3 yX3_readNumber yX3_readNumber, Cond.code yX3_readNumber cX3_readNumber 2 (some .int), Cond.methodLink RX3 65 yX3_readDigit, Cond.instanceMethod yX3_readDigit, Cond.selects RX3 yX3_readDigit yX3_readDigit, Cond.code yX3_readDigit cX3_readDigit 2 (some .int), Cond.static yX7_isWithin, Cond.initialized RX7, Cond.code yX7_isWithin cX7_isWithin 3 (some .boolean), Cond.methodLink RX3 55 yX3_expect, Cond.instanceMethod yX3_expect, Cond.selects RX3 yX3_expect yX3_expect, Cond.code yX3_expect cX3_expect 2 none]
def wsX3_findFault : List Cond := .code yX3_findFault cX3_findFault 3 (some .int) :: ((wsX3_findFault_r1 ++ wsX3_findFault_r2) ++ wsX30 ++ wsX40)
def wsX4_wellFormed : List Cond := .code yX4_wellFormed cX4_wellFormed 7 (some .int) :: ([.constantLong RX4 23 (255), .static yX7_isWithin, .initialized RX7, .code yX7_isWithin cX7_isWithin 3 (some .boolean)])
def wsX4_append : List Cond := .code yX4_append cX4_append 5 (some .int) :: ([.fieldLink RX4 15 "HallBuilds$Pad" "length" "I", .fieldLink RX4 9 "HallBuilds$Pad" "text" "[C", .constantLong RX4 23 (255), .methodLink RX4 19 yX4_wellFormed, .static yX4_wellFormed, .initialized RX4, .code yX4_wellFormed cX4_wellFormed 7 (some .int), .static yX7_isWithin, .initialized RX7, .code yX7_isWithin cX7_isWithin 3 (some .boolean)] ++ wsX40)
def wsX4_clear : List Cond := .code yX4_clear cX4_clear 2 (some .int) :: ([.fieldLink RX4 15 "HallBuilds$Pad" "length" "I"] ++ wsX40)
def wsX5_init_r1 : List Cond := [Cond.methodLink RX5 3 objectInit, Cond.instanceMethod objectInit, Cond.code objectInit ⟨#[0xb1]⟩ 1 none, Cond.classLink RX5 9 RX1, Cond.fieldLink RX5 11 "HallBuilds$Slots" "states" "[LHallBuilds$Hall;", Cond.arrayClass .boolean, Cond.fieldLink RX5 17 "HallBuilds$Slots" "saved" "[Z", Cond.instantiable RX1 7, Cond.initialized RX1, Cond.instanceMethod yX1_init, Cond.code yX1_init cX1_init 1 none, Cond.methodLink RX1 3 objectInit, Cond.methodLink RX1 13 ⟨"[I", "clone", "()Ljava/lang/Object;"⟩, Cond.sameMethod "[I" "java/lang/Object" "clone" "()Ljava/lang/Object;", Cond.native ⟨"java/lang/Object", "clone", "()Ljava/lang/Object;"⟩, Cond.instanceMethod ⟨"java/lang/Object", "clone", "()Ljava/lang/Object;"⟩, Cond.selects "[I" ⟨"[I", "clone", "()Ljava/lang/Object;"⟩ ⟨"java/lang/Object", "clone", "()Ljava/lang/Object;"⟩, Cond.classLink RX1 14 "[I", Cond.fieldLink RX1 18 "HallBuilds$Hall" "settings" "[I", Cond.arrayClass .int, Cond.fieldLink RX1 23 "HallBuilds$Hall" "loads" "[I", Cond.classLink RX1 26 RX6, Cond.instantiable RX6 11, Cond.initialized RX6]
def wsX5_init_r2 : List Cond := [Cond.fieldLink RX1 29 "HallBuilds$Hall" "stands" "LHallBuilds$Stands;", Cond.classLink RX1 33 RX0, Cond.instantiable RX0 7, Cond.initialized RX0, Cond.fieldLink RX1 36 "HallBuilds$Hall" "crews" "LHallBuilds$Crews;", Cond.instanceMethod yX6_init, Cond.code yX6_init cX6_init 1 none, Cond.methodLink RX6 3 objectInit, Cond.fieldLink RX6 9 "HallBuilds$Stands" "hours" "[I", Cond.fieldLink RX6 15 "HallBuilds$Stands" "length" "[I", Cond.fieldLink RX6 18 "HallBuilds$Stands" "power" "[I", Cond.fieldLink RX6 21 "HallBuilds$Stands" "base" "[I", Cond.fieldLink RX6 24 "HallBuilds$Stands" "state" "[I", Cond.fieldLink RX6 27 "HallBuilds$Stands" "left" "[I", Cond.fieldLink RX6 30 "HallBuilds$Stands" "phase" "[I", Cond.fieldLink RX6 33 "HallBuilds$Stands" "crew" "[I", Cond.fieldLink RX6 36 "HallBuilds$Stands" "spent" "[I", Cond.fieldLink RX6 39 "HallBuilds$Stands" "leaving" "[I", Cond.instanceMethod yX0_init, Cond.code yX0_init cX0_init 1 none, Cond.methodLink RX0 3 objectInit, Cond.fieldLink RX0 9 "HallBuilds$Crews" "speed" "[I", Cond.fieldLink RX0 15 "HallBuilds$Crews" "rate" "[I", Cond.fieldLink RX0 18 "HallBuilds$Crews" "stand" "[I"]
def wsX5_init_r3 : List Cond := [Cond.fieldLink RX0 21 "HallBuilds$Crews" "worked" "[I", Cond.fieldLink RX0 24 "HallBuilds$Crews" "built" "[I", Cond.fieldLink RX0 27 "HallBuilds$Crews" "dismantled" "[I"]
def wsX5_init : List Cond := .code yX5_init cX5_init 2 none :: ((wsX5_init_r1 ++ (wsX5_init_r2 ++ wsX5_init_r3)) ++ wsX50 ++ wsX10 ++ wsX60 ++ wsX00)
def wsX5_keep_r1 : List Cond := [Cond.fieldLink RX5 11 "HallBuilds$Slots" "states" "[LHallBuilds$Hall;", Cond.fieldLink RX5 17 "HallBuilds$Slots" "saved" "[Z", Cond.methodLink RX5 22 yX1_copyFrom, Cond.instanceMethod yX1_copyFrom, Cond.selects RX1 yX1_copyFrom yX1_copyFrom, Cond.initialized RX1, Cond.code yX1_copyFrom cX1_copyFrom 2 none, Cond.fieldLink RX1 18 "HallBuilds$Hall" "settings" "[I", Cond.fieldLink RX1 23 "HallBuilds$Hall" "loads" "[I", Cond.fieldLink RX1 29 "HallBuilds$Hall" "stands" "LHallBuilds$Stands;", Cond.fieldLink RX1 36 "HallBuilds$Hall" "crews" "LHallBuilds$Crews;", Cond.fieldLink RX1 51 "HallBuilds$Hall" "hour" "I", Cond.fieldLink RX1 55 "HallBuilds$Hall" "ended" "Z", Cond.fieldLink RX1 59 "HallBuilds$Hall" "lost" "I", Cond.static yX7_copyRow, Cond.initialized RX7, Cond.code yX7_copyRow cX7_copyRow 2 none, Cond.methodLink RX7 166 Lib.Math.min.name, Cond.static Lib.Math.min.name, Cond.initialized "java/lang/Math", Cond.code Lib.Math.min.name Lib.Math.min.code 2 (some .int), Cond.methodLink RX7 171 arraycopyName, Cond.native arraycopyName, Cond.static arraycopyName]
def wsX5_keep_r2 : List Cond := [Cond.initialized "java/lang/System", Cond.methodLink RX1 44 yX6_copyFrom, Cond.instanceMethod yX6_copyFrom, Cond.selects RX6 yX6_copyFrom yX6_copyFrom, Cond.initialized RX6, Cond.code yX6_copyFrom cX6_copyFrom 2 none, Cond.fieldLink RX6 42 "HallBuilds$Stands" "count" "I", Cond.fieldLink RX6 9 "HallBuilds$Stands" "hours" "[I", Cond.fieldLink RX6 15 "HallBuilds$Stands" "length" "[I", Cond.fieldLink RX6 18 "HallBuilds$Stands" "power" "[I", Cond.fieldLink RX6 21 "HallBuilds$Stands" "base" "[I", Cond.fieldLink RX6 24 "HallBuilds$Stands" "state" "[I", Cond.fieldLink RX6 27 "HallBuilds$Stands" "left" "[I", Cond.fieldLink RX6 30 "HallBuilds$Stands" "phase" "[I", Cond.fieldLink RX6 33 "HallBuilds$Stands" "crew" "[I", Cond.fieldLink RX6 36 "HallBuilds$Stands" "spent" "[I", Cond.fieldLink RX6 39 "HallBuilds$Stands" "leaving" "[I", Cond.methodLink RX1 48 yX0_copyFrom, Cond.instanceMethod yX0_copyFrom, Cond.selects RX0 yX0_copyFrom yX0_copyFrom, Cond.initialized RX0, Cond.code yX0_copyFrom cX0_copyFrom 2 none, Cond.fieldLink RX0 30 "HallBuilds$Crews" "count" "I", Cond.fieldLink RX0 9 "HallBuilds$Crews" "speed" "[I"]
def wsX5_keep_r3 : List Cond := [Cond.fieldLink RX0 15 "HallBuilds$Crews" "rate" "[I", Cond.fieldLink RX0 18 "HallBuilds$Crews" "stand" "[I", Cond.fieldLink RX0 21 "HallBuilds$Crews" "worked" "[I", Cond.fieldLink RX0 24 "HallBuilds$Crews" "built" "[I", Cond.fieldLink RX0 27 "HallBuilds$Crews" "dismantled" "[I"]
def wsX5_keep : List Cond := .code yX5_keep cX5_keep 4 (some .int) :: ((wsX5_keep_r1 ++ (wsX5_keep_r2 ++ wsX5_keep_r3)) ++ wsX50 ++ wsX10 ++ wsX60 ++ wsX00)
def wsX5_giveBack_r1 : List Cond := [Cond.fieldLink RX5 11 "HallBuilds$Slots" "states" "[LHallBuilds$Hall;", Cond.fieldLink RX5 17 "HallBuilds$Slots" "saved" "[Z", Cond.methodLink RX5 22 yX1_copyFrom, Cond.instanceMethod yX1_copyFrom, Cond.selects RX1 yX1_copyFrom yX1_copyFrom, Cond.initialized RX1, Cond.code yX1_copyFrom cX1_copyFrom 2 none, Cond.fieldLink RX1 18 "HallBuilds$Hall" "settings" "[I", Cond.fieldLink RX1 23 "HallBuilds$Hall" "loads" "[I", Cond.fieldLink RX1 29 "HallBuilds$Hall" "stands" "LHallBuilds$Stands;", Cond.fieldLink RX1 36 "HallBuilds$Hall" "crews" "LHallBuilds$Crews;", Cond.fieldLink RX1 51 "HallBuilds$Hall" "hour" "I", Cond.fieldLink RX1 55 "HallBuilds$Hall" "ended" "Z", Cond.fieldLink RX1 59 "HallBuilds$Hall" "lost" "I", Cond.static yX7_copyRow, Cond.initialized RX7, Cond.code yX7_copyRow cX7_copyRow 2 none, Cond.methodLink RX7 166 Lib.Math.min.name, Cond.static Lib.Math.min.name, Cond.initialized "java/lang/Math", Cond.code Lib.Math.min.name Lib.Math.min.code 2 (some .int), Cond.methodLink RX7 171 arraycopyName, Cond.native arraycopyName, Cond.static arraycopyName]
def wsX5_giveBack_r2 : List Cond := [Cond.initialized "java/lang/System", Cond.methodLink RX1 44 yX6_copyFrom, Cond.instanceMethod yX6_copyFrom, Cond.selects RX6 yX6_copyFrom yX6_copyFrom, Cond.initialized RX6, Cond.code yX6_copyFrom cX6_copyFrom 2 none, Cond.fieldLink RX6 42 "HallBuilds$Stands" "count" "I", Cond.fieldLink RX6 9 "HallBuilds$Stands" "hours" "[I", Cond.fieldLink RX6 15 "HallBuilds$Stands" "length" "[I", Cond.fieldLink RX6 18 "HallBuilds$Stands" "power" "[I", Cond.fieldLink RX6 21 "HallBuilds$Stands" "base" "[I", Cond.fieldLink RX6 24 "HallBuilds$Stands" "state" "[I", Cond.fieldLink RX6 27 "HallBuilds$Stands" "left" "[I", Cond.fieldLink RX6 30 "HallBuilds$Stands" "phase" "[I", Cond.fieldLink RX6 33 "HallBuilds$Stands" "crew" "[I", Cond.fieldLink RX6 36 "HallBuilds$Stands" "spent" "[I", Cond.fieldLink RX6 39 "HallBuilds$Stands" "leaving" "[I", Cond.methodLink RX1 48 yX0_copyFrom, Cond.instanceMethod yX0_copyFrom, Cond.selects RX0 yX0_copyFrom yX0_copyFrom, Cond.initialized RX0, Cond.code yX0_copyFrom cX0_copyFrom 2 none, Cond.fieldLink RX0 30 "HallBuilds$Crews" "count" "I", Cond.fieldLink RX0 9 "HallBuilds$Crews" "speed" "[I"]
def wsX5_giveBack_r3 : List Cond := [Cond.fieldLink RX0 15 "HallBuilds$Crews" "rate" "[I", Cond.fieldLink RX0 18 "HallBuilds$Crews" "stand" "[I", Cond.fieldLink RX0 21 "HallBuilds$Crews" "worked" "[I", Cond.fieldLink RX0 24 "HallBuilds$Crews" "built" "[I", Cond.fieldLink RX0 27 "HallBuilds$Crews" "dismantled" "[I"]
def wsX5_giveBack : List Cond := .code yX5_giveBack cX5_giveBack 4 (some .int) :: ((wsX5_giveBack_r1 ++ (wsX5_giveBack_r2 ++ wsX5_giveBack_r3)) ++ wsX50 ++ wsX10 ++ wsX60 ++ wsX00)
def wsX6_tell : List Cond := .code yX6_tell cX6_tell 3 (some .int) :: ([.fieldLink RX6 9 "HallBuilds$Stands" "hours" "[I", .fieldLink RX6 15 "HallBuilds$Stands" "length" "[I", .fieldLink RX6 18 "HallBuilds$Stands" "power" "[I", .fieldLink RX6 21 "HallBuilds$Stands" "base" "[I", .fieldLink RX6 24 "HallBuilds$Stands" "state" "[I", .fieldLink RX6 27 "HallBuilds$Stands" "left" "[I", .fieldLink RX6 30 "HallBuilds$Stands" "phase" "[I", .fieldLink RX6 33 "HallBuilds$Stands" "crew" "[I", .fieldLink RX6 36 "HallBuilds$Stands" "spent" "[I", .methodLink RX6 50 yX6_has, .instanceMethod yX6_has, .selects RX6 yX6_has yX6_has, .initialized RX6, .code yX6_has cX6_has 2 (some .boolean), .fieldLink RX6 42 "HallBuilds$Stands" "count" "I", .methodLink RX6 54 yX6_standingOn, .instanceMethod yX6_standingOn, .selects RX6 yX6_standingOn yX6_standingOn, .code yX6_standingOn cX6_standingOn 4 (some .int)] ++ wsX60)
def wsX7_init_r1 : List Cond := [Cond.methodLink RX7 1 objectInit, Cond.instanceMethod objectInit, Cond.code objectInit ⟨#[0xb1]⟩ 1 none, Cond.classLink RX7 7 RX1, Cond.instantiable RX1 7, Cond.initialized RX1, Cond.fieldLink RX7 10 "HallBuilds" "hall" "LHallBuilds$Hall;", Cond.fieldLink RX7 16 "HallBuilds" "trial" "LHallBuilds$Hall;", Cond.classLink RX7 19 RX2, Cond.instantiable RX2 3, Cond.initialized RX2, Cond.fieldLink RX7 22 "HallBuilds" "history" "LHallBuilds$History;", Cond.classLink RX7 26 RX5, Cond.instantiable RX5 2, Cond.initialized RX5, Cond.fieldLink RX7 29 "HallBuilds" "slots" "LHallBuilds$Slots;", Cond.classLink RX7 33 RX3, Cond.instantiable RX3 8, Cond.initialized RX3, Cond.fieldLink RX7 36 "HallBuilds" "reader" "LHallBuilds$OrderReader;", Cond.fieldLink RX7 44 "HallBuilds" "pad" "LHallBuilds$Pad;", Cond.instanceMethod yX1_init, Cond.code yX1_init cX1_init 1 none, Cond.methodLink RX1 3 objectInit]
def wsX7_init_r2 : List Cond := [Cond.methodLink RX1 13 ⟨"[I", "clone", "()Ljava/lang/Object;"⟩, Cond.sameMethod "[I" "java/lang/Object" "clone" "()Ljava/lang/Object;", Cond.native ⟨"java/lang/Object", "clone", "()Ljava/lang/Object;"⟩, Cond.instanceMethod ⟨"java/lang/Object", "clone", "()Ljava/lang/Object;"⟩, Cond.selects "[I" ⟨"[I", "clone", "()Ljava/lang/Object;"⟩ ⟨"java/lang/Object", "clone", "()Ljava/lang/Object;"⟩, Cond.classLink RX1 14 "[I", Cond.fieldLink RX1 18 "HallBuilds$Hall" "settings" "[I", Cond.arrayClass .int, Cond.fieldLink RX1 23 "HallBuilds$Hall" "loads" "[I", Cond.classLink RX1 26 RX6, Cond.instantiable RX6 11, Cond.initialized RX6, Cond.fieldLink RX1 29 "HallBuilds$Hall" "stands" "LHallBuilds$Stands;", Cond.classLink RX1 33 RX0, Cond.instantiable RX0 7, Cond.initialized RX0, Cond.fieldLink RX1 36 "HallBuilds$Hall" "crews" "LHallBuilds$Crews;", Cond.instanceMethod yX6_init, Cond.code yX6_init cX6_init 1 none, Cond.methodLink RX6 3 objectInit, Cond.fieldLink RX6 9 "HallBuilds$Stands" "hours" "[I", Cond.fieldLink RX6 15 "HallBuilds$Stands" "length" "[I", Cond.fieldLink RX6 18 "HallBuilds$Stands" "power" "[I", Cond.fieldLink RX6 21 "HallBuilds$Stands" "base" "[I"]
def wsX7_init_r3 : List Cond := [Cond.fieldLink RX6 24 "HallBuilds$Stands" "state" "[I", Cond.fieldLink RX6 27 "HallBuilds$Stands" "left" "[I", Cond.fieldLink RX6 30 "HallBuilds$Stands" "phase" "[I", Cond.fieldLink RX6 33 "HallBuilds$Stands" "crew" "[I", Cond.fieldLink RX6 36 "HallBuilds$Stands" "spent" "[I", Cond.fieldLink RX6 39 "HallBuilds$Stands" "leaving" "[I", Cond.instanceMethod yX0_init, Cond.code yX0_init cX0_init 1 none, Cond.methodLink RX0 3 objectInit, Cond.fieldLink RX0 9 "HallBuilds$Crews" "speed" "[I", Cond.fieldLink RX0 15 "HallBuilds$Crews" "rate" "[I", Cond.fieldLink RX0 18 "HallBuilds$Crews" "stand" "[I", Cond.fieldLink RX0 21 "HallBuilds$Crews" "worked" "[I", Cond.fieldLink RX0 24 "HallBuilds$Crews" "built" "[I", Cond.fieldLink RX0 27 "HallBuilds$Crews" "dismantled" "[I", Cond.methodLink RX7 21 yX2_init, Cond.instanceMethod yX2_init, Cond.code yX2_init cX2_init 2 none, Cond.methodLink RX2 3 objectInit, Cond.classLink RX2 9 RX1, Cond.fieldLink RX2 11 "HallBuilds$History" "states" "[LHallBuilds$Hall;", Cond.methodLink RX7 28 yX5_init, Cond.instanceMethod yX5_init, Cond.code yX5_init cX5_init 2 none]
def wsX7_init_r4 : List Cond := [Cond.methodLink RX5 3 objectInit, Cond.classLink RX5 9 RX1, Cond.fieldLink RX5 11 "HallBuilds$Slots" "states" "[LHallBuilds$Hall;", Cond.arrayClass .boolean, Cond.fieldLink RX5 17 "HallBuilds$Slots" "saved" "[Z", Cond.instanceMethod yX3_init, Cond.code yX3_init cX3_init 1 none, Cond.methodLink RX3 3 objectInit, Cond.classLink RX3 9 RX4, Cond.instantiable RX4 2, Cond.initialized RX4, Cond.fieldLink RX3 12 "HallBuilds$OrderReader" "pad" "LHallBuilds$Pad;", Cond.instanceMethod yX4_init, Cond.code yX4_init cX4_init 1 none, Cond.methodLink RX4 3 objectInit, Cond.arrayClass .char, Cond.fieldLink RX4 9 "HallBuilds$Pad" "text" "[C"]
def wsX7_init : List Cond := .code yX7_init cX7_init 1 none :: ((wsX7_init_r1 ++ (wsX7_init_r2 ++ (wsX7_init_r3 ++ wsX7_init_r4))) ++ wsX10 ++ wsX70 ++ wsX20 ++ wsX50 ++ wsX30 ++ wsX60 ++ wsX00 ++ wsX40)
def wsX7_set_r1 : List Cond := [Cond.fieldLink RX7 22 "HallBuilds" "history" "LHallBuilds$History;", Cond.fieldLink RX7 10 "HallBuilds" "hall" "LHallBuilds$Hall;", Cond.methodLink RX7 45 yX2_prepare, Cond.instanceMethod yX2_prepare, Cond.selects RX2 yX2_prepare yX2_prepare, Cond.initialized RX2, Cond.code yX2_prepare cX2_prepare 3 none, Cond.fieldLink RX2 18 "HallBuilds$History" "next" "I", Cond.methodLink RX2 22 yX2_stateAt, Cond.instanceMethod yX2_stateAt, Cond.selects RX2 yX2_stateAt yX2_stateAt, Cond.code yX2_stateAt cX2_stateAt 2 (some (.object "HallBuilds$Hall")), Cond.fieldLink RX2 11 "HallBuilds$History" "states" "[LHallBuilds$Hall;", Cond.methodLink RX2 26 yX1_copyFrom, Cond.instanceMethod yX1_copyFrom, Cond.selects RX1 yX1_copyFrom yX1_copyFrom, Cond.initialized RX1, Cond.code yX1_copyFrom cX1_copyFrom 2 none, Cond.fieldLink RX1 18 "HallBuilds$Hall" "settings" "[I", Cond.fieldLink RX1 23 "HallBuilds$Hall" "loads" "[I", Cond.fieldLink RX1 29 "HallBuilds$Hall" "stands" "LHallBuilds$Stands;", Cond.fieldLink RX1 36 "HallBuilds$Hall" "crews" "LHallBuilds$Crews;", Cond.fieldLink RX1 51 "HallBuilds$Hall" "hour" "I", Cond.fieldLink RX1 55 "HallBuilds$Hall" "ended" "Z"]
def wsX7_set_r2 : List Cond := [Cond.fieldLink RX1 59 "HallBuilds$Hall" "lost" "I", Cond.static yX7_copyRow, Cond.initialized RX7, Cond.code yX7_copyRow cX7_copyRow 2 none, Cond.methodLink RX7 166 Lib.Math.min.name, Cond.static Lib.Math.min.name, Cond.initialized "java/lang/Math", Cond.code Lib.Math.min.name Lib.Math.min.code 2 (some .int), Cond.methodLink RX7 171 arraycopyName, Cond.native arraycopyName, Cond.static arraycopyName, Cond.initialized "java/lang/System", Cond.methodLink RX1 44 yX6_copyFrom, Cond.instanceMethod yX6_copyFrom, Cond.selects RX6 yX6_copyFrom yX6_copyFrom, Cond.initialized RX6, Cond.code yX6_copyFrom cX6_copyFrom 2 none, Cond.fieldLink RX6 42 "HallBuilds$Stands" "count" "I", Cond.fieldLink RX6 9 "HallBuilds$Stands" "hours" "[I", Cond.fieldLink RX6 15 "HallBuilds$Stands" "length" "[I", Cond.fieldLink RX6 18 "HallBuilds$Stands" "power" "[I", Cond.fieldLink RX6 21 "HallBuilds$Stands" "base" "[I", Cond.fieldLink RX6 24 "HallBuilds$Stands" "state" "[I", Cond.fieldLink RX6 27 "HallBuilds$Stands" "left" "[I"]
def wsX7_set_r3 : List Cond := [Cond.fieldLink RX6 30 "HallBuilds$Stands" "phase" "[I", Cond.fieldLink RX6 33 "HallBuilds$Stands" "crew" "[I", Cond.fieldLink RX6 36 "HallBuilds$Stands" "spent" "[I", Cond.fieldLink RX6 39 "HallBuilds$Stands" "leaving" "[I", Cond.methodLink RX1 48 yX0_copyFrom, Cond.instanceMethod yX0_copyFrom, Cond.selects RX0 yX0_copyFrom yX0_copyFrom, Cond.initialized RX0, Cond.code yX0_copyFrom cX0_copyFrom 2 none, Cond.fieldLink RX0 30 "HallBuilds$Crews" "count" "I", Cond.fieldLink RX0 9 "HallBuilds$Crews" "speed" "[I", Cond.fieldLink RX0 15 "HallBuilds$Crews" "rate" "[I", Cond.fieldLink RX0 18 "HallBuilds$Crews" "stand" "[I", Cond.fieldLink RX0 21 "HallBuilds$Crews" "worked" "[I", Cond.fieldLink RX0 24 "HallBuilds$Crews" "built" "[I", Cond.fieldLink RX0 27 "HallBuilds$Crews" "dismantled" "[I", Cond.methodLink RX7 49 yX1_changeSetting, Cond.instanceMethod yX1_changeSetting, Cond.selects RX1 yX1_changeSetting yX1_changeSetting, Cond.code yX1_changeSetting cX1_changeSetting 4 (some .int), Cond.static yX7_isWithin, Cond.code yX7_isWithin cX7_isWithin 3 (some .boolean), Cond.methodLink RX7 53 yX2_settle, Cond.instanceMethod yX2_settle]
def wsX7_set_r4 : List Cond := [Cond.selects RX2 yX2_settle yX2_settle, Cond.code yX2_settle cX2_settle 2 (some .int), Cond.fieldLink RX2 30 "HallBuilds$History" "kept" "I", Cond.methodLink RX2 33 Lib.Math.min.name]
def wsX7_set : List Cond := .code yX7_set cX7_set 3 (some .int) :: ((wsX7_set_r1 ++ (wsX7_set_r2 ++ (wsX7_set_r3 ++ wsX7_set_r4))) ++ wsX70 ++ wsX20 ++ wsX10 ++ wsX60 ++ wsX00)
def wsX7_stand_r1 : List Cond := [Cond.fieldLink RX7 22 "HallBuilds" "history" "LHallBuilds$History;", Cond.fieldLink RX7 10 "HallBuilds" "hall" "LHallBuilds$Hall;", Cond.methodLink RX7 45 yX2_prepare, Cond.instanceMethod yX2_prepare, Cond.selects RX2 yX2_prepare yX2_prepare, Cond.initialized RX2, Cond.code yX2_prepare cX2_prepare 3 none, Cond.fieldLink RX2 18 "HallBuilds$History" "next" "I", Cond.methodLink RX2 22 yX2_stateAt, Cond.instanceMethod yX2_stateAt, Cond.selects RX2 yX2_stateAt yX2_stateAt, Cond.code yX2_stateAt cX2_stateAt 2 (some (.object "HallBuilds$Hall")), Cond.fieldLink RX2 11 "HallBuilds$History" "states" "[LHallBuilds$Hall;", Cond.methodLink RX2 26 yX1_copyFrom, Cond.instanceMethod yX1_copyFrom, Cond.selects RX1 yX1_copyFrom yX1_copyFrom, Cond.initialized RX1, Cond.code yX1_copyFrom cX1_copyFrom 2 none, Cond.fieldLink RX1 18 "HallBuilds$Hall" "settings" "[I", Cond.fieldLink RX1 23 "HallBuilds$Hall" "loads" "[I", Cond.fieldLink RX1 29 "HallBuilds$Hall" "stands" "LHallBuilds$Stands;", Cond.fieldLink RX1 36 "HallBuilds$Hall" "crews" "LHallBuilds$Crews;", Cond.fieldLink RX1 51 "HallBuilds$Hall" "hour" "I", Cond.fieldLink RX1 55 "HallBuilds$Hall" "ended" "Z"]
def wsX7_stand_r2 : List Cond := [Cond.fieldLink RX1 59 "HallBuilds$Hall" "lost" "I", Cond.static yX7_copyRow, Cond.initialized RX7, Cond.code yX7_copyRow cX7_copyRow 2 none, Cond.methodLink RX7 166 Lib.Math.min.name, Cond.static Lib.Math.min.name, Cond.initialized "java/lang/Math", Cond.code Lib.Math.min.name Lib.Math.min.code 2 (some .int), Cond.methodLink RX7 171 arraycopyName, Cond.native arraycopyName, Cond.static arraycopyName, Cond.initialized "java/lang/System", Cond.methodLink RX1 44 yX6_copyFrom, Cond.instanceMethod yX6_copyFrom, Cond.selects RX6 yX6_copyFrom yX6_copyFrom, Cond.initialized RX6, Cond.code yX6_copyFrom cX6_copyFrom 2 none, Cond.fieldLink RX6 42 "HallBuilds$Stands" "count" "I", Cond.fieldLink RX6 9 "HallBuilds$Stands" "hours" "[I", Cond.fieldLink RX6 15 "HallBuilds$Stands" "length" "[I", Cond.fieldLink RX6 18 "HallBuilds$Stands" "power" "[I", Cond.fieldLink RX6 21 "HallBuilds$Stands" "base" "[I", Cond.fieldLink RX6 24 "HallBuilds$Stands" "state" "[I", Cond.fieldLink RX6 27 "HallBuilds$Stands" "left" "[I"]
def wsX7_stand_r3 : List Cond := [Cond.fieldLink RX6 30 "HallBuilds$Stands" "phase" "[I", Cond.fieldLink RX6 33 "HallBuilds$Stands" "crew" "[I", Cond.fieldLink RX6 36 "HallBuilds$Stands" "spent" "[I", Cond.fieldLink RX6 39 "HallBuilds$Stands" "leaving" "[I", Cond.methodLink RX1 48 yX0_copyFrom, Cond.instanceMethod yX0_copyFrom, Cond.selects RX0 yX0_copyFrom yX0_copyFrom, Cond.initialized RX0, Cond.code yX0_copyFrom cX0_copyFrom 2 none, Cond.fieldLink RX0 30 "HallBuilds$Crews" "count" "I", Cond.fieldLink RX0 9 "HallBuilds$Crews" "speed" "[I", Cond.fieldLink RX0 15 "HallBuilds$Crews" "rate" "[I", Cond.fieldLink RX0 18 "HallBuilds$Crews" "stand" "[I", Cond.fieldLink RX0 21 "HallBuilds$Crews" "worked" "[I", Cond.fieldLink RX0 24 "HallBuilds$Crews" "built" "[I", Cond.fieldLink RX0 27 "HallBuilds$Crews" "dismantled" "[I", Cond.methodLink RX7 57 yX1_addStand, Cond.instanceMethod yX1_addStand, Cond.selects RX1 yX1_addStand yX1_addStand, Cond.code yX1_addStand cX1_addStand 5 (some .int), Cond.static yX7_isWithin, Cond.code yX7_isWithin cX7_isWithin 3 (some .boolean), Cond.methodLink RX1 69 yX6_has, Cond.instanceMethod yX6_has]
def wsX7_stand_r4 : List Cond := [Cond.selects RX6 yX6_has yX6_has, Cond.code yX6_has cX6_has 2 (some .boolean), Cond.methodLink RX1 76 yX6_isGone, Cond.instanceMethod yX6_isGone, Cond.selects RX6 yX6_isGone yX6_isGone, Cond.code yX6_isGone cX6_isGone 2 (some .boolean), Cond.methodLink RX6 50 yX6_has, Cond.methodLink RX1 79 yX6_append, Cond.instanceMethod yX6_append, Cond.selects RX6 yX6_append yX6_append, Cond.code yX6_append cX6_append 6 (some .int), Cond.methodLink RX7 53 yX2_settle, Cond.instanceMethod yX2_settle, Cond.selects RX2 yX2_settle yX2_settle, Cond.code yX2_settle cX2_settle 2 (some .int), Cond.fieldLink RX2 30 "HallBuilds$History" "kept" "I", Cond.methodLink RX2 33 Lib.Math.min.name]
def wsX7_stand : List Cond := .code yX7_stand cX7_stand 5 (some .int) :: ((wsX7_stand_r1 ++ (wsX7_stand_r2 ++ (wsX7_stand_r3 ++ wsX7_stand_r4))) ++ wsX70 ++ wsX20 ++ wsX10 ++ wsX60 ++ wsX00)
def wsX7_crew_r1 : List Cond := [Cond.fieldLink RX7 22 "HallBuilds" "history" "LHallBuilds$History;", Cond.fieldLink RX7 10 "HallBuilds" "hall" "LHallBuilds$Hall;", Cond.methodLink RX7 45 yX2_prepare, Cond.instanceMethod yX2_prepare, Cond.selects RX2 yX2_prepare yX2_prepare, Cond.initialized RX2, Cond.code yX2_prepare cX2_prepare 3 none, Cond.fieldLink RX2 18 "HallBuilds$History" "next" "I", Cond.methodLink RX2 22 yX2_stateAt, Cond.instanceMethod yX2_stateAt, Cond.selects RX2 yX2_stateAt yX2_stateAt, Cond.code yX2_stateAt cX2_stateAt 2 (some (.object "HallBuilds$Hall")), Cond.fieldLink RX2 11 "HallBuilds$History" "states" "[LHallBuilds$Hall;", Cond.methodLink RX2 26 yX1_copyFrom, Cond.instanceMethod yX1_copyFrom, Cond.selects RX1 yX1_copyFrom yX1_copyFrom, Cond.initialized RX1, Cond.code yX1_copyFrom cX1_copyFrom 2 none, Cond.fieldLink RX1 18 "HallBuilds$Hall" "settings" "[I", Cond.fieldLink RX1 23 "HallBuilds$Hall" "loads" "[I", Cond.fieldLink RX1 29 "HallBuilds$Hall" "stands" "LHallBuilds$Stands;", Cond.fieldLink RX1 36 "HallBuilds$Hall" "crews" "LHallBuilds$Crews;", Cond.fieldLink RX1 51 "HallBuilds$Hall" "hour" "I", Cond.fieldLink RX1 55 "HallBuilds$Hall" "ended" "Z"]
def wsX7_crew_r2 : List Cond := [Cond.fieldLink RX1 59 "HallBuilds$Hall" "lost" "I", Cond.static yX7_copyRow, Cond.initialized RX7, Cond.code yX7_copyRow cX7_copyRow 2 none, Cond.methodLink RX7 166 Lib.Math.min.name, Cond.static Lib.Math.min.name, Cond.initialized "java/lang/Math", Cond.code Lib.Math.min.name Lib.Math.min.code 2 (some .int), Cond.methodLink RX7 171 arraycopyName, Cond.native arraycopyName, Cond.static arraycopyName, Cond.initialized "java/lang/System", Cond.methodLink RX1 44 yX6_copyFrom, Cond.instanceMethod yX6_copyFrom, Cond.selects RX6 yX6_copyFrom yX6_copyFrom, Cond.initialized RX6, Cond.code yX6_copyFrom cX6_copyFrom 2 none, Cond.fieldLink RX6 42 "HallBuilds$Stands" "count" "I", Cond.fieldLink RX6 9 "HallBuilds$Stands" "hours" "[I", Cond.fieldLink RX6 15 "HallBuilds$Stands" "length" "[I", Cond.fieldLink RX6 18 "HallBuilds$Stands" "power" "[I", Cond.fieldLink RX6 21 "HallBuilds$Stands" "base" "[I", Cond.fieldLink RX6 24 "HallBuilds$Stands" "state" "[I", Cond.fieldLink RX6 27 "HallBuilds$Stands" "left" "[I"]
def wsX7_crew_r3 : List Cond := [Cond.fieldLink RX6 30 "HallBuilds$Stands" "phase" "[I", Cond.fieldLink RX6 33 "HallBuilds$Stands" "crew" "[I", Cond.fieldLink RX6 36 "HallBuilds$Stands" "spent" "[I", Cond.fieldLink RX6 39 "HallBuilds$Stands" "leaving" "[I", Cond.methodLink RX1 48 yX0_copyFrom, Cond.instanceMethod yX0_copyFrom, Cond.selects RX0 yX0_copyFrom yX0_copyFrom, Cond.initialized RX0, Cond.code yX0_copyFrom cX0_copyFrom 2 none, Cond.fieldLink RX0 30 "HallBuilds$Crews" "count" "I", Cond.fieldLink RX0 9 "HallBuilds$Crews" "speed" "[I", Cond.fieldLink RX0 15 "HallBuilds$Crews" "rate" "[I", Cond.fieldLink RX0 18 "HallBuilds$Crews" "stand" "[I", Cond.fieldLink RX0 21 "HallBuilds$Crews" "worked" "[I", Cond.fieldLink RX0 24 "HallBuilds$Crews" "built" "[I", Cond.fieldLink RX0 27 "HallBuilds$Crews" "dismantled" "[I", Cond.methodLink RX7 61 yX1_addCrew, Cond.instanceMethod yX1_addCrew, Cond.selects RX1 yX1_addCrew yX1_addCrew, Cond.code yX1_addCrew cX1_addCrew 3 (some .int), Cond.static yX7_isWithin, Cond.code yX7_isWithin cX7_isWithin 3 (some .boolean), Cond.methodLink RX1 83 yX0_append, Cond.instanceMethod yX0_append]
def wsX7_crew_r4 : List Cond := [Cond.selects RX0 yX0_append yX0_append, Cond.code yX0_append cX0_append 4 (some .int), Cond.methodLink RX7 53 yX2_settle, Cond.instanceMethod yX2_settle, Cond.selects RX2 yX2_settle yX2_settle, Cond.code yX2_settle cX2_settle 2 (some .int), Cond.fieldLink RX2 30 "HallBuilds$History" "kept" "I", Cond.methodLink RX2 33 Lib.Math.min.name]
def wsX7_crew : List Cond := .code yX7_crew cX7_crew 3 (some .int) :: ((wsX7_crew_r1 ++ (wsX7_crew_r2 ++ (wsX7_crew_r3 ++ wsX7_crew_r4))) ++ wsX70 ++ wsX20 ++ wsX10 ++ wsX60 ++ wsX00)
def wsX7_end_r1 : List Cond := [Cond.fieldLink RX7 22 "HallBuilds" "history" "LHallBuilds$History;", Cond.fieldLink RX7 10 "HallBuilds" "hall" "LHallBuilds$Hall;", Cond.methodLink RX7 45 yX2_prepare, Cond.instanceMethod yX2_prepare, Cond.selects RX2 yX2_prepare yX2_prepare, Cond.initialized RX2, Cond.code yX2_prepare cX2_prepare 3 none, Cond.fieldLink RX2 18 "HallBuilds$History" "next" "I", Cond.methodLink RX2 22 yX2_stateAt, Cond.instanceMethod yX2_stateAt, Cond.selects RX2 yX2_stateAt yX2_stateAt, Cond.code yX2_stateAt cX2_stateAt 2 (some (.object "HallBuilds$Hall")), Cond.fieldLink RX2 11 "HallBuilds$History" "states" "[LHallBuilds$Hall;", Cond.methodLink RX2 26 yX1_copyFrom, Cond.instanceMethod yX1_copyFrom, Cond.selects RX1 yX1_copyFrom yX1_copyFrom, Cond.initialized RX1, Cond.code yX1_copyFrom cX1_copyFrom 2 none, Cond.fieldLink RX1 18 "HallBuilds$Hall" "settings" "[I", Cond.fieldLink RX1 23 "HallBuilds$Hall" "loads" "[I", Cond.fieldLink RX1 29 "HallBuilds$Hall" "stands" "LHallBuilds$Stands;", Cond.fieldLink RX1 36 "HallBuilds$Hall" "crews" "LHallBuilds$Crews;", Cond.fieldLink RX1 51 "HallBuilds$Hall" "hour" "I", Cond.fieldLink RX1 55 "HallBuilds$Hall" "ended" "Z"]
def wsX7_end_r2 : List Cond := [Cond.fieldLink RX1 59 "HallBuilds$Hall" "lost" "I", Cond.static yX7_copyRow, Cond.initialized RX7, Cond.code yX7_copyRow cX7_copyRow 2 none, Cond.methodLink RX7 166 Lib.Math.min.name, Cond.static Lib.Math.min.name, Cond.initialized "java/lang/Math", Cond.code Lib.Math.min.name Lib.Math.min.code 2 (some .int), Cond.methodLink RX7 171 arraycopyName, Cond.native arraycopyName, Cond.static arraycopyName, Cond.initialized "java/lang/System", Cond.methodLink RX1 44 yX6_copyFrom, Cond.instanceMethod yX6_copyFrom, Cond.selects RX6 yX6_copyFrom yX6_copyFrom, Cond.initialized RX6, Cond.code yX6_copyFrom cX6_copyFrom 2 none, Cond.fieldLink RX6 42 "HallBuilds$Stands" "count" "I", Cond.fieldLink RX6 9 "HallBuilds$Stands" "hours" "[I", Cond.fieldLink RX6 15 "HallBuilds$Stands" "length" "[I", Cond.fieldLink RX6 18 "HallBuilds$Stands" "power" "[I", Cond.fieldLink RX6 21 "HallBuilds$Stands" "base" "[I", Cond.fieldLink RX6 24 "HallBuilds$Stands" "state" "[I", Cond.fieldLink RX6 27 "HallBuilds$Stands" "left" "[I"]
def wsX7_end_r3 : List Cond := [Cond.fieldLink RX6 30 "HallBuilds$Stands" "phase" "[I", Cond.fieldLink RX6 33 "HallBuilds$Stands" "crew" "[I", Cond.fieldLink RX6 36 "HallBuilds$Stands" "spent" "[I", Cond.fieldLink RX6 39 "HallBuilds$Stands" "leaving" "[I", Cond.methodLink RX1 48 yX0_copyFrom, Cond.instanceMethod yX0_copyFrom, Cond.selects RX0 yX0_copyFrom yX0_copyFrom, Cond.initialized RX0, Cond.code yX0_copyFrom cX0_copyFrom 2 none, Cond.fieldLink RX0 30 "HallBuilds$Crews" "count" "I", Cond.fieldLink RX0 9 "HallBuilds$Crews" "speed" "[I", Cond.fieldLink RX0 15 "HallBuilds$Crews" "rate" "[I", Cond.fieldLink RX0 18 "HallBuilds$Crews" "stand" "[I", Cond.fieldLink RX0 21 "HallBuilds$Crews" "worked" "[I", Cond.fieldLink RX0 24 "HallBuilds$Crews" "built" "[I", Cond.fieldLink RX0 27 "HallBuilds$Crews" "dismantled" "[I", Cond.methodLink RX7 64 yX1_endFair, Cond.instanceMethod yX1_endFair, Cond.selects RX1 yX1_endFair yX1_endFair, Cond.code yX1_endFair cX1_endFair 1 (some .int), Cond.methodLink RX1 86 yX0_letAllGo, Cond.instanceMethod yX0_letAllGo, Cond.selects RX0 yX0_letAllGo yX0_letAllGo, Cond.code yX0_letAllGo cX0_letAllGo 2 none]
def wsX7_end_r4 : List Cond := [Cond.methodLink RX1 89 yX6_clearUnbuilt, Cond.instanceMethod yX6_clearUnbuilt, Cond.selects RX6 yX6_clearUnbuilt yX6_clearUnbuilt, Cond.code yX6_clearUnbuilt cX6_clearUnbuilt 3 (some .int), Cond.methodLink RX7 53 yX2_settle, Cond.instanceMethod yX2_settle, Cond.selects RX2 yX2_settle yX2_settle, Cond.code yX2_settle cX2_settle 2 (some .int), Cond.fieldLink RX2 30 "HallBuilds$History" "kept" "I", Cond.methodLink RX2 33 Lib.Math.min.name]
def wsX7_end : List Cond := .code yX7_end cX7_end 1 (some .int) :: ((wsX7_end_r1 ++ (wsX7_end_r2 ++ (wsX7_end_r3 ++ wsX7_end_r4))) ++ wsX70 ++ wsX20 ++ wsX10 ++ wsX60 ++ wsX00)
def wsX7_find_r1 : List Cond := [Cond.fieldLink RX7 22 "HallBuilds" "history" "LHallBuilds$History;", Cond.fieldLink RX7 10 "HallBuilds" "hall" "LHallBuilds$Hall;", Cond.methodLink RX7 45 yX2_prepare, Cond.instanceMethod yX2_prepare, Cond.selects RX2 yX2_prepare yX2_prepare, Cond.initialized RX2, Cond.code yX2_prepare cX2_prepare 3 none, Cond.fieldLink RX2 18 "HallBuilds$History" "next" "I", Cond.methodLink RX2 22 yX2_stateAt, Cond.instanceMethod yX2_stateAt, Cond.selects RX2 yX2_stateAt yX2_stateAt, Cond.code yX2_stateAt cX2_stateAt 2 (some (.object "HallBuilds$Hall")), Cond.fieldLink RX2 11 "HallBuilds$History" "states" "[LHallBuilds$Hall;", Cond.methodLink RX2 26 yX1_copyFrom, Cond.instanceMethod yX1_copyFrom, Cond.selects RX1 yX1_copyFrom yX1_copyFrom, Cond.initialized RX1, Cond.code yX1_copyFrom cX1_copyFrom 2 none, Cond.fieldLink RX1 18 "HallBuilds$Hall" "settings" "[I", Cond.fieldLink RX1 23 "HallBuilds$Hall" "loads" "[I", Cond.fieldLink RX1 29 "HallBuilds$Hall" "stands" "LHallBuilds$Stands;", Cond.fieldLink RX1 36 "HallBuilds$Hall" "crews" "LHallBuilds$Crews;", Cond.fieldLink RX1 51 "HallBuilds$Hall" "hour" "I", Cond.fieldLink RX1 55 "HallBuilds$Hall" "ended" "Z"]
def wsX7_find_r2 : List Cond := [Cond.fieldLink RX1 59 "HallBuilds$Hall" "lost" "I", Cond.static yX7_copyRow, Cond.initialized RX7, Cond.code yX7_copyRow cX7_copyRow 2 none, Cond.methodLink RX7 166 Lib.Math.min.name, Cond.static Lib.Math.min.name, Cond.initialized "java/lang/Math", Cond.code Lib.Math.min.name Lib.Math.min.code 2 (some .int), Cond.methodLink RX7 171 arraycopyName, Cond.native arraycopyName, Cond.static arraycopyName, Cond.initialized "java/lang/System", Cond.methodLink RX1 44 yX6_copyFrom, Cond.instanceMethod yX6_copyFrom, Cond.selects RX6 yX6_copyFrom yX6_copyFrom, Cond.initialized RX6, Cond.code yX6_copyFrom cX6_copyFrom 2 none, Cond.fieldLink RX6 42 "HallBuilds$Stands" "count" "I", Cond.fieldLink RX6 9 "HallBuilds$Stands" "hours" "[I", Cond.fieldLink RX6 15 "HallBuilds$Stands" "length" "[I", Cond.fieldLink RX6 18 "HallBuilds$Stands" "power" "[I", Cond.fieldLink RX6 21 "HallBuilds$Stands" "base" "[I", Cond.fieldLink RX6 24 "HallBuilds$Stands" "state" "[I", Cond.fieldLink RX6 27 "HallBuilds$Stands" "left" "[I"]
def wsX7_find_r3 : List Cond := [Cond.fieldLink RX6 30 "HallBuilds$Stands" "phase" "[I", Cond.fieldLink RX6 33 "HallBuilds$Stands" "crew" "[I", Cond.fieldLink RX6 36 "HallBuilds$Stands" "spent" "[I", Cond.fieldLink RX6 39 "HallBuilds$Stands" "leaving" "[I", Cond.methodLink RX1 48 yX0_copyFrom, Cond.instanceMethod yX0_copyFrom, Cond.selects RX0 yX0_copyFrom yX0_copyFrom, Cond.initialized RX0, Cond.code yX0_copyFrom cX0_copyFrom 2 none, Cond.fieldLink RX0 30 "HallBuilds$Crews" "count" "I", Cond.fieldLink RX0 9 "HallBuilds$Crews" "speed" "[I", Cond.fieldLink RX0 15 "HallBuilds$Crews" "rate" "[I", Cond.fieldLink RX0 18 "HallBuilds$Crews" "stand" "[I", Cond.fieldLink RX0 21 "HallBuilds$Crews" "worked" "[I", Cond.fieldLink RX0 24 "HallBuilds$Crews" "built" "[I", Cond.fieldLink RX0 27 "HallBuilds$Crews" "dismantled" "[I", Cond.methodLink RX7 68 yX1_findLost, Cond.instanceMethod yX1_findLost, Cond.selects RX1 yX1_findLost yX1_findLost, Cond.code yX1_findLost cX1_findLost 1 (some .int), Cond.methodLink RX7 53 yX2_settle, Cond.instanceMethod yX2_settle, Cond.selects RX2 yX2_settle yX2_settle, Cond.code yX2_settle cX2_settle 2 (some .int)]
def wsX7_find_r4 : List Cond := [Cond.fieldLink RX2 30 "HallBuilds$History" "kept" "I", Cond.methodLink RX2 33 Lib.Math.min.name]
def wsX7_find : List Cond := .code yX7_find cX7_find 1 (some .int) :: ((wsX7_find_r1 ++ (wsX7_find_r2 ++ (wsX7_find_r3 ++ wsX7_find_r4))) ++ wsX70 ++ wsX20 ++ wsX10 ++ wsX60 ++ wsX00)
def wsX7_pass_r1 : List Cond := [Cond.fieldLink RX7 22 "HallBuilds" "history" "LHallBuilds$History;", Cond.fieldLink RX7 10 "HallBuilds" "hall" "LHallBuilds$Hall;", Cond.methodLink RX7 45 yX2_prepare, Cond.instanceMethod yX2_prepare, Cond.selects RX2 yX2_prepare yX2_prepare, Cond.initialized RX2, Cond.code yX2_prepare cX2_prepare 3 none, Cond.fieldLink RX2 18 "HallBuilds$History" "next" "I", Cond.methodLink RX2 22 yX2_stateAt, Cond.instanceMethod yX2_stateAt, Cond.selects RX2 yX2_stateAt yX2_stateAt, Cond.code yX2_stateAt cX2_stateAt 2 (some (.object "HallBuilds$Hall")), Cond.fieldLink RX2 11 "HallBuilds$History" "states" "[LHallBuilds$Hall;", Cond.methodLink RX2 26 yX1_copyFrom, Cond.instanceMethod yX1_copyFrom, Cond.selects RX1 yX1_copyFrom yX1_copyFrom, Cond.initialized RX1, Cond.code yX1_copyFrom cX1_copyFrom 2 none, Cond.fieldLink RX1 18 "HallBuilds$Hall" "settings" "[I", Cond.fieldLink RX1 23 "HallBuilds$Hall" "loads" "[I", Cond.fieldLink RX1 29 "HallBuilds$Hall" "stands" "LHallBuilds$Stands;", Cond.fieldLink RX1 36 "HallBuilds$Hall" "crews" "LHallBuilds$Crews;", Cond.fieldLink RX1 51 "HallBuilds$Hall" "hour" "I", Cond.fieldLink RX1 55 "HallBuilds$Hall" "ended" "Z"]
def wsX7_pass_r2 : List Cond := [Cond.fieldLink RX1 59 "HallBuilds$Hall" "lost" "I", Cond.static yX7_copyRow, Cond.initialized RX7, Cond.code yX7_copyRow cX7_copyRow 2 none, Cond.methodLink RX7 166 Lib.Math.min.name, Cond.static Lib.Math.min.name, Cond.initialized "java/lang/Math", Cond.code Lib.Math.min.name Lib.Math.min.code 2 (some .int), Cond.methodLink RX7 171 arraycopyName, Cond.native arraycopyName, Cond.static arraycopyName, Cond.initialized "java/lang/System", Cond.methodLink RX1 44 yX6_copyFrom, Cond.instanceMethod yX6_copyFrom, Cond.selects RX6 yX6_copyFrom yX6_copyFrom, Cond.initialized RX6, Cond.code yX6_copyFrom cX6_copyFrom 2 none, Cond.fieldLink RX6 42 "HallBuilds$Stands" "count" "I", Cond.fieldLink RX6 9 "HallBuilds$Stands" "hours" "[I", Cond.fieldLink RX6 15 "HallBuilds$Stands" "length" "[I", Cond.fieldLink RX6 18 "HallBuilds$Stands" "power" "[I", Cond.fieldLink RX6 21 "HallBuilds$Stands" "base" "[I", Cond.fieldLink RX6 24 "HallBuilds$Stands" "state" "[I", Cond.fieldLink RX6 27 "HallBuilds$Stands" "left" "[I"]
def wsX7_pass_r3 : List Cond := [Cond.fieldLink RX6 30 "HallBuilds$Stands" "phase" "[I", Cond.fieldLink RX6 33 "HallBuilds$Stands" "crew" "[I", Cond.fieldLink RX6 36 "HallBuilds$Stands" "spent" "[I", Cond.fieldLink RX6 39 "HallBuilds$Stands" "leaving" "[I", Cond.methodLink RX1 48 yX0_copyFrom, Cond.instanceMethod yX0_copyFrom, Cond.selects RX0 yX0_copyFrom yX0_copyFrom, Cond.initialized RX0, Cond.code yX0_copyFrom cX0_copyFrom 2 none, Cond.fieldLink RX0 30 "HallBuilds$Crews" "count" "I", Cond.fieldLink RX0 9 "HallBuilds$Crews" "speed" "[I", Cond.fieldLink RX0 15 "HallBuilds$Crews" "rate" "[I", Cond.fieldLink RX0 18 "HallBuilds$Crews" "stand" "[I", Cond.fieldLink RX0 21 "HallBuilds$Crews" "worked" "[I", Cond.fieldLink RX0 24 "HallBuilds$Crews" "built" "[I", Cond.fieldLink RX0 27 "HallBuilds$Crews" "dismantled" "[I", Cond.methodLink RX7 71 yX1_passHours, Cond.instanceMethod yX1_passHours, Cond.selects RX1 yX1_passHours yX1_passHours, Cond.code yX1_passHours cX1_passHours 4 (some .int), Cond.static yX7_isWithin, Cond.code yX7_isWithin cX7_isWithin 3 (some .boolean), Cond.methodLink RX1 93 yX1_passOneHour, Cond.instanceMethod yX1_passOneHour]
def wsX7_pass_r4 : List Cond := [Cond.selects RX1 yX1_passOneHour yX1_passOneHour, Cond.code yX1_passOneHour cX1_passOneHour 2 (some .int), Cond.methodLink RX1 135 yX1_lorriesLeave, Cond.instanceMethod yX1_lorriesLeave, Cond.selects RX1 yX1_lorriesLeave yX1_lorriesLeave, Cond.code yX1_lorriesLeave cX1_lorriesLeave 2 none, Cond.methodLink RX1 138 yX1_lorriesCome, Cond.instanceMethod yX1_lorriesCome, Cond.selects RX1 yX1_lorriesCome yX1_lorriesCome, Cond.code yX1_lorriesCome cX1_lorriesCome 3 none, Cond.methodLink RX1 101 yX6_metersAtDock, Cond.instanceMethod yX6_metersAtDock, Cond.selects RX6 yX6_metersAtDock yX6_metersAtDock, Cond.code yX6_metersAtDock cX6_metersAtDock 3 (some .int), Cond.methodLink RX1 141 yX1_crewsTakeStands, Cond.instanceMethod yX1_crewsTakeStands, Cond.selects RX1 yX1_crewsTakeStands yX1_crewsTakeStands, Cond.code yX1_crewsTakeStands cX1_crewsTakeStands 3 none, Cond.methodLink RX1 162 yX6_nextToDismantle, Cond.instanceMethod yX6_nextToDismantle, Cond.selects RX6 yX6_nextToDismantle yX6_nextToDismantle, Cond.code yX6_nextToDismantle cX6_nextToDismantle 2 (some .int), Cond.methodLink RX6 54 yX6_standingOn, Cond.instanceMethod yX6_standingOn]
def wsX7_pass_r5 : List Cond := [Cond.selects RX6 yX6_standingOn yX6_standingOn, Cond.code yX6_standingOn cX6_standingOn 4 (some .int), Cond.methodLink RX1 165 yX6_nextToBuild, Cond.instanceMethod yX6_nextToBuild, Cond.selects RX6 yX6_nextToBuild yX6_nextToBuild, Cond.code yX6_nextToBuild cX6_nextToBuild 2 (some .int), Cond.methodLink RX6 58 yX6_baseIsBuilt, Cond.instanceMethod yX6_baseIsBuilt, Cond.selects RX6 yX6_baseIsBuilt yX6_baseIsBuilt, Cond.code yX6_baseIsBuilt cX6_baseIsBuilt 3 (some .boolean), Cond.methodLink RX6 50 yX6_has, Cond.instanceMethod yX6_has, Cond.selects RX6 yX6_has yX6_has, Cond.code yX6_has cX6_has 2 (some .boolean), Cond.methodLink RX1 69 yX6_has, Cond.methodLink RX1 171 yX1_beginToDismantle, Cond.instanceMethod yX1_beginToDismantle, Cond.selects RX1 yX1_beginToDismantle yX1_beginToDismantle, Cond.code yX1_beginToDismantle cX1_beginToDismantle 2 none, Cond.methodLink RX1 174 yX1_takeOffPhase, Cond.instanceMethod yX1_takeOffPhase, Cond.selects RX1 yX1_takeOffPhase yX1_takeOffPhase, Cond.code yX1_takeOffPhase cX1_takeOffPhase 3 none, Cond.methodLink RX1 144 yX1_crewsWork]
def wsX7_pass_r6 : List Cond := [Cond.instanceMethod yX1_crewsWork, Cond.selects RX1 yX1_crewsWork yX1_crewsWork, Cond.code yX1_crewsWork cX1_crewsWork 5 (some .int), Cond.methodLink RX1 186 Lib.Math.max.name, Cond.static Lib.Math.max.name, Cond.code Lib.Math.max.name Lib.Math.max.code 2 (some .int), Cond.methodLink RX1 189 yX1_finish, Cond.instanceMethod yX1_finish, Cond.selects RX1 yX1_finish yX1_finish, Cond.code yX1_finish cX1_finish 3 none, Cond.methodLink RX1 196 yX1_putOnPhase, Cond.instanceMethod yX1_putOnPhase, Cond.selects RX1 yX1_putOnPhase yX1_putOnPhase, Cond.code yX1_putOnPhase cX1_putOnPhase 4 none, Cond.methodLink RX7 53 yX2_settle, Cond.instanceMethod yX2_settle, Cond.selects RX2 yX2_settle yX2_settle, Cond.code yX2_settle cX2_settle 2 (some .int), Cond.fieldLink RX2 30 "HallBuilds$History" "kept" "I", Cond.methodLink RX2 33 Lib.Math.min.name]
def wsX7_pass : List Cond := .code yX7_pass cX7_pass 2 (some .int) :: ((wsX7_pass_r1 ++ (wsX7_pass_r2 ++ (wsX7_pass_r3 ++ (wsX7_pass_r4 ++ (wsX7_pass_r5 ++ wsX7_pass_r6))))) ++ wsX70 ++ wsX20 ++ wsX10 ++ wsX60 ++ wsX00)
def wsX7_ofStand : List Cond := .code yX7_ofStand cX7_ofStand 3 (some .int) :: ([.fieldLink RX7 10 "HallBuilds" "hall" "LHallBuilds$Hall;", .methodLink RX7 78 yX6_tell, .instanceMethod yX6_tell, .selects RX6 yX6_tell yX6_tell, .initialized RX6, .code yX6_tell cX6_tell 3 (some .int), .fieldLink RX6 9 "HallBuilds$Stands" "hours" "[I", .fieldLink RX6 15 "HallBuilds$Stands" "length" "[I", .fieldLink RX6 18 "HallBuilds$Stands" "power" "[I", .fieldLink RX6 21 "HallBuilds$Stands" "base" "[I", .fieldLink RX6 24 "HallBuilds$Stands" "state" "[I", .fieldLink RX6 27 "HallBuilds$Stands" "left" "[I", .fieldLink RX6 30 "HallBuilds$Stands" "phase" "[I", .fieldLink RX6 33 "HallBuilds$Stands" "crew" "[I", .fieldLink RX6 36 "HallBuilds$Stands" "spent" "[I", .methodLink RX6 50 yX6_has, .instanceMethod yX6_has, .selects RX6 yX6_has yX6_has, .code yX6_has cX6_has 2 (some .boolean), .fieldLink RX6 42 "HallBuilds$Stands" "count" "I", .methodLink RX6 54 yX6_standingOn, .instanceMethod yX6_standingOn, .selects RX6 yX6_standingOn yX6_standingOn, .code yX6_standingOn cX6_standingOn 4 (some .int)] ++ wsX70 ++ wsX10 ++ wsX60)
def wsX7_ofCrew : List Cond := .code yX7_ofCrew cX7_ofCrew 3 (some .int) :: ([.fieldLink RX7 10 "HallBuilds" "hall" "LHallBuilds$Hall;", .methodLink RX7 87 yX0_tell, .instanceMethod yX0_tell, .selects RX0 yX0_tell yX0_tell, .initialized RX0, .code yX0_tell cX0_tell 3 (some .int), .fieldLink RX0 30 "HallBuilds$Crews" "count" "I", .fieldLink RX0 9 "HallBuilds$Crews" "speed" "[I", .fieldLink RX0 15 "HallBuilds$Crews" "rate" "[I", .fieldLink RX0 18 "HallBuilds$Crews" "stand" "[I", .fieldLink RX0 21 "HallBuilds$Crews" "worked" "[I", .fieldLink RX0 24 "HallBuilds$Crews" "built" "[I", .fieldLink RX0 27 "HallBuilds$Crews" "dismantled" "[I"] ++ wsX70 ++ wsX10 ++ wsX00)
def wsX7_load : List Cond := .code yX7_load cX7_load 2 (some .int) :: ([.fieldLink RX7 10 "HallBuilds" "hall" "LHallBuilds$Hall;", .methodLink RX7 90 yX1_loadOf, .instanceMethod yX1_loadOf, .selects RX1 yX1_loadOf yX1_loadOf, .initialized RX1, .code yX1_loadOf cX1_loadOf 2 (some .int), .fieldLink RX1 23 "HallBuilds$Hall" "loads" "[I"] ++ wsX70 ++ wsX10)
def wsX7_count_r1 : List Cond := [Cond.fieldLink RX7 44 "HallBuilds" "pad" "LHallBuilds$Pad;", Cond.fieldLink RX7 22 "HallBuilds" "history" "LHallBuilds$History;", Cond.fieldLink RX7 10 "HallBuilds" "hall" "LHallBuilds$Hall;", Cond.methodLink RX7 102 yX1_number, Cond.instanceMethod yX1_number, Cond.selects RX1 yX1_number yX1_number, Cond.initialized RX1, Cond.code yX1_number cX1_number 2 (some .int), Cond.fieldLink RX1 51 "HallBuilds$Hall" "hour" "I", Cond.fieldLink RX1 29 "HallBuilds$Hall" "stands" "LHallBuilds$Stands;", Cond.fieldLink RX1 36 "HallBuilds$Hall" "crews" "LHallBuilds$Crews;", Cond.fieldLink RX1 55 "HallBuilds$Hall" "ended" "Z", Cond.fieldLink RX1 59 "HallBuilds$Hall" "lost" "I", Cond.fieldLink RX1 18 "HallBuilds$Hall" "settings" "[I", Cond.methodLink RX1 97 yX6_countIn, Cond.instanceMethod yX6_countIn, Cond.selects RX6 yX6_countIn yX6_countIn, Cond.initialized RX6, Cond.code yX6_countIn cX6_countIn 4 (some .int), Cond.fieldLink RX6 42 "HallBuilds$Stands" "count" "I", Cond.fieldLink RX6 24 "HallBuilds$Stands" "state" "[I", Cond.methodLink RX1 101 yX6_metersAtDock, Cond.instanceMethod yX6_metersAtDock, Cond.selects RX6 yX6_metersAtDock yX6_metersAtDock]
def wsX7_count_r2 : List Cond := [Cond.code yX6_metersAtDock cX6_metersAtDock 3 (some .int), Cond.fieldLink RX6 15 "HallBuilds$Stands" "length" "[I", Cond.methodLink RX1 104 yX0_costs, Cond.instanceMethod yX0_costs, Cond.selects RX0 yX0_costs yX0_costs, Cond.initialized RX0, Cond.code yX0_costs cX0_costs 3 (some .int), Cond.fieldLink RX0 30 "HallBuilds$Crews" "count" "I", Cond.fieldLink RX0 21 "HallBuilds$Crews" "worked" "[I", Cond.fieldLink RX0 15 "HallBuilds$Crews" "rate" "[I", Cond.methodLink RX1 107 yX6_builtWithoutPower, Cond.instanceMethod yX6_builtWithoutPower, Cond.selects RX6 yX6_builtWithoutPower yX6_builtWithoutPower, Cond.code yX6_builtWithoutPower cX6_builtWithoutPower 3 (some .int), Cond.fieldLink RX6 18 "HallBuilds$Stands" "power" "[I", Cond.fieldLink RX6 30 "HallBuilds$Stands" "phase" "[I"]
def wsX7_count : List Cond := .code yX7_count cX7_count 2 (some .int) :: ((wsX7_count_r1 ++ wsX7_count_r2) ++ wsX70 ++ wsX40 ++ wsX20 ++ wsX10 ++ wsX60 ++ wsX00)
def wsX7_waitsFor_r1 : List Cond := [Cond.fieldLink RX7 10 "HallBuilds" "hall" "LHallBuilds$Hall;", Cond.methodLink RX7 105 yX1_reasonToWait, Cond.instanceMethod yX1_reasonToWait, Cond.selects RX1 yX1_reasonToWait yX1_reasonToWait, Cond.initialized RX1, Cond.code yX1_reasonToWait cX1_reasonToWait 2 (some .int), Cond.fieldLink RX1 29 "HallBuilds$Hall" "stands" "LHallBuilds$Stands;", Cond.fieldLink RX1 55 "HallBuilds$Hall" "ended" "Z", Cond.methodLink RX1 69 yX6_has, Cond.instanceMethod yX6_has, Cond.selects RX6 yX6_has yX6_has, Cond.initialized RX6, Cond.code yX6_has cX6_has 2 (some .boolean), Cond.fieldLink RX6 42 "HallBuilds$Stands" "count" "I", Cond.methodLink RX1 113 yX6_baseIsBuilt, Cond.instanceMethod yX6_baseIsBuilt, Cond.selects RX6 yX6_baseIsBuilt yX6_baseIsBuilt, Cond.code yX6_baseIsBuilt cX6_baseIsBuilt 3 (some .boolean), Cond.fieldLink RX6 21 "HallBuilds$Stands" "base" "[I", Cond.fieldLink RX6 24 "HallBuilds$Stands" "state" "[I", Cond.methodLink RX6 50 yX6_has, Cond.methodLink RX1 116 yX6_standingOn, Cond.instanceMethod yX6_standingOn, Cond.selects RX6 yX6_standingOn yX6_standingOn]
def wsX7_waitsFor_r2 : List Cond := [Cond.code yX6_standingOn cX6_standingOn 4 (some .int)]
def wsX7_waitsFor : List Cond := .code yX7_waitsFor cX7_waitsFor 2 (some .int) :: ((wsX7_waitsFor_r1 ++ wsX7_waitsFor_r2) ++ wsX70 ++ wsX10 ++ wsX60)
def wsX7_allIn_r1 : List Cond := [Cond.fieldLink RX7 16 "HallBuilds" "trial" "LHallBuilds$Hall;", Cond.fieldLink RX7 10 "HallBuilds" "hall" "LHallBuilds$Hall;", Cond.methodLink RX7 108 yX1_copyFrom, Cond.instanceMethod yX1_copyFrom, Cond.selects RX1 yX1_copyFrom yX1_copyFrom, Cond.initialized RX1, Cond.code yX1_copyFrom cX1_copyFrom 2 none, Cond.fieldLink RX1 18 "HallBuilds$Hall" "settings" "[I", Cond.fieldLink RX1 23 "HallBuilds$Hall" "loads" "[I", Cond.fieldLink RX1 29 "HallBuilds$Hall" "stands" "LHallBuilds$Stands;", Cond.fieldLink RX1 36 "HallBuilds$Hall" "crews" "LHallBuilds$Crews;", Cond.fieldLink RX1 51 "HallBuilds$Hall" "hour" "I", Cond.fieldLink RX1 55 "HallBuilds$Hall" "ended" "Z", Cond.fieldLink RX1 59 "HallBuilds$Hall" "lost" "I", Cond.static yX7_copyRow, Cond.initialized RX7, Cond.code yX7_copyRow cX7_copyRow 2 none, Cond.methodLink RX7 166 Lib.Math.min.name, Cond.static Lib.Math.min.name, Cond.initialized "java/lang/Math", Cond.code Lib.Math.min.name Lib.Math.min.code 2 (some .int), Cond.methodLink RX7 171 arraycopyName, Cond.native arraycopyName, Cond.static arraycopyName]
def wsX7_allIn_r2 : List Cond := [Cond.initialized "java/lang/System", Cond.methodLink RX1 44 yX6_copyFrom, Cond.instanceMethod yX6_copyFrom, Cond.selects RX6 yX6_copyFrom yX6_copyFrom, Cond.initialized RX6, Cond.code yX6_copyFrom cX6_copyFrom 2 none, Cond.fieldLink RX6 42 "HallBuilds$Stands" "count" "I", Cond.fieldLink RX6 9 "HallBuilds$Stands" "hours" "[I", Cond.fieldLink RX6 15 "HallBuilds$Stands" "length" "[I", Cond.fieldLink RX6 18 "HallBuilds$Stands" "power" "[I", Cond.fieldLink RX6 21 "HallBuilds$Stands" "base" "[I", Cond.fieldLink RX6 24 "HallBuilds$Stands" "state" "[I", Cond.fieldLink RX6 27 "HallBuilds$Stands" "left" "[I", Cond.fieldLink RX6 30 "HallBuilds$Stands" "phase" "[I", Cond.fieldLink RX6 33 "HallBuilds$Stands" "crew" "[I", Cond.fieldLink RX6 36 "HallBuilds$Stands" "spent" "[I", Cond.fieldLink RX6 39 "HallBuilds$Stands" "leaving" "[I", Cond.methodLink RX1 48 yX0_copyFrom, Cond.instanceMethod yX0_copyFrom, Cond.selects RX0 yX0_copyFrom yX0_copyFrom, Cond.initialized RX0, Cond.code yX0_copyFrom cX0_copyFrom 2 none, Cond.fieldLink RX0 30 "HallBuilds$Crews" "count" "I", Cond.fieldLink RX0 9 "HallBuilds$Crews" "speed" "[I"]
def wsX7_allIn_r3 : List Cond := [Cond.fieldLink RX0 15 "HallBuilds$Crews" "rate" "[I", Cond.fieldLink RX0 18 "HallBuilds$Crews" "stand" "[I", Cond.fieldLink RX0 21 "HallBuilds$Crews" "worked" "[I", Cond.fieldLink RX0 24 "HallBuilds$Crews" "built" "[I", Cond.fieldLink RX0 27 "HallBuilds$Crews" "dismantled" "[I", Cond.methodLink RX7 111 yX1_hoursUntilAllIn, Cond.instanceMethod yX1_hoursUntilAllIn, Cond.selects RX1 yX1_hoursUntilAllIn yX1_hoursUntilAllIn, Cond.code yX1_hoursUntilAllIn cX1_hoursUntilAllIn 6 (some .int), Cond.methodLink RX1 126 Lib.Math.min.name, Cond.methodLink RX1 119 yX1_allAreIn, Cond.instanceMethod yX1_allAreIn, Cond.selects RX1 yX1_allAreIn yX1_allAreIn, Cond.code yX1_allAreIn cX1_allAreIn 2 (some .boolean), Cond.methodLink RX1 97 yX6_countIn, Cond.instanceMethod yX6_countIn, Cond.selects RX6 yX6_countIn yX6_countIn, Cond.code yX6_countIn cX6_countIn 4 (some .int), Cond.methodLink RX1 93 yX1_passOneHour, Cond.instanceMethod yX1_passOneHour, Cond.selects RX1 yX1_passOneHour yX1_passOneHour, Cond.code yX1_passOneHour cX1_passOneHour 2 (some .int), Cond.methodLink RX1 135 yX1_lorriesLeave, Cond.instanceMethod yX1_lorriesLeave]
def wsX7_allIn_r4 : List Cond := [Cond.selects RX1 yX1_lorriesLeave yX1_lorriesLeave, Cond.code yX1_lorriesLeave cX1_lorriesLeave 2 none, Cond.methodLink RX1 138 yX1_lorriesCome, Cond.instanceMethod yX1_lorriesCome, Cond.selects RX1 yX1_lorriesCome yX1_lorriesCome, Cond.code yX1_lorriesCome cX1_lorriesCome 3 none, Cond.methodLink RX1 101 yX6_metersAtDock, Cond.instanceMethod yX6_metersAtDock, Cond.selects RX6 yX6_metersAtDock yX6_metersAtDock, Cond.code yX6_metersAtDock cX6_metersAtDock 3 (some .int), Cond.methodLink RX1 141 yX1_crewsTakeStands, Cond.instanceMethod yX1_crewsTakeStands, Cond.selects RX1 yX1_crewsTakeStands yX1_crewsTakeStands, Cond.code yX1_crewsTakeStands cX1_crewsTakeStands 3 none, Cond.methodLink RX1 162 yX6_nextToDismantle, Cond.instanceMethod yX6_nextToDismantle, Cond.selects RX6 yX6_nextToDismantle yX6_nextToDismantle, Cond.code yX6_nextToDismantle cX6_nextToDismantle 2 (some .int), Cond.methodLink RX6 54 yX6_standingOn, Cond.instanceMethod yX6_standingOn, Cond.selects RX6 yX6_standingOn yX6_standingOn, Cond.code yX6_standingOn cX6_standingOn 4 (some .int), Cond.methodLink RX1 165 yX6_nextToBuild, Cond.instanceMethod yX6_nextToBuild]
def wsX7_allIn_r5 : List Cond := [Cond.selects RX6 yX6_nextToBuild yX6_nextToBuild, Cond.code yX6_nextToBuild cX6_nextToBuild 2 (some .int), Cond.methodLink RX6 58 yX6_baseIsBuilt, Cond.instanceMethod yX6_baseIsBuilt, Cond.selects RX6 yX6_baseIsBuilt yX6_baseIsBuilt, Cond.code yX6_baseIsBuilt cX6_baseIsBuilt 3 (some .boolean), Cond.methodLink RX6 50 yX6_has, Cond.instanceMethod yX6_has, Cond.selects RX6 yX6_has yX6_has, Cond.code yX6_has cX6_has 2 (some .boolean), Cond.methodLink RX1 69 yX6_has, Cond.methodLink RX1 171 yX1_beginToDismantle, Cond.instanceMethod yX1_beginToDismantle, Cond.selects RX1 yX1_beginToDismantle yX1_beginToDismantle, Cond.code yX1_beginToDismantle cX1_beginToDismantle 2 none, Cond.methodLink RX1 174 yX1_takeOffPhase, Cond.instanceMethod yX1_takeOffPhase, Cond.selects RX1 yX1_takeOffPhase yX1_takeOffPhase, Cond.code yX1_takeOffPhase cX1_takeOffPhase 3 none, Cond.methodLink RX1 144 yX1_crewsWork, Cond.instanceMethod yX1_crewsWork, Cond.selects RX1 yX1_crewsWork yX1_crewsWork, Cond.code yX1_crewsWork cX1_crewsWork 5 (some .int), Cond.methodLink RX1 186 Lib.Math.max.name]
def wsX7_allIn_r6 : List Cond := [Cond.static Lib.Math.max.name, Cond.code Lib.Math.max.name Lib.Math.max.code 2 (some .int), Cond.methodLink RX1 189 yX1_finish, Cond.instanceMethod yX1_finish, Cond.selects RX1 yX1_finish yX1_finish, Cond.code yX1_finish cX1_finish 3 none, Cond.methodLink RX1 196 yX1_putOnPhase, Cond.instanceMethod yX1_putOnPhase, Cond.selects RX1 yX1_putOnPhase yX1_putOnPhase, Cond.code yX1_putOnPhase cX1_putOnPhase 4 none, Cond.methodLink RX1 123 yX1_quietHours, Cond.instanceMethod yX1_quietHours, Cond.selects RX1 yX1_quietHours yX1_quietHours, Cond.code yX1_quietHours cX1_quietHours 5 (some .int), Cond.methodLink RX1 131 yX1_passQuietHours, Cond.instanceMethod yX1_passQuietHours, Cond.selects RX1 yX1_passQuietHours yX1_passQuietHours, Cond.code yX1_passQuietHours cX1_passQuietHours 2 none]
def wsX7_allIn : List Cond := .code yX7_allIn cX7_allIn 1 (some .int) :: ((wsX7_allIn_r1 ++ (wsX7_allIn_r2 ++ (wsX7_allIn_r3 ++ (wsX7_allIn_r4 ++ (wsX7_allIn_r5 ++ wsX7_allIn_r6))))) ++ wsX70 ++ wsX10 ++ wsX60 ++ wsX00)
def wsX7_withCrew_r1 : List Cond := [Cond.fieldLink RX7 16 "HallBuilds" "trial" "LHallBuilds$Hall;", Cond.fieldLink RX7 10 "HallBuilds" "hall" "LHallBuilds$Hall;", Cond.methodLink RX7 108 yX1_copyFrom, Cond.instanceMethod yX1_copyFrom, Cond.selects RX1 yX1_copyFrom yX1_copyFrom, Cond.initialized RX1, Cond.code yX1_copyFrom cX1_copyFrom 2 none, Cond.fieldLink RX1 18 "HallBuilds$Hall" "settings" "[I", Cond.fieldLink RX1 23 "HallBuilds$Hall" "loads" "[I", Cond.fieldLink RX1 29 "HallBuilds$Hall" "stands" "LHallBuilds$Stands;", Cond.fieldLink RX1 36 "HallBuilds$Hall" "crews" "LHallBuilds$Crews;", Cond.fieldLink RX1 51 "HallBuilds$Hall" "hour" "I", Cond.fieldLink RX1 55 "HallBuilds$Hall" "ended" "Z", Cond.fieldLink RX1 59 "HallBuilds$Hall" "lost" "I", Cond.static yX7_copyRow, Cond.initialized RX7, Cond.code yX7_copyRow cX7_copyRow 2 none, Cond.methodLink RX7 166 Lib.Math.min.name, Cond.static Lib.Math.min.name, Cond.initialized "java/lang/Math", Cond.code Lib.Math.min.name Lib.Math.min.code 2 (some .int), Cond.methodLink RX7 171 arraycopyName, Cond.native arraycopyName, Cond.static arraycopyName]
def wsX7_withCrew_r2 : List Cond := [Cond.initialized "java/lang/System", Cond.methodLink RX1 44 yX6_copyFrom, Cond.instanceMethod yX6_copyFrom, Cond.selects RX6 yX6_copyFrom yX6_copyFrom, Cond.initialized RX6, Cond.code yX6_copyFrom cX6_copyFrom 2 none, Cond.fieldLink RX6 42 "HallBuilds$Stands" "count" "I", Cond.fieldLink RX6 9 "HallBuilds$Stands" "hours" "[I", Cond.fieldLink RX6 15 "HallBuilds$Stands" "length" "[I", Cond.fieldLink RX6 18 "HallBuilds$Stands" "power" "[I", Cond.fieldLink RX6 21 "HallBuilds$Stands" "base" "[I", Cond.fieldLink RX6 24 "HallBuilds$Stands" "state" "[I", Cond.fieldLink RX6 27 "HallBuilds$Stands" "left" "[I", Cond.fieldLink RX6 30 "HallBuilds$Stands" "phase" "[I", Cond.fieldLink RX6 33 "HallBuilds$Stands" "crew" "[I", Cond.fieldLink RX6 36 "HallBuilds$Stands" "spent" "[I", Cond.fieldLink RX6 39 "HallBuilds$Stands" "leaving" "[I", Cond.methodLink RX1 48 yX0_copyFrom, Cond.instanceMethod yX0_copyFrom, Cond.selects RX0 yX0_copyFrom yX0_copyFrom, Cond.initialized RX0, Cond.code yX0_copyFrom cX0_copyFrom 2 none, Cond.fieldLink RX0 30 "HallBuilds$Crews" "count" "I", Cond.fieldLink RX0 9 "HallBuilds$Crews" "speed" "[I"]
def wsX7_withCrew_r3 : List Cond := [Cond.fieldLink RX0 15 "HallBuilds$Crews" "rate" "[I", Cond.fieldLink RX0 18 "HallBuilds$Crews" "stand" "[I", Cond.fieldLink RX0 21 "HallBuilds$Crews" "worked" "[I", Cond.fieldLink RX0 24 "HallBuilds$Crews" "built" "[I", Cond.fieldLink RX0 27 "HallBuilds$Crews" "dismantled" "[I", Cond.methodLink RX7 61 yX1_addCrew, Cond.instanceMethod yX1_addCrew, Cond.selects RX1 yX1_addCrew yX1_addCrew, Cond.code yX1_addCrew cX1_addCrew 3 (some .int), Cond.static yX7_isWithin, Cond.code yX7_isWithin cX7_isWithin 3 (some .boolean), Cond.methodLink RX1 83 yX0_append, Cond.instanceMethod yX0_append, Cond.selects RX0 yX0_append yX0_append, Cond.code yX0_append cX0_append 4 (some .int), Cond.methodLink RX7 111 yX1_hoursUntilAllIn, Cond.instanceMethod yX1_hoursUntilAllIn, Cond.selects RX1 yX1_hoursUntilAllIn yX1_hoursUntilAllIn, Cond.code yX1_hoursUntilAllIn cX1_hoursUntilAllIn 6 (some .int), Cond.methodLink RX1 126 Lib.Math.min.name, Cond.methodLink RX1 119 yX1_allAreIn, Cond.instanceMethod yX1_allAreIn, Cond.selects RX1 yX1_allAreIn yX1_allAreIn, Cond.code yX1_allAreIn cX1_allAreIn 2 (some .boolean)]
def wsX7_withCrew_r4 : List Cond := [Cond.methodLink RX1 97 yX6_countIn, Cond.instanceMethod yX6_countIn, Cond.selects RX6 yX6_countIn yX6_countIn, Cond.code yX6_countIn cX6_countIn 4 (some .int), Cond.methodLink RX1 93 yX1_passOneHour, Cond.instanceMethod yX1_passOneHour, Cond.selects RX1 yX1_passOneHour yX1_passOneHour, Cond.code yX1_passOneHour cX1_passOneHour 2 (some .int), Cond.methodLink RX1 135 yX1_lorriesLeave, Cond.instanceMethod yX1_lorriesLeave, Cond.selects RX1 yX1_lorriesLeave yX1_lorriesLeave, Cond.code yX1_lorriesLeave cX1_lorriesLeave 2 none, Cond.methodLink RX1 138 yX1_lorriesCome, Cond.instanceMethod yX1_lorriesCome, Cond.selects RX1 yX1_lorriesCome yX1_lorriesCome, Cond.code yX1_lorriesCome cX1_lorriesCome 3 none, Cond.methodLink RX1 101 yX6_metersAtDock, Cond.instanceMethod yX6_metersAtDock, Cond.selects RX6 yX6_metersAtDock yX6_metersAtDock, Cond.code yX6_metersAtDock cX6_metersAtDock 3 (some .int), Cond.methodLink RX1 141 yX1_crewsTakeStands, Cond.instanceMethod yX1_crewsTakeStands, Cond.selects RX1 yX1_crewsTakeStands yX1_crewsTakeStands, Cond.code yX1_crewsTakeStands cX1_crewsTakeStands 3 none]
def wsX7_withCrew_r5 : List Cond := [Cond.methodLink RX1 162 yX6_nextToDismantle, Cond.instanceMethod yX6_nextToDismantle, Cond.selects RX6 yX6_nextToDismantle yX6_nextToDismantle, Cond.code yX6_nextToDismantle cX6_nextToDismantle 2 (some .int), Cond.methodLink RX6 54 yX6_standingOn, Cond.instanceMethod yX6_standingOn, Cond.selects RX6 yX6_standingOn yX6_standingOn, Cond.code yX6_standingOn cX6_standingOn 4 (some .int), Cond.methodLink RX1 165 yX6_nextToBuild, Cond.instanceMethod yX6_nextToBuild, Cond.selects RX6 yX6_nextToBuild yX6_nextToBuild, Cond.code yX6_nextToBuild cX6_nextToBuild 2 (some .int), Cond.methodLink RX6 58 yX6_baseIsBuilt, Cond.instanceMethod yX6_baseIsBuilt, Cond.selects RX6 yX6_baseIsBuilt yX6_baseIsBuilt, Cond.code yX6_baseIsBuilt cX6_baseIsBuilt 3 (some .boolean), Cond.methodLink RX6 50 yX6_has, Cond.instanceMethod yX6_has, Cond.selects RX6 yX6_has yX6_has, Cond.code yX6_has cX6_has 2 (some .boolean), Cond.methodLink RX1 69 yX6_has, Cond.methodLink RX1 171 yX1_beginToDismantle, Cond.instanceMethod yX1_beginToDismantle, Cond.selects RX1 yX1_beginToDismantle yX1_beginToDismantle]
def wsX7_withCrew_r6 : List Cond := [Cond.code yX1_beginToDismantle cX1_beginToDismantle 2 none, Cond.methodLink RX1 174 yX1_takeOffPhase, Cond.instanceMethod yX1_takeOffPhase, Cond.selects RX1 yX1_takeOffPhase yX1_takeOffPhase, Cond.code yX1_takeOffPhase cX1_takeOffPhase 3 none, Cond.methodLink RX1 144 yX1_crewsWork, Cond.instanceMethod yX1_crewsWork, Cond.selects RX1 yX1_crewsWork yX1_crewsWork, Cond.code yX1_crewsWork cX1_crewsWork 5 (some .int), Cond.methodLink RX1 186 Lib.Math.max.name, Cond.static Lib.Math.max.name, Cond.code Lib.Math.max.name Lib.Math.max.code 2 (some .int), Cond.methodLink RX1 189 yX1_finish, Cond.instanceMethod yX1_finish, Cond.selects RX1 yX1_finish yX1_finish, Cond.code yX1_finish cX1_finish 3 none, Cond.methodLink RX1 196 yX1_putOnPhase, Cond.instanceMethod yX1_putOnPhase, Cond.selects RX1 yX1_putOnPhase yX1_putOnPhase, Cond.code yX1_putOnPhase cX1_putOnPhase 4 none, Cond.methodLink RX1 123 yX1_quietHours, Cond.instanceMethod yX1_quietHours, Cond.selects RX1 yX1_quietHours yX1_quietHours, Cond.code yX1_quietHours cX1_quietHours 5 (some .int)]
def wsX7_withCrew_r7 : List Cond := [Cond.methodLink RX1 131 yX1_passQuietHours, Cond.instanceMethod yX1_passQuietHours, Cond.selects RX1 yX1_passQuietHours yX1_passQuietHours, Cond.code yX1_passQuietHours cX1_passQuietHours 2 none]
def wsX7_withCrew : List Cond := .code yX7_withCrew cX7_withCrew 3 (some .int) :: ((wsX7_withCrew_r1 ++ (wsX7_withCrew_r2 ++ (wsX7_withCrew_r3 ++ (wsX7_withCrew_r4 ++ (wsX7_withCrew_r5 ++ (wsX7_withCrew_r6 ++ wsX7_withCrew_r7)))))) ++ wsX70 ++ wsX10 ++ wsX60 ++ wsX00)
def wsX7_hoursWithDock_r1 : List Cond := [Cond.fieldLink RX7 16 "HallBuilds" "trial" "LHallBuilds$Hall;", Cond.fieldLink RX7 10 "HallBuilds" "hall" "LHallBuilds$Hall;", Cond.methodLink RX7 108 yX1_copyFrom, Cond.instanceMethod yX1_copyFrom, Cond.selects RX1 yX1_copyFrom yX1_copyFrom, Cond.initialized RX1, Cond.code yX1_copyFrom cX1_copyFrom 2 none, Cond.fieldLink RX1 18 "HallBuilds$Hall" "settings" "[I", Cond.fieldLink RX1 23 "HallBuilds$Hall" "loads" "[I", Cond.fieldLink RX1 29 "HallBuilds$Hall" "stands" "LHallBuilds$Stands;", Cond.fieldLink RX1 36 "HallBuilds$Hall" "crews" "LHallBuilds$Crews;", Cond.fieldLink RX1 51 "HallBuilds$Hall" "hour" "I", Cond.fieldLink RX1 55 "HallBuilds$Hall" "ended" "Z", Cond.fieldLink RX1 59 "HallBuilds$Hall" "lost" "I", Cond.static yX7_copyRow, Cond.initialized RX7, Cond.code yX7_copyRow cX7_copyRow 2 none, Cond.methodLink RX7 166 Lib.Math.min.name, Cond.static Lib.Math.min.name, Cond.initialized "java/lang/Math", Cond.code Lib.Math.min.name Lib.Math.min.code 2 (some .int), Cond.methodLink RX7 171 arraycopyName, Cond.native arraycopyName, Cond.static arraycopyName]
def wsX7_hoursWithDock_r2 : List Cond := [Cond.initialized "java/lang/System", Cond.methodLink RX1 44 yX6_copyFrom, Cond.instanceMethod yX6_copyFrom, Cond.selects RX6 yX6_copyFrom yX6_copyFrom, Cond.initialized RX6, Cond.code yX6_copyFrom cX6_copyFrom 2 none, Cond.fieldLink RX6 42 "HallBuilds$Stands" "count" "I", Cond.fieldLink RX6 9 "HallBuilds$Stands" "hours" "[I", Cond.fieldLink RX6 15 "HallBuilds$Stands" "length" "[I", Cond.fieldLink RX6 18 "HallBuilds$Stands" "power" "[I", Cond.fieldLink RX6 21 "HallBuilds$Stands" "base" "[I", Cond.fieldLink RX6 24 "HallBuilds$Stands" "state" "[I", Cond.fieldLink RX6 27 "HallBuilds$Stands" "left" "[I", Cond.fieldLink RX6 30 "HallBuilds$Stands" "phase" "[I", Cond.fieldLink RX6 33 "HallBuilds$Stands" "crew" "[I", Cond.fieldLink RX6 36 "HallBuilds$Stands" "spent" "[I", Cond.fieldLink RX6 39 "HallBuilds$Stands" "leaving" "[I", Cond.methodLink RX1 48 yX0_copyFrom, Cond.instanceMethod yX0_copyFrom, Cond.selects RX0 yX0_copyFrom yX0_copyFrom, Cond.initialized RX0, Cond.code yX0_copyFrom cX0_copyFrom 2 none, Cond.fieldLink RX0 30 "HallBuilds$Crews" "count" "I", Cond.fieldLink RX0 9 "HallBuilds$Crews" "speed" "[I"]
def wsX7_hoursWithDock_r3 : List Cond := [Cond.fieldLink RX0 15 "HallBuilds$Crews" "rate" "[I", Cond.fieldLink RX0 18 "HallBuilds$Crews" "stand" "[I", Cond.fieldLink RX0 21 "HallBuilds$Crews" "worked" "[I", Cond.fieldLink RX0 24 "HallBuilds$Crews" "built" "[I", Cond.fieldLink RX0 27 "HallBuilds$Crews" "dismantled" "[I", Cond.methodLink RX7 49 yX1_changeSetting, Cond.instanceMethod yX1_changeSetting, Cond.selects RX1 yX1_changeSetting yX1_changeSetting, Cond.code yX1_changeSetting cX1_changeSetting 4 (some .int), Cond.static yX7_isWithin, Cond.code yX7_isWithin cX7_isWithin 3 (some .boolean), Cond.methodLink RX7 111 yX1_hoursUntilAllIn, Cond.instanceMethod yX1_hoursUntilAllIn, Cond.selects RX1 yX1_hoursUntilAllIn yX1_hoursUntilAllIn, Cond.code yX1_hoursUntilAllIn cX1_hoursUntilAllIn 6 (some .int), Cond.methodLink RX1 126 Lib.Math.min.name, Cond.methodLink RX1 119 yX1_allAreIn, Cond.instanceMethod yX1_allAreIn, Cond.selects RX1 yX1_allAreIn yX1_allAreIn, Cond.code yX1_allAreIn cX1_allAreIn 2 (some .boolean), Cond.methodLink RX1 97 yX6_countIn, Cond.instanceMethod yX6_countIn, Cond.selects RX6 yX6_countIn yX6_countIn, Cond.code yX6_countIn cX6_countIn 4 (some .int)]
def wsX7_hoursWithDock_r4 : List Cond := [Cond.methodLink RX1 93 yX1_passOneHour, Cond.instanceMethod yX1_passOneHour, Cond.selects RX1 yX1_passOneHour yX1_passOneHour, Cond.code yX1_passOneHour cX1_passOneHour 2 (some .int), Cond.methodLink RX1 135 yX1_lorriesLeave, Cond.instanceMethod yX1_lorriesLeave, Cond.selects RX1 yX1_lorriesLeave yX1_lorriesLeave, Cond.code yX1_lorriesLeave cX1_lorriesLeave 2 none, Cond.methodLink RX1 138 yX1_lorriesCome, Cond.instanceMethod yX1_lorriesCome, Cond.selects RX1 yX1_lorriesCome yX1_lorriesCome, Cond.code yX1_lorriesCome cX1_lorriesCome 3 none, Cond.methodLink RX1 101 yX6_metersAtDock, Cond.instanceMethod yX6_metersAtDock, Cond.selects RX6 yX6_metersAtDock yX6_metersAtDock, Cond.code yX6_metersAtDock cX6_metersAtDock 3 (some .int), Cond.methodLink RX1 141 yX1_crewsTakeStands, Cond.instanceMethod yX1_crewsTakeStands, Cond.selects RX1 yX1_crewsTakeStands yX1_crewsTakeStands, Cond.code yX1_crewsTakeStands cX1_crewsTakeStands 3 none, Cond.methodLink RX1 162 yX6_nextToDismantle, Cond.instanceMethod yX6_nextToDismantle, Cond.selects RX6 yX6_nextToDismantle yX6_nextToDismantle, Cond.code yX6_nextToDismantle cX6_nextToDismantle 2 (some .int)]
def wsX7_hoursWithDock_r5 : List Cond := [Cond.methodLink RX6 54 yX6_standingOn, Cond.instanceMethod yX6_standingOn, Cond.selects RX6 yX6_standingOn yX6_standingOn, Cond.code yX6_standingOn cX6_standingOn 4 (some .int), Cond.methodLink RX1 165 yX6_nextToBuild, Cond.instanceMethod yX6_nextToBuild, Cond.selects RX6 yX6_nextToBuild yX6_nextToBuild, Cond.code yX6_nextToBuild cX6_nextToBuild 2 (some .int), Cond.methodLink RX6 58 yX6_baseIsBuilt, Cond.instanceMethod yX6_baseIsBuilt, Cond.selects RX6 yX6_baseIsBuilt yX6_baseIsBuilt, Cond.code yX6_baseIsBuilt cX6_baseIsBuilt 3 (some .boolean), Cond.methodLink RX6 50 yX6_has, Cond.instanceMethod yX6_has, Cond.selects RX6 yX6_has yX6_has, Cond.code yX6_has cX6_has 2 (some .boolean), Cond.methodLink RX1 69 yX6_has, Cond.methodLink RX1 171 yX1_beginToDismantle, Cond.instanceMethod yX1_beginToDismantle, Cond.selects RX1 yX1_beginToDismantle yX1_beginToDismantle, Cond.code yX1_beginToDismantle cX1_beginToDismantle 2 none, Cond.methodLink RX1 174 yX1_takeOffPhase, Cond.instanceMethod yX1_takeOffPhase, Cond.selects RX1 yX1_takeOffPhase yX1_takeOffPhase]
def wsX7_hoursWithDock_r6 : List Cond := [Cond.code yX1_takeOffPhase cX1_takeOffPhase 3 none, Cond.methodLink RX1 144 yX1_crewsWork, Cond.instanceMethod yX1_crewsWork, Cond.selects RX1 yX1_crewsWork yX1_crewsWork, Cond.code yX1_crewsWork cX1_crewsWork 5 (some .int), Cond.methodLink RX1 186 Lib.Math.max.name, Cond.static Lib.Math.max.name, Cond.code Lib.Math.max.name Lib.Math.max.code 2 (some .int), Cond.methodLink RX1 189 yX1_finish, Cond.instanceMethod yX1_finish, Cond.selects RX1 yX1_finish yX1_finish, Cond.code yX1_finish cX1_finish 3 none, Cond.methodLink RX1 196 yX1_putOnPhase, Cond.instanceMethod yX1_putOnPhase, Cond.selects RX1 yX1_putOnPhase yX1_putOnPhase, Cond.code yX1_putOnPhase cX1_putOnPhase 4 none, Cond.methodLink RX1 123 yX1_quietHours, Cond.instanceMethod yX1_quietHours, Cond.selects RX1 yX1_quietHours yX1_quietHours, Cond.code yX1_quietHours cX1_quietHours 5 (some .int), Cond.methodLink RX1 131 yX1_passQuietHours, Cond.instanceMethod yX1_passQuietHours, Cond.selects RX1 yX1_passQuietHours yX1_passQuietHours, Cond.code yX1_passQuietHours cX1_passQuietHours 2 none]
def wsX7_hoursWithDock : List Cond := .code yX7_hoursWithDock cX7_hoursWithDock 3 (some .int) :: ((wsX7_hoursWithDock_r1 ++ (wsX7_hoursWithDock_r2 ++ (wsX7_hoursWithDock_r3 ++ (wsX7_hoursWithDock_r4 ++ (wsX7_hoursWithDock_r5 ++ wsX7_hoursWithDock_r6))))) ++ wsX70 ++ wsX10 ++ wsX60 ++ wsX00)
def wsX7_leastDock_r1 : List Cond := [Cond.methodLink RX7 114 yX7_hoursWithDock, Cond.instanceMethod yX7_hoursWithDock, Cond.selects RX7 yX7_hoursWithDock yX7_hoursWithDock, Cond.initialized RX7, Cond.code yX7_hoursWithDock cX7_hoursWithDock 3 (some .int), Cond.fieldLink RX7 16 "HallBuilds" "trial" "LHallBuilds$Hall;", Cond.fieldLink RX7 10 "HallBuilds" "hall" "LHallBuilds$Hall;", Cond.methodLink RX7 108 yX1_copyFrom, Cond.instanceMethod yX1_copyFrom, Cond.selects RX1 yX1_copyFrom yX1_copyFrom, Cond.initialized RX1, Cond.code yX1_copyFrom cX1_copyFrom 2 none, Cond.fieldLink RX1 18 "HallBuilds$Hall" "settings" "[I", Cond.fieldLink RX1 23 "HallBuilds$Hall" "loads" "[I", Cond.fieldLink RX1 29 "HallBuilds$Hall" "stands" "LHallBuilds$Stands;", Cond.fieldLink RX1 36 "HallBuilds$Hall" "crews" "LHallBuilds$Crews;", Cond.fieldLink RX1 51 "HallBuilds$Hall" "hour" "I", Cond.fieldLink RX1 55 "HallBuilds$Hall" "ended" "Z", Cond.fieldLink RX1 59 "HallBuilds$Hall" "lost" "I", Cond.static yX7_copyRow, Cond.code yX7_copyRow cX7_copyRow 2 none, Cond.methodLink RX7 166 Lib.Math.min.name, Cond.static Lib.Math.min.name, Cond.initialized "java/lang/Math"]
def wsX7_leastDock_r2 : List Cond := [Cond.code Lib.Math.min.name Lib.Math.min.code 2 (some .int), Cond.methodLink RX7 171 arraycopyName, Cond.native arraycopyName, Cond.static arraycopyName, Cond.initialized "java/lang/System", Cond.methodLink RX1 44 yX6_copyFrom, Cond.instanceMethod yX6_copyFrom, Cond.selects RX6 yX6_copyFrom yX6_copyFrom, Cond.initialized RX6, Cond.code yX6_copyFrom cX6_copyFrom 2 none, Cond.fieldLink RX6 42 "HallBuilds$Stands" "count" "I", Cond.fieldLink RX6 9 "HallBuilds$Stands" "hours" "[I", Cond.fieldLink RX6 15 "HallBuilds$Stands" "length" "[I", Cond.fieldLink RX6 18 "HallBuilds$Stands" "power" "[I", Cond.fieldLink RX6 21 "HallBuilds$Stands" "base" "[I", Cond.fieldLink RX6 24 "HallBuilds$Stands" "state" "[I", Cond.fieldLink RX6 27 "HallBuilds$Stands" "left" "[I", Cond.fieldLink RX6 30 "HallBuilds$Stands" "phase" "[I", Cond.fieldLink RX6 33 "HallBuilds$Stands" "crew" "[I", Cond.fieldLink RX6 36 "HallBuilds$Stands" "spent" "[I", Cond.fieldLink RX6 39 "HallBuilds$Stands" "leaving" "[I", Cond.methodLink RX1 48 yX0_copyFrom, Cond.instanceMethod yX0_copyFrom, Cond.selects RX0 yX0_copyFrom yX0_copyFrom]
def wsX7_leastDock_r3 : List Cond := [Cond.initialized RX0, Cond.code yX0_copyFrom cX0_copyFrom 2 none, Cond.fieldLink RX0 30 "HallBuilds$Crews" "count" "I", Cond.fieldLink RX0 9 "HallBuilds$Crews" "speed" "[I", Cond.fieldLink RX0 15 "HallBuilds$Crews" "rate" "[I", Cond.fieldLink RX0 18 "HallBuilds$Crews" "stand" "[I", Cond.fieldLink RX0 21 "HallBuilds$Crews" "worked" "[I", Cond.fieldLink RX0 24 "HallBuilds$Crews" "built" "[I", Cond.fieldLink RX0 27 "HallBuilds$Crews" "dismantled" "[I", Cond.methodLink RX7 49 yX1_changeSetting, Cond.instanceMethod yX1_changeSetting, Cond.selects RX1 yX1_changeSetting yX1_changeSetting, Cond.code yX1_changeSetting cX1_changeSetting 4 (some .int), Cond.static yX7_isWithin, Cond.code yX7_isWithin cX7_isWithin 3 (some .boolean), Cond.methodLink RX7 111 yX1_hoursUntilAllIn, Cond.instanceMethod yX1_hoursUntilAllIn, Cond.selects RX1 yX1_hoursUntilAllIn yX1_hoursUntilAllIn, Cond.code yX1_hoursUntilAllIn cX1_hoursUntilAllIn 6 (some .int), Cond.methodLink RX1 126 Lib.Math.min.name, Cond.methodLink RX1 119 yX1_allAreIn, Cond.instanceMethod yX1_allAreIn, Cond.selects RX1 yX1_allAreIn yX1_allAreIn, Cond.code yX1_allAreIn cX1_allAreIn 2 (some .boolean)]
def wsX7_leastDock_r4 : List Cond := [Cond.methodLink RX1 97 yX6_countIn, Cond.instanceMethod yX6_countIn, Cond.selects RX6 yX6_countIn yX6_countIn, Cond.code yX6_countIn cX6_countIn 4 (some .int), Cond.methodLink RX1 93 yX1_passOneHour, Cond.instanceMethod yX1_passOneHour, Cond.selects RX1 yX1_passOneHour yX1_passOneHour, Cond.code yX1_passOneHour cX1_passOneHour 2 (some .int), Cond.methodLink RX1 135 yX1_lorriesLeave, Cond.instanceMethod yX1_lorriesLeave, Cond.selects RX1 yX1_lorriesLeave yX1_lorriesLeave, Cond.code yX1_lorriesLeave cX1_lorriesLeave 2 none, Cond.methodLink RX1 138 yX1_lorriesCome, Cond.instanceMethod yX1_lorriesCome, Cond.selects RX1 yX1_lorriesCome yX1_lorriesCome, Cond.code yX1_lorriesCome cX1_lorriesCome 3 none, Cond.methodLink RX1 101 yX6_metersAtDock, Cond.instanceMethod yX6_metersAtDock, Cond.selects RX6 yX6_metersAtDock yX6_metersAtDock, Cond.code yX6_metersAtDock cX6_metersAtDock 3 (some .int), Cond.methodLink RX1 141 yX1_crewsTakeStands, Cond.instanceMethod yX1_crewsTakeStands, Cond.selects RX1 yX1_crewsTakeStands yX1_crewsTakeStands, Cond.code yX1_crewsTakeStands cX1_crewsTakeStands 3 none]
def wsX7_leastDock_r5 : List Cond := [Cond.methodLink RX1 162 yX6_nextToDismantle, Cond.instanceMethod yX6_nextToDismantle, Cond.selects RX6 yX6_nextToDismantle yX6_nextToDismantle, Cond.code yX6_nextToDismantle cX6_nextToDismantle 2 (some .int), Cond.methodLink RX6 54 yX6_standingOn, Cond.instanceMethod yX6_standingOn, Cond.selects RX6 yX6_standingOn yX6_standingOn, Cond.code yX6_standingOn cX6_standingOn 4 (some .int), Cond.methodLink RX1 165 yX6_nextToBuild, Cond.instanceMethod yX6_nextToBuild, Cond.selects RX6 yX6_nextToBuild yX6_nextToBuild, Cond.code yX6_nextToBuild cX6_nextToBuild 2 (some .int), Cond.methodLink RX6 58 yX6_baseIsBuilt, Cond.instanceMethod yX6_baseIsBuilt, Cond.selects RX6 yX6_baseIsBuilt yX6_baseIsBuilt, Cond.code yX6_baseIsBuilt cX6_baseIsBuilt 3 (some .boolean), Cond.methodLink RX6 50 yX6_has, Cond.instanceMethod yX6_has, Cond.selects RX6 yX6_has yX6_has, Cond.code yX6_has cX6_has 2 (some .boolean), Cond.methodLink RX1 69 yX6_has, Cond.methodLink RX1 171 yX1_beginToDismantle, Cond.instanceMethod yX1_beginToDismantle, Cond.selects RX1 yX1_beginToDismantle yX1_beginToDismantle]
def wsX7_leastDock_r6 : List Cond := [Cond.code yX1_beginToDismantle cX1_beginToDismantle 2 none, Cond.methodLink RX1 174 yX1_takeOffPhase, Cond.instanceMethod yX1_takeOffPhase, Cond.selects RX1 yX1_takeOffPhase yX1_takeOffPhase, Cond.code yX1_takeOffPhase cX1_takeOffPhase 3 none, Cond.methodLink RX1 144 yX1_crewsWork, Cond.instanceMethod yX1_crewsWork, Cond.selects RX1 yX1_crewsWork yX1_crewsWork, Cond.code yX1_crewsWork cX1_crewsWork 5 (some .int), Cond.methodLink RX1 186 Lib.Math.max.name, Cond.static Lib.Math.max.name, Cond.code Lib.Math.max.name Lib.Math.max.code 2 (some .int), Cond.methodLink RX1 189 yX1_finish, Cond.instanceMethod yX1_finish, Cond.selects RX1 yX1_finish yX1_finish, Cond.code yX1_finish cX1_finish 3 none, Cond.methodLink RX1 196 yX1_putOnPhase, Cond.instanceMethod yX1_putOnPhase, Cond.selects RX1 yX1_putOnPhase yX1_putOnPhase, Cond.code yX1_putOnPhase cX1_putOnPhase 4 none, Cond.methodLink RX1 123 yX1_quietHours, Cond.instanceMethod yX1_quietHours, Cond.selects RX1 yX1_quietHours yX1_quietHours, Cond.code yX1_quietHours cX1_quietHours 5 (some .int)]
def wsX7_leastDock_r7 : List Cond := [Cond.methodLink RX1 131 yX1_passQuietHours, Cond.instanceMethod yX1_passQuietHours, Cond.selects RX1 yX1_passQuietHours yX1_passQuietHours, Cond.code yX1_passQuietHours cX1_passQuietHours 2 none]
def wsX7_leastDock : List Cond := .code yX7_leastDock cX7_leastDock 3 (some .int) :: ((wsX7_leastDock_r1 ++ (wsX7_leastDock_r2 ++ (wsX7_leastDock_r3 ++ (wsX7_leastDock_r4 ++ (wsX7_leastDock_r5 ++ (wsX7_leastDock_r6 ++ wsX7_leastDock_r7)))))) ++ wsX70 ++ wsX10 ++ wsX60 ++ wsX00)
def wsX7_put : List Cond := .code yX7_put cX7_put 3 (some .int) :: ([.fieldLink RX7 44 "HallBuilds" "pad" "LHallBuilds$Pad;", .methodLink RX7 117 yX4_append, .instanceMethod yX4_append, .selects RX4 yX4_append yX4_append, .initialized RX4, .code yX4_append cX4_append 5 (some .int), .fieldLink RX4 15 "HallBuilds$Pad" "length" "I", .fieldLink RX4 9 "HallBuilds$Pad" "text" "[C", .constantLong RX4 23 (255), .methodLink RX4 19 yX4_wellFormed, .static yX4_wellFormed, .code yX4_wellFormed cX4_wellFormed 7 (some .int), .static yX7_isWithin, .initialized RX7, .code yX7_isWithin cX7_isWithin 3 (some .boolean)] ++ wsX70 ++ wsX40)
def wsX7_wipe : List Cond := .code yX7_wipe cX7_wipe 1 (some .int) :: ([.fieldLink RX7 44 "HallBuilds" "pad" "LHallBuilds$Pad;", .methodLink RX7 121 yX4_clear, .instanceMethod yX4_clear, .selects RX4 yX4_clear yX4_clear, .initialized RX4, .code yX4_clear cX4_clear 2 (some .int), .fieldLink RX4 15 "HallBuilds$Pad" "length" "I"] ++ wsX70 ++ wsX40)
def wsX7_fault_r1 : List Cond := [Cond.fieldLink RX7 36 "HallBuilds" "reader" "LHallBuilds$OrderReader;", Cond.methodLink RX7 124 yX3_findFault, Cond.instanceMethod yX3_findFault, Cond.selects RX3 yX3_findFault yX3_findFault, Cond.initialized RX3, Cond.code yX3_findFault cX3_findFault 3 (some .int), Cond.fieldLink RX3 22 "HallBuilds$OrderReader" "faulty" "Z", Cond.fieldLink RX3 18 "HallBuilds$OrderReader" "at" "I", Cond.fieldLink RX3 12 "HallBuilds$OrderReader" "pad" "LHallBuilds$Pad;", Cond.methodLink RX3 26 yX3_start, Cond.instanceMethod yX3_start, Cond.selects RX3 yX3_start yX3_start, Cond.code yX3_start cX3_start 1 none, Cond.methodLink RX3 29 yX3_readOrder, Cond.instanceMethod yX3_readOrder, Cond.selects RX3 yX3_readOrder yX3_readOrder, Cond.code yX3_readOrder cX3_readOrder 1 none, Cond.fieldLink RX3 42 "HallBuilds$OrderReader" "kind" "I", Cond.fieldLink RX3 45 "HallBuilds$OrderReader" "base" "I", Cond.fieldLink RX3 52 "HallBuilds$OrderReader" "first" "I", Cond.fieldLink RX3 59 "HallBuilds$OrderReader" "second" "I", Cond.fieldLink RX3 62 "HallBuilds$OrderReader" "third" "I", Cond.methodLink RX3 39 yX4_at, Cond.instanceMethod yX4_at]
def wsX7_fault_r2 : List Cond := [Cond.selects RX4 yX4_at yX4_at, Cond.initialized RX4, Cond.code yX4_at cX4_at 2 (some .char), Cond.fieldLink RX4 15 "HallBuilds$Pad" "length" "I", Cond.fieldLink RX4 9 "HallBuilds$Pad" "text" "[C", Cond.methodLink RX3 32 yX3_take, Cond.instanceMethod yX3_take, Cond.selects RX3 yX3_take yX3_take, Cond.code yX3_take cX3_take 2 (some .boolean), Cond.methodLink RX3 48 yX3_readNumber, Cond.instanceMethod yX3_readNumber, Cond.selects RX3 yX3_readNumber yX3_readNumber, Cond.code yX3_readNumber cX3_readNumber 2 (some .int), Cond.methodLink RX3 65 yX3_readDigit, Cond.instanceMethod yX3_readDigit, Cond.selects RX3 yX3_readDigit yX3_readDigit, Cond.code yX3_readDigit cX3_readDigit 2 (some .int), Cond.static yX7_isWithin, Cond.initialized RX7, Cond.code yX7_isWithin cX7_isWithin 3 (some .boolean), Cond.methodLink RX3 55 yX3_expect, Cond.instanceMethod yX3_expect, Cond.selects RX3 yX3_expect yX3_expect, Cond.code yX3_expect cX3_expect 2 none]
def wsX7_fault : List Cond := .code yX7_fault cX7_fault 1 (some .int) :: ((wsX7_fault_r1 ++ wsX7_fault_r2) ++ wsX70 ++ wsX30 ++ wsX40)
def wsX7_carryOutOne_r1 : List Cond := [Cond.fieldLink RX7 36 "HallBuilds" "reader" "LHallBuilds$OrderReader;", Cond.fieldLink RX7 10 "HallBuilds" "hall" "LHallBuilds$Hall;", Cond.methodLink RX7 57 yX1_addStand, Cond.instanceMethod yX1_addStand, Cond.selects RX1 yX1_addStand yX1_addStand, Cond.initialized RX1, Cond.code yX1_addStand cX1_addStand 5 (some .int), Cond.fieldLink RX1 29 "HallBuilds$Hall" "stands" "LHallBuilds$Stands;", Cond.fieldLink RX1 55 "HallBuilds$Hall" "ended" "Z", Cond.static yX7_isWithin, Cond.initialized RX7, Cond.code yX7_isWithin cX7_isWithin 3 (some .boolean), Cond.methodLink RX1 69 yX6_has, Cond.instanceMethod yX6_has, Cond.selects RX6 yX6_has yX6_has, Cond.initialized RX6, Cond.code yX6_has cX6_has 2 (some .boolean), Cond.fieldLink RX6 42 "HallBuilds$Stands" "count" "I", Cond.methodLink RX1 76 yX6_isGone, Cond.instanceMethod yX6_isGone, Cond.selects RX6 yX6_isGone yX6_isGone, Cond.code yX6_isGone cX6_isGone 2 (some .boolean), Cond.fieldLink RX6 24 "HallBuilds$Stands" "state" "[I", Cond.methodLink RX6 50 yX6_has]
def wsX7_carryOutOne_r2 : List Cond := [Cond.methodLink RX1 79 yX6_append, Cond.instanceMethod yX6_append, Cond.selects RX6 yX6_append yX6_append, Cond.code yX6_append cX6_append 6 (some .int), Cond.fieldLink RX6 9 "HallBuilds$Stands" "hours" "[I", Cond.fieldLink RX6 15 "HallBuilds$Stands" "length" "[I", Cond.fieldLink RX6 18 "HallBuilds$Stands" "power" "[I", Cond.fieldLink RX6 21 "HallBuilds$Stands" "base" "[I", Cond.fieldLink RX6 27 "HallBuilds$Stands" "left" "[I", Cond.fieldLink RX6 30 "HallBuilds$Stands" "phase" "[I", Cond.fieldLink RX6 33 "HallBuilds$Stands" "crew" "[I", Cond.fieldLink RX6 36 "HallBuilds$Stands" "spent" "[I", Cond.fieldLink RX6 39 "HallBuilds$Stands" "leaving" "[I", Cond.methodLink RX7 61 yX1_addCrew, Cond.instanceMethod yX1_addCrew, Cond.selects RX1 yX1_addCrew yX1_addCrew, Cond.code yX1_addCrew cX1_addCrew 3 (some .int), Cond.fieldLink RX1 36 "HallBuilds$Hall" "crews" "LHallBuilds$Crews;", Cond.methodLink RX1 83 yX0_append, Cond.instanceMethod yX0_append, Cond.selects RX0 yX0_append yX0_append, Cond.initialized RX0, Cond.code yX0_append cX0_append 4 (some .int), Cond.fieldLink RX0 30 "HallBuilds$Crews" "count" "I"]
def wsX7_carryOutOne_r3 : List Cond := [Cond.fieldLink RX0 9 "HallBuilds$Crews" "speed" "[I", Cond.fieldLink RX0 15 "HallBuilds$Crews" "rate" "[I", Cond.fieldLink RX0 18 "HallBuilds$Crews" "stand" "[I", Cond.fieldLink RX0 21 "HallBuilds$Crews" "worked" "[I", Cond.fieldLink RX0 24 "HallBuilds$Crews" "built" "[I", Cond.fieldLink RX0 27 "HallBuilds$Crews" "dismantled" "[I", Cond.methodLink RX7 49 yX1_changeSetting, Cond.instanceMethod yX1_changeSetting, Cond.selects RX1 yX1_changeSetting yX1_changeSetting, Cond.code yX1_changeSetting cX1_changeSetting 4 (some .int), Cond.fieldLink RX1 18 "HallBuilds$Hall" "settings" "[I", Cond.methodLink RX7 71 yX1_passHours, Cond.instanceMethod yX1_passHours, Cond.selects RX1 yX1_passHours yX1_passHours, Cond.code yX1_passHours cX1_passHours 4 (some .int), Cond.fieldLink RX1 51 "HallBuilds$Hall" "hour" "I", Cond.methodLink RX1 93 yX1_passOneHour, Cond.instanceMethod yX1_passOneHour, Cond.selects RX1 yX1_passOneHour yX1_passOneHour, Cond.code yX1_passOneHour cX1_passOneHour 2 (some .int), Cond.methodLink RX1 135 yX1_lorriesLeave, Cond.instanceMethod yX1_lorriesLeave, Cond.selects RX1 yX1_lorriesLeave yX1_lorriesLeave, Cond.code yX1_lorriesLeave cX1_lorriesLeave 2 none]
def wsX7_carryOutOne_r4 : List Cond := [Cond.methodLink RX1 138 yX1_lorriesCome, Cond.instanceMethod yX1_lorriesCome, Cond.selects RX1 yX1_lorriesCome yX1_lorriesCome, Cond.code yX1_lorriesCome cX1_lorriesCome 3 none, Cond.methodLink RX1 101 yX6_metersAtDock, Cond.instanceMethod yX6_metersAtDock, Cond.selects RX6 yX6_metersAtDock yX6_metersAtDock, Cond.code yX6_metersAtDock cX6_metersAtDock 3 (some .int), Cond.methodLink RX1 141 yX1_crewsTakeStands, Cond.instanceMethod yX1_crewsTakeStands, Cond.selects RX1 yX1_crewsTakeStands yX1_crewsTakeStands, Cond.code yX1_crewsTakeStands cX1_crewsTakeStands 3 none, Cond.methodLink RX1 162 yX6_nextToDismantle, Cond.instanceMethod yX6_nextToDismantle, Cond.selects RX6 yX6_nextToDismantle yX6_nextToDismantle, Cond.code yX6_nextToDismantle cX6_nextToDismantle 2 (some .int), Cond.methodLink RX6 54 yX6_standingOn, Cond.instanceMethod yX6_standingOn, Cond.selects RX6 yX6_standingOn yX6_standingOn, Cond.code yX6_standingOn cX6_standingOn 4 (some .int), Cond.methodLink RX1 165 yX6_nextToBuild, Cond.instanceMethod yX6_nextToBuild, Cond.selects RX6 yX6_nextToBuild yX6_nextToBuild, Cond.code yX6_nextToBuild cX6_nextToBuild 2 (some .int)]
def wsX7_carryOutOne_r5 : List Cond := [Cond.methodLink RX6 58 yX6_baseIsBuilt, Cond.instanceMethod yX6_baseIsBuilt, Cond.selects RX6 yX6_baseIsBuilt yX6_baseIsBuilt, Cond.code yX6_baseIsBuilt cX6_baseIsBuilt 3 (some .boolean), Cond.methodLink RX1 171 yX1_beginToDismantle, Cond.instanceMethod yX1_beginToDismantle, Cond.selects RX1 yX1_beginToDismantle yX1_beginToDismantle, Cond.code yX1_beginToDismantle cX1_beginToDismantle 2 none, Cond.methodLink RX1 174 yX1_takeOffPhase, Cond.instanceMethod yX1_takeOffPhase, Cond.selects RX1 yX1_takeOffPhase yX1_takeOffPhase, Cond.code yX1_takeOffPhase cX1_takeOffPhase 3 none, Cond.fieldLink RX1 23 "HallBuilds$Hall" "loads" "[I", Cond.methodLink RX1 144 yX1_crewsWork, Cond.instanceMethod yX1_crewsWork, Cond.selects RX1 yX1_crewsWork yX1_crewsWork, Cond.code yX1_crewsWork cX1_crewsWork 5 (some .int), Cond.methodLink RX1 186 Lib.Math.max.name, Cond.static Lib.Math.max.name, Cond.initialized "java/lang/Math", Cond.code Lib.Math.max.name Lib.Math.max.code 2 (some .int), Cond.methodLink RX1 189 yX1_finish, Cond.instanceMethod yX1_finish, Cond.selects RX1 yX1_finish yX1_finish]
def wsX7_carryOutOne_r6 : List Cond := [Cond.code yX1_finish cX1_finish 3 none, Cond.fieldLink RX1 59 "HallBuilds$Hall" "lost" "I", Cond.methodLink RX1 196 yX1_putOnPhase, Cond.instanceMethod yX1_putOnPhase, Cond.selects RX1 yX1_putOnPhase yX1_putOnPhase, Cond.code yX1_putOnPhase cX1_putOnPhase 4 none, Cond.methodLink RX7 64 yX1_endFair, Cond.instanceMethod yX1_endFair, Cond.selects RX1 yX1_endFair yX1_endFair, Cond.code yX1_endFair cX1_endFair 1 (some .int), Cond.methodLink RX1 86 yX0_letAllGo, Cond.instanceMethod yX0_letAllGo, Cond.selects RX0 yX0_letAllGo yX0_letAllGo, Cond.code yX0_letAllGo cX0_letAllGo 2 none, Cond.methodLink RX1 89 yX6_clearUnbuilt, Cond.instanceMethod yX6_clearUnbuilt, Cond.selects RX6 yX6_clearUnbuilt yX6_clearUnbuilt, Cond.code yX6_clearUnbuilt cX6_clearUnbuilt 3 (some .int)]
def wsX7_carryOutOne : List Cond := .code yX7_carryOutOne cX7_carryOutOne 1 (some .int) :: ((wsX7_carryOutOne_r1 ++ (wsX7_carryOutOne_r2 ++ (wsX7_carryOutOne_r3 ++ (wsX7_carryOutOne_r4 ++ (wsX7_carryOutOne_r5 ++ wsX7_carryOutOne_r6))))) ++ wsX70 ++ wsX30 ++ wsX10 ++ wsX60 ++ wsX00)
def wsX7_carryOut_r1 : List Cond := [Cond.fieldLink RX7 36 "HallBuilds" "reader" "LHallBuilds$OrderReader;", Cond.fieldLink RX7 22 "HallBuilds" "history" "LHallBuilds$History;", Cond.fieldLink RX7 10 "HallBuilds" "hall" "LHallBuilds$Hall;", Cond.fieldLink RX7 44 "HallBuilds" "pad" "LHallBuilds$Pad;", Cond.methodLink RX7 124 yX3_findFault, Cond.instanceMethod yX3_findFault, Cond.selects RX3 yX3_findFault yX3_findFault, Cond.initialized RX3, Cond.code yX3_findFault cX3_findFault 3 (some .int), Cond.fieldLink RX3 22 "HallBuilds$OrderReader" "faulty" "Z", Cond.fieldLink RX3 18 "HallBuilds$OrderReader" "at" "I", Cond.fieldLink RX3 12 "HallBuilds$OrderReader" "pad" "LHallBuilds$Pad;", Cond.methodLink RX3 26 yX3_start, Cond.instanceMethod yX3_start, Cond.selects RX3 yX3_start yX3_start, Cond.code yX3_start cX3_start 1 none, Cond.methodLink RX3 29 yX3_readOrder, Cond.instanceMethod yX3_readOrder, Cond.selects RX3 yX3_readOrder yX3_readOrder, Cond.code yX3_readOrder cX3_readOrder 1 none, Cond.fieldLink RX3 42 "HallBuilds$OrderReader" "kind" "I", Cond.fieldLink RX3 45 "HallBuilds$OrderReader" "base" "I", Cond.fieldLink RX3 52 "HallBuilds$OrderReader" "first" "I", Cond.fieldLink RX3 59 "HallBuilds$OrderReader" "second" "I"]
def wsX7_carryOut_r2 : List Cond := [Cond.fieldLink RX3 62 "HallBuilds$OrderReader" "third" "I", Cond.methodLink RX3 39 yX4_at, Cond.instanceMethod yX4_at, Cond.selects RX4 yX4_at yX4_at, Cond.initialized RX4, Cond.code yX4_at cX4_at 2 (some .char), Cond.fieldLink RX4 15 "HallBuilds$Pad" "length" "I", Cond.fieldLink RX4 9 "HallBuilds$Pad" "text" "[C", Cond.methodLink RX3 32 yX3_take, Cond.instanceMethod yX3_take, Cond.selects RX3 yX3_take yX3_take, Cond.code yX3_take cX3_take 2 (some .boolean), Cond.methodLink RX3 48 yX3_readNumber, Cond.instanceMethod yX3_readNumber, Cond.selects RX3 yX3_readNumber yX3_readNumber, Cond.code yX3_readNumber cX3_readNumber 2 (some .int), Cond.methodLink RX3 65 yX3_readDigit, Cond.instanceMethod yX3_readDigit, Cond.selects RX3 yX3_readDigit yX3_readDigit, Cond.code yX3_readDigit cX3_readDigit 2 (some .int), Cond.static yX7_isWithin, Cond.initialized RX7, Cond.code yX7_isWithin cX7_isWithin 3 (some .boolean), Cond.methodLink RX3 55 yX3_expect]
def wsX7_carryOut_r3 : List Cond := [Cond.instanceMethod yX3_expect, Cond.selects RX3 yX3_expect yX3_expect, Cond.code yX3_expect cX3_expect 2 none, Cond.methodLink RX7 45 yX2_prepare, Cond.instanceMethod yX2_prepare, Cond.selects RX2 yX2_prepare yX2_prepare, Cond.initialized RX2, Cond.code yX2_prepare cX2_prepare 3 none, Cond.fieldLink RX2 18 "HallBuilds$History" "next" "I", Cond.methodLink RX2 22 yX2_stateAt, Cond.instanceMethod yX2_stateAt, Cond.selects RX2 yX2_stateAt yX2_stateAt, Cond.code yX2_stateAt cX2_stateAt 2 (some (.object "HallBuilds$Hall")), Cond.fieldLink RX2 11 "HallBuilds$History" "states" "[LHallBuilds$Hall;", Cond.methodLink RX2 26 yX1_copyFrom, Cond.instanceMethod yX1_copyFrom, Cond.selects RX1 yX1_copyFrom yX1_copyFrom, Cond.initialized RX1, Cond.code yX1_copyFrom cX1_copyFrom 2 none, Cond.fieldLink RX1 18 "HallBuilds$Hall" "settings" "[I", Cond.fieldLink RX1 23 "HallBuilds$Hall" "loads" "[I", Cond.fieldLink RX1 29 "HallBuilds$Hall" "stands" "LHallBuilds$Stands;", Cond.fieldLink RX1 36 "HallBuilds$Hall" "crews" "LHallBuilds$Crews;", Cond.fieldLink RX1 51 "HallBuilds$Hall" "hour" "I"]
def wsX7_carryOut_r4 : List Cond := [Cond.fieldLink RX1 55 "HallBuilds$Hall" "ended" "Z", Cond.fieldLink RX1 59 "HallBuilds$Hall" "lost" "I", Cond.static yX7_copyRow, Cond.code yX7_copyRow cX7_copyRow 2 none, Cond.methodLink RX7 166 Lib.Math.min.name, Cond.static Lib.Math.min.name, Cond.initialized "java/lang/Math", Cond.code Lib.Math.min.name Lib.Math.min.code 2 (some .int), Cond.methodLink RX7 171 arraycopyName, Cond.native arraycopyName, Cond.static arraycopyName, Cond.initialized "java/lang/System", Cond.methodLink RX1 44 yX6_copyFrom, Cond.instanceMethod yX6_copyFrom, Cond.selects RX6 yX6_copyFrom yX6_copyFrom, Cond.initialized RX6, Cond.code yX6_copyFrom cX6_copyFrom 2 none, Cond.fieldLink RX6 42 "HallBuilds$Stands" "count" "I", Cond.fieldLink RX6 9 "HallBuilds$Stands" "hours" "[I", Cond.fieldLink RX6 15 "HallBuilds$Stands" "length" "[I", Cond.fieldLink RX6 18 "HallBuilds$Stands" "power" "[I", Cond.fieldLink RX6 21 "HallBuilds$Stands" "base" "[I", Cond.fieldLink RX6 24 "HallBuilds$Stands" "state" "[I", Cond.fieldLink RX6 27 "HallBuilds$Stands" "left" "[I"]
def wsX7_carryOut_r5 : List Cond := [Cond.fieldLink RX6 30 "HallBuilds$Stands" "phase" "[I", Cond.fieldLink RX6 33 "HallBuilds$Stands" "crew" "[I", Cond.fieldLink RX6 36 "HallBuilds$Stands" "spent" "[I", Cond.fieldLink RX6 39 "HallBuilds$Stands" "leaving" "[I", Cond.methodLink RX1 48 yX0_copyFrom, Cond.instanceMethod yX0_copyFrom, Cond.selects RX0 yX0_copyFrom yX0_copyFrom, Cond.initialized RX0, Cond.code yX0_copyFrom cX0_copyFrom 2 none, Cond.fieldLink RX0 30 "HallBuilds$Crews" "count" "I", Cond.fieldLink RX0 9 "HallBuilds$Crews" "speed" "[I", Cond.fieldLink RX0 15 "HallBuilds$Crews" "rate" "[I", Cond.fieldLink RX0 18 "HallBuilds$Crews" "stand" "[I", Cond.fieldLink RX0 21 "HallBuilds$Crews" "worked" "[I", Cond.fieldLink RX0 24 "HallBuilds$Crews" "built" "[I", Cond.fieldLink RX0 27 "HallBuilds$Crews" "dismantled" "[I", Cond.methodLink RX7 127 yX3_start, Cond.methodLink RX7 130 yX3_readOrder, Cond.methodLink RX7 133 yX7_carryOutOne, Cond.instanceMethod yX7_carryOutOne, Cond.selects RX7 yX7_carryOutOne yX7_carryOutOne, Cond.code yX7_carryOutOne cX7_carryOutOne 1 (some .int), Cond.methodLink RX7 57 yX1_addStand, Cond.instanceMethod yX1_addStand]
def wsX7_carryOut_r6 : List Cond := [Cond.selects RX1 yX1_addStand yX1_addStand, Cond.code yX1_addStand cX1_addStand 5 (some .int), Cond.methodLink RX1 69 yX6_has, Cond.instanceMethod yX6_has, Cond.selects RX6 yX6_has yX6_has, Cond.code yX6_has cX6_has 2 (some .boolean), Cond.methodLink RX1 76 yX6_isGone, Cond.instanceMethod yX6_isGone, Cond.selects RX6 yX6_isGone yX6_isGone, Cond.code yX6_isGone cX6_isGone 2 (some .boolean), Cond.methodLink RX6 50 yX6_has, Cond.methodLink RX1 79 yX6_append, Cond.instanceMethod yX6_append, Cond.selects RX6 yX6_append yX6_append, Cond.code yX6_append cX6_append 6 (some .int), Cond.methodLink RX7 61 yX1_addCrew, Cond.instanceMethod yX1_addCrew, Cond.selects RX1 yX1_addCrew yX1_addCrew, Cond.code yX1_addCrew cX1_addCrew 3 (some .int), Cond.methodLink RX1 83 yX0_append, Cond.instanceMethod yX0_append, Cond.selects RX0 yX0_append yX0_append, Cond.code yX0_append cX0_append 4 (some .int), Cond.methodLink RX7 49 yX1_changeSetting]
def wsX7_carryOut_r7 : List Cond := [Cond.instanceMethod yX1_changeSetting, Cond.selects RX1 yX1_changeSetting yX1_changeSetting, Cond.code yX1_changeSetting cX1_changeSetting 4 (some .int), Cond.methodLink RX7 71 yX1_passHours, Cond.instanceMethod yX1_passHours, Cond.selects RX1 yX1_passHours yX1_passHours, Cond.code yX1_passHours cX1_passHours 4 (some .int), Cond.methodLink RX1 93 yX1_passOneHour, Cond.instanceMethod yX1_passOneHour, Cond.selects RX1 yX1_passOneHour yX1_passOneHour, Cond.code yX1_passOneHour cX1_passOneHour 2 (some .int), Cond.methodLink RX1 135 yX1_lorriesLeave, Cond.instanceMethod yX1_lorriesLeave, Cond.selects RX1 yX1_lorriesLeave yX1_lorriesLeave, Cond.code yX1_lorriesLeave cX1_lorriesLeave 2 none, Cond.methodLink RX1 138 yX1_lorriesCome, Cond.instanceMethod yX1_lorriesCome, Cond.selects RX1 yX1_lorriesCome yX1_lorriesCome, Cond.code yX1_lorriesCome cX1_lorriesCome 3 none, Cond.methodLink RX1 101 yX6_metersAtDock, Cond.instanceMethod yX6_metersAtDock, Cond.selects RX6 yX6_metersAtDock yX6_metersAtDock, Cond.code yX6_metersAtDock cX6_metersAtDock 3 (some .int), Cond.methodLink RX1 141 yX1_crewsTakeStands]
def wsX7_carryOut_r8 : List Cond := [Cond.instanceMethod yX1_crewsTakeStands, Cond.selects RX1 yX1_crewsTakeStands yX1_crewsTakeStands, Cond.code yX1_crewsTakeStands cX1_crewsTakeStands 3 none, Cond.methodLink RX1 162 yX6_nextToDismantle, Cond.instanceMethod yX6_nextToDismantle, Cond.selects RX6 yX6_nextToDismantle yX6_nextToDismantle, Cond.code yX6_nextToDismantle cX6_nextToDismantle 2 (some .int), Cond.methodLink RX6 54 yX6_standingOn, Cond.instanceMethod yX6_standingOn, Cond.selects RX6 yX6_standingOn yX6_standingOn, Cond.code yX6_standingOn cX6_standingOn 4 (some .int), Cond.methodLink RX1 165 yX6_nextToBuild, Cond.instanceMethod yX6_nextToBuild, Cond.selects RX6 yX6_nextToBuild yX6_nextToBuild, Cond.code yX6_nextToBuild cX6_nextToBuild 2 (some .int), Cond.methodLink RX6 58 yX6_baseIsBuilt, Cond.instanceMethod yX6_baseIsBuilt, Cond.selects RX6 yX6_baseIsBuilt yX6_baseIsBuilt, Cond.code yX6_baseIsBuilt cX6_baseIsBuilt 3 (some .boolean), Cond.methodLink RX1 171 yX1_beginToDismantle, Cond.instanceMethod yX1_beginToDismantle, Cond.selects RX1 yX1_beginToDismantle yX1_beginToDismantle, Cond.code yX1_beginToDismantle cX1_beginToDismantle 2 none, Cond.methodLink RX1 174 yX1_takeOffPhase]
def wsX7_carryOut_r9 : List Cond := [Cond.instanceMethod yX1_takeOffPhase, Cond.selects RX1 yX1_takeOffPhase yX1_takeOffPhase, Cond.code yX1_takeOffPhase cX1_takeOffPhase 3 none, Cond.methodLink RX1 144 yX1_crewsWork, Cond.instanceMethod yX1_crewsWork, Cond.selects RX1 yX1_crewsWork yX1_crewsWork, Cond.code yX1_crewsWork cX1_crewsWork 5 (some .int), Cond.methodLink RX1 186 Lib.Math.max.name, Cond.static Lib.Math.max.name, Cond.code Lib.Math.max.name Lib.Math.max.code 2 (some .int), Cond.methodLink RX1 189 yX1_finish, Cond.instanceMethod yX1_finish, Cond.selects RX1 yX1_finish yX1_finish, Cond.code yX1_finish cX1_finish 3 none, Cond.methodLink RX1 196 yX1_putOnPhase, Cond.instanceMethod yX1_putOnPhase, Cond.selects RX1 yX1_putOnPhase yX1_putOnPhase, Cond.code yX1_putOnPhase cX1_putOnPhase 4 none, Cond.methodLink RX7 64 yX1_endFair, Cond.instanceMethod yX1_endFair, Cond.selects RX1 yX1_endFair yX1_endFair, Cond.code yX1_endFair cX1_endFair 1 (some .int), Cond.methodLink RX1 86 yX0_letAllGo, Cond.instanceMethod yX0_letAllGo]
def wsX7_carryOut_r10 : List Cond := [Cond.selects RX0 yX0_letAllGo yX0_letAllGo, Cond.code yX0_letAllGo cX0_letAllGo 2 none, Cond.methodLink RX1 89 yX6_clearUnbuilt, Cond.instanceMethod yX6_clearUnbuilt, Cond.selects RX6 yX6_clearUnbuilt yX6_clearUnbuilt, Cond.code yX6_clearUnbuilt cX6_clearUnbuilt 3 (some .int), Cond.methodLink RX7 136 yX3_take, Cond.methodLink RX7 121 yX4_clear, Cond.instanceMethod yX4_clear, Cond.selects RX4 yX4_clear yX4_clear, Cond.code yX4_clear cX4_clear 2 (some .int), Cond.methodLink RX7 53 yX2_settle, Cond.instanceMethod yX2_settle, Cond.selects RX2 yX2_settle yX2_settle, Cond.code yX2_settle cX2_settle 2 (some .int), Cond.fieldLink RX2 30 "HallBuilds$History" "kept" "I", Cond.methodLink RX2 33 Lib.Math.min.name]
def wsX7_carryOut : List Cond := .code yX7_carryOut cX7_carryOut 3 (some .int) :: ((wsX7_carryOut_r1 ++ (wsX7_carryOut_r2 ++ (wsX7_carryOut_r3 ++ (wsX7_carryOut_r4 ++ (wsX7_carryOut_r5 ++ (wsX7_carryOut_r6 ++ (wsX7_carryOut_r7 ++ (wsX7_carryOut_r8 ++ (wsX7_carryOut_r9 ++ wsX7_carryOut_r10))))))))) ++ wsX70 ++ wsX30 ++ wsX40 ++ wsX20 ++ wsX10 ++ wsX60 ++ wsX00)
def wsX7_undo_r1 : List Cond := [Cond.fieldLink RX7 22 "HallBuilds" "history" "LHallBuilds$History;", Cond.fieldLink RX7 10 "HallBuilds" "hall" "LHallBuilds$Hall;", Cond.methodLink RX7 155 yX2_stepBack, Cond.instanceMethod yX2_stepBack, Cond.selects RX2 yX2_stepBack yX2_stepBack, Cond.initialized RX2, Cond.code yX2_stepBack cX2_stepBack 3 (some .int), Cond.fieldLink RX2 30 "HallBuilds$History" "kept" "I", Cond.fieldLink RX2 18 "HallBuilds$History" "next" "I", Cond.fieldLink RX2 11 "HallBuilds$History" "states" "[LHallBuilds$Hall;", Cond.methodLink RX2 22 yX2_stateAt, Cond.instanceMethod yX2_stateAt, Cond.selects RX2 yX2_stateAt yX2_stateAt, Cond.code yX2_stateAt cX2_stateAt 2 (some (.object "HallBuilds$Hall")), Cond.methodLink RX2 26 yX1_copyFrom, Cond.instanceMethod yX1_copyFrom, Cond.selects RX1 yX1_copyFrom yX1_copyFrom, Cond.initialized RX1, Cond.code yX1_copyFrom cX1_copyFrom 2 none, Cond.fieldLink RX1 18 "HallBuilds$Hall" "settings" "[I", Cond.fieldLink RX1 23 "HallBuilds$Hall" "loads" "[I", Cond.fieldLink RX1 29 "HallBuilds$Hall" "stands" "LHallBuilds$Stands;", Cond.fieldLink RX1 36 "HallBuilds$Hall" "crews" "LHallBuilds$Crews;", Cond.fieldLink RX1 51 "HallBuilds$Hall" "hour" "I"]
def wsX7_undo_r2 : List Cond := [Cond.fieldLink RX1 55 "HallBuilds$Hall" "ended" "Z", Cond.fieldLink RX1 59 "HallBuilds$Hall" "lost" "I", Cond.static yX7_copyRow, Cond.initialized RX7, Cond.code yX7_copyRow cX7_copyRow 2 none, Cond.methodLink RX7 166 Lib.Math.min.name, Cond.static Lib.Math.min.name, Cond.initialized "java/lang/Math", Cond.code Lib.Math.min.name Lib.Math.min.code 2 (some .int), Cond.methodLink RX7 171 arraycopyName, Cond.native arraycopyName, Cond.static arraycopyName, Cond.initialized "java/lang/System", Cond.methodLink RX1 44 yX6_copyFrom, Cond.instanceMethod yX6_copyFrom, Cond.selects RX6 yX6_copyFrom yX6_copyFrom, Cond.initialized RX6, Cond.code yX6_copyFrom cX6_copyFrom 2 none, Cond.fieldLink RX6 42 "HallBuilds$Stands" "count" "I", Cond.fieldLink RX6 9 "HallBuilds$Stands" "hours" "[I", Cond.fieldLink RX6 15 "HallBuilds$Stands" "length" "[I", Cond.fieldLink RX6 18 "HallBuilds$Stands" "power" "[I", Cond.fieldLink RX6 21 "HallBuilds$Stands" "base" "[I", Cond.fieldLink RX6 24 "HallBuilds$Stands" "state" "[I"]
def wsX7_undo_r3 : List Cond := [Cond.fieldLink RX6 27 "HallBuilds$Stands" "left" "[I", Cond.fieldLink RX6 30 "HallBuilds$Stands" "phase" "[I", Cond.fieldLink RX6 33 "HallBuilds$Stands" "crew" "[I", Cond.fieldLink RX6 36 "HallBuilds$Stands" "spent" "[I", Cond.fieldLink RX6 39 "HallBuilds$Stands" "leaving" "[I", Cond.methodLink RX1 48 yX0_copyFrom, Cond.instanceMethod yX0_copyFrom, Cond.selects RX0 yX0_copyFrom yX0_copyFrom, Cond.initialized RX0, Cond.code yX0_copyFrom cX0_copyFrom 2 none, Cond.fieldLink RX0 30 "HallBuilds$Crews" "count" "I", Cond.fieldLink RX0 9 "HallBuilds$Crews" "speed" "[I", Cond.fieldLink RX0 15 "HallBuilds$Crews" "rate" "[I", Cond.fieldLink RX0 18 "HallBuilds$Crews" "stand" "[I", Cond.fieldLink RX0 21 "HallBuilds$Crews" "worked" "[I", Cond.fieldLink RX0 24 "HallBuilds$Crews" "built" "[I", Cond.fieldLink RX0 27 "HallBuilds$Crews" "dismantled" "[I"]
def wsX7_undo : List Cond := .code yX7_undo cX7_undo 1 (some .int) :: ((wsX7_undo_r1 ++ (wsX7_undo_r2 ++ wsX7_undo_r3)) ++ wsX70 ++ wsX20 ++ wsX10 ++ wsX60 ++ wsX00)
def wsX7_save_r1 : List Cond := [Cond.fieldLink RX7 29 "HallBuilds" "slots" "LHallBuilds$Slots;", Cond.fieldLink RX7 10 "HallBuilds" "hall" "LHallBuilds$Hall;", Cond.methodLink RX7 159 yX5_keep, Cond.instanceMethod yX5_keep, Cond.selects RX5 yX5_keep yX5_keep, Cond.initialized RX5, Cond.code yX5_keep cX5_keep 4 (some .int), Cond.fieldLink RX5 11 "HallBuilds$Slots" "states" "[LHallBuilds$Hall;", Cond.fieldLink RX5 17 "HallBuilds$Slots" "saved" "[Z", Cond.methodLink RX5 22 yX1_copyFrom, Cond.instanceMethod yX1_copyFrom, Cond.selects RX1 yX1_copyFrom yX1_copyFrom, Cond.initialized RX1, Cond.code yX1_copyFrom cX1_copyFrom 2 none, Cond.fieldLink RX1 18 "HallBuilds$Hall" "settings" "[I", Cond.fieldLink RX1 23 "HallBuilds$Hall" "loads" "[I", Cond.fieldLink RX1 29 "HallBuilds$Hall" "stands" "LHallBuilds$Stands;", Cond.fieldLink RX1 36 "HallBuilds$Hall" "crews" "LHallBuilds$Crews;", Cond.fieldLink RX1 51 "HallBuilds$Hall" "hour" "I", Cond.fieldLink RX1 55 "HallBuilds$Hall" "ended" "Z", Cond.fieldLink RX1 59 "HallBuilds$Hall" "lost" "I", Cond.static yX7_copyRow, Cond.initialized RX7, Cond.code yX7_copyRow cX7_copyRow 2 none]
def wsX7_save_r2 : List Cond := [Cond.methodLink RX7 166 Lib.Math.min.name, Cond.static Lib.Math.min.name, Cond.initialized "java/lang/Math", Cond.code Lib.Math.min.name Lib.Math.min.code 2 (some .int), Cond.methodLink RX7 171 arraycopyName, Cond.native arraycopyName, Cond.static arraycopyName, Cond.initialized "java/lang/System", Cond.methodLink RX1 44 yX6_copyFrom, Cond.instanceMethod yX6_copyFrom, Cond.selects RX6 yX6_copyFrom yX6_copyFrom, Cond.initialized RX6, Cond.code yX6_copyFrom cX6_copyFrom 2 none, Cond.fieldLink RX6 42 "HallBuilds$Stands" "count" "I", Cond.fieldLink RX6 9 "HallBuilds$Stands" "hours" "[I", Cond.fieldLink RX6 15 "HallBuilds$Stands" "length" "[I", Cond.fieldLink RX6 18 "HallBuilds$Stands" "power" "[I", Cond.fieldLink RX6 21 "HallBuilds$Stands" "base" "[I", Cond.fieldLink RX6 24 "HallBuilds$Stands" "state" "[I", Cond.fieldLink RX6 27 "HallBuilds$Stands" "left" "[I", Cond.fieldLink RX6 30 "HallBuilds$Stands" "phase" "[I", Cond.fieldLink RX6 33 "HallBuilds$Stands" "crew" "[I", Cond.fieldLink RX6 36 "HallBuilds$Stands" "spent" "[I", Cond.fieldLink RX6 39 "HallBuilds$Stands" "leaving" "[I"]
def wsX7_save_r3 : List Cond := [Cond.methodLink RX1 48 yX0_copyFrom, Cond.instanceMethod yX0_copyFrom, Cond.selects RX0 yX0_copyFrom yX0_copyFrom, Cond.initialized RX0, Cond.code yX0_copyFrom cX0_copyFrom 2 none, Cond.fieldLink RX0 30 "HallBuilds$Crews" "count" "I", Cond.fieldLink RX0 9 "HallBuilds$Crews" "speed" "[I", Cond.fieldLink RX0 15 "HallBuilds$Crews" "rate" "[I", Cond.fieldLink RX0 18 "HallBuilds$Crews" "stand" "[I", Cond.fieldLink RX0 21 "HallBuilds$Crews" "worked" "[I", Cond.fieldLink RX0 24 "HallBuilds$Crews" "built" "[I", Cond.fieldLink RX0 27 "HallBuilds$Crews" "dismantled" "[I"]
def wsX7_save : List Cond := .code yX7_save cX7_save 2 (some .int) :: ((wsX7_save_r1 ++ (wsX7_save_r2 ++ wsX7_save_r3)) ++ wsX70 ++ wsX50 ++ wsX10 ++ wsX60 ++ wsX00)
def wsX7_restore_r1 : List Cond := [Cond.fieldLink RX7 22 "HallBuilds" "history" "LHallBuilds$History;", Cond.fieldLink RX7 10 "HallBuilds" "hall" "LHallBuilds$Hall;", Cond.fieldLink RX7 29 "HallBuilds" "slots" "LHallBuilds$Slots;", Cond.methodLink RX7 45 yX2_prepare, Cond.instanceMethod yX2_prepare, Cond.selects RX2 yX2_prepare yX2_prepare, Cond.initialized RX2, Cond.code yX2_prepare cX2_prepare 3 none, Cond.fieldLink RX2 18 "HallBuilds$History" "next" "I", Cond.methodLink RX2 22 yX2_stateAt, Cond.instanceMethod yX2_stateAt, Cond.selects RX2 yX2_stateAt yX2_stateAt, Cond.code yX2_stateAt cX2_stateAt 2 (some (.object "HallBuilds$Hall")), Cond.fieldLink RX2 11 "HallBuilds$History" "states" "[LHallBuilds$Hall;", Cond.methodLink RX2 26 yX1_copyFrom, Cond.instanceMethod yX1_copyFrom, Cond.selects RX1 yX1_copyFrom yX1_copyFrom, Cond.initialized RX1, Cond.code yX1_copyFrom cX1_copyFrom 2 none, Cond.fieldLink RX1 18 "HallBuilds$Hall" "settings" "[I", Cond.fieldLink RX1 23 "HallBuilds$Hall" "loads" "[I", Cond.fieldLink RX1 29 "HallBuilds$Hall" "stands" "LHallBuilds$Stands;", Cond.fieldLink RX1 36 "HallBuilds$Hall" "crews" "LHallBuilds$Crews;", Cond.fieldLink RX1 51 "HallBuilds$Hall" "hour" "I"]
def wsX7_restore_r2 : List Cond := [Cond.fieldLink RX1 55 "HallBuilds$Hall" "ended" "Z", Cond.fieldLink RX1 59 "HallBuilds$Hall" "lost" "I", Cond.static yX7_copyRow, Cond.initialized RX7, Cond.code yX7_copyRow cX7_copyRow 2 none, Cond.methodLink RX7 166 Lib.Math.min.name, Cond.static Lib.Math.min.name, Cond.initialized "java/lang/Math", Cond.code Lib.Math.min.name Lib.Math.min.code 2 (some .int), Cond.methodLink RX7 171 arraycopyName, Cond.native arraycopyName, Cond.static arraycopyName, Cond.initialized "java/lang/System", Cond.methodLink RX1 44 yX6_copyFrom, Cond.instanceMethod yX6_copyFrom, Cond.selects RX6 yX6_copyFrom yX6_copyFrom, Cond.initialized RX6, Cond.code yX6_copyFrom cX6_copyFrom 2 none, Cond.fieldLink RX6 42 "HallBuilds$Stands" "count" "I", Cond.fieldLink RX6 9 "HallBuilds$Stands" "hours" "[I", Cond.fieldLink RX6 15 "HallBuilds$Stands" "length" "[I", Cond.fieldLink RX6 18 "HallBuilds$Stands" "power" "[I", Cond.fieldLink RX6 21 "HallBuilds$Stands" "base" "[I", Cond.fieldLink RX6 24 "HallBuilds$Stands" "state" "[I"]
def wsX7_restore_r3 : List Cond := [Cond.fieldLink RX6 27 "HallBuilds$Stands" "left" "[I", Cond.fieldLink RX6 30 "HallBuilds$Stands" "phase" "[I", Cond.fieldLink RX6 33 "HallBuilds$Stands" "crew" "[I", Cond.fieldLink RX6 36 "HallBuilds$Stands" "spent" "[I", Cond.fieldLink RX6 39 "HallBuilds$Stands" "leaving" "[I", Cond.methodLink RX1 48 yX0_copyFrom, Cond.instanceMethod yX0_copyFrom, Cond.selects RX0 yX0_copyFrom yX0_copyFrom, Cond.initialized RX0, Cond.code yX0_copyFrom cX0_copyFrom 2 none, Cond.fieldLink RX0 30 "HallBuilds$Crews" "count" "I", Cond.fieldLink RX0 9 "HallBuilds$Crews" "speed" "[I", Cond.fieldLink RX0 15 "HallBuilds$Crews" "rate" "[I", Cond.fieldLink RX0 18 "HallBuilds$Crews" "stand" "[I", Cond.fieldLink RX0 21 "HallBuilds$Crews" "worked" "[I", Cond.fieldLink RX0 24 "HallBuilds$Crews" "built" "[I", Cond.fieldLink RX0 27 "HallBuilds$Crews" "dismantled" "[I", Cond.methodLink RX7 163 yX5_giveBack, Cond.instanceMethod yX5_giveBack, Cond.selects RX5 yX5_giveBack yX5_giveBack, Cond.initialized RX5, Cond.code yX5_giveBack cX5_giveBack 4 (some .int), Cond.fieldLink RX5 11 "HallBuilds$Slots" "states" "[LHallBuilds$Hall;", Cond.fieldLink RX5 17 "HallBuilds$Slots" "saved" "[Z"]
def wsX7_restore_r4 : List Cond := [Cond.methodLink RX5 22 yX1_copyFrom, Cond.methodLink RX7 53 yX2_settle, Cond.instanceMethod yX2_settle, Cond.selects RX2 yX2_settle yX2_settle, Cond.code yX2_settle cX2_settle 2 (some .int), Cond.fieldLink RX2 30 "HallBuilds$History" "kept" "I", Cond.methodLink RX2 33 Lib.Math.min.name]
def wsX7_restore : List Cond := .code yX7_restore cX7_restore 2 (some .int) :: ((wsX7_restore_r1 ++ (wsX7_restore_r2 ++ (wsX7_restore_r3 ++ wsX7_restore_r4))) ++ wsX70 ++ wsX20 ++ wsX10 ++ wsX60 ++ wsX00 ++ wsX50)
def wsX8_init : List Cond := .code yX8_init cX8_init 1 none :: ([.methodLink RX8 1 objectInit, .instanceMethod objectInit, .code objectInit ⟨#[0xb1]⟩ 1 none, .arrayClass .int, .fieldLink RX8 7 "HallBuildsModel" "state" "[I", .fieldLink RX8 13 "HallBuildsModel" "kept" "[I", .fieldLink RX8 16 "HallBuildsModel" "history" "[I", .fieldLink RX8 19 "HallBuildsModel" "slots" "[I", .fieldLink RX8 22 "HallBuildsModel" "isSaved" "[I", .fieldLink RX8 25 "HallBuildsModel" "pad" "[I"] ++ wsX80)
def wsX8_moves : List Cond := .code yX8_moves cX8_moves 5 none :: ([])
def wsX8_within : List Cond := .code yX8_within cX8_within 3 (some .boolean) :: ([])
def wsX8_record : List Cond := .code yX8_record cX8_record 2 none :: ([.fieldLink RX8 28 "HallBuildsModel" "recorded" "I", .fieldLink RX8 16 "HallBuildsModel" "history" "[I", .fieldLink RX8 7 "HallBuildsModel" "state" "[I", .methodLink RX8 32 yX8_moves, .static yX8_moves, .initialized RX8, .code yX8_moves cX8_moves 5 none] ++ wsX80)
def wsX8_isStand : List Cond := .code yX8_isStand cX8_isStand 2 (some .boolean) :: ([.fieldLink RX8 7 "HallBuildsModel" "state" "[I", .methodLink RX8 36 yX8_within, .static yX8_within, .initialized RX8, .code yX8_within cX8_within 3 (some .boolean)] ++ wsX80)
def wsX8_isCrew : List Cond := .code yX8_isCrew cX8_isCrew 2 (some .boolean) :: ([.fieldLink RX8 7 "HallBuildsModel" "state" "[I", .methodLink RX8 36 yX8_within, .static yX8_within, .initialized RX8, .code yX8_within cX8_within 3 (some .boolean)] ++ wsX80)
def wsX8_part : List Cond := .code yX8_part cX8_part 3 (some .int) :: ([.fieldLink RX8 7 "HallBuildsModel" "state" "[I"] ++ wsX80)
def wsX8_setPart : List Cond := .code yX8_setPart cX8_setPart 4 none :: ([.fieldLink RX8 7 "HallBuildsModel" "state" "[I"] ++ wsX80)
def wsX8_ofCrewPart : List Cond := .code yX8_ofCrewPart cX8_ofCrewPart 3 (some .int) :: ([.fieldLink RX8 7 "HallBuildsModel" "state" "[I"] ++ wsX80)
def wsX8_setCrew : List Cond := .code yX8_setCrew cX8_setCrew 4 none :: ([.fieldLink RX8 7 "HallBuildsModel" "state" "[I"] ++ wsX80)
def wsX8_isHow : List Cond := .code yX8_isHow cX8_isHow 3 (some .boolean) :: ([.methodLink RX8 40 yX8_part, .instanceMethod yX8_part, .selects RX8 yX8_part yX8_part, .initialized RX8, .code yX8_part cX8_part 3 (some .int), .fieldLink RX8 7 "HallBuildsModel" "state" "[I"] ++ wsX80)
def wsX8_withHow : List Cond := .code yX8_withHow cX8_withHow 4 (some .int) :: ([.fieldLink RX8 7 "HallBuildsModel" "state" "[I", .methodLink RX8 44 yX8_isHow, .instanceMethod yX8_isHow, .selects RX8 yX8_isHow yX8_isHow, .initialized RX8, .code yX8_isHow cX8_isHow 3 (some .boolean), .methodLink RX8 40 yX8_part, .instanceMethod yX8_part, .selects RX8 yX8_part yX8_part, .code yX8_part cX8_part 3 (some .int)] ++ wsX80)
def wsX8_standingOn : List Cond := .code yX8_standingOn cX8_standingOn 4 (some .int) :: ([.fieldLink RX8 7 "HallBuildsModel" "state" "[I", .methodLink RX8 40 yX8_part, .instanceMethod yX8_part, .selects RX8 yX8_part yX8_part, .initialized RX8, .code yX8_part cX8_part 3 (some .int), .methodLink RX8 44 yX8_isHow, .instanceMethod yX8_isHow, .selects RX8 yX8_isHow yX8_isHow, .code yX8_isHow cX8_isHow 3 (some .boolean)] ++ wsX80)
def wsX8_meters : List Cond := .code yX8_meters cX8_meters 3 (some .int) :: ([.fieldLink RX8 7 "HallBuildsModel" "state" "[I", .methodLink RX8 44 yX8_isHow, .instanceMethod yX8_isHow, .selects RX8 yX8_isHow yX8_isHow, .initialized RX8, .code yX8_isHow cX8_isHow 3 (some .boolean), .methodLink RX8 40 yX8_part, .instanceMethod yX8_part, .selects RX8 yX8_part yX8_part, .code yX8_part cX8_part 3 (some .int)] ++ wsX80)
def wsX8_loadOf : List Cond := .code yX8_loadOf cX8_loadOf 4 (some .int) :: ([.fieldLink RX8 7 "HallBuildsModel" "state" "[I", .methodLink RX8 40 yX8_part, .instanceMethod yX8_part, .selects RX8 yX8_part yX8_part, .initialized RX8, .code yX8_part cX8_part 3 (some .int)] ++ wsX80)
def wsX8_hasBase : List Cond := .code yX8_hasBase cX8_hasBase 2 (some .boolean) :: ([.methodLink RX8 40 yX8_part, .instanceMethod yX8_part, .selects RX8 yX8_part yX8_part, .initialized RX8, .code yX8_part cX8_part 3 (some .int), .fieldLink RX8 7 "HallBuildsModel" "state" "[I", .methodLink RX8 44 yX8_isHow, .instanceMethod yX8_isHow, .selects RX8 yX8_isHow yX8_isHow, .code yX8_isHow cX8_isHow 3 (some .boolean)] ++ wsX80)
def wsX8_lorries : List Cond := .code yX8_lorries cX8_lorries 3 none :: ([.fieldLink RX8 7 "HallBuildsModel" "state" "[I", .methodLink RX8 44 yX8_isHow, .instanceMethod yX8_isHow, .selects RX8 yX8_isHow yX8_isHow, .initialized RX8, .code yX8_isHow cX8_isHow 3 (some .boolean), .methodLink RX8 40 yX8_part, .instanceMethod yX8_part, .selects RX8 yX8_part yX8_part, .code yX8_part cX8_part 3 (some .int), .methodLink RX8 48 yX8_setPart, .instanceMethod yX8_setPart, .selects RX8 yX8_setPart yX8_setPart, .code yX8_setPart cX8_setPart 4 none, .methodLink RX8 52 yX8_meters, .instanceMethod yX8_meters, .selects RX8 yX8_meters yX8_meters, .code yX8_meters cX8_meters 3 (some .int)] ++ wsX80)
def wsX8_nextStand : List Cond := .code yX8_nextStand cX8_nextStand 5 (some .int) :: ([.fieldLink RX8 7 "HallBuildsModel" "state" "[I", .methodLink RX8 44 yX8_isHow, .instanceMethod yX8_isHow, .selects RX8 yX8_isHow yX8_isHow, .initialized RX8, .code yX8_isHow cX8_isHow 3 (some .boolean), .methodLink RX8 40 yX8_part, .instanceMethod yX8_part, .selects RX8 yX8_part yX8_part, .code yX8_part cX8_part 3 (some .int), .methodLink RX8 56 yX8_standingOn, .instanceMethod yX8_standingOn, .selects RX8 yX8_standingOn yX8_standingOn, .code yX8_standingOn cX8_standingOn 4 (some .int), .methodLink RX8 60 yX8_hasBase, .instanceMethod yX8_hasBase, .selects RX8 yX8_hasBase yX8_hasBase, .code yX8_hasBase cX8_hasBase 2 (some .boolean)] ++ wsX80)
def wsX8_takes : List Cond := .code yX8_takes cX8_takes 4 none :: ([.fieldLink RX8 7 "HallBuildsModel" "state" "[I", .methodLink RX8 64 yX8_setCrew, .instanceMethod yX8_setCrew, .selects RX8 yX8_setCrew yX8_setCrew, .initialized RX8, .code yX8_setCrew cX8_setCrew 4 none, .methodLink RX8 48 yX8_setPart, .instanceMethod yX8_setPart, .selects RX8 yX8_setPart yX8_setPart, .code yX8_setPart cX8_setPart 4 none, .methodLink RX8 40 yX8_part, .instanceMethod yX8_part, .selects RX8 yX8_part yX8_part, .code yX8_part cX8_part 3 (some .int)] ++ wsX80)
def wsX8_leastLoaded : List Cond := .code yX8_leastLoaded cX8_leastLoaded 3 (some .int) :: ([.methodLink RX8 67 yX8_loadOf, .instanceMethod yX8_loadOf, .selects RX8 yX8_loadOf yX8_loadOf, .initialized RX8, .code yX8_loadOf cX8_loadOf 4 (some .int), .fieldLink RX8 7 "HallBuildsModel" "state" "[I", .methodLink RX8 40 yX8_part, .instanceMethod yX8_part, .selects RX8 yX8_part yX8_part, .code yX8_part cX8_part 3 (some .int)] ++ wsX80)
def wsX8_finishes_r1 : List Cond := [Cond.fieldLink RX8 7 "HallBuildsModel" "state" "[I", Cond.methodLink RX8 64 yX8_setCrew, Cond.instanceMethod yX8_setCrew, Cond.selects RX8 yX8_setCrew yX8_setCrew, Cond.initialized RX8, Cond.code yX8_setCrew cX8_setCrew 4 none, Cond.methodLink RX8 48 yX8_setPart, Cond.instanceMethod yX8_setPart, Cond.selects RX8 yX8_setPart yX8_setPart, Cond.code yX8_setPart cX8_setPart 4 none, Cond.methodLink RX8 44 yX8_isHow, Cond.instanceMethod yX8_isHow, Cond.selects RX8 yX8_isHow yX8_isHow, Cond.code yX8_isHow cX8_isHow 3 (some .boolean), Cond.methodLink RX8 40 yX8_part, Cond.instanceMethod yX8_part, Cond.selects RX8 yX8_part yX8_part, Cond.code yX8_part cX8_part 3 (some .int), Cond.methodLink RX8 70 yX8_leastLoaded, Cond.instanceMethod yX8_leastLoaded, Cond.selects RX8 yX8_leastLoaded yX8_leastLoaded, Cond.code yX8_leastLoaded cX8_leastLoaded 3 (some .int), Cond.methodLink RX8 67 yX8_loadOf, Cond.instanceMethod yX8_loadOf]
def wsX8_finishes_r2 : List Cond := [Cond.selects RX8 yX8_loadOf yX8_loadOf, Cond.code yX8_loadOf cX8_loadOf 4 (some .int), Cond.methodLink RX8 73 yX8_ofCrewPart, Cond.instanceMethod yX8_ofCrewPart, Cond.selects RX8 yX8_ofCrewPart yX8_ofCrewPart, Cond.code yX8_ofCrewPart cX8_ofCrewPart 3 (some .int)]
def wsX8_finishes : List Cond := .code yX8_finishes cX8_finishes 4 none :: ((wsX8_finishes_r1 ++ wsX8_finishes_r2) ++ wsX80)
def wsX8_works_r1 : List Cond := [Cond.methodLink RX8 73 yX8_ofCrewPart, Cond.instanceMethod yX8_ofCrewPart, Cond.selects RX8 yX8_ofCrewPart yX8_ofCrewPart, Cond.initialized RX8, Cond.code yX8_ofCrewPart cX8_ofCrewPart 3 (some .int), Cond.fieldLink RX8 7 "HallBuildsModel" "state" "[I", Cond.methodLink RX8 40 yX8_part, Cond.instanceMethod yX8_part, Cond.selects RX8 yX8_part yX8_part, Cond.code yX8_part cX8_part 3 (some .int), Cond.methodLink RX8 48 yX8_setPart, Cond.instanceMethod yX8_setPart, Cond.selects RX8 yX8_setPart yX8_setPart, Cond.code yX8_setPart cX8_setPart 4 none, Cond.methodLink RX8 64 yX8_setCrew, Cond.instanceMethod yX8_setCrew, Cond.selects RX8 yX8_setCrew yX8_setCrew, Cond.code yX8_setCrew cX8_setCrew 4 none, Cond.methodLink RX8 76 yX8_finishes, Cond.instanceMethod yX8_finishes, Cond.selects RX8 yX8_finishes yX8_finishes, Cond.code yX8_finishes cX8_finishes 4 none, Cond.methodLink RX8 44 yX8_isHow, Cond.instanceMethod yX8_isHow]
def wsX8_works_r2 : List Cond := [Cond.selects RX8 yX8_isHow yX8_isHow, Cond.code yX8_isHow cX8_isHow 3 (some .boolean), Cond.methodLink RX8 70 yX8_leastLoaded, Cond.instanceMethod yX8_leastLoaded, Cond.selects RX8 yX8_leastLoaded yX8_leastLoaded, Cond.code yX8_leastLoaded cX8_leastLoaded 3 (some .int), Cond.methodLink RX8 67 yX8_loadOf, Cond.instanceMethod yX8_loadOf, Cond.selects RX8 yX8_loadOf yX8_loadOf, Cond.code yX8_loadOf cX8_loadOf 4 (some .int)]
def wsX8_works : List Cond := .code yX8_works cX8_works 4 (some .boolean) :: ((wsX8_works_r1 ++ wsX8_works_r2) ++ wsX80)
def wsX8_passesOne_r1 : List Cond := [Cond.fieldLink RX8 7 "HallBuildsModel" "state" "[I", Cond.methodLink RX8 80 yX8_lorries, Cond.instanceMethod yX8_lorries, Cond.selects RX8 yX8_lorries yX8_lorries, Cond.initialized RX8, Cond.code yX8_lorries cX8_lorries 3 none, Cond.methodLink RX8 44 yX8_isHow, Cond.instanceMethod yX8_isHow, Cond.selects RX8 yX8_isHow yX8_isHow, Cond.code yX8_isHow cX8_isHow 3 (some .boolean), Cond.methodLink RX8 40 yX8_part, Cond.instanceMethod yX8_part, Cond.selects RX8 yX8_part yX8_part, Cond.code yX8_part cX8_part 3 (some .int), Cond.methodLink RX8 48 yX8_setPart, Cond.instanceMethod yX8_setPart, Cond.selects RX8 yX8_setPart yX8_setPart, Cond.code yX8_setPart cX8_setPart 4 none, Cond.methodLink RX8 52 yX8_meters, Cond.instanceMethod yX8_meters, Cond.selects RX8 yX8_meters yX8_meters, Cond.code yX8_meters cX8_meters 3 (some .int), Cond.methodLink RX8 73 yX8_ofCrewPart, Cond.instanceMethod yX8_ofCrewPart]
def wsX8_passesOne_r2 : List Cond := [Cond.selects RX8 yX8_ofCrewPart yX8_ofCrewPart, Cond.code yX8_ofCrewPart cX8_ofCrewPart 3 (some .int), Cond.methodLink RX8 83 yX8_nextStand, Cond.instanceMethod yX8_nextStand, Cond.selects RX8 yX8_nextStand yX8_nextStand, Cond.code yX8_nextStand cX8_nextStand 5 (some .int), Cond.methodLink RX8 56 yX8_standingOn, Cond.instanceMethod yX8_standingOn, Cond.selects RX8 yX8_standingOn yX8_standingOn, Cond.code yX8_standingOn cX8_standingOn 4 (some .int), Cond.methodLink RX8 60 yX8_hasBase, Cond.instanceMethod yX8_hasBase, Cond.selects RX8 yX8_hasBase yX8_hasBase, Cond.code yX8_hasBase cX8_hasBase 2 (some .boolean), Cond.methodLink RX8 86 yX8_takes, Cond.instanceMethod yX8_takes, Cond.selects RX8 yX8_takes yX8_takes, Cond.code yX8_takes cX8_takes 4 none, Cond.methodLink RX8 64 yX8_setCrew, Cond.instanceMethod yX8_setCrew, Cond.selects RX8 yX8_setCrew yX8_setCrew, Cond.code yX8_setCrew cX8_setCrew 4 none, Cond.methodLink RX8 89 yX8_works, Cond.instanceMethod yX8_works]
def wsX8_passesOne_r3 : List Cond := [Cond.selects RX8 yX8_works yX8_works, Cond.code yX8_works cX8_works 4 (some .boolean), Cond.methodLink RX8 76 yX8_finishes, Cond.instanceMethod yX8_finishes, Cond.selects RX8 yX8_finishes yX8_finishes, Cond.code yX8_finishes cX8_finishes 4 none, Cond.methodLink RX8 70 yX8_leastLoaded, Cond.instanceMethod yX8_leastLoaded, Cond.selects RX8 yX8_leastLoaded yX8_leastLoaded, Cond.code yX8_leastLoaded cX8_leastLoaded 3 (some .int), Cond.methodLink RX8 67 yX8_loadOf, Cond.instanceMethod yX8_loadOf, Cond.selects RX8 yX8_loadOf yX8_loadOf, Cond.code yX8_loadOf cX8_loadOf 4 (some .int)]
def wsX8_passesOne : List Cond := .code yX8_passesOne cX8_passesOne 4 (some .int) :: ((wsX8_passesOne_r1 ++ (wsX8_passesOne_r2 ++ wsX8_passesOne_r3)) ++ wsX80)
def wsX8_passes_r1 : List Cond := [Cond.methodLink RX8 92 yX8_passesOne, Cond.instanceMethod yX8_passesOne, Cond.selects RX8 yX8_passesOne yX8_passesOne, Cond.initialized RX8, Cond.code yX8_passesOne cX8_passesOne 4 (some .int), Cond.fieldLink RX8 7 "HallBuildsModel" "state" "[I", Cond.methodLink RX8 80 yX8_lorries, Cond.instanceMethod yX8_lorries, Cond.selects RX8 yX8_lorries yX8_lorries, Cond.code yX8_lorries cX8_lorries 3 none, Cond.methodLink RX8 44 yX8_isHow, Cond.instanceMethod yX8_isHow, Cond.selects RX8 yX8_isHow yX8_isHow, Cond.code yX8_isHow cX8_isHow 3 (some .boolean), Cond.methodLink RX8 40 yX8_part, Cond.instanceMethod yX8_part, Cond.selects RX8 yX8_part yX8_part, Cond.code yX8_part cX8_part 3 (some .int), Cond.methodLink RX8 48 yX8_setPart, Cond.instanceMethod yX8_setPart, Cond.selects RX8 yX8_setPart yX8_setPart, Cond.code yX8_setPart cX8_setPart 4 none, Cond.methodLink RX8 52 yX8_meters, Cond.instanceMethod yX8_meters]
def wsX8_passes_r2 : List Cond := [Cond.selects RX8 yX8_meters yX8_meters, Cond.code yX8_meters cX8_meters 3 (some .int), Cond.methodLink RX8 73 yX8_ofCrewPart, Cond.instanceMethod yX8_ofCrewPart, Cond.selects RX8 yX8_ofCrewPart yX8_ofCrewPart, Cond.code yX8_ofCrewPart cX8_ofCrewPart 3 (some .int), Cond.methodLink RX8 83 yX8_nextStand, Cond.instanceMethod yX8_nextStand, Cond.selects RX8 yX8_nextStand yX8_nextStand, Cond.code yX8_nextStand cX8_nextStand 5 (some .int), Cond.methodLink RX8 56 yX8_standingOn, Cond.instanceMethod yX8_standingOn, Cond.selects RX8 yX8_standingOn yX8_standingOn, Cond.code yX8_standingOn cX8_standingOn 4 (some .int), Cond.methodLink RX8 60 yX8_hasBase, Cond.instanceMethod yX8_hasBase, Cond.selects RX8 yX8_hasBase yX8_hasBase, Cond.code yX8_hasBase cX8_hasBase 2 (some .boolean), Cond.methodLink RX8 86 yX8_takes, Cond.instanceMethod yX8_takes, Cond.selects RX8 yX8_takes yX8_takes, Cond.code yX8_takes cX8_takes 4 none, Cond.methodLink RX8 64 yX8_setCrew, Cond.instanceMethod yX8_setCrew]
def wsX8_passes_r3 : List Cond := [Cond.selects RX8 yX8_setCrew yX8_setCrew, Cond.code yX8_setCrew cX8_setCrew 4 none, Cond.methodLink RX8 89 yX8_works, Cond.instanceMethod yX8_works, Cond.selects RX8 yX8_works yX8_works, Cond.code yX8_works cX8_works 4 (some .boolean), Cond.methodLink RX8 76 yX8_finishes, Cond.instanceMethod yX8_finishes, Cond.selects RX8 yX8_finishes yX8_finishes, Cond.code yX8_finishes cX8_finishes 4 none, Cond.methodLink RX8 70 yX8_leastLoaded, Cond.instanceMethod yX8_leastLoaded, Cond.selects RX8 yX8_leastLoaded yX8_leastLoaded, Cond.code yX8_leastLoaded cX8_leastLoaded 3 (some .int), Cond.methodLink RX8 67 yX8_loadOf, Cond.instanceMethod yX8_loadOf, Cond.selects RX8 yX8_loadOf yX8_loadOf, Cond.code yX8_loadOf cX8_loadOf 4 (some .int)]
def wsX8_passes : List Cond := .code yX8_passes cX8_passes 4 (some .int) :: ((wsX8_passes_r1 ++ (wsX8_passes_r2 ++ wsX8_passes_r3)) ++ wsX80)
def wsX8_isValue : List Cond := .code yX8_isValue cX8_isValue 2 (some .boolean) :: ([.methodLink RX8 36 yX8_within, .static yX8_within, .initialized RX8, .code yX8_within cX8_within 3 (some .boolean)])
def wsX8_set : List Cond := .code yX8_set cX8_set 4 (some .int) :: ([.fieldLink RX8 7 "HallBuildsModel" "state" "[I", .methodLink RX8 95 yX8_isValue, .static yX8_isValue, .initialized RX8, .code yX8_isValue cX8_isValue 2 (some .boolean), .methodLink RX8 36 yX8_within, .static yX8_within, .code yX8_within cX8_within 3 (some .boolean), .methodLink RX8 98 yX8_record, .instanceMethod yX8_record, .selects RX8 yX8_record yX8_record, .code yX8_record cX8_record 2 none, .fieldLink RX8 28 "HallBuildsModel" "recorded" "I", .fieldLink RX8 16 "HallBuildsModel" "history" "[I", .methodLink RX8 32 yX8_moves, .static yX8_moves, .code yX8_moves cX8_moves 5 none] ++ wsX80)
def wsX8_whyNoStand : List Cond := .code yX8_whyNoStand cX8_whyNoStand 5 (some .int) :: ([.fieldLink RX8 7 "HallBuildsModel" "state" "[I", .methodLink RX8 36 yX8_within, .static yX8_within, .initialized RX8, .code yX8_within cX8_within 3 (some .boolean), .methodLink RX8 101 yX8_isStand, .instanceMethod yX8_isStand, .selects RX8 yX8_isStand yX8_isStand, .code yX8_isStand cX8_isStand 2 (some .boolean), .methodLink RX8 44 yX8_isHow, .instanceMethod yX8_isHow, .selects RX8 yX8_isHow yX8_isHow, .code yX8_isHow cX8_isHow 3 (some .boolean), .methodLink RX8 40 yX8_part, .instanceMethod yX8_part, .selects RX8 yX8_part yX8_part, .code yX8_part cX8_part 3 (some .int)] ++ wsX80)
def wsX8_comes : List Cond := .code yX8_comes cX8_comes 6 (some .int) :: ([.fieldLink RX8 7 "HallBuildsModel" "state" "[I", .methodLink RX8 48 yX8_setPart, .instanceMethod yX8_setPart, .selects RX8 yX8_setPart yX8_setPart, .initialized RX8, .code yX8_setPart cX8_setPart 4 none] ++ wsX80)
def wsX8_stand_r1 : List Cond := [Cond.methodLink RX8 104 yX8_whyNoStand, Cond.instanceMethod yX8_whyNoStand, Cond.selects RX8 yX8_whyNoStand yX8_whyNoStand, Cond.initialized RX8, Cond.code yX8_whyNoStand cX8_whyNoStand 5 (some .int), Cond.fieldLink RX8 7 "HallBuildsModel" "state" "[I", Cond.methodLink RX8 36 yX8_within, Cond.static yX8_within, Cond.code yX8_within cX8_within 3 (some .boolean), Cond.methodLink RX8 101 yX8_isStand, Cond.instanceMethod yX8_isStand, Cond.selects RX8 yX8_isStand yX8_isStand, Cond.code yX8_isStand cX8_isStand 2 (some .boolean), Cond.methodLink RX8 44 yX8_isHow, Cond.instanceMethod yX8_isHow, Cond.selects RX8 yX8_isHow yX8_isHow, Cond.code yX8_isHow cX8_isHow 3 (some .boolean), Cond.methodLink RX8 40 yX8_part, Cond.instanceMethod yX8_part, Cond.selects RX8 yX8_part yX8_part, Cond.code yX8_part cX8_part 3 (some .int), Cond.methodLink RX8 98 yX8_record, Cond.instanceMethod yX8_record, Cond.selects RX8 yX8_record yX8_record]
def wsX8_stand_r2 : List Cond := [Cond.code yX8_record cX8_record 2 none, Cond.fieldLink RX8 28 "HallBuildsModel" "recorded" "I", Cond.fieldLink RX8 16 "HallBuildsModel" "history" "[I", Cond.methodLink RX8 32 yX8_moves, Cond.static yX8_moves, Cond.code yX8_moves cX8_moves 5 none, Cond.methodLink RX8 108 yX8_comes, Cond.instanceMethod yX8_comes, Cond.selects RX8 yX8_comes yX8_comes, Cond.code yX8_comes cX8_comes 6 (some .int), Cond.methodLink RX8 48 yX8_setPart, Cond.instanceMethod yX8_setPart, Cond.selects RX8 yX8_setPart yX8_setPart, Cond.code yX8_setPart cX8_setPart 4 none]
def wsX8_stand : List Cond := .code yX8_stand cX8_stand 6 (some .int) :: ((wsX8_stand_r1 ++ wsX8_stand_r2) ++ wsX80)
def wsX8_whyNoCrew : List Cond := .code yX8_whyNoCrew cX8_whyNoCrew 3 (some .int) :: ([.fieldLink RX8 7 "HallBuildsModel" "state" "[I", .methodLink RX8 36 yX8_within, .static yX8_within, .initialized RX8, .code yX8_within cX8_within 3 (some .boolean)] ++ wsX80)
def wsX8_comesCrew : List Cond := .code yX8_comesCrew cX8_comesCrew 5 (some .int) :: ([.fieldLink RX8 7 "HallBuildsModel" "state" "[I", .methodLink RX8 64 yX8_setCrew, .instanceMethod yX8_setCrew, .selects RX8 yX8_setCrew yX8_setCrew, .initialized RX8, .code yX8_setCrew cX8_setCrew 4 none] ++ wsX80)
def wsX8_crew_r1 : List Cond := [Cond.methodLink RX8 111 yX8_whyNoCrew, Cond.instanceMethod yX8_whyNoCrew, Cond.selects RX8 yX8_whyNoCrew yX8_whyNoCrew, Cond.initialized RX8, Cond.code yX8_whyNoCrew cX8_whyNoCrew 3 (some .int), Cond.fieldLink RX8 7 "HallBuildsModel" "state" "[I", Cond.methodLink RX8 36 yX8_within, Cond.static yX8_within, Cond.code yX8_within cX8_within 3 (some .boolean), Cond.methodLink RX8 98 yX8_record, Cond.instanceMethod yX8_record, Cond.selects RX8 yX8_record yX8_record, Cond.code yX8_record cX8_record 2 none, Cond.fieldLink RX8 28 "HallBuildsModel" "recorded" "I", Cond.fieldLink RX8 16 "HallBuildsModel" "history" "[I", Cond.methodLink RX8 32 yX8_moves, Cond.static yX8_moves, Cond.code yX8_moves cX8_moves 5 none, Cond.methodLink RX8 114 yX8_comesCrew, Cond.instanceMethod yX8_comesCrew, Cond.selects RX8 yX8_comesCrew yX8_comesCrew, Cond.code yX8_comesCrew cX8_comesCrew 5 (some .int), Cond.methodLink RX8 64 yX8_setCrew, Cond.instanceMethod yX8_setCrew]
def wsX8_crew_r2 : List Cond := [Cond.selects RX8 yX8_setCrew yX8_setCrew, Cond.code yX8_setCrew cX8_setCrew 4 none]
def wsX8_crew : List Cond := .code yX8_crew cX8_crew 4 (some .int) :: ((wsX8_crew_r1 ++ wsX8_crew_r2) ++ wsX80)
def wsX8_ends : List Cond := .code yX8_ends cX8_ends 3 (some .int) :: ([.fieldLink RX8 7 "HallBuildsModel" "state" "[I", .methodLink RX8 40 yX8_part, .instanceMethod yX8_part, .selects RX8 yX8_part yX8_part, .initialized RX8, .code yX8_part cX8_part 3 (some .int), .methodLink RX8 64 yX8_setCrew, .instanceMethod yX8_setCrew, .selects RX8 yX8_setCrew yX8_setCrew, .code yX8_setCrew cX8_setCrew 4 none, .methodLink RX8 48 yX8_setPart, .instanceMethod yX8_setPart, .selects RX8 yX8_setPart yX8_setPart, .code yX8_setPart cX8_setPart 4 none] ++ wsX80)
def wsX8_end_r1 : List Cond := [Cond.fieldLink RX8 7 "HallBuildsModel" "state" "[I", Cond.methodLink RX8 98 yX8_record, Cond.instanceMethod yX8_record, Cond.selects RX8 yX8_record yX8_record, Cond.initialized RX8, Cond.code yX8_record cX8_record 2 none, Cond.fieldLink RX8 28 "HallBuildsModel" "recorded" "I", Cond.fieldLink RX8 16 "HallBuildsModel" "history" "[I", Cond.methodLink RX8 32 yX8_moves, Cond.static yX8_moves, Cond.code yX8_moves cX8_moves 5 none, Cond.methodLink RX8 117 yX8_ends, Cond.instanceMethod yX8_ends, Cond.selects RX8 yX8_ends yX8_ends, Cond.code yX8_ends cX8_ends 3 (some .int), Cond.methodLink RX8 40 yX8_part, Cond.instanceMethod yX8_part, Cond.selects RX8 yX8_part yX8_part, Cond.code yX8_part cX8_part 3 (some .int), Cond.methodLink RX8 64 yX8_setCrew, Cond.instanceMethod yX8_setCrew, Cond.selects RX8 yX8_setCrew yX8_setCrew, Cond.code yX8_setCrew cX8_setCrew 4 none, Cond.methodLink RX8 48 yX8_setPart]
def wsX8_end_r2 : List Cond := [Cond.instanceMethod yX8_setPart, Cond.selects RX8 yX8_setPart yX8_setPart, Cond.code yX8_setPart cX8_setPart 4 none]
def wsX8_end : List Cond := .code yX8_end cX8_end 1 (some .int) :: ((wsX8_end_r1 ++ wsX8_end_r2) ++ wsX80)
def wsX8_find : List Cond := .code yX8_find cX8_find 1 (some .int) :: ([.fieldLink RX8 7 "HallBuildsModel" "state" "[I", .methodLink RX8 98 yX8_record, .instanceMethod yX8_record, .selects RX8 yX8_record yX8_record, .initialized RX8, .code yX8_record cX8_record 2 none, .fieldLink RX8 28 "HallBuildsModel" "recorded" "I", .fieldLink RX8 16 "HallBuildsModel" "history" "[I", .methodLink RX8 32 yX8_moves, .static yX8_moves, .code yX8_moves cX8_moves 5 none] ++ wsX80)
def wsX8_whyNotPassed : List Cond := .code yX8_whyNotPassed cX8_whyNotPassed 2 (some .int) :: ([.fieldLink RX8 7 "HallBuildsModel" "state" "[I", .methodLink RX8 36 yX8_within, .static yX8_within, .initialized RX8, .code yX8_within cX8_within 3 (some .boolean)] ++ wsX80)
def wsX8_pass_r1 : List Cond := [Cond.methodLink RX8 120 yX8_whyNotPassed, Cond.instanceMethod yX8_whyNotPassed, Cond.selects RX8 yX8_whyNotPassed yX8_whyNotPassed, Cond.initialized RX8, Cond.code yX8_whyNotPassed cX8_whyNotPassed 2 (some .int), Cond.fieldLink RX8 7 "HallBuildsModel" "state" "[I", Cond.methodLink RX8 36 yX8_within, Cond.static yX8_within, Cond.code yX8_within cX8_within 3 (some .boolean), Cond.methodLink RX8 98 yX8_record, Cond.instanceMethod yX8_record, Cond.selects RX8 yX8_record yX8_record, Cond.code yX8_record cX8_record 2 none, Cond.fieldLink RX8 28 "HallBuildsModel" "recorded" "I", Cond.fieldLink RX8 16 "HallBuildsModel" "history" "[I", Cond.methodLink RX8 32 yX8_moves, Cond.static yX8_moves, Cond.code yX8_moves cX8_moves 5 none, Cond.methodLink RX8 123 yX8_passes, Cond.instanceMethod yX8_passes, Cond.selects RX8 yX8_passes yX8_passes, Cond.code yX8_passes cX8_passes 4 (some .int), Cond.methodLink RX8 92 yX8_passesOne, Cond.instanceMethod yX8_passesOne]
def wsX8_pass_r2 : List Cond := [Cond.selects RX8 yX8_passesOne yX8_passesOne, Cond.code yX8_passesOne cX8_passesOne 4 (some .int), Cond.methodLink RX8 80 yX8_lorries, Cond.instanceMethod yX8_lorries, Cond.selects RX8 yX8_lorries yX8_lorries, Cond.code yX8_lorries cX8_lorries 3 none, Cond.methodLink RX8 44 yX8_isHow, Cond.instanceMethod yX8_isHow, Cond.selects RX8 yX8_isHow yX8_isHow, Cond.code yX8_isHow cX8_isHow 3 (some .boolean), Cond.methodLink RX8 40 yX8_part, Cond.instanceMethod yX8_part, Cond.selects RX8 yX8_part yX8_part, Cond.code yX8_part cX8_part 3 (some .int), Cond.methodLink RX8 48 yX8_setPart, Cond.instanceMethod yX8_setPart, Cond.selects RX8 yX8_setPart yX8_setPart, Cond.code yX8_setPart cX8_setPart 4 none, Cond.methodLink RX8 52 yX8_meters, Cond.instanceMethod yX8_meters, Cond.selects RX8 yX8_meters yX8_meters, Cond.code yX8_meters cX8_meters 3 (some .int), Cond.methodLink RX8 73 yX8_ofCrewPart, Cond.instanceMethod yX8_ofCrewPart]
def wsX8_pass_r3 : List Cond := [Cond.selects RX8 yX8_ofCrewPart yX8_ofCrewPart, Cond.code yX8_ofCrewPart cX8_ofCrewPart 3 (some .int), Cond.methodLink RX8 83 yX8_nextStand, Cond.instanceMethod yX8_nextStand, Cond.selects RX8 yX8_nextStand yX8_nextStand, Cond.code yX8_nextStand cX8_nextStand 5 (some .int), Cond.methodLink RX8 56 yX8_standingOn, Cond.instanceMethod yX8_standingOn, Cond.selects RX8 yX8_standingOn yX8_standingOn, Cond.code yX8_standingOn cX8_standingOn 4 (some .int), Cond.methodLink RX8 60 yX8_hasBase, Cond.instanceMethod yX8_hasBase, Cond.selects RX8 yX8_hasBase yX8_hasBase, Cond.code yX8_hasBase cX8_hasBase 2 (some .boolean), Cond.methodLink RX8 86 yX8_takes, Cond.instanceMethod yX8_takes, Cond.selects RX8 yX8_takes yX8_takes, Cond.code yX8_takes cX8_takes 4 none, Cond.methodLink RX8 64 yX8_setCrew, Cond.instanceMethod yX8_setCrew, Cond.selects RX8 yX8_setCrew yX8_setCrew, Cond.code yX8_setCrew cX8_setCrew 4 none, Cond.methodLink RX8 89 yX8_works, Cond.instanceMethod yX8_works]
def wsX8_pass_r4 : List Cond := [Cond.selects RX8 yX8_works yX8_works, Cond.code yX8_works cX8_works 4 (some .boolean), Cond.methodLink RX8 76 yX8_finishes, Cond.instanceMethod yX8_finishes, Cond.selects RX8 yX8_finishes yX8_finishes, Cond.code yX8_finishes cX8_finishes 4 none, Cond.methodLink RX8 70 yX8_leastLoaded, Cond.instanceMethod yX8_leastLoaded, Cond.selects RX8 yX8_leastLoaded yX8_leastLoaded, Cond.code yX8_leastLoaded cX8_leastLoaded 3 (some .int), Cond.methodLink RX8 67 yX8_loadOf, Cond.instanceMethod yX8_loadOf, Cond.selects RX8 yX8_loadOf yX8_loadOf, Cond.code yX8_loadOf cX8_loadOf 4 (some .int)]
def wsX8_pass : List Cond := .code yX8_pass cX8_pass 3 (some .int) :: ((wsX8_pass_r1 ++ (wsX8_pass_r2 ++ (wsX8_pass_r3 ++ wsX8_pass_r4))) ++ wsX80)
def wsX8_leftOf : List Cond := .code yX8_leftOf cX8_leftOf 2 (some .int) :: ([.methodLink RX8 44 yX8_isHow, .instanceMethod yX8_isHow, .selects RX8 yX8_isHow yX8_isHow, .initialized RX8, .code yX8_isHow cX8_isHow 3 (some .boolean), .methodLink RX8 40 yX8_part, .instanceMethod yX8_part, .selects RX8 yX8_part yX8_part, .code yX8_part cX8_part 3 (some .int), .fieldLink RX8 7 "HallBuildsModel" "state" "[I"] ++ wsX80)
def wsX8_ofStand_r1 : List Cond := [Cond.methodLink RX8 101 yX8_isStand, Cond.instanceMethod yX8_isStand, Cond.selects RX8 yX8_isStand yX8_isStand, Cond.initialized RX8, Cond.code yX8_isStand cX8_isStand 2 (some .boolean), Cond.fieldLink RX8 7 "HallBuildsModel" "state" "[I", Cond.methodLink RX8 36 yX8_within, Cond.static yX8_within, Cond.code yX8_within cX8_within 3 (some .boolean), Cond.methodLink RX8 40 yX8_part, Cond.instanceMethod yX8_part, Cond.selects RX8 yX8_part yX8_part, Cond.code yX8_part cX8_part 3 (some .int), Cond.methodLink RX8 126 yX8_leftOf, Cond.instanceMethod yX8_leftOf, Cond.selects RX8 yX8_leftOf yX8_leftOf, Cond.code yX8_leftOf cX8_leftOf 2 (some .int), Cond.methodLink RX8 44 yX8_isHow, Cond.instanceMethod yX8_isHow, Cond.selects RX8 yX8_isHow yX8_isHow, Cond.code yX8_isHow cX8_isHow 3 (some .boolean), Cond.methodLink RX8 56 yX8_standingOn, Cond.instanceMethod yX8_standingOn, Cond.selects RX8 yX8_standingOn yX8_standingOn]
def wsX8_ofStand_r2 : List Cond := [Cond.code yX8_standingOn cX8_standingOn 4 (some .int)]
def wsX8_ofStand : List Cond := .code yX8_ofStand cX8_ofStand 3 (some .int) :: ((wsX8_ofStand_r1 ++ wsX8_ofStand_r2) ++ wsX80)
def wsX8_ofCrew : List Cond := .code yX8_ofCrew cX8_ofCrew 3 (some .int) :: ([.methodLink RX8 129 yX8_isCrew, .instanceMethod yX8_isCrew, .selects RX8 yX8_isCrew yX8_isCrew, .initialized RX8, .code yX8_isCrew cX8_isCrew 2 (some .boolean), .fieldLink RX8 7 "HallBuildsModel" "state" "[I", .methodLink RX8 36 yX8_within, .static yX8_within, .code yX8_within cX8_within 3 (some .boolean), .methodLink RX8 73 yX8_ofCrewPart, .instanceMethod yX8_ofCrewPart, .selects RX8 yX8_ofCrewPart yX8_ofCrewPart, .code yX8_ofCrewPart cX8_ofCrewPart 3 (some .int)] ++ wsX80)
def wsX8_load : List Cond := .code yX8_load cX8_load 2 (some .int) :: ([.methodLink RX8 36 yX8_within, .static yX8_within, .initialized RX8, .code yX8_within cX8_within 3 (some .boolean), .methodLink RX8 67 yX8_loadOf, .instanceMethod yX8_loadOf, .selects RX8 yX8_loadOf yX8_loadOf, .code yX8_loadOf cX8_loadOf 4 (some .int), .fieldLink RX8 7 "HallBuildsModel" "state" "[I", .methodLink RX8 40 yX8_part, .instanceMethod yX8_part, .selects RX8 yX8_part yX8_part, .code yX8_part cX8_part 3 (some .int)] ++ wsX80)
def wsX8_allCosts : List Cond := .code yX8_allCosts cX8_allCosts 3 (some .int) :: ([.fieldLink RX8 7 "HallBuildsModel" "state" "[I", .methodLink RX8 73 yX8_ofCrewPart, .instanceMethod yX8_ofCrewPart, .selects RX8 yX8_ofCrewPart yX8_ofCrewPart, .initialized RX8, .code yX8_ofCrewPart cX8_ofCrewPart 3 (some .int)] ++ wsX80)
def wsX8_withoutPower : List Cond := .code yX8_withoutPower cX8_withoutPower 3 (some .int) :: ([.fieldLink RX8 7 "HallBuildsModel" "state" "[I", .methodLink RX8 44 yX8_isHow, .instanceMethod yX8_isHow, .selects RX8 yX8_isHow yX8_isHow, .initialized RX8, .code yX8_isHow cX8_isHow 3 (some .boolean), .methodLink RX8 40 yX8_part, .instanceMethod yX8_part, .selects RX8 yX8_part yX8_part, .code yX8_part cX8_part 3 (some .int)] ++ wsX80)
def wsX8_count_r1 : List Cond := [Cond.fieldLink RX8 7 "HallBuildsModel" "state" "[I", Cond.fieldLink RX8 141 "HallBuildsModel" "padLength" "I", Cond.fieldLink RX8 28 "HallBuildsModel" "recorded" "I", Cond.methodLink RX8 132 yX8_withHow, Cond.instanceMethod yX8_withHow, Cond.selects RX8 yX8_withHow yX8_withHow, Cond.initialized RX8, Cond.code yX8_withHow cX8_withHow 4 (some .int), Cond.methodLink RX8 44 yX8_isHow, Cond.instanceMethod yX8_isHow, Cond.selects RX8 yX8_isHow yX8_isHow, Cond.code yX8_isHow cX8_isHow 3 (some .boolean), Cond.methodLink RX8 40 yX8_part, Cond.instanceMethod yX8_part, Cond.selects RX8 yX8_part yX8_part, Cond.code yX8_part cX8_part 3 (some .int), Cond.methodLink RX8 52 yX8_meters, Cond.instanceMethod yX8_meters, Cond.selects RX8 yX8_meters yX8_meters, Cond.code yX8_meters cX8_meters 3 (some .int), Cond.methodLink RX8 135 yX8_allCosts, Cond.instanceMethod yX8_allCosts, Cond.selects RX8 yX8_allCosts yX8_allCosts, Cond.code yX8_allCosts cX8_allCosts 3 (some .int)]
def wsX8_count_r2 : List Cond := [Cond.methodLink RX8 73 yX8_ofCrewPart, Cond.instanceMethod yX8_ofCrewPart, Cond.selects RX8 yX8_ofCrewPart yX8_ofCrewPart, Cond.code yX8_ofCrewPart cX8_ofCrewPart 3 (some .int), Cond.methodLink RX8 138 yX8_withoutPower, Cond.instanceMethod yX8_withoutPower, Cond.selects RX8 yX8_withoutPower yX8_withoutPower, Cond.code yX8_withoutPower cX8_withoutPower 3 (some .int)]
def wsX8_count : List Cond := .code yX8_count cX8_count 2 (some .int) :: ((wsX8_count_r1 ++ wsX8_count_r2) ++ wsX80)
def wsX8_waitsFor_r1 : List Cond := [Cond.fieldLink RX8 7 "HallBuildsModel" "state" "[I", Cond.methodLink RX8 101 yX8_isStand, Cond.instanceMethod yX8_isStand, Cond.selects RX8 yX8_isStand yX8_isStand, Cond.initialized RX8, Cond.code yX8_isStand cX8_isStand 2 (some .boolean), Cond.methodLink RX8 36 yX8_within, Cond.static yX8_within, Cond.code yX8_within cX8_within 3 (some .boolean), Cond.methodLink RX8 40 yX8_part, Cond.instanceMethod yX8_part, Cond.selects RX8 yX8_part yX8_part, Cond.code yX8_part cX8_part 3 (some .int), Cond.methodLink RX8 60 yX8_hasBase, Cond.instanceMethod yX8_hasBase, Cond.selects RX8 yX8_hasBase yX8_hasBase, Cond.code yX8_hasBase cX8_hasBase 2 (some .boolean), Cond.methodLink RX8 44 yX8_isHow, Cond.instanceMethod yX8_isHow, Cond.selects RX8 yX8_isHow yX8_isHow, Cond.code yX8_isHow cX8_isHow 3 (some .boolean), Cond.methodLink RX8 56 yX8_standingOn, Cond.instanceMethod yX8_standingOn, Cond.selects RX8 yX8_standingOn yX8_standingOn]
def wsX8_waitsFor_r2 : List Cond := [Cond.code yX8_standingOn cX8_standingOn 4 (some .int)]
def wsX8_waitsFor : List Cond := .code yX8_waitsFor cX8_waitsFor 2 (some .int) :: ((wsX8_waitsFor_r1 ++ wsX8_waitsFor_r2) ++ wsX80)
def wsX8_isAllDone : List Cond := .code yX8_isAllDone cX8_isAllDone 1 (some .boolean) :: ([.fieldLink RX8 7 "HallBuildsModel" "state" "[I", .methodLink RX8 132 yX8_withHow, .instanceMethod yX8_withHow, .selects RX8 yX8_withHow yX8_withHow, .initialized RX8, .code yX8_withHow cX8_withHow 4 (some .int), .methodLink RX8 44 yX8_isHow, .instanceMethod yX8_isHow, .selects RX8 yX8_isHow yX8_isHow, .code yX8_isHow cX8_isHow 3 (some .boolean), .methodLink RX8 40 yX8_part, .instanceMethod yX8_part, .selects RX8 yX8_part yX8_part, .code yX8_part cX8_part 3 (some .int)] ++ wsX80)
def wsX8_goesOn_r1 : List Cond := [Cond.fieldLink RX8 13 "HallBuildsModel" "kept" "[I", Cond.fieldLink RX8 7 "HallBuildsModel" "state" "[I", Cond.methodLink RX8 144 yX8_isAllDone, Cond.instanceMethod yX8_isAllDone, Cond.selects RX8 yX8_isAllDone yX8_isAllDone, Cond.initialized RX8, Cond.code yX8_isAllDone cX8_isAllDone 1 (some .boolean), Cond.methodLink RX8 132 yX8_withHow, Cond.instanceMethod yX8_withHow, Cond.selects RX8 yX8_withHow yX8_withHow, Cond.code yX8_withHow cX8_withHow 4 (some .int), Cond.methodLink RX8 44 yX8_isHow, Cond.instanceMethod yX8_isHow, Cond.selects RX8 yX8_isHow yX8_isHow, Cond.code yX8_isHow cX8_isHow 3 (some .boolean), Cond.methodLink RX8 40 yX8_part, Cond.instanceMethod yX8_part, Cond.selects RX8 yX8_part yX8_part, Cond.code yX8_part cX8_part 3 (some .int), Cond.methodLink RX8 92 yX8_passesOne, Cond.instanceMethod yX8_passesOne, Cond.selects RX8 yX8_passesOne yX8_passesOne, Cond.code yX8_passesOne cX8_passesOne 4 (some .int), Cond.methodLink RX8 80 yX8_lorries]
def wsX8_goesOn_r2 : List Cond := [Cond.instanceMethod yX8_lorries, Cond.selects RX8 yX8_lorries yX8_lorries, Cond.code yX8_lorries cX8_lorries 3 none, Cond.methodLink RX8 48 yX8_setPart, Cond.instanceMethod yX8_setPart, Cond.selects RX8 yX8_setPart yX8_setPart, Cond.code yX8_setPart cX8_setPart 4 none, Cond.methodLink RX8 52 yX8_meters, Cond.instanceMethod yX8_meters, Cond.selects RX8 yX8_meters yX8_meters, Cond.code yX8_meters cX8_meters 3 (some .int), Cond.methodLink RX8 73 yX8_ofCrewPart, Cond.instanceMethod yX8_ofCrewPart, Cond.selects RX8 yX8_ofCrewPart yX8_ofCrewPart, Cond.code yX8_ofCrewPart cX8_ofCrewPart 3 (some .int), Cond.methodLink RX8 83 yX8_nextStand, Cond.instanceMethod yX8_nextStand, Cond.selects RX8 yX8_nextStand yX8_nextStand, Cond.code yX8_nextStand cX8_nextStand 5 (some .int), Cond.methodLink RX8 56 yX8_standingOn, Cond.instanceMethod yX8_standingOn, Cond.selects RX8 yX8_standingOn yX8_standingOn, Cond.code yX8_standingOn cX8_standingOn 4 (some .int), Cond.methodLink RX8 60 yX8_hasBase]
def wsX8_goesOn_r3 : List Cond := [Cond.instanceMethod yX8_hasBase, Cond.selects RX8 yX8_hasBase yX8_hasBase, Cond.code yX8_hasBase cX8_hasBase 2 (some .boolean), Cond.methodLink RX8 86 yX8_takes, Cond.instanceMethod yX8_takes, Cond.selects RX8 yX8_takes yX8_takes, Cond.code yX8_takes cX8_takes 4 none, Cond.methodLink RX8 64 yX8_setCrew, Cond.instanceMethod yX8_setCrew, Cond.selects RX8 yX8_setCrew yX8_setCrew, Cond.code yX8_setCrew cX8_setCrew 4 none, Cond.methodLink RX8 89 yX8_works, Cond.instanceMethod yX8_works, Cond.selects RX8 yX8_works yX8_works, Cond.code yX8_works cX8_works 4 (some .boolean), Cond.methodLink RX8 76 yX8_finishes, Cond.instanceMethod yX8_finishes, Cond.selects RX8 yX8_finishes yX8_finishes, Cond.code yX8_finishes cX8_finishes 4 none, Cond.methodLink RX8 70 yX8_leastLoaded, Cond.instanceMethod yX8_leastLoaded, Cond.selects RX8 yX8_leastLoaded yX8_leastLoaded, Cond.code yX8_leastLoaded cX8_leastLoaded 3 (some .int), Cond.methodLink RX8 67 yX8_loadOf]
def wsX8_goesOn_r4 : List Cond := [Cond.instanceMethod yX8_loadOf, Cond.selects RX8 yX8_loadOf yX8_loadOf, Cond.code yX8_loadOf cX8_loadOf 4 (some .int), Cond.methodLink RX8 32 yX8_moves, Cond.static yX8_moves, Cond.code yX8_moves cX8_moves 5 none]
def wsX8_goesOn : List Cond := .code yX8_goesOn cX8_goesOn 2 (some .int) :: ((wsX8_goesOn_r1 ++ (wsX8_goesOn_r2 ++ (wsX8_goesOn_r3 ++ wsX8_goesOn_r4))) ++ wsX80)
def wsX8_allIn_r1 : List Cond := [Cond.fieldLink RX8 7 "HallBuildsModel" "state" "[I", Cond.fieldLink RX8 13 "HallBuildsModel" "kept" "[I", Cond.methodLink RX8 32 yX8_moves, Cond.static yX8_moves, Cond.initialized RX8, Cond.code yX8_moves cX8_moves 5 none, Cond.methodLink RX8 148 yX8_goesOn, Cond.instanceMethod yX8_goesOn, Cond.selects RX8 yX8_goesOn yX8_goesOn, Cond.code yX8_goesOn cX8_goesOn 2 (some .int), Cond.methodLink RX8 144 yX8_isAllDone, Cond.instanceMethod yX8_isAllDone, Cond.selects RX8 yX8_isAllDone yX8_isAllDone, Cond.code yX8_isAllDone cX8_isAllDone 1 (some .boolean), Cond.methodLink RX8 132 yX8_withHow, Cond.instanceMethod yX8_withHow, Cond.selects RX8 yX8_withHow yX8_withHow, Cond.code yX8_withHow cX8_withHow 4 (some .int), Cond.methodLink RX8 44 yX8_isHow, Cond.instanceMethod yX8_isHow, Cond.selects RX8 yX8_isHow yX8_isHow, Cond.code yX8_isHow cX8_isHow 3 (some .boolean), Cond.methodLink RX8 40 yX8_part, Cond.instanceMethod yX8_part]
def wsX8_allIn_r2 : List Cond := [Cond.selects RX8 yX8_part yX8_part, Cond.code yX8_part cX8_part 3 (some .int), Cond.methodLink RX8 92 yX8_passesOne, Cond.instanceMethod yX8_passesOne, Cond.selects RX8 yX8_passesOne yX8_passesOne, Cond.code yX8_passesOne cX8_passesOne 4 (some .int), Cond.methodLink RX8 80 yX8_lorries, Cond.instanceMethod yX8_lorries, Cond.selects RX8 yX8_lorries yX8_lorries, Cond.code yX8_lorries cX8_lorries 3 none, Cond.methodLink RX8 48 yX8_setPart, Cond.instanceMethod yX8_setPart, Cond.selects RX8 yX8_setPart yX8_setPart, Cond.code yX8_setPart cX8_setPart 4 none, Cond.methodLink RX8 52 yX8_meters, Cond.instanceMethod yX8_meters, Cond.selects RX8 yX8_meters yX8_meters, Cond.code yX8_meters cX8_meters 3 (some .int), Cond.methodLink RX8 73 yX8_ofCrewPart, Cond.instanceMethod yX8_ofCrewPart, Cond.selects RX8 yX8_ofCrewPart yX8_ofCrewPart, Cond.code yX8_ofCrewPart cX8_ofCrewPart 3 (some .int), Cond.methodLink RX8 83 yX8_nextStand, Cond.instanceMethod yX8_nextStand]
def wsX8_allIn_r3 : List Cond := [Cond.selects RX8 yX8_nextStand yX8_nextStand, Cond.code yX8_nextStand cX8_nextStand 5 (some .int), Cond.methodLink RX8 56 yX8_standingOn, Cond.instanceMethod yX8_standingOn, Cond.selects RX8 yX8_standingOn yX8_standingOn, Cond.code yX8_standingOn cX8_standingOn 4 (some .int), Cond.methodLink RX8 60 yX8_hasBase, Cond.instanceMethod yX8_hasBase, Cond.selects RX8 yX8_hasBase yX8_hasBase, Cond.code yX8_hasBase cX8_hasBase 2 (some .boolean), Cond.methodLink RX8 86 yX8_takes, Cond.instanceMethod yX8_takes, Cond.selects RX8 yX8_takes yX8_takes, Cond.code yX8_takes cX8_takes 4 none, Cond.methodLink RX8 64 yX8_setCrew, Cond.instanceMethod yX8_setCrew, Cond.selects RX8 yX8_setCrew yX8_setCrew, Cond.code yX8_setCrew cX8_setCrew 4 none, Cond.methodLink RX8 89 yX8_works, Cond.instanceMethod yX8_works, Cond.selects RX8 yX8_works yX8_works, Cond.code yX8_works cX8_works 4 (some .boolean), Cond.methodLink RX8 76 yX8_finishes, Cond.instanceMethod yX8_finishes]
def wsX8_allIn_r4 : List Cond := [Cond.selects RX8 yX8_finishes yX8_finishes, Cond.code yX8_finishes cX8_finishes 4 none, Cond.methodLink RX8 70 yX8_leastLoaded, Cond.instanceMethod yX8_leastLoaded, Cond.selects RX8 yX8_leastLoaded yX8_leastLoaded, Cond.code yX8_leastLoaded cX8_leastLoaded 3 (some .int), Cond.methodLink RX8 67 yX8_loadOf, Cond.instanceMethod yX8_loadOf, Cond.selects RX8 yX8_loadOf yX8_loadOf, Cond.code yX8_loadOf cX8_loadOf 4 (some .int)]
def wsX8_allIn : List Cond := .code yX8_allIn cX8_allIn 1 (some .int) :: ((wsX8_allIn_r1 ++ (wsX8_allIn_r2 ++ (wsX8_allIn_r3 ++ wsX8_allIn_r4))) ++ wsX80)
def wsX8_withCrew_r1 : List Cond := [Cond.fieldLink RX8 7 "HallBuildsModel" "state" "[I", Cond.fieldLink RX8 13 "HallBuildsModel" "kept" "[I", Cond.methodLink RX8 111 yX8_whyNoCrew, Cond.instanceMethod yX8_whyNoCrew, Cond.selects RX8 yX8_whyNoCrew yX8_whyNoCrew, Cond.initialized RX8, Cond.code yX8_whyNoCrew cX8_whyNoCrew 3 (some .int), Cond.methodLink RX8 36 yX8_within, Cond.static yX8_within, Cond.code yX8_within cX8_within 3 (some .boolean), Cond.methodLink RX8 32 yX8_moves, Cond.static yX8_moves, Cond.code yX8_moves cX8_moves 5 none, Cond.methodLink RX8 114 yX8_comesCrew, Cond.instanceMethod yX8_comesCrew, Cond.selects RX8 yX8_comesCrew yX8_comesCrew, Cond.code yX8_comesCrew cX8_comesCrew 5 (some .int), Cond.methodLink RX8 64 yX8_setCrew, Cond.instanceMethod yX8_setCrew, Cond.selects RX8 yX8_setCrew yX8_setCrew, Cond.code yX8_setCrew cX8_setCrew 4 none, Cond.methodLink RX8 148 yX8_goesOn, Cond.instanceMethod yX8_goesOn, Cond.selects RX8 yX8_goesOn yX8_goesOn]
def wsX8_withCrew_r2 : List Cond := [Cond.code yX8_goesOn cX8_goesOn 2 (some .int), Cond.methodLink RX8 144 yX8_isAllDone, Cond.instanceMethod yX8_isAllDone, Cond.selects RX8 yX8_isAllDone yX8_isAllDone, Cond.code yX8_isAllDone cX8_isAllDone 1 (some .boolean), Cond.methodLink RX8 132 yX8_withHow, Cond.instanceMethod yX8_withHow, Cond.selects RX8 yX8_withHow yX8_withHow, Cond.code yX8_withHow cX8_withHow 4 (some .int), Cond.methodLink RX8 44 yX8_isHow, Cond.instanceMethod yX8_isHow, Cond.selects RX8 yX8_isHow yX8_isHow, Cond.code yX8_isHow cX8_isHow 3 (some .boolean), Cond.methodLink RX8 40 yX8_part, Cond.instanceMethod yX8_part, Cond.selects RX8 yX8_part yX8_part, Cond.code yX8_part cX8_part 3 (some .int), Cond.methodLink RX8 92 yX8_passesOne, Cond.instanceMethod yX8_passesOne, Cond.selects RX8 yX8_passesOne yX8_passesOne, Cond.code yX8_passesOne cX8_passesOne 4 (some .int), Cond.methodLink RX8 80 yX8_lorries, Cond.instanceMethod yX8_lorries, Cond.selects RX8 yX8_lorries yX8_lorries]
def wsX8_withCrew_r3 : List Cond := [Cond.code yX8_lorries cX8_lorries 3 none, Cond.methodLink RX8 48 yX8_setPart, Cond.instanceMethod yX8_setPart, Cond.selects RX8 yX8_setPart yX8_setPart, Cond.code yX8_setPart cX8_setPart 4 none, Cond.methodLink RX8 52 yX8_meters, Cond.instanceMethod yX8_meters, Cond.selects RX8 yX8_meters yX8_meters, Cond.code yX8_meters cX8_meters 3 (some .int), Cond.methodLink RX8 73 yX8_ofCrewPart, Cond.instanceMethod yX8_ofCrewPart, Cond.selects RX8 yX8_ofCrewPart yX8_ofCrewPart, Cond.code yX8_ofCrewPart cX8_ofCrewPart 3 (some .int), Cond.methodLink RX8 83 yX8_nextStand, Cond.instanceMethod yX8_nextStand, Cond.selects RX8 yX8_nextStand yX8_nextStand, Cond.code yX8_nextStand cX8_nextStand 5 (some .int), Cond.methodLink RX8 56 yX8_standingOn, Cond.instanceMethod yX8_standingOn, Cond.selects RX8 yX8_standingOn yX8_standingOn, Cond.code yX8_standingOn cX8_standingOn 4 (some .int), Cond.methodLink RX8 60 yX8_hasBase, Cond.instanceMethod yX8_hasBase, Cond.selects RX8 yX8_hasBase yX8_hasBase]
def wsX8_withCrew_r4 : List Cond := [Cond.code yX8_hasBase cX8_hasBase 2 (some .boolean), Cond.methodLink RX8 86 yX8_takes, Cond.instanceMethod yX8_takes, Cond.selects RX8 yX8_takes yX8_takes, Cond.code yX8_takes cX8_takes 4 none, Cond.methodLink RX8 89 yX8_works, Cond.instanceMethod yX8_works, Cond.selects RX8 yX8_works yX8_works, Cond.code yX8_works cX8_works 4 (some .boolean), Cond.methodLink RX8 76 yX8_finishes, Cond.instanceMethod yX8_finishes, Cond.selects RX8 yX8_finishes yX8_finishes, Cond.code yX8_finishes cX8_finishes 4 none, Cond.methodLink RX8 70 yX8_leastLoaded, Cond.instanceMethod yX8_leastLoaded, Cond.selects RX8 yX8_leastLoaded yX8_leastLoaded, Cond.code yX8_leastLoaded cX8_leastLoaded 3 (some .int), Cond.methodLink RX8 67 yX8_loadOf, Cond.instanceMethod yX8_loadOf, Cond.selects RX8 yX8_loadOf yX8_loadOf, Cond.code yX8_loadOf cX8_loadOf 4 (some .int)]
def wsX8_withCrew : List Cond := .code yX8_withCrew cX8_withCrew 3 (some .int) :: ((wsX8_withCrew_r1 ++ (wsX8_withCrew_r2 ++ (wsX8_withCrew_r3 ++ wsX8_withCrew_r4))) ++ wsX80)
def wsX8_allWith_r1 : List Cond := [Cond.fieldLink RX8 7 "HallBuildsModel" "state" "[I", Cond.fieldLink RX8 13 "HallBuildsModel" "kept" "[I", Cond.methodLink RX8 32 yX8_moves, Cond.static yX8_moves, Cond.initialized RX8, Cond.code yX8_moves cX8_moves 5 none, Cond.methodLink RX8 148 yX8_goesOn, Cond.instanceMethod yX8_goesOn, Cond.selects RX8 yX8_goesOn yX8_goesOn, Cond.code yX8_goesOn cX8_goesOn 2 (some .int), Cond.methodLink RX8 144 yX8_isAllDone, Cond.instanceMethod yX8_isAllDone, Cond.selects RX8 yX8_isAllDone yX8_isAllDone, Cond.code yX8_isAllDone cX8_isAllDone 1 (some .boolean), Cond.methodLink RX8 132 yX8_withHow, Cond.instanceMethod yX8_withHow, Cond.selects RX8 yX8_withHow yX8_withHow, Cond.code yX8_withHow cX8_withHow 4 (some .int), Cond.methodLink RX8 44 yX8_isHow, Cond.instanceMethod yX8_isHow, Cond.selects RX8 yX8_isHow yX8_isHow, Cond.code yX8_isHow cX8_isHow 3 (some .boolean), Cond.methodLink RX8 40 yX8_part, Cond.instanceMethod yX8_part]
def wsX8_allWith_r2 : List Cond := [Cond.selects RX8 yX8_part yX8_part, Cond.code yX8_part cX8_part 3 (some .int), Cond.methodLink RX8 92 yX8_passesOne, Cond.instanceMethod yX8_passesOne, Cond.selects RX8 yX8_passesOne yX8_passesOne, Cond.code yX8_passesOne cX8_passesOne 4 (some .int), Cond.methodLink RX8 80 yX8_lorries, Cond.instanceMethod yX8_lorries, Cond.selects RX8 yX8_lorries yX8_lorries, Cond.code yX8_lorries cX8_lorries 3 none, Cond.methodLink RX8 48 yX8_setPart, Cond.instanceMethod yX8_setPart, Cond.selects RX8 yX8_setPart yX8_setPart, Cond.code yX8_setPart cX8_setPart 4 none, Cond.methodLink RX8 52 yX8_meters, Cond.instanceMethod yX8_meters, Cond.selects RX8 yX8_meters yX8_meters, Cond.code yX8_meters cX8_meters 3 (some .int), Cond.methodLink RX8 73 yX8_ofCrewPart, Cond.instanceMethod yX8_ofCrewPart, Cond.selects RX8 yX8_ofCrewPart yX8_ofCrewPart, Cond.code yX8_ofCrewPart cX8_ofCrewPart 3 (some .int), Cond.methodLink RX8 83 yX8_nextStand, Cond.instanceMethod yX8_nextStand]
def wsX8_allWith_r3 : List Cond := [Cond.selects RX8 yX8_nextStand yX8_nextStand, Cond.code yX8_nextStand cX8_nextStand 5 (some .int), Cond.methodLink RX8 56 yX8_standingOn, Cond.instanceMethod yX8_standingOn, Cond.selects RX8 yX8_standingOn yX8_standingOn, Cond.code yX8_standingOn cX8_standingOn 4 (some .int), Cond.methodLink RX8 60 yX8_hasBase, Cond.instanceMethod yX8_hasBase, Cond.selects RX8 yX8_hasBase yX8_hasBase, Cond.code yX8_hasBase cX8_hasBase 2 (some .boolean), Cond.methodLink RX8 86 yX8_takes, Cond.instanceMethod yX8_takes, Cond.selects RX8 yX8_takes yX8_takes, Cond.code yX8_takes cX8_takes 4 none, Cond.methodLink RX8 64 yX8_setCrew, Cond.instanceMethod yX8_setCrew, Cond.selects RX8 yX8_setCrew yX8_setCrew, Cond.code yX8_setCrew cX8_setCrew 4 none, Cond.methodLink RX8 89 yX8_works, Cond.instanceMethod yX8_works, Cond.selects RX8 yX8_works yX8_works, Cond.code yX8_works cX8_works 4 (some .boolean), Cond.methodLink RX8 76 yX8_finishes, Cond.instanceMethod yX8_finishes]
def wsX8_allWith_r4 : List Cond := [Cond.selects RX8 yX8_finishes yX8_finishes, Cond.code yX8_finishes cX8_finishes 4 none, Cond.methodLink RX8 70 yX8_leastLoaded, Cond.instanceMethod yX8_leastLoaded, Cond.selects RX8 yX8_leastLoaded yX8_leastLoaded, Cond.code yX8_leastLoaded cX8_leastLoaded 3 (some .int), Cond.methodLink RX8 67 yX8_loadOf, Cond.instanceMethod yX8_loadOf, Cond.selects RX8 yX8_loadOf yX8_loadOf, Cond.code yX8_loadOf cX8_loadOf 4 (some .int)]
def wsX8_allWith : List Cond := .code yX8_allWith cX8_allWith 2 (some .int) :: ((wsX8_allWith_r1 ++ (wsX8_allWith_r2 ++ (wsX8_allWith_r3 ++ wsX8_allWith_r4))) ++ wsX80)
def wsX8_leastDock_r1 : List Cond := [Cond.methodLink RX8 151 yX8_allWith, Cond.instanceMethod yX8_allWith, Cond.selects RX8 yX8_allWith yX8_allWith, Cond.initialized RX8, Cond.code yX8_allWith cX8_allWith 2 (some .int), Cond.fieldLink RX8 7 "HallBuildsModel" "state" "[I", Cond.fieldLink RX8 13 "HallBuildsModel" "kept" "[I", Cond.methodLink RX8 32 yX8_moves, Cond.static yX8_moves, Cond.code yX8_moves cX8_moves 5 none, Cond.methodLink RX8 148 yX8_goesOn, Cond.instanceMethod yX8_goesOn, Cond.selects RX8 yX8_goesOn yX8_goesOn, Cond.code yX8_goesOn cX8_goesOn 2 (some .int), Cond.methodLink RX8 144 yX8_isAllDone, Cond.instanceMethod yX8_isAllDone, Cond.selects RX8 yX8_isAllDone yX8_isAllDone, Cond.code yX8_isAllDone cX8_isAllDone 1 (some .boolean), Cond.methodLink RX8 132 yX8_withHow, Cond.instanceMethod yX8_withHow, Cond.selects RX8 yX8_withHow yX8_withHow, Cond.code yX8_withHow cX8_withHow 4 (some .int), Cond.methodLink RX8 44 yX8_isHow, Cond.instanceMethod yX8_isHow]
def wsX8_leastDock_r2 : List Cond := [Cond.selects RX8 yX8_isHow yX8_isHow, Cond.code yX8_isHow cX8_isHow 3 (some .boolean), Cond.methodLink RX8 40 yX8_part, Cond.instanceMethod yX8_part, Cond.selects RX8 yX8_part yX8_part, Cond.code yX8_part cX8_part 3 (some .int), Cond.methodLink RX8 92 yX8_passesOne, Cond.instanceMethod yX8_passesOne, Cond.selects RX8 yX8_passesOne yX8_passesOne, Cond.code yX8_passesOne cX8_passesOne 4 (some .int), Cond.methodLink RX8 80 yX8_lorries, Cond.instanceMethod yX8_lorries, Cond.selects RX8 yX8_lorries yX8_lorries, Cond.code yX8_lorries cX8_lorries 3 none, Cond.methodLink RX8 48 yX8_setPart, Cond.instanceMethod yX8_setPart, Cond.selects RX8 yX8_setPart yX8_setPart, Cond.code yX8_setPart cX8_setPart 4 none, Cond.methodLink RX8 52 yX8_meters, Cond.instanceMethod yX8_meters, Cond.selects RX8 yX8_meters yX8_meters, Cond.code yX8_meters cX8_meters 3 (some .int), Cond.methodLink RX8 73 yX8_ofCrewPart, Cond.instanceMethod yX8_ofCrewPart]
def wsX8_leastDock_r3 : List Cond := [Cond.selects RX8 yX8_ofCrewPart yX8_ofCrewPart, Cond.code yX8_ofCrewPart cX8_ofCrewPart 3 (some .int), Cond.methodLink RX8 83 yX8_nextStand, Cond.instanceMethod yX8_nextStand, Cond.selects RX8 yX8_nextStand yX8_nextStand, Cond.code yX8_nextStand cX8_nextStand 5 (some .int), Cond.methodLink RX8 56 yX8_standingOn, Cond.instanceMethod yX8_standingOn, Cond.selects RX8 yX8_standingOn yX8_standingOn, Cond.code yX8_standingOn cX8_standingOn 4 (some .int), Cond.methodLink RX8 60 yX8_hasBase, Cond.instanceMethod yX8_hasBase, Cond.selects RX8 yX8_hasBase yX8_hasBase, Cond.code yX8_hasBase cX8_hasBase 2 (some .boolean), Cond.methodLink RX8 86 yX8_takes, Cond.instanceMethod yX8_takes, Cond.selects RX8 yX8_takes yX8_takes, Cond.code yX8_takes cX8_takes 4 none, Cond.methodLink RX8 64 yX8_setCrew, Cond.instanceMethod yX8_setCrew, Cond.selects RX8 yX8_setCrew yX8_setCrew, Cond.code yX8_setCrew cX8_setCrew 4 none, Cond.methodLink RX8 89 yX8_works, Cond.instanceMethod yX8_works]
def wsX8_leastDock_r4 : List Cond := [Cond.selects RX8 yX8_works yX8_works, Cond.code yX8_works cX8_works 4 (some .boolean), Cond.methodLink RX8 76 yX8_finishes, Cond.instanceMethod yX8_finishes, Cond.selects RX8 yX8_finishes yX8_finishes, Cond.code yX8_finishes cX8_finishes 4 none, Cond.methodLink RX8 70 yX8_leastLoaded, Cond.instanceMethod yX8_leastLoaded, Cond.selects RX8 yX8_leastLoaded yX8_leastLoaded, Cond.code yX8_leastLoaded cX8_leastLoaded 3 (some .int), Cond.methodLink RX8 67 yX8_loadOf, Cond.instanceMethod yX8_loadOf, Cond.selects RX8 yX8_loadOf yX8_loadOf, Cond.code yX8_loadOf cX8_loadOf 4 (some .int)]
def wsX8_leastDock : List Cond := .code yX8_leastDock cX8_leastDock 4 (some .int) :: ((wsX8_leastDock_r1 ++ (wsX8_leastDock_r2 ++ (wsX8_leastDock_r3 ++ wsX8_leastDock_r4))) ++ wsX80)
def wsX8_put : List Cond := .code yX8_put cX8_put 8 (some .int) :: ([.constantLong RX8 154 (255), .fieldLink RX8 141 "HallBuildsModel" "padLength" "I", .fieldLink RX8 25 "HallBuildsModel" "pad" "[I", .methodLink RX8 36 yX8_within, .static yX8_within, .initialized RX8, .code yX8_within cX8_within 3 (some .boolean)] ++ wsX80)
def wsX8_wipe : List Cond := .code yX8_wipe cX8_wipe 2 (some .int) :: ([.fieldLink RX8 141 "HallBuildsModel" "padLength" "I"] ++ wsX80)
def wsX8_character : List Cond := .code yX8_character cX8_character 2 (some .int) :: ([.fieldLink RX8 141 "HallBuildsModel" "padLength" "I", .fieldLink RX8 25 "HallBuildsModel" "pad" "[I"] ++ wsX80)
def wsX8_isNext : List Cond := .code yX8_isNext cX8_isNext 3 (some .boolean) :: ([.fieldLink RX8 156 "HallBuildsModel" "at" "I", .methodLink RX8 159 yX8_character, .instanceMethod yX8_character, .selects RX8 yX8_character yX8_character, .initialized RX8, .code yX8_character cX8_character 2 (some .int), .fieldLink RX8 141 "HallBuildsModel" "padLength" "I", .fieldLink RX8 25 "HallBuildsModel" "pad" "[I"] ++ wsX80)
def wsX8_takeDigit : List Cond := .code yX8_takeDigit cX8_takeDigit 3 (some .int) :: ([.fieldLink RX8 156 "HallBuildsModel" "at" "I", .methodLink RX8 159 yX8_character, .instanceMethod yX8_character, .selects RX8 yX8_character yX8_character, .initialized RX8, .code yX8_character cX8_character 2 (some .int), .fieldLink RX8 141 "HallBuildsModel" "padLength" "I", .fieldLink RX8 25 "HallBuildsModel" "pad" "[I", .methodLink RX8 36 yX8_within, .static yX8_within, .code yX8_within cX8_within 3 (some .boolean)] ++ wsX80)
def wsX8_takeNumber : List Cond := .code yX8_takeNumber cX8_takeNumber 2 (some .int) :: ([.fieldLink RX8 156 "HallBuildsModel" "at" "I", .methodLink RX8 162 yX8_takeDigit, .instanceMethod yX8_takeDigit, .selects RX8 yX8_takeDigit yX8_takeDigit, .initialized RX8, .code yX8_takeDigit cX8_takeDigit 3 (some .int), .methodLink RX8 159 yX8_character, .instanceMethod yX8_character, .selects RX8 yX8_character yX8_character, .code yX8_character cX8_character 2 (some .int), .fieldLink RX8 141 "HallBuildsModel" "padLength" "I", .fieldLink RX8 25 "HallBuildsModel" "pad" "[I", .methodLink RX8 36 yX8_within, .static yX8_within, .code yX8_within cX8_within 3 (some .boolean)] ++ wsX80)
def wsX8_readsStand_r1 : List Cond := [Cond.fieldLink RX8 168 "HallBuildsModel" "first" "I", Cond.fieldLink RX8 174 "HallBuildsModel" "second" "I", Cond.fieldLink RX8 177 "HallBuildsModel" "third" "I", Cond.fieldLink RX8 180 "HallBuildsModel" "fourth" "I", Cond.methodLink RX8 165 yX8_takeNumber, Cond.instanceMethod yX8_takeNumber, Cond.selects RX8 yX8_takeNumber yX8_takeNumber, Cond.initialized RX8, Cond.code yX8_takeNumber cX8_takeNumber 2 (some .int), Cond.fieldLink RX8 156 "HallBuildsModel" "at" "I", Cond.methodLink RX8 162 yX8_takeDigit, Cond.instanceMethod yX8_takeDigit, Cond.selects RX8 yX8_takeDigit yX8_takeDigit, Cond.code yX8_takeDigit cX8_takeDigit 3 (some .int), Cond.methodLink RX8 159 yX8_character, Cond.instanceMethod yX8_character, Cond.selects RX8 yX8_character yX8_character, Cond.code yX8_character cX8_character 2 (some .int), Cond.fieldLink RX8 141 "HallBuildsModel" "padLength" "I", Cond.fieldLink RX8 25 "HallBuildsModel" "pad" "[I", Cond.methodLink RX8 36 yX8_within, Cond.static yX8_within, Cond.code yX8_within cX8_within 3 (some .boolean), Cond.methodLink RX8 171 yX8_isNext]
def wsX8_readsStand_r2 : List Cond := [Cond.instanceMethod yX8_isNext, Cond.selects RX8 yX8_isNext yX8_isNext, Cond.code yX8_isNext cX8_isNext 3 (some .boolean)]
def wsX8_readsStand : List Cond := .code yX8_readsStand cX8_readsStand 1 (some .boolean) :: ((wsX8_readsStand_r1 ++ wsX8_readsStand_r2) ++ wsX80)
def wsX8_readsOrder_r1 : List Cond := [Cond.fieldLink RX8 156 "HallBuildsModel" "at" "I", Cond.fieldLink RX8 183 "HallBuildsModel" "letter" "I", Cond.fieldLink RX8 168 "HallBuildsModel" "first" "I", Cond.fieldLink RX8 174 "HallBuildsModel" "second" "I", Cond.methodLink RX8 159 yX8_character, Cond.instanceMethod yX8_character, Cond.selects RX8 yX8_character yX8_character, Cond.initialized RX8, Cond.code yX8_character cX8_character 2 (some .int), Cond.fieldLink RX8 141 "HallBuildsModel" "padLength" "I", Cond.fieldLink RX8 25 "HallBuildsModel" "pad" "[I", Cond.methodLink RX8 186 yX8_readsStand, Cond.instanceMethod yX8_readsStand, Cond.selects RX8 yX8_readsStand yX8_readsStand, Cond.code yX8_readsStand cX8_readsStand 1 (some .boolean), Cond.fieldLink RX8 177 "HallBuildsModel" "third" "I", Cond.fieldLink RX8 180 "HallBuildsModel" "fourth" "I", Cond.methodLink RX8 165 yX8_takeNumber, Cond.instanceMethod yX8_takeNumber, Cond.selects RX8 yX8_takeNumber yX8_takeNumber, Cond.code yX8_takeNumber cX8_takeNumber 2 (some .int), Cond.methodLink RX8 162 yX8_takeDigit, Cond.instanceMethod yX8_takeDigit, Cond.selects RX8 yX8_takeDigit yX8_takeDigit]
def wsX8_readsOrder_r2 : List Cond := [Cond.code yX8_takeDigit cX8_takeDigit 3 (some .int), Cond.methodLink RX8 36 yX8_within, Cond.static yX8_within, Cond.code yX8_within cX8_within 3 (some .boolean), Cond.methodLink RX8 171 yX8_isNext, Cond.instanceMethod yX8_isNext, Cond.selects RX8 yX8_isNext yX8_isNext, Cond.code yX8_isNext cX8_isNext 3 (some .boolean)]
def wsX8_readsOrder : List Cond := .code yX8_readsOrder cX8_readsOrder 1 (some .boolean) :: ((wsX8_readsOrder_r1 ++ wsX8_readsOrder_r2) ++ wsX80)
def wsX8_findFault_r1 : List Cond := [Cond.fieldLink RX8 156 "HallBuildsModel" "at" "I", Cond.fieldLink RX8 141 "HallBuildsModel" "padLength" "I", Cond.methodLink RX8 189 yX8_readsOrder, Cond.instanceMethod yX8_readsOrder, Cond.selects RX8 yX8_readsOrder yX8_readsOrder, Cond.initialized RX8, Cond.code yX8_readsOrder cX8_readsOrder 1 (some .boolean), Cond.fieldLink RX8 183 "HallBuildsModel" "letter" "I", Cond.fieldLink RX8 168 "HallBuildsModel" "first" "I", Cond.fieldLink RX8 174 "HallBuildsModel" "second" "I", Cond.methodLink RX8 159 yX8_character, Cond.instanceMethod yX8_character, Cond.selects RX8 yX8_character yX8_character, Cond.code yX8_character cX8_character 2 (some .int), Cond.fieldLink RX8 25 "HallBuildsModel" "pad" "[I", Cond.methodLink RX8 186 yX8_readsStand, Cond.instanceMethod yX8_readsStand, Cond.selects RX8 yX8_readsStand yX8_readsStand, Cond.code yX8_readsStand cX8_readsStand 1 (some .boolean), Cond.fieldLink RX8 177 "HallBuildsModel" "third" "I", Cond.fieldLink RX8 180 "HallBuildsModel" "fourth" "I", Cond.methodLink RX8 165 yX8_takeNumber, Cond.instanceMethod yX8_takeNumber, Cond.selects RX8 yX8_takeNumber yX8_takeNumber]
def wsX8_findFault_r2 : List Cond := [Cond.code yX8_takeNumber cX8_takeNumber 2 (some .int), Cond.methodLink RX8 162 yX8_takeDigit, Cond.instanceMethod yX8_takeDigit, Cond.selects RX8 yX8_takeDigit yX8_takeDigit, Cond.code yX8_takeDigit cX8_takeDigit 3 (some .int), Cond.methodLink RX8 36 yX8_within, Cond.static yX8_within, Cond.code yX8_within cX8_within 3 (some .boolean), Cond.methodLink RX8 171 yX8_isNext, Cond.instanceMethod yX8_isNext, Cond.selects RX8 yX8_isNext yX8_isNext, Cond.code yX8_isNext cX8_isNext 3 (some .boolean)]
def wsX8_findFault : List Cond := .code yX8_findFault cX8_findFault 1 (some .int) :: ((wsX8_findFault_r1 ++ wsX8_findFault_r2) ++ wsX80)
def wsX8_fault_r1 : List Cond := [Cond.methodLink RX8 192 yX8_findFault, Cond.instanceMethod yX8_findFault, Cond.selects RX8 yX8_findFault yX8_findFault, Cond.initialized RX8, Cond.code yX8_findFault cX8_findFault 1 (some .int), Cond.fieldLink RX8 156 "HallBuildsModel" "at" "I", Cond.fieldLink RX8 141 "HallBuildsModel" "padLength" "I", Cond.methodLink RX8 189 yX8_readsOrder, Cond.instanceMethod yX8_readsOrder, Cond.selects RX8 yX8_readsOrder yX8_readsOrder, Cond.code yX8_readsOrder cX8_readsOrder 1 (some .boolean), Cond.fieldLink RX8 183 "HallBuildsModel" "letter" "I", Cond.fieldLink RX8 168 "HallBuildsModel" "first" "I", Cond.fieldLink RX8 174 "HallBuildsModel" "second" "I", Cond.methodLink RX8 159 yX8_character, Cond.instanceMethod yX8_character, Cond.selects RX8 yX8_character yX8_character, Cond.code yX8_character cX8_character 2 (some .int), Cond.fieldLink RX8 25 "HallBuildsModel" "pad" "[I", Cond.methodLink RX8 186 yX8_readsStand, Cond.instanceMethod yX8_readsStand, Cond.selects RX8 yX8_readsStand yX8_readsStand, Cond.code yX8_readsStand cX8_readsStand 1 (some .boolean), Cond.fieldLink RX8 177 "HallBuildsModel" "third" "I"]
def wsX8_fault_r2 : List Cond := [Cond.fieldLink RX8 180 "HallBuildsModel" "fourth" "I", Cond.methodLink RX8 165 yX8_takeNumber, Cond.instanceMethod yX8_takeNumber, Cond.selects RX8 yX8_takeNumber yX8_takeNumber, Cond.code yX8_takeNumber cX8_takeNumber 2 (some .int), Cond.methodLink RX8 162 yX8_takeDigit, Cond.instanceMethod yX8_takeDigit, Cond.selects RX8 yX8_takeDigit yX8_takeDigit, Cond.code yX8_takeDigit cX8_takeDigit 3 (some .int), Cond.methodLink RX8 36 yX8_within, Cond.static yX8_within, Cond.code yX8_within cX8_within 3 (some .boolean), Cond.methodLink RX8 171 yX8_isNext, Cond.instanceMethod yX8_isNext, Cond.selects RX8 yX8_isNext yX8_isNext, Cond.code yX8_isNext cX8_isNext 3 (some .boolean)]
def wsX8_fault : List Cond := .code yX8_fault cX8_fault 1 (some .int) :: ((wsX8_fault_r1 ++ wsX8_fault_r2) ++ wsX80)
def wsX8_whyNotDone_r1 : List Cond := [Cond.fieldLink RX8 183 "HallBuildsModel" "letter" "I", Cond.fieldLink RX8 168 "HallBuildsModel" "first" "I", Cond.fieldLink RX8 174 "HallBuildsModel" "second" "I", Cond.fieldLink RX8 177 "HallBuildsModel" "third" "I", Cond.fieldLink RX8 180 "HallBuildsModel" "fourth" "I", Cond.fieldLink RX8 7 "HallBuildsModel" "state" "[I", Cond.methodLink RX8 104 yX8_whyNoStand, Cond.instanceMethod yX8_whyNoStand, Cond.selects RX8 yX8_whyNoStand yX8_whyNoStand, Cond.initialized RX8, Cond.code yX8_whyNoStand cX8_whyNoStand 5 (some .int), Cond.methodLink RX8 36 yX8_within, Cond.static yX8_within, Cond.code yX8_within cX8_within 3 (some .boolean), Cond.methodLink RX8 101 yX8_isStand, Cond.instanceMethod yX8_isStand, Cond.selects RX8 yX8_isStand yX8_isStand, Cond.code yX8_isStand cX8_isStand 2 (some .boolean), Cond.methodLink RX8 44 yX8_isHow, Cond.instanceMethod yX8_isHow, Cond.selects RX8 yX8_isHow yX8_isHow, Cond.code yX8_isHow cX8_isHow 3 (some .boolean), Cond.methodLink RX8 40 yX8_part, Cond.instanceMethod yX8_part]
def wsX8_whyNotDone_r2 : List Cond := [Cond.selects RX8 yX8_part yX8_part, Cond.code yX8_part cX8_part 3 (some .int), Cond.methodLink RX8 111 yX8_whyNoCrew, Cond.instanceMethod yX8_whyNoCrew, Cond.selects RX8 yX8_whyNoCrew yX8_whyNoCrew, Cond.code yX8_whyNoCrew cX8_whyNoCrew 3 (some .int), Cond.methodLink RX8 95 yX8_isValue, Cond.static yX8_isValue, Cond.code yX8_isValue cX8_isValue 2 (some .boolean), Cond.methodLink RX8 120 yX8_whyNotPassed, Cond.instanceMethod yX8_whyNotPassed, Cond.selects RX8 yX8_whyNotPassed yX8_whyNotPassed, Cond.code yX8_whyNotPassed cX8_whyNotPassed 2 (some .int)]
def wsX8_whyNotDone : List Cond := .code yX8_whyNotDone cX8_whyNotDone 1 (some .int) :: ((wsX8_whyNotDone_r1 ++ wsX8_whyNotDone_r2) ++ wsX80)
def wsX8_does_r1 : List Cond := [Cond.fieldLink RX8 183 "HallBuildsModel" "letter" "I", Cond.fieldLink RX8 168 "HallBuildsModel" "first" "I", Cond.fieldLink RX8 174 "HallBuildsModel" "second" "I", Cond.fieldLink RX8 177 "HallBuildsModel" "third" "I", Cond.fieldLink RX8 180 "HallBuildsModel" "fourth" "I", Cond.fieldLink RX8 7 "HallBuildsModel" "state" "[I", Cond.methodLink RX8 108 yX8_comes, Cond.instanceMethod yX8_comes, Cond.selects RX8 yX8_comes yX8_comes, Cond.initialized RX8, Cond.code yX8_comes cX8_comes 6 (some .int), Cond.methodLink RX8 48 yX8_setPart, Cond.instanceMethod yX8_setPart, Cond.selects RX8 yX8_setPart yX8_setPart, Cond.code yX8_setPart cX8_setPart 4 none, Cond.methodLink RX8 114 yX8_comesCrew, Cond.instanceMethod yX8_comesCrew, Cond.selects RX8 yX8_comesCrew yX8_comesCrew, Cond.code yX8_comesCrew cX8_comesCrew 5 (some .int), Cond.methodLink RX8 64 yX8_setCrew, Cond.instanceMethod yX8_setCrew, Cond.selects RX8 yX8_setCrew yX8_setCrew, Cond.code yX8_setCrew cX8_setCrew 4 none, Cond.methodLink RX8 123 yX8_passes]
def wsX8_does_r2 : List Cond := [Cond.instanceMethod yX8_passes, Cond.selects RX8 yX8_passes yX8_passes, Cond.code yX8_passes cX8_passes 4 (some .int), Cond.methodLink RX8 92 yX8_passesOne, Cond.instanceMethod yX8_passesOne, Cond.selects RX8 yX8_passesOne yX8_passesOne, Cond.code yX8_passesOne cX8_passesOne 4 (some .int), Cond.methodLink RX8 80 yX8_lorries, Cond.instanceMethod yX8_lorries, Cond.selects RX8 yX8_lorries yX8_lorries, Cond.code yX8_lorries cX8_lorries 3 none, Cond.methodLink RX8 44 yX8_isHow, Cond.instanceMethod yX8_isHow, Cond.selects RX8 yX8_isHow yX8_isHow, Cond.code yX8_isHow cX8_isHow 3 (some .boolean), Cond.methodLink RX8 40 yX8_part, Cond.instanceMethod yX8_part, Cond.selects RX8 yX8_part yX8_part, Cond.code yX8_part cX8_part 3 (some .int), Cond.methodLink RX8 52 yX8_meters, Cond.instanceMethod yX8_meters, Cond.selects RX8 yX8_meters yX8_meters, Cond.code yX8_meters cX8_meters 3 (some .int), Cond.methodLink RX8 73 yX8_ofCrewPart]
def wsX8_does_r3 : List Cond := [Cond.instanceMethod yX8_ofCrewPart, Cond.selects RX8 yX8_ofCrewPart yX8_ofCrewPart, Cond.code yX8_ofCrewPart cX8_ofCrewPart 3 (some .int), Cond.methodLink RX8 83 yX8_nextStand, Cond.instanceMethod yX8_nextStand, Cond.selects RX8 yX8_nextStand yX8_nextStand, Cond.code yX8_nextStand cX8_nextStand 5 (some .int), Cond.methodLink RX8 56 yX8_standingOn, Cond.instanceMethod yX8_standingOn, Cond.selects RX8 yX8_standingOn yX8_standingOn, Cond.code yX8_standingOn cX8_standingOn 4 (some .int), Cond.methodLink RX8 60 yX8_hasBase, Cond.instanceMethod yX8_hasBase, Cond.selects RX8 yX8_hasBase yX8_hasBase, Cond.code yX8_hasBase cX8_hasBase 2 (some .boolean), Cond.methodLink RX8 86 yX8_takes, Cond.instanceMethod yX8_takes, Cond.selects RX8 yX8_takes yX8_takes, Cond.code yX8_takes cX8_takes 4 none, Cond.methodLink RX8 89 yX8_works, Cond.instanceMethod yX8_works, Cond.selects RX8 yX8_works yX8_works, Cond.code yX8_works cX8_works 4 (some .boolean), Cond.methodLink RX8 76 yX8_finishes]
def wsX8_does_r4 : List Cond := [Cond.instanceMethod yX8_finishes, Cond.selects RX8 yX8_finishes yX8_finishes, Cond.code yX8_finishes cX8_finishes 4 none, Cond.methodLink RX8 70 yX8_leastLoaded, Cond.instanceMethod yX8_leastLoaded, Cond.selects RX8 yX8_leastLoaded yX8_leastLoaded, Cond.code yX8_leastLoaded cX8_leastLoaded 3 (some .int), Cond.methodLink RX8 67 yX8_loadOf, Cond.instanceMethod yX8_loadOf, Cond.selects RX8 yX8_loadOf yX8_loadOf, Cond.code yX8_loadOf cX8_loadOf 4 (some .int), Cond.methodLink RX8 117 yX8_ends, Cond.instanceMethod yX8_ends, Cond.selects RX8 yX8_ends yX8_ends, Cond.code yX8_ends cX8_ends 3 (some .int)]
def wsX8_does : List Cond := .code yX8_does cX8_does 1 none :: ((wsX8_does_r1 ++ (wsX8_does_r2 ++ (wsX8_does_r3 ++ wsX8_does_r4))) ++ wsX80)
def wsX8_carryOut_r1 : List Cond := [Cond.fieldLink RX8 156 "HallBuildsModel" "at" "I", Cond.fieldLink RX8 141 "HallBuildsModel" "padLength" "I", Cond.methodLink RX8 192 yX8_findFault, Cond.instanceMethod yX8_findFault, Cond.selects RX8 yX8_findFault yX8_findFault, Cond.initialized RX8, Cond.code yX8_findFault cX8_findFault 1 (some .int), Cond.methodLink RX8 189 yX8_readsOrder, Cond.instanceMethod yX8_readsOrder, Cond.selects RX8 yX8_readsOrder yX8_readsOrder, Cond.code yX8_readsOrder cX8_readsOrder 1 (some .boolean), Cond.fieldLink RX8 183 "HallBuildsModel" "letter" "I", Cond.fieldLink RX8 168 "HallBuildsModel" "first" "I", Cond.fieldLink RX8 174 "HallBuildsModel" "second" "I", Cond.methodLink RX8 159 yX8_character, Cond.instanceMethod yX8_character, Cond.selects RX8 yX8_character yX8_character, Cond.code yX8_character cX8_character 2 (some .int), Cond.fieldLink RX8 25 "HallBuildsModel" "pad" "[I", Cond.methodLink RX8 186 yX8_readsStand, Cond.instanceMethod yX8_readsStand, Cond.selects RX8 yX8_readsStand yX8_readsStand, Cond.code yX8_readsStand cX8_readsStand 1 (some .boolean), Cond.fieldLink RX8 177 "HallBuildsModel" "third" "I"]
def wsX8_carryOut_r2 : List Cond := [Cond.fieldLink RX8 180 "HallBuildsModel" "fourth" "I", Cond.methodLink RX8 165 yX8_takeNumber, Cond.instanceMethod yX8_takeNumber, Cond.selects RX8 yX8_takeNumber yX8_takeNumber, Cond.code yX8_takeNumber cX8_takeNumber 2 (some .int), Cond.methodLink RX8 162 yX8_takeDigit, Cond.instanceMethod yX8_takeDigit, Cond.selects RX8 yX8_takeDigit yX8_takeDigit, Cond.code yX8_takeDigit cX8_takeDigit 3 (some .int), Cond.methodLink RX8 36 yX8_within, Cond.static yX8_within, Cond.code yX8_within cX8_within 3 (some .boolean), Cond.methodLink RX8 171 yX8_isNext, Cond.instanceMethod yX8_isNext, Cond.selects RX8 yX8_isNext yX8_isNext, Cond.code yX8_isNext cX8_isNext 3 (some .boolean), Cond.methodLink RX8 98 yX8_record, Cond.instanceMethod yX8_record, Cond.selects RX8 yX8_record yX8_record, Cond.code yX8_record cX8_record 2 none, Cond.fieldLink RX8 28 "HallBuildsModel" "recorded" "I", Cond.fieldLink RX8 16 "HallBuildsModel" "history" "[I", Cond.fieldLink RX8 7 "HallBuildsModel" "state" "[I", Cond.methodLink RX8 32 yX8_moves]
def wsX8_carryOut_r3 : List Cond := [Cond.static yX8_moves, Cond.code yX8_moves cX8_moves 5 none, Cond.methodLink RX8 195 yX8_whyNotDone, Cond.instanceMethod yX8_whyNotDone, Cond.selects RX8 yX8_whyNotDone yX8_whyNotDone, Cond.code yX8_whyNotDone cX8_whyNotDone 1 (some .int), Cond.methodLink RX8 104 yX8_whyNoStand, Cond.instanceMethod yX8_whyNoStand, Cond.selects RX8 yX8_whyNoStand yX8_whyNoStand, Cond.code yX8_whyNoStand cX8_whyNoStand 5 (some .int), Cond.methodLink RX8 101 yX8_isStand, Cond.instanceMethod yX8_isStand, Cond.selects RX8 yX8_isStand yX8_isStand, Cond.code yX8_isStand cX8_isStand 2 (some .boolean), Cond.methodLink RX8 44 yX8_isHow, Cond.instanceMethod yX8_isHow, Cond.selects RX8 yX8_isHow yX8_isHow, Cond.code yX8_isHow cX8_isHow 3 (some .boolean), Cond.methodLink RX8 40 yX8_part, Cond.instanceMethod yX8_part, Cond.selects RX8 yX8_part yX8_part, Cond.code yX8_part cX8_part 3 (some .int), Cond.methodLink RX8 111 yX8_whyNoCrew, Cond.instanceMethod yX8_whyNoCrew]
def wsX8_carryOut_r4 : List Cond := [Cond.selects RX8 yX8_whyNoCrew yX8_whyNoCrew, Cond.code yX8_whyNoCrew cX8_whyNoCrew 3 (some .int), Cond.methodLink RX8 95 yX8_isValue, Cond.static yX8_isValue, Cond.code yX8_isValue cX8_isValue 2 (some .boolean), Cond.methodLink RX8 120 yX8_whyNotPassed, Cond.instanceMethod yX8_whyNotPassed, Cond.selects RX8 yX8_whyNotPassed yX8_whyNotPassed, Cond.code yX8_whyNotPassed cX8_whyNotPassed 2 (some .int), Cond.methodLink RX8 198 yX8_does, Cond.instanceMethod yX8_does, Cond.selects RX8 yX8_does yX8_does, Cond.code yX8_does cX8_does 1 none, Cond.methodLink RX8 108 yX8_comes, Cond.instanceMethod yX8_comes, Cond.selects RX8 yX8_comes yX8_comes, Cond.code yX8_comes cX8_comes 6 (some .int), Cond.methodLink RX8 48 yX8_setPart, Cond.instanceMethod yX8_setPart, Cond.selects RX8 yX8_setPart yX8_setPart, Cond.code yX8_setPart cX8_setPart 4 none, Cond.methodLink RX8 114 yX8_comesCrew, Cond.instanceMethod yX8_comesCrew, Cond.selects RX8 yX8_comesCrew yX8_comesCrew]
def wsX8_carryOut_r5 : List Cond := [Cond.code yX8_comesCrew cX8_comesCrew 5 (some .int), Cond.methodLink RX8 64 yX8_setCrew, Cond.instanceMethod yX8_setCrew, Cond.selects RX8 yX8_setCrew yX8_setCrew, Cond.code yX8_setCrew cX8_setCrew 4 none, Cond.methodLink RX8 123 yX8_passes, Cond.instanceMethod yX8_passes, Cond.selects RX8 yX8_passes yX8_passes, Cond.code yX8_passes cX8_passes 4 (some .int), Cond.methodLink RX8 92 yX8_passesOne, Cond.instanceMethod yX8_passesOne, Cond.selects RX8 yX8_passesOne yX8_passesOne, Cond.code yX8_passesOne cX8_passesOne 4 (some .int), Cond.methodLink RX8 80 yX8_lorries, Cond.instanceMethod yX8_lorries, Cond.selects RX8 yX8_lorries yX8_lorries, Cond.code yX8_lorries cX8_lorries 3 none, Cond.methodLink RX8 52 yX8_meters, Cond.instanceMethod yX8_meters, Cond.selects RX8 yX8_meters yX8_meters, Cond.code yX8_meters cX8_meters 3 (some .int), Cond.methodLink RX8 73 yX8_ofCrewPart, Cond.instanceMethod yX8_ofCrewPart, Cond.selects RX8 yX8_ofCrewPart yX8_ofCrewPart]
def wsX8_carryOut_r6 : List Cond := [Cond.code yX8_ofCrewPart cX8_ofCrewPart 3 (some .int), Cond.methodLink RX8 83 yX8_nextStand, Cond.instanceMethod yX8_nextStand, Cond.selects RX8 yX8_nextStand yX8_nextStand, Cond.code yX8_nextStand cX8_nextStand 5 (some .int), Cond.methodLink RX8 56 yX8_standingOn, Cond.instanceMethod yX8_standingOn, Cond.selects RX8 yX8_standingOn yX8_standingOn, Cond.code yX8_standingOn cX8_standingOn 4 (some .int), Cond.methodLink RX8 60 yX8_hasBase, Cond.instanceMethod yX8_hasBase, Cond.selects RX8 yX8_hasBase yX8_hasBase, Cond.code yX8_hasBase cX8_hasBase 2 (some .boolean), Cond.methodLink RX8 86 yX8_takes, Cond.instanceMethod yX8_takes, Cond.selects RX8 yX8_takes yX8_takes, Cond.code yX8_takes cX8_takes 4 none, Cond.methodLink RX8 89 yX8_works, Cond.instanceMethod yX8_works, Cond.selects RX8 yX8_works yX8_works, Cond.code yX8_works cX8_works 4 (some .boolean), Cond.methodLink RX8 76 yX8_finishes, Cond.instanceMethod yX8_finishes, Cond.selects RX8 yX8_finishes yX8_finishes]
def wsX8_carryOut_r7 : List Cond := [Cond.code yX8_finishes cX8_finishes 4 none, Cond.methodLink RX8 70 yX8_leastLoaded, Cond.instanceMethod yX8_leastLoaded, Cond.selects RX8 yX8_leastLoaded yX8_leastLoaded, Cond.code yX8_leastLoaded cX8_leastLoaded 3 (some .int), Cond.methodLink RX8 67 yX8_loadOf, Cond.instanceMethod yX8_loadOf, Cond.selects RX8 yX8_loadOf yX8_loadOf, Cond.code yX8_loadOf cX8_loadOf 4 (some .int), Cond.methodLink RX8 117 yX8_ends, Cond.instanceMethod yX8_ends, Cond.selects RX8 yX8_ends yX8_ends, Cond.code yX8_ends cX8_ends 3 (some .int)]
def wsX8_carryOut : List Cond := .code yX8_carryOut cX8_carryOut 3 (some .int) :: ((wsX8_carryOut_r1 ++ (wsX8_carryOut_r2 ++ (wsX8_carryOut_r3 ++ (wsX8_carryOut_r4 ++ (wsX8_carryOut_r5 ++ (wsX8_carryOut_r6 ++ wsX8_carryOut_r7)))))) ++ wsX80)
def wsX8_undo : List Cond := .code yX8_undo cX8_undo 1 (some .int) :: ([.fieldLink RX8 28 "HallBuildsModel" "recorded" "I", .fieldLink RX8 16 "HallBuildsModel" "history" "[I", .fieldLink RX8 7 "HallBuildsModel" "state" "[I", .methodLink RX8 32 yX8_moves, .static yX8_moves, .initialized RX8, .code yX8_moves cX8_moves 5 none] ++ wsX80)
def wsX8_save : List Cond := .code yX8_save cX8_save 2 (some .int) :: ([.fieldLink RX8 7 "HallBuildsModel" "state" "[I", .fieldLink RX8 19 "HallBuildsModel" "slots" "[I", .fieldLink RX8 22 "HallBuildsModel" "isSaved" "[I", .methodLink RX8 36 yX8_within, .static yX8_within, .initialized RX8, .code yX8_within cX8_within 3 (some .boolean), .methodLink RX8 32 yX8_moves, .static yX8_moves, .code yX8_moves cX8_moves 5 none] ++ wsX80)
def wsX8_restore : List Cond := .code yX8_restore cX8_restore 2 (some .int) :: ([.fieldLink RX8 22 "HallBuildsModel" "isSaved" "[I", .fieldLink RX8 19 "HallBuildsModel" "slots" "[I", .fieldLink RX8 7 "HallBuildsModel" "state" "[I", .methodLink RX8 36 yX8_within, .static yX8_within, .initialized RX8, .code yX8_within cX8_within 3 (some .boolean), .methodLink RX8 98 yX8_record, .instanceMethod yX8_record, .selects RX8 yX8_record yX8_record, .code yX8_record cX8_record 2 none, .fieldLink RX8 28 "HallBuildsModel" "recorded" "I", .fieldLink RX8 16 "HallBuildsModel" "history" "[I", .methodLink RX8 32 yX8_moves, .static yX8_moves, .code yX8_moves cX8_moves 5 none] ++ wsX80)
def wsJ9_max_7cf53 : List Cond := .code yJ9_max_7cf53 cJ9_max_7cf53 2 (some .int) :: ([])
def wsJ9_min_7cf53 : List Cond := .code yJ9_min_7cf53 cJ9_min_7cf53 2 (some .int) :: ([])
def wsL_law_r1 : List Cond := [Cond.classLink RL 7 RX7, Cond.instantiable RX7 6, Cond.initialized RX7, Cond.classLink RL 10 RX8, Cond.instantiable RX8 14, Cond.initialized RX8, Cond.constantLong RL 73 (4294967295), Cond.methodLink RL 9 yX7_init, Cond.instanceMethod yX7_init, Cond.code yX7_init cX7_init 1 none, Cond.methodLink RX7 1 objectInit, Cond.instanceMethod objectInit, Cond.code objectInit ⟨#[0xb1]⟩ 1 none, Cond.classLink RX7 7 RX1, Cond.instantiable RX1 7, Cond.initialized RX1, Cond.fieldLink RX7 10 "HallBuilds" "hall" "LHallBuilds$Hall;", Cond.fieldLink RX7 16 "HallBuilds" "trial" "LHallBuilds$Hall;", Cond.classLink RX7 19 RX2, Cond.instantiable RX2 3, Cond.initialized RX2, Cond.fieldLink RX7 22 "HallBuilds" "history" "LHallBuilds$History;", Cond.classLink RX7 26 RX5, Cond.instantiable RX5 2]
def wsL_law_r2 : List Cond := [Cond.initialized RX5, Cond.fieldLink RX7 29 "HallBuilds" "slots" "LHallBuilds$Slots;", Cond.classLink RX7 33 RX3, Cond.instantiable RX3 8, Cond.initialized RX3, Cond.fieldLink RX7 36 "HallBuilds" "reader" "LHallBuilds$OrderReader;", Cond.fieldLink RX7 44 "HallBuilds" "pad" "LHallBuilds$Pad;", Cond.instanceMethod yX1_init, Cond.code yX1_init cX1_init 1 none, Cond.methodLink RX1 3 objectInit, Cond.methodLink RX1 13 ⟨"[I", "clone", "()Ljava/lang/Object;"⟩, Cond.sameMethod "[I" "java/lang/Object" "clone" "()Ljava/lang/Object;", Cond.native ⟨"java/lang/Object", "clone", "()Ljava/lang/Object;"⟩, Cond.instanceMethod ⟨"java/lang/Object", "clone", "()Ljava/lang/Object;"⟩, Cond.selects "[I" ⟨"[I", "clone", "()Ljava/lang/Object;"⟩ ⟨"java/lang/Object", "clone", "()Ljava/lang/Object;"⟩, Cond.classLink RX1 14 "[I", Cond.fieldLink RX1 18 "HallBuilds$Hall" "settings" "[I", Cond.arrayClass .int, Cond.fieldLink RX1 23 "HallBuilds$Hall" "loads" "[I", Cond.classLink RX1 26 RX6, Cond.instantiable RX6 11, Cond.initialized RX6, Cond.fieldLink RX1 29 "HallBuilds$Hall" "stands" "LHallBuilds$Stands;", Cond.classLink RX1 33 RX0]
def wsL_law_r3 : List Cond := [Cond.instantiable RX0 7, Cond.initialized RX0, Cond.fieldLink RX1 36 "HallBuilds$Hall" "crews" "LHallBuilds$Crews;", Cond.instanceMethod yX6_init, Cond.code yX6_init cX6_init 1 none, Cond.methodLink RX6 3 objectInit, Cond.fieldLink RX6 9 "HallBuilds$Stands" "hours" "[I", Cond.fieldLink RX6 15 "HallBuilds$Stands" "length" "[I", Cond.fieldLink RX6 18 "HallBuilds$Stands" "power" "[I", Cond.fieldLink RX6 21 "HallBuilds$Stands" "base" "[I", Cond.fieldLink RX6 24 "HallBuilds$Stands" "state" "[I", Cond.fieldLink RX6 27 "HallBuilds$Stands" "left" "[I", Cond.fieldLink RX6 30 "HallBuilds$Stands" "phase" "[I", Cond.fieldLink RX6 33 "HallBuilds$Stands" "crew" "[I", Cond.fieldLink RX6 36 "HallBuilds$Stands" "spent" "[I", Cond.fieldLink RX6 39 "HallBuilds$Stands" "leaving" "[I", Cond.instanceMethod yX0_init, Cond.code yX0_init cX0_init 1 none, Cond.methodLink RX0 3 objectInit, Cond.fieldLink RX0 9 "HallBuilds$Crews" "speed" "[I", Cond.fieldLink RX0 15 "HallBuilds$Crews" "rate" "[I", Cond.fieldLink RX0 18 "HallBuilds$Crews" "stand" "[I", Cond.fieldLink RX0 21 "HallBuilds$Crews" "worked" "[I", Cond.fieldLink RX0 24 "HallBuilds$Crews" "built" "[I"]
def wsL_law_r4 : List Cond := [Cond.fieldLink RX0 27 "HallBuilds$Crews" "dismantled" "[I", Cond.methodLink RX7 21 yX2_init, Cond.instanceMethod yX2_init, Cond.code yX2_init cX2_init 2 none, Cond.methodLink RX2 3 objectInit, Cond.classLink RX2 9 RX1, Cond.fieldLink RX2 11 "HallBuilds$History" "states" "[LHallBuilds$Hall;", Cond.methodLink RX7 28 yX5_init, Cond.instanceMethod yX5_init, Cond.code yX5_init cX5_init 2 none, Cond.methodLink RX5 3 objectInit, Cond.classLink RX5 9 RX1, Cond.fieldLink RX5 11 "HallBuilds$Slots" "states" "[LHallBuilds$Hall;", Cond.arrayClass .boolean, Cond.fieldLink RX5 17 "HallBuilds$Slots" "saved" "[Z", Cond.instanceMethod yX3_init, Cond.code yX3_init cX3_init 1 none, Cond.methodLink RX3 3 objectInit, Cond.classLink RX3 9 RX4, Cond.instantiable RX4 2, Cond.initialized RX4, Cond.fieldLink RX3 12 "HallBuilds$OrderReader" "pad" "LHallBuilds$Pad;", Cond.instanceMethod yX4_init, Cond.code yX4_init cX4_init 1 none]
def wsL_law_r5 : List Cond := [Cond.methodLink RX4 3 objectInit, Cond.arrayClass .char, Cond.fieldLink RX4 9 "HallBuilds$Pad" "text" "[C", Cond.methodLink RL 12 yX8_init, Cond.instanceMethod yX8_init, Cond.code yX8_init cX8_init 1 none, Cond.methodLink RX8 1 objectInit, Cond.fieldLink RX8 7 "HallBuildsModel" "state" "[I", Cond.fieldLink RX8 13 "HallBuildsModel" "kept" "[I", Cond.fieldLink RX8 16 "HallBuildsModel" "history" "[I", Cond.fieldLink RX8 19 "HallBuildsModel" "slots" "[I", Cond.fieldLink RX8 22 "HallBuildsModel" "isSaved" "[I", Cond.fieldLink RX8 25 "HallBuildsModel" "pad" "[I", Cond.methodLink RL 13 yX7_set, Cond.instanceMethod yX7_set, Cond.selects RX7 yX7_set yX7_set, Cond.code yX7_set cX7_set 3 (some .int), Cond.methodLink RX7 45 yX2_prepare, Cond.instanceMethod yX2_prepare, Cond.selects RX2 yX2_prepare yX2_prepare, Cond.code yX2_prepare cX2_prepare 3 none, Cond.fieldLink RX2 18 "HallBuilds$History" "next" "I", Cond.methodLink RX2 22 yX2_stateAt, Cond.instanceMethod yX2_stateAt]
def wsL_law_r6 : List Cond := [Cond.selects RX2 yX2_stateAt yX2_stateAt, Cond.code yX2_stateAt cX2_stateAt 2 (some (.object "HallBuilds$Hall")), Cond.methodLink RX2 26 yX1_copyFrom, Cond.instanceMethod yX1_copyFrom, Cond.selects RX1 yX1_copyFrom yX1_copyFrom, Cond.code yX1_copyFrom cX1_copyFrom 2 none, Cond.fieldLink RX1 51 "HallBuilds$Hall" "hour" "I", Cond.fieldLink RX1 55 "HallBuilds$Hall" "ended" "Z", Cond.fieldLink RX1 59 "HallBuilds$Hall" "lost" "I", Cond.static yX7_copyRow, Cond.code yX7_copyRow cX7_copyRow 2 none, Cond.methodLink RX7 166 Lib.Math.min.name, Cond.static Lib.Math.min.name, Cond.initialized "java/lang/Math", Cond.code Lib.Math.min.name Lib.Math.min.code 2 (some .int), Cond.methodLink RX7 171 arraycopyName, Cond.native arraycopyName, Cond.static arraycopyName, Cond.initialized "java/lang/System", Cond.methodLink RX1 44 yX6_copyFrom, Cond.instanceMethod yX6_copyFrom, Cond.selects RX6 yX6_copyFrom yX6_copyFrom, Cond.code yX6_copyFrom cX6_copyFrom 2 none, Cond.fieldLink RX6 42 "HallBuilds$Stands" "count" "I"]
def wsL_law_r7 : List Cond := [Cond.methodLink RX1 48 yX0_copyFrom, Cond.instanceMethod yX0_copyFrom, Cond.selects RX0 yX0_copyFrom yX0_copyFrom, Cond.code yX0_copyFrom cX0_copyFrom 2 none, Cond.fieldLink RX0 30 "HallBuilds$Crews" "count" "I", Cond.methodLink RX7 49 yX1_changeSetting, Cond.instanceMethod yX1_changeSetting, Cond.selects RX1 yX1_changeSetting yX1_changeSetting, Cond.code yX1_changeSetting cX1_changeSetting 4 (some .int), Cond.static yX7_isWithin, Cond.code yX7_isWithin cX7_isWithin 3 (some .boolean), Cond.methodLink RX7 53 yX2_settle, Cond.instanceMethod yX2_settle, Cond.selects RX2 yX2_settle yX2_settle, Cond.code yX2_settle cX2_settle 2 (some .int), Cond.fieldLink RX2 30 "HallBuilds$History" "kept" "I", Cond.methodLink RX2 33 Lib.Math.min.name, Cond.methodLink RL 17 yX8_set, Cond.instanceMethod yX8_set, Cond.selects RX8 yX8_set yX8_set, Cond.code yX8_set cX8_set 4 (some .int), Cond.methodLink RX8 95 yX8_isValue, Cond.static yX8_isValue, Cond.code yX8_isValue cX8_isValue 2 (some .boolean)]
def wsL_law_r8 : List Cond := [Cond.methodLink RX8 36 yX8_within, Cond.static yX8_within, Cond.code yX8_within cX8_within 3 (some .boolean), Cond.methodLink RX8 98 yX8_record, Cond.instanceMethod yX8_record, Cond.selects RX8 yX8_record yX8_record, Cond.code yX8_record cX8_record 2 none, Cond.fieldLink RX8 28 "HallBuildsModel" "recorded" "I", Cond.methodLink RX8 32 yX8_moves, Cond.static yX8_moves, Cond.code yX8_moves cX8_moves 5 none, Cond.methodLink RL 18 yX7_stand, Cond.instanceMethod yX7_stand, Cond.selects RX7 yX7_stand yX7_stand, Cond.code yX7_stand cX7_stand 5 (some .int), Cond.methodLink RX7 57 yX1_addStand, Cond.instanceMethod yX1_addStand, Cond.selects RX1 yX1_addStand yX1_addStand, Cond.code yX1_addStand cX1_addStand 5 (some .int), Cond.methodLink RX1 69 yX6_has, Cond.instanceMethod yX6_has, Cond.selects RX6 yX6_has yX6_has, Cond.code yX6_has cX6_has 2 (some .boolean), Cond.methodLink RX1 76 yX6_isGone]
def wsL_law_r9 : List Cond := [Cond.instanceMethod yX6_isGone, Cond.selects RX6 yX6_isGone yX6_isGone, Cond.code yX6_isGone cX6_isGone 2 (some .boolean), Cond.methodLink RX6 50 yX6_has, Cond.methodLink RX1 79 yX6_append, Cond.instanceMethod yX6_append, Cond.selects RX6 yX6_append yX6_append, Cond.code yX6_append cX6_append 6 (some .int), Cond.methodLink RL 22 yX8_stand, Cond.instanceMethod yX8_stand, Cond.selects RX8 yX8_stand yX8_stand, Cond.code yX8_stand cX8_stand 6 (some .int), Cond.methodLink RX8 104 yX8_whyNoStand, Cond.instanceMethod yX8_whyNoStand, Cond.selects RX8 yX8_whyNoStand yX8_whyNoStand, Cond.code yX8_whyNoStand cX8_whyNoStand 5 (some .int), Cond.methodLink RX8 101 yX8_isStand, Cond.instanceMethod yX8_isStand, Cond.selects RX8 yX8_isStand yX8_isStand, Cond.code yX8_isStand cX8_isStand 2 (some .boolean), Cond.methodLink RX8 44 yX8_isHow, Cond.instanceMethod yX8_isHow, Cond.selects RX8 yX8_isHow yX8_isHow, Cond.code yX8_isHow cX8_isHow 3 (some .boolean)]
def wsL_law_r10 : List Cond := [Cond.methodLink RX8 40 yX8_part, Cond.instanceMethod yX8_part, Cond.selects RX8 yX8_part yX8_part, Cond.code yX8_part cX8_part 3 (some .int), Cond.methodLink RX8 108 yX8_comes, Cond.instanceMethod yX8_comes, Cond.selects RX8 yX8_comes yX8_comes, Cond.code yX8_comes cX8_comes 6 (some .int), Cond.methodLink RX8 48 yX8_setPart, Cond.instanceMethod yX8_setPart, Cond.selects RX8 yX8_setPart yX8_setPart, Cond.code yX8_setPart cX8_setPart 4 none, Cond.methodLink RL 23 yX7_crew, Cond.instanceMethod yX7_crew, Cond.selects RX7 yX7_crew yX7_crew, Cond.code yX7_crew cX7_crew 3 (some .int), Cond.methodLink RX7 61 yX1_addCrew, Cond.instanceMethod yX1_addCrew, Cond.selects RX1 yX1_addCrew yX1_addCrew, Cond.code yX1_addCrew cX1_addCrew 3 (some .int), Cond.methodLink RX1 83 yX0_append, Cond.instanceMethod yX0_append, Cond.selects RX0 yX0_append yX0_append, Cond.code yX0_append cX0_append 4 (some .int)]
def wsL_law_r11 : List Cond := [Cond.methodLink RL 26 yX8_crew, Cond.instanceMethod yX8_crew, Cond.selects RX8 yX8_crew yX8_crew, Cond.code yX8_crew cX8_crew 4 (some .int), Cond.methodLink RX8 111 yX8_whyNoCrew, Cond.instanceMethod yX8_whyNoCrew, Cond.selects RX8 yX8_whyNoCrew yX8_whyNoCrew, Cond.code yX8_whyNoCrew cX8_whyNoCrew 3 (some .int), Cond.methodLink RX8 114 yX8_comesCrew, Cond.instanceMethod yX8_comesCrew, Cond.selects RX8 yX8_comesCrew yX8_comesCrew, Cond.code yX8_comesCrew cX8_comesCrew 5 (some .int), Cond.methodLink RX8 64 yX8_setCrew, Cond.instanceMethod yX8_setCrew, Cond.selects RX8 yX8_setCrew yX8_setCrew, Cond.code yX8_setCrew cX8_setCrew 4 none, Cond.methodLink RL 27 yX7_end, Cond.instanceMethod yX7_end, Cond.selects RX7 yX7_end yX7_end, Cond.code yX7_end cX7_end 1 (some .int), Cond.methodLink RX7 64 yX1_endFair, Cond.instanceMethod yX1_endFair, Cond.selects RX1 yX1_endFair yX1_endFair, Cond.code yX1_endFair cX1_endFair 1 (some .int)]
def wsL_law_r12 : List Cond := [Cond.methodLink RX1 86 yX0_letAllGo, Cond.instanceMethod yX0_letAllGo, Cond.selects RX0 yX0_letAllGo yX0_letAllGo, Cond.code yX0_letAllGo cX0_letAllGo 2 none, Cond.methodLink RX1 89 yX6_clearUnbuilt, Cond.instanceMethod yX6_clearUnbuilt, Cond.selects RX6 yX6_clearUnbuilt yX6_clearUnbuilt, Cond.code yX6_clearUnbuilt cX6_clearUnbuilt 3 (some .int), Cond.methodLink RL 31 yX8_end, Cond.instanceMethod yX8_end, Cond.selects RX8 yX8_end yX8_end, Cond.code yX8_end cX8_end 1 (some .int), Cond.methodLink RX8 117 yX8_ends, Cond.instanceMethod yX8_ends, Cond.selects RX8 yX8_ends yX8_ends, Cond.code yX8_ends cX8_ends 3 (some .int), Cond.methodLink RL 32 yX7_find, Cond.instanceMethod yX7_find, Cond.selects RX7 yX7_find yX7_find, Cond.code yX7_find cX7_find 1 (some .int), Cond.methodLink RX7 68 yX1_findLost, Cond.instanceMethod yX1_findLost, Cond.selects RX1 yX1_findLost yX1_findLost, Cond.code yX1_findLost cX1_findLost 1 (some .int)]
def wsL_law_r13 : List Cond := [Cond.methodLink RL 35 yX8_find, Cond.instanceMethod yX8_find, Cond.selects RX8 yX8_find yX8_find, Cond.code yX8_find cX8_find 1 (some .int), Cond.methodLink RL 36 yX7_pass, Cond.instanceMethod yX7_pass, Cond.selects RX7 yX7_pass yX7_pass, Cond.code yX7_pass cX7_pass 2 (some .int), Cond.methodLink RX7 71 yX1_passHours, Cond.instanceMethod yX1_passHours, Cond.selects RX1 yX1_passHours yX1_passHours, Cond.code yX1_passHours cX1_passHours 4 (some .int), Cond.methodLink RX1 93 yX1_passOneHour, Cond.instanceMethod yX1_passOneHour, Cond.selects RX1 yX1_passOneHour yX1_passOneHour, Cond.code yX1_passOneHour cX1_passOneHour 2 (some .int), Cond.methodLink RX1 135 yX1_lorriesLeave, Cond.instanceMethod yX1_lorriesLeave, Cond.selects RX1 yX1_lorriesLeave yX1_lorriesLeave, Cond.code yX1_lorriesLeave cX1_lorriesLeave 2 none, Cond.methodLink RX1 138 yX1_lorriesCome, Cond.instanceMethod yX1_lorriesCome, Cond.selects RX1 yX1_lorriesCome yX1_lorriesCome, Cond.code yX1_lorriesCome cX1_lorriesCome 3 none]
def wsL_law_r14 : List Cond := [Cond.methodLink RX1 101 yX6_metersAtDock, Cond.instanceMethod yX6_metersAtDock, Cond.selects RX6 yX6_metersAtDock yX6_metersAtDock, Cond.code yX6_metersAtDock cX6_metersAtDock 3 (some .int), Cond.methodLink RX1 141 yX1_crewsTakeStands, Cond.instanceMethod yX1_crewsTakeStands, Cond.selects RX1 yX1_crewsTakeStands yX1_crewsTakeStands, Cond.code yX1_crewsTakeStands cX1_crewsTakeStands 3 none, Cond.methodLink RX1 162 yX6_nextToDismantle, Cond.instanceMethod yX6_nextToDismantle, Cond.selects RX6 yX6_nextToDismantle yX6_nextToDismantle, Cond.code yX6_nextToDismantle cX6_nextToDismantle 2 (some .int), Cond.methodLink RX6 54 yX6_standingOn, Cond.instanceMethod yX6_standingOn, Cond.selects RX6 yX6_standingOn yX6_standingOn, Cond.code yX6_standingOn cX6_standingOn 4 (some .int), Cond.methodLink RX1 165 yX6_nextToBuild, Cond.instanceMethod yX6_nextToBuild, Cond.selects RX6 yX6_nextToBuild yX6_nextToBuild, Cond.code yX6_nextToBuild cX6_nextToBuild 2 (some .int), Cond.methodLink RX6 58 yX6_baseIsBuilt, Cond.instanceMethod yX6_baseIsBuilt, Cond.selects RX6 yX6_baseIsBuilt yX6_baseIsBuilt, Cond.code yX6_baseIsBuilt cX6_baseIsBuilt 3 (some .boolean)]
def wsL_law_r15 : List Cond := [Cond.methodLink RX1 171 yX1_beginToDismantle, Cond.instanceMethod yX1_beginToDismantle, Cond.selects RX1 yX1_beginToDismantle yX1_beginToDismantle, Cond.code yX1_beginToDismantle cX1_beginToDismantle 2 none, Cond.methodLink RX1 174 yX1_takeOffPhase, Cond.instanceMethod yX1_takeOffPhase, Cond.selects RX1 yX1_takeOffPhase yX1_takeOffPhase, Cond.code yX1_takeOffPhase cX1_takeOffPhase 3 none, Cond.methodLink RX1 144 yX1_crewsWork, Cond.instanceMethod yX1_crewsWork, Cond.selects RX1 yX1_crewsWork yX1_crewsWork, Cond.code yX1_crewsWork cX1_crewsWork 5 (some .int), Cond.methodLink RX1 186 Lib.Math.max.name, Cond.static Lib.Math.max.name, Cond.code Lib.Math.max.name Lib.Math.max.code 2 (some .int), Cond.methodLink RX1 189 yX1_finish, Cond.instanceMethod yX1_finish, Cond.selects RX1 yX1_finish yX1_finish, Cond.code yX1_finish cX1_finish 3 none, Cond.methodLink RX1 196 yX1_putOnPhase, Cond.instanceMethod yX1_putOnPhase, Cond.selects RX1 yX1_putOnPhase yX1_putOnPhase, Cond.code yX1_putOnPhase cX1_putOnPhase 4 none, Cond.methodLink RL 40 yX8_pass]
def wsL_law_r16 : List Cond := [Cond.instanceMethod yX8_pass, Cond.selects RX8 yX8_pass yX8_pass, Cond.code yX8_pass cX8_pass 3 (some .int), Cond.methodLink RX8 120 yX8_whyNotPassed, Cond.instanceMethod yX8_whyNotPassed, Cond.selects RX8 yX8_whyNotPassed yX8_whyNotPassed, Cond.code yX8_whyNotPassed cX8_whyNotPassed 2 (some .int), Cond.methodLink RX8 123 yX8_passes, Cond.instanceMethod yX8_passes, Cond.selects RX8 yX8_passes yX8_passes, Cond.code yX8_passes cX8_passes 4 (some .int), Cond.methodLink RX8 92 yX8_passesOne, Cond.instanceMethod yX8_passesOne, Cond.selects RX8 yX8_passesOne yX8_passesOne, Cond.code yX8_passesOne cX8_passesOne 4 (some .int), Cond.methodLink RX8 80 yX8_lorries, Cond.instanceMethod yX8_lorries, Cond.selects RX8 yX8_lorries yX8_lorries, Cond.code yX8_lorries cX8_lorries 3 none, Cond.methodLink RX8 52 yX8_meters, Cond.instanceMethod yX8_meters, Cond.selects RX8 yX8_meters yX8_meters, Cond.code yX8_meters cX8_meters 3 (some .int), Cond.methodLink RX8 73 yX8_ofCrewPart]
def wsL_law_r17 : List Cond := [Cond.instanceMethod yX8_ofCrewPart, Cond.selects RX8 yX8_ofCrewPart yX8_ofCrewPart, Cond.code yX8_ofCrewPart cX8_ofCrewPart 3 (some .int), Cond.methodLink RX8 83 yX8_nextStand, Cond.instanceMethod yX8_nextStand, Cond.selects RX8 yX8_nextStand yX8_nextStand, Cond.code yX8_nextStand cX8_nextStand 5 (some .int), Cond.methodLink RX8 56 yX8_standingOn, Cond.instanceMethod yX8_standingOn, Cond.selects RX8 yX8_standingOn yX8_standingOn, Cond.code yX8_standingOn cX8_standingOn 4 (some .int), Cond.methodLink RX8 60 yX8_hasBase, Cond.instanceMethod yX8_hasBase, Cond.selects RX8 yX8_hasBase yX8_hasBase, Cond.code yX8_hasBase cX8_hasBase 2 (some .boolean), Cond.methodLink RX8 86 yX8_takes, Cond.instanceMethod yX8_takes, Cond.selects RX8 yX8_takes yX8_takes, Cond.code yX8_takes cX8_takes 4 none, Cond.methodLink RX8 89 yX8_works, Cond.instanceMethod yX8_works, Cond.selects RX8 yX8_works yX8_works, Cond.code yX8_works cX8_works 4 (some .boolean), Cond.methodLink RX8 76 yX8_finishes]
def wsL_law_r18 : List Cond := [Cond.instanceMethod yX8_finishes, Cond.selects RX8 yX8_finishes yX8_finishes, Cond.code yX8_finishes cX8_finishes 4 none, Cond.methodLink RX8 70 yX8_leastLoaded, Cond.instanceMethod yX8_leastLoaded, Cond.selects RX8 yX8_leastLoaded yX8_leastLoaded, Cond.code yX8_leastLoaded cX8_leastLoaded 3 (some .int), Cond.methodLink RX8 67 yX8_loadOf, Cond.instanceMethod yX8_loadOf, Cond.selects RX8 yX8_loadOf yX8_loadOf, Cond.code yX8_loadOf cX8_loadOf 4 (some .int), Cond.methodLink RL 41 yX7_ofStand, Cond.instanceMethod yX7_ofStand, Cond.selects RX7 yX7_ofStand yX7_ofStand, Cond.code yX7_ofStand cX7_ofStand 3 (some .int), Cond.methodLink RX7 78 yX6_tell, Cond.instanceMethod yX6_tell, Cond.selects RX6 yX6_tell yX6_tell, Cond.code yX6_tell cX6_tell 3 (some .int), Cond.methodLink RL 44 yX8_ofStand, Cond.instanceMethod yX8_ofStand, Cond.selects RX8 yX8_ofStand yX8_ofStand, Cond.code yX8_ofStand cX8_ofStand 3 (some .int), Cond.methodLink RX8 126 yX8_leftOf]
def wsL_law_r19 : List Cond := [Cond.instanceMethod yX8_leftOf, Cond.selects RX8 yX8_leftOf yX8_leftOf, Cond.code yX8_leftOf cX8_leftOf 2 (some .int), Cond.methodLink RL 45 yX7_ofCrew, Cond.instanceMethod yX7_ofCrew, Cond.selects RX7 yX7_ofCrew yX7_ofCrew, Cond.code yX7_ofCrew cX7_ofCrew 3 (some .int), Cond.methodLink RX7 87 yX0_tell, Cond.instanceMethod yX0_tell, Cond.selects RX0 yX0_tell yX0_tell, Cond.code yX0_tell cX0_tell 3 (some .int), Cond.methodLink RL 48 yX8_ofCrew, Cond.instanceMethod yX8_ofCrew, Cond.selects RX8 yX8_ofCrew yX8_ofCrew, Cond.code yX8_ofCrew cX8_ofCrew 3 (some .int), Cond.methodLink RX8 129 yX8_isCrew, Cond.instanceMethod yX8_isCrew, Cond.selects RX8 yX8_isCrew yX8_isCrew, Cond.code yX8_isCrew cX8_isCrew 2 (some .boolean), Cond.methodLink RL 49 yX7_load, Cond.instanceMethod yX7_load, Cond.selects RX7 yX7_load yX7_load, Cond.code yX7_load cX7_load 2 (some .int), Cond.methodLink RX7 90 yX1_loadOf]
def wsL_law_r20 : List Cond := [Cond.instanceMethod yX1_loadOf, Cond.selects RX1 yX1_loadOf yX1_loadOf, Cond.code yX1_loadOf cX1_loadOf 2 (some .int), Cond.methodLink RL 52 yX8_load, Cond.instanceMethod yX8_load, Cond.selects RX8 yX8_load yX8_load, Cond.code yX8_load cX8_load 2 (some .int), Cond.methodLink RL 53 yX7_count, Cond.instanceMethod yX7_count, Cond.selects RX7 yX7_count yX7_count, Cond.code yX7_count cX7_count 2 (some .int), Cond.methodLink RX7 102 yX1_number, Cond.instanceMethod yX1_number, Cond.selects RX1 yX1_number yX1_number, Cond.code yX1_number cX1_number 2 (some .int), Cond.methodLink RX1 97 yX6_countIn, Cond.instanceMethod yX6_countIn, Cond.selects RX6 yX6_countIn yX6_countIn, Cond.code yX6_countIn cX6_countIn 4 (some .int), Cond.methodLink RX1 104 yX0_costs, Cond.instanceMethod yX0_costs, Cond.selects RX0 yX0_costs yX0_costs, Cond.code yX0_costs cX0_costs 3 (some .int), Cond.methodLink RX1 107 yX6_builtWithoutPower]
def wsL_law_r21 : List Cond := [Cond.instanceMethod yX6_builtWithoutPower, Cond.selects RX6 yX6_builtWithoutPower yX6_builtWithoutPower, Cond.code yX6_builtWithoutPower cX6_builtWithoutPower 3 (some .int), Cond.methodLink RL 56 yX8_count, Cond.instanceMethod yX8_count, Cond.selects RX8 yX8_count yX8_count, Cond.code yX8_count cX8_count 2 (some .int), Cond.fieldLink RX8 141 "HallBuildsModel" "padLength" "I", Cond.methodLink RX8 132 yX8_withHow, Cond.instanceMethod yX8_withHow, Cond.selects RX8 yX8_withHow yX8_withHow, Cond.code yX8_withHow cX8_withHow 4 (some .int), Cond.methodLink RX8 135 yX8_allCosts, Cond.instanceMethod yX8_allCosts, Cond.selects RX8 yX8_allCosts yX8_allCosts, Cond.code yX8_allCosts cX8_allCosts 3 (some .int), Cond.methodLink RX8 138 yX8_withoutPower, Cond.instanceMethod yX8_withoutPower, Cond.selects RX8 yX8_withoutPower yX8_withoutPower, Cond.code yX8_withoutPower cX8_withoutPower 3 (some .int), Cond.methodLink RL 57 yX7_waitsFor, Cond.instanceMethod yX7_waitsFor, Cond.selects RX7 yX7_waitsFor yX7_waitsFor, Cond.code yX7_waitsFor cX7_waitsFor 2 (some .int)]
def wsL_law_r22 : List Cond := [Cond.methodLink RX7 105 yX1_reasonToWait, Cond.instanceMethod yX1_reasonToWait, Cond.selects RX1 yX1_reasonToWait yX1_reasonToWait, Cond.code yX1_reasonToWait cX1_reasonToWait 2 (some .int), Cond.methodLink RX1 113 yX6_baseIsBuilt, Cond.methodLink RX1 116 yX6_standingOn, Cond.methodLink RL 60 yX8_waitsFor, Cond.instanceMethod yX8_waitsFor, Cond.selects RX8 yX8_waitsFor yX8_waitsFor, Cond.code yX8_waitsFor cX8_waitsFor 2 (some .int), Cond.methodLink RL 61 yX7_allIn, Cond.instanceMethod yX7_allIn, Cond.selects RX7 yX7_allIn yX7_allIn, Cond.code yX7_allIn cX7_allIn 1 (some .int), Cond.methodLink RX7 108 yX1_copyFrom, Cond.methodLink RX7 111 yX1_hoursUntilAllIn, Cond.instanceMethod yX1_hoursUntilAllIn, Cond.selects RX1 yX1_hoursUntilAllIn yX1_hoursUntilAllIn, Cond.code yX1_hoursUntilAllIn cX1_hoursUntilAllIn 6 (some .int), Cond.methodLink RX1 126 Lib.Math.min.name, Cond.methodLink RX1 119 yX1_allAreIn, Cond.instanceMethod yX1_allAreIn, Cond.selects RX1 yX1_allAreIn yX1_allAreIn, Cond.code yX1_allAreIn cX1_allAreIn 2 (some .boolean)]
def wsL_law_r23 : List Cond := [Cond.methodLink RX1 123 yX1_quietHours, Cond.instanceMethod yX1_quietHours, Cond.selects RX1 yX1_quietHours yX1_quietHours, Cond.code yX1_quietHours cX1_quietHours 5 (some .int), Cond.methodLink RX1 131 yX1_passQuietHours, Cond.instanceMethod yX1_passQuietHours, Cond.selects RX1 yX1_passQuietHours yX1_passQuietHours, Cond.code yX1_passQuietHours cX1_passQuietHours 2 none, Cond.methodLink RL 64 yX8_allIn, Cond.instanceMethod yX8_allIn, Cond.selects RX8 yX8_allIn yX8_allIn, Cond.code yX8_allIn cX8_allIn 1 (some .int), Cond.methodLink RX8 148 yX8_goesOn, Cond.instanceMethod yX8_goesOn, Cond.selects RX8 yX8_goesOn yX8_goesOn, Cond.code yX8_goesOn cX8_goesOn 2 (some .int), Cond.methodLink RX8 144 yX8_isAllDone, Cond.instanceMethod yX8_isAllDone, Cond.selects RX8 yX8_isAllDone yX8_isAllDone, Cond.code yX8_isAllDone cX8_isAllDone 1 (some .boolean), Cond.methodLink RL 65 yX7_withCrew, Cond.instanceMethod yX7_withCrew, Cond.selects RX7 yX7_withCrew yX7_withCrew, Cond.code yX7_withCrew cX7_withCrew 3 (some .int)]
def wsL_law_r24 : List Cond := [Cond.methodLink RL 68 yX8_withCrew, Cond.instanceMethod yX8_withCrew, Cond.selects RX8 yX8_withCrew yX8_withCrew, Cond.code yX8_withCrew cX8_withCrew 3 (some .int), Cond.methodLink RL 69 yX7_leastDock, Cond.instanceMethod yX7_leastDock, Cond.selects RX7 yX7_leastDock yX7_leastDock, Cond.code yX7_leastDock cX7_leastDock 3 (some .int), Cond.methodLink RX7 114 yX7_hoursWithDock, Cond.instanceMethod yX7_hoursWithDock, Cond.selects RX7 yX7_hoursWithDock yX7_hoursWithDock, Cond.code yX7_hoursWithDock cX7_hoursWithDock 3 (some .int), Cond.methodLink RL 72 yX8_leastDock, Cond.instanceMethod yX8_leastDock, Cond.selects RX8 yX8_leastDock yX8_leastDock, Cond.code yX8_leastDock cX8_leastDock 4 (some .int), Cond.methodLink RX8 151 yX8_allWith, Cond.instanceMethod yX8_allWith, Cond.selects RX8 yX8_allWith yX8_allWith, Cond.code yX8_allWith cX8_allWith 2 (some .int), Cond.methodLink RL 75 yX7_put, Cond.instanceMethod yX7_put, Cond.selects RX7 yX7_put yX7_put, Cond.code yX7_put cX7_put 3 (some .int)]
def wsL_law_r25 : List Cond := [Cond.methodLink RX7 117 yX4_append, Cond.instanceMethod yX4_append, Cond.selects RX4 yX4_append yX4_append, Cond.code yX4_append cX4_append 5 (some .int), Cond.fieldLink RX4 15 "HallBuilds$Pad" "length" "I", Cond.constantLong RX4 23 (255), Cond.methodLink RX4 19 yX4_wellFormed, Cond.static yX4_wellFormed, Cond.code yX4_wellFormed cX4_wellFormed 7 (some .int), Cond.methodLink RL 79 yX8_put, Cond.instanceMethod yX8_put, Cond.selects RX8 yX8_put yX8_put, Cond.code yX8_put cX8_put 8 (some .int), Cond.constantLong RX8 154 (255), Cond.methodLink RL 80 yX7_wipe, Cond.instanceMethod yX7_wipe, Cond.selects RX7 yX7_wipe yX7_wipe, Cond.code yX7_wipe cX7_wipe 1 (some .int), Cond.methodLink RX7 121 yX4_clear, Cond.instanceMethod yX4_clear, Cond.selects RX4 yX4_clear yX4_clear, Cond.code yX4_clear cX4_clear 2 (some .int), Cond.methodLink RL 83 yX8_wipe, Cond.instanceMethod yX8_wipe]
def wsL_law_r26 : List Cond := [Cond.selects RX8 yX8_wipe yX8_wipe, Cond.code yX8_wipe cX8_wipe 2 (some .int), Cond.methodLink RL 84 yX7_fault, Cond.instanceMethod yX7_fault, Cond.selects RX7 yX7_fault yX7_fault, Cond.code yX7_fault cX7_fault 1 (some .int), Cond.methodLink RX7 124 yX3_findFault, Cond.instanceMethod yX3_findFault, Cond.selects RX3 yX3_findFault yX3_findFault, Cond.code yX3_findFault cX3_findFault 3 (some .int), Cond.fieldLink RX3 22 "HallBuilds$OrderReader" "faulty" "Z", Cond.fieldLink RX3 18 "HallBuilds$OrderReader" "at" "I", Cond.methodLink RX3 26 yX3_start, Cond.instanceMethod yX3_start, Cond.selects RX3 yX3_start yX3_start, Cond.code yX3_start cX3_start 1 none, Cond.methodLink RX3 29 yX3_readOrder, Cond.instanceMethod yX3_readOrder, Cond.selects RX3 yX3_readOrder yX3_readOrder, Cond.code yX3_readOrder cX3_readOrder 1 none, Cond.fieldLink RX3 42 "HallBuilds$OrderReader" "kind" "I", Cond.fieldLink RX3 45 "HallBuilds$OrderReader" "base" "I", Cond.fieldLink RX3 52 "HallBuilds$OrderReader" "first" "I", Cond.fieldLink RX3 59 "HallBuilds$OrderReader" "second" "I"]
def wsL_law_r27 : List Cond := [Cond.fieldLink RX3 62 "HallBuilds$OrderReader" "third" "I", Cond.methodLink RX3 39 yX4_at, Cond.instanceMethod yX4_at, Cond.selects RX4 yX4_at yX4_at, Cond.code yX4_at cX4_at 2 (some .char), Cond.methodLink RX3 32 yX3_take, Cond.instanceMethod yX3_take, Cond.selects RX3 yX3_take yX3_take, Cond.code yX3_take cX3_take 2 (some .boolean), Cond.methodLink RX3 48 yX3_readNumber, Cond.instanceMethod yX3_readNumber, Cond.selects RX3 yX3_readNumber yX3_readNumber, Cond.code yX3_readNumber cX3_readNumber 2 (some .int), Cond.methodLink RX3 65 yX3_readDigit, Cond.instanceMethod yX3_readDigit, Cond.selects RX3 yX3_readDigit yX3_readDigit, Cond.code yX3_readDigit cX3_readDigit 2 (some .int), Cond.methodLink RX3 55 yX3_expect, Cond.instanceMethod yX3_expect, Cond.selects RX3 yX3_expect yX3_expect, Cond.code yX3_expect cX3_expect 2 none, Cond.methodLink RL 87 yX8_fault, Cond.instanceMethod yX8_fault, Cond.selects RX8 yX8_fault yX8_fault]
def wsL_law_r28 : List Cond := [Cond.code yX8_fault cX8_fault 1 (some .int), Cond.methodLink RX8 192 yX8_findFault, Cond.instanceMethod yX8_findFault, Cond.selects RX8 yX8_findFault yX8_findFault, Cond.code yX8_findFault cX8_findFault 1 (some .int), Cond.fieldLink RX8 156 "HallBuildsModel" "at" "I", Cond.methodLink RX8 189 yX8_readsOrder, Cond.instanceMethod yX8_readsOrder, Cond.selects RX8 yX8_readsOrder yX8_readsOrder, Cond.code yX8_readsOrder cX8_readsOrder 1 (some .boolean), Cond.fieldLink RX8 183 "HallBuildsModel" "letter" "I", Cond.fieldLink RX8 168 "HallBuildsModel" "first" "I", Cond.fieldLink RX8 174 "HallBuildsModel" "second" "I", Cond.methodLink RX8 159 yX8_character, Cond.instanceMethod yX8_character, Cond.selects RX8 yX8_character yX8_character, Cond.code yX8_character cX8_character 2 (some .int), Cond.methodLink RX8 186 yX8_readsStand, Cond.instanceMethod yX8_readsStand, Cond.selects RX8 yX8_readsStand yX8_readsStand, Cond.code yX8_readsStand cX8_readsStand 1 (some .boolean), Cond.fieldLink RX8 177 "HallBuildsModel" "third" "I", Cond.fieldLink RX8 180 "HallBuildsModel" "fourth" "I", Cond.methodLink RX8 165 yX8_takeNumber]
def wsL_law_r29 : List Cond := [Cond.instanceMethod yX8_takeNumber, Cond.selects RX8 yX8_takeNumber yX8_takeNumber, Cond.code yX8_takeNumber cX8_takeNumber 2 (some .int), Cond.methodLink RX8 162 yX8_takeDigit, Cond.instanceMethod yX8_takeDigit, Cond.selects RX8 yX8_takeDigit yX8_takeDigit, Cond.code yX8_takeDigit cX8_takeDigit 3 (some .int), Cond.methodLink RX8 171 yX8_isNext, Cond.instanceMethod yX8_isNext, Cond.selects RX8 yX8_isNext yX8_isNext, Cond.code yX8_isNext cX8_isNext 3 (some .boolean), Cond.methodLink RL 88 yX7_carryOut, Cond.instanceMethod yX7_carryOut, Cond.selects RX7 yX7_carryOut yX7_carryOut, Cond.code yX7_carryOut cX7_carryOut 3 (some .int), Cond.methodLink RX7 127 yX3_start, Cond.methodLink RX7 130 yX3_readOrder, Cond.methodLink RX7 133 yX7_carryOutOne, Cond.instanceMethod yX7_carryOutOne, Cond.selects RX7 yX7_carryOutOne yX7_carryOutOne, Cond.code yX7_carryOutOne cX7_carryOutOne 1 (some .int), Cond.methodLink RX7 136 yX3_take, Cond.methodLink RL 91 yX8_carryOut, Cond.instanceMethod yX8_carryOut]
def wsL_law_r30 : List Cond := [Cond.selects RX8 yX8_carryOut yX8_carryOut, Cond.code yX8_carryOut cX8_carryOut 3 (some .int), Cond.methodLink RX8 195 yX8_whyNotDone, Cond.instanceMethod yX8_whyNotDone, Cond.selects RX8 yX8_whyNotDone yX8_whyNotDone, Cond.code yX8_whyNotDone cX8_whyNotDone 1 (some .int), Cond.methodLink RX8 198 yX8_does, Cond.instanceMethod yX8_does, Cond.selects RX8 yX8_does yX8_does, Cond.code yX8_does cX8_does 1 none, Cond.methodLink RL 92 yX7_undo, Cond.instanceMethod yX7_undo, Cond.selects RX7 yX7_undo yX7_undo, Cond.code yX7_undo cX7_undo 1 (some .int), Cond.methodLink RX7 155 yX2_stepBack, Cond.instanceMethod yX2_stepBack, Cond.selects RX2 yX2_stepBack yX2_stepBack, Cond.code yX2_stepBack cX2_stepBack 3 (some .int), Cond.methodLink RL 95 yX8_undo, Cond.instanceMethod yX8_undo, Cond.selects RX8 yX8_undo yX8_undo, Cond.code yX8_undo cX8_undo 1 (some .int), Cond.methodLink RL 96 yX7_save, Cond.instanceMethod yX7_save]
def wsL_law_r31 : List Cond := [Cond.selects RX7 yX7_save yX7_save, Cond.code yX7_save cX7_save 2 (some .int), Cond.methodLink RX7 159 yX5_keep, Cond.instanceMethod yX5_keep, Cond.selects RX5 yX5_keep yX5_keep, Cond.code yX5_keep cX5_keep 4 (some .int), Cond.methodLink RX5 22 yX1_copyFrom, Cond.methodLink RL 99 yX8_save, Cond.instanceMethod yX8_save, Cond.selects RX8 yX8_save yX8_save, Cond.code yX8_save cX8_save 2 (some .int), Cond.methodLink RL 100 yX7_restore, Cond.instanceMethod yX7_restore, Cond.selects RX7 yX7_restore yX7_restore, Cond.code yX7_restore cX7_restore 2 (some .int), Cond.methodLink RX7 163 yX5_giveBack, Cond.instanceMethod yX5_giveBack, Cond.selects RX5 yX5_giveBack yX5_giveBack, Cond.code yX5_giveBack cX5_giveBack 4 (some .int), Cond.methodLink RL 103 yX8_restore, Cond.instanceMethod yX8_restore, Cond.selects RX8 yX8_restore yX8_restore, Cond.code yX8_restore cX8_restore 2 (some .int)]
def wsL_law : List Cond := (wsL_law_r1 ++ (wsL_law_r2 ++ (wsL_law_r3 ++ (wsL_law_r4 ++ (wsL_law_r5 ++ (wsL_law_r6 ++ (wsL_law_r7 ++ (wsL_law_r8 ++ (wsL_law_r9 ++ (wsL_law_r10 ++ (wsL_law_r11 ++ (wsL_law_r12 ++ (wsL_law_r13 ++ (wsL_law_r14 ++ (wsL_law_r15 ++ (wsL_law_r16 ++ (wsL_law_r17 ++ (wsL_law_r18 ++ (wsL_law_r19 ++ (wsL_law_r20 ++ (wsL_law_r21 ++ (wsL_law_r22 ++ (wsL_law_r23 ++ (wsL_law_r24 ++ (wsL_law_r25 ++ (wsL_law_r26 ++ (wsL_law_r27 ++ (wsL_law_r28 ++ (wsL_law_r29 ++ (wsL_law_r30 ++ wsL_law_r31)))))))))))))))))))))))))))))) ++ wsX70 ++ wsX80 ++ wsX10 ++ wsX20 ++ wsX50 ++ wsX30 ++ wsX60 ++ wsX00 ++ wsX40 ++ ([] : List Cond)
abbrev vwCl : List vw_C := [(RX0, TX0, 7), (RX1, TX1, 7), (RX2, TX2, 3), (RX3, TX3, 8), (RX4, TX4, 2), (RX5, TX5, 2), (RX6, TX6, 11), (RX7, TX7, 6), (RX8, TX8, 14)]
/-! ===== END printed: names ===== -/
end
section
/-! V: the machine at an instruction, with the world, the locals and the stack as plain lists -/
abbrev hG : Type := va_G × (Nat → ClassId) × (Nat → Nat)
def hT (G : hG) : List (ClassId × FieldType) := [(G.2.1 0, .int), (G.2.1 1, .char), (G.2.1 2, .boolean), (G.2.1 3, .object "HallBuilds$Hall")]
def hFst : Nat → Int32 := fun j => if j = 0 then 20 else if j = 1 then 2 else 60
def hMst : Nat → Int32 := fun j => if j = 0 then 60 else if j = 1 then 9 else 999
def hNF : List (String × Nat × String × String × String) := [(RX7, 140, RX3, "kind", "I"), (RX7, 143, RX3, "first", "I"), (RX7, 146, RX3, "second", "I"), (RX7, 149, RX3, "third", "I"), (RX7, 152, RX3, "base", "I"), (RX7, 40, RX3, "pad", "LHallBuilds$Pad;"), (RX7, 74, RX1, "stands", "LHallBuilds$Stands;"), (RX7, 83, RX1, "crews", "LHallBuilds$Crews;"), (RX7, 93, RX4, "length", "I"), (RX7, 99, RX2, "kept", "I"), (RX1, 110, RX6, "state", "[I"), (RX1, 147, RX6, "leaving", "[I"), (RX1, 150, RX0, "stand", "[I"), (RX1, 153, RX0, "speed", "[I"), (RX1, 156, RX6, "left", "[I"), (RX1, 159, RX6, "length", "[I"), (RX1, 168, RX6, "crew", "[I"), (RX1, 177, RX6, "hours", "[I"), (RX1, 180, RX0, "worked", "[I"), (RX1, 183, RX6, "spent", "[I"), (RX1, 193, RX0, "built", "[I"), (RX1, 199, RX0, "dismantled", "[I"), (RX1, 202, RX6, "power", "[I"), (RX1, 205, RX6, "phase", "[I"), (RX1, 62, RX7, "MOST_OF_SETTINGS", "[I"), (RX1, 73, RX6, "count", "I"), (RX1, 9, RX7, "FIRST_SETTINGS", "[I"), (RX1, 96, RX0, "count", "I"), (RX3, 36, RX4, "length", "I"), (RX5, 26, RX1, "stands", "LHallBuilds$Stands;"), (RX5, 30, RX6, "count", "I")]
def hNM : List (String × Nat × MethodName) := [(RX7, 35, yX3_init), (RX7, 9, yX1_init), (RX0, 34, yX7_copyRow), (RX1, 28, yX6_init), (RX1, 35, yX0_init), (RX1, 40, yX7_copyRow), (RX1, 65, yX7_isWithin), (RX2, 17, yX1_init), (RX3, 11, yX4_init), (RX3, 68, yX7_isWithin), (RX4, 25, yX7_isWithin), (RX5, 21, yX1_init), (RX6, 46, yX7_copyRow)]
/-- a table whose cell is known whole -/
def hC (t : Nat) (cI : ClassId) (f : Nat → Int32) (A : Nat → Prop) (H : Heap) : Prop := ∃ cell : Cell, H[t]? = some cell ∧ cell.cls = cI ∧ cell.vm.isStatics = false ∧ cell.vm ≠ .unknown ∧ cell.slots = (vp_cell cI (3, .inl f)).slots ∧ ¬ A t
theorem hC.kept {t : Nat} {cI : ClassId} {f : Nat → Int32} {A : Nat → Prop} {H H1 : Heap} (h : hC t cI f A H) (hq : ∀ a : Nat, a < H.size → ¬ A a → H1[a]? = H[a]?) : hC t cI f A H1 := by
  obtain ⟨cell, h1, h2, h3, h4, h5, h6⟩ := h
  exact ⟨cell, by rw [hq t (Array.getElem?_eq_some_iff.mp h1).1 h6]; exact h1, h2, h3, h4, h5, h6⟩
theorem hC.narrow {t : Nat} {cI : ClassId} {f : Nat → Int32} {A B : Nat → Prop} {H : Heap} (h : hC t cI f A H) (hAB : ∀ q, B q → A q) : hC t cI f B H := by
  obtain ⟨cell, h1, h2, h3, h4, h5, h6⟩ := h
  exact ⟨cell, h1, h2, h3, h4, h5, fun z => h6 (hAB t z)⟩
/-- what stands of the tables and the statics at any moment -/
def hN (U : State) : Prop := (∀ q ∈ hNF, va_Nw (.fieldLinkNest q.1 q.2.1 q.2.2.1 q.2.2.2.1 q.2.2.2.2 "HallBuilds") U) ∧ (∀ q ∈ hNM, va_Nw (.methodLinkNest q.1 q.2.1 q.2.2 "HallBuilds") U) ∧ va_Nw (.castable "[I" "java/lang/Cloneable") U ∧ va_AO "HallBuilds$Hall" U
def hE (G : hG) (A : Nat → Prop) (U : State) (H : Heap) : Prop := hN U ∧ va_Z "HallBuilds" "FIRST_SETTINGS" "[I" (.ref (G.2.2 0)) A U H ∧ va_Z "HallBuilds" "MOST_OF_SETTINGS" "[I" (.ref (G.2.2 1)) A U H ∧ va_T .int (G.2.2 1) 3 (fun j => .int (hMst j)) A U H ∧ hC (G.2.2 0) (G.2.1 0) hFst A H
theorem hN.warm {s U : State} (hW : s.WarmedH U.vm) (h : hN s) : hN U := ⟨fun q hq => va_Nw.warmF hW (h.1 q hq), fun q hq => va_Nw.warmM hW (h.2.1 q hq), va_Nw.warmC hW h.2.2.1, va_AO.moved hW.alike h.2.2.2⟩
theorem hN.same {u U : State} (hv : u.vm = U.vm) (h : hN u) : hN U := ⟨fun q hq => va_Nw.same rfl hv (h.1 q hq), fun q hq => va_Nw.same rfl hv (h.2.1 q hq), va_Nw.same rfl hv h.2.2.1, va_AO.moved (by rw [hv]; exact Vm.Alike.refl _) h.2.2.2⟩
theorem hE.warm {G : hG} {A : Nat → Prop} {s U : State} {H : Heap} (hW : s.WarmedH U.vm) (h : hE G A s H) : hE G A U H := ⟨h.1.warm hW, va_Z.moved hW.alike h.2.1, va_Z.moved hW.alike h.2.2.1, va_T.moved hW.alike h.2.2.2.1, h.2.2.2.2⟩
theorem hE.same {G : hG} {A : Nat → Prop} {s U : State} {H : Heap} (hv : s.vm = U.vm) (h : hE G A s H) : hE G A U H := ⟨h.1.same hv, va_Z.moved (by rw [hv]; exact Vm.Alike.refl _) h.2.1, va_Z.moved (by rw [hv]; exact Vm.Alike.refl _) h.2.2.1, va_T.moved (by rw [hv]; exact Vm.Alike.refl _) h.2.2.2.1, h.2.2.2.2⟩
theorem hE.kept {G : hG} {A : Nat → Prop} {s : State} {H H1 : Heap} (h : hE G A s H) (hq : ∀ a : Nat, a < H.size → ¬ A a → H1[a]? = H[a]?) : hE G A s H1 := ⟨h.1, h.2.1.kept hq, h.2.2.1.kept hq, h.2.2.2.1.kept hq, h.2.2.2.2.kept hq⟩
theorem hE.narrow {G : hG} {A B : Nat → Prop} {s : State} {H : Heap} (h : hE G A s H) (hq : ∀ a : Nat, B a → A a) : hE G B s H := ⟨h.1, h.2.1.narrow hq, h.2.2.1.narrow hq, h.2.2.2.1.narrow hq, h.2.2.2.2.narrow hq⟩
theorem hPmem {D : va_G} {cl : List vw_C} {ws : va_W} {H : Heap} : va_P D cl ws H ↔ ∀ q ∈ ws, va_at D cl q H :=
  ⟨fun h q hq => by obtain ⟨k, hk⟩ := List.getElem?_of_mem hq; exact h k q hk, fun h k q hk => h q (List.mem_of_getElem? hk)⟩
theorem hDmem {A : Nat → Prop} {ws : va_W} : va_D A ws ↔ (ws.map (fun q => q.1)).Nodup ∧ ∀ q ∈ ws, A q.1 := by
  constructor
  · rintro ⟨h1, h2⟩
    refine ⟨?_, fun q hq => ?_⟩
    · unfold List.Nodup
      rw [List.pairwise_iff_getElem]
      intro i j hi hj hij e
      simp only [List.length_map] at hi hj
      have h3 := h1 i j ws[i] ws[j] (List.getElem?_eq_getElem hi) (List.getElem?_eq_getElem hj) (by simpa using e)
      omega
    · obtain ⟨k, hk⟩ := List.getElem?_of_mem hq
      exact h2 k q hk
  · rintro ⟨h1, h2⟩
    refine ⟨fun i j p q hp hq e => ?_, fun k q hk => h2 q (List.mem_of_getElem? hk)⟩
    obtain ⟨hi, hpi⟩ := List.getElem?_eq_some_iff.mp hp
    obtain ⟨hj, hqj⟩ := List.getElem?_eq_some_iff.mp hq
    unfold List.Nodup at h1
    rw [List.pairwise_iff_getElem] at h1
    rcases Nat.lt_trichotomy i j with h | h | h
    · exact (h1 i j (by simpa using hi) (by simpa using hj) h (by simp [hpi, hqj, e])).elim
    · exact h
    · exact (h1 j i (by simpa using hj) (by simpa using hi) h (by simp [hpi, hqj, e])).elim
theorem hPperm {D : va_G} {cl : List vw_C} {ws ws' : va_W} {H : Heap} (hp : ws.Perm ws') (h : va_P D cl ws H) : va_P D cl ws' H := hPmem.mpr fun q hq => hPmem.mp h q (hp.mem_iff.mpr hq)
theorem hDperm {A : Nat → Prop} {ws ws' : va_W} (hp : ws.Perm ws') (h : va_D A ws) : va_D A ws' := hDmem.mpr ⟨(hp.map _).nodup_iff.mp (hDmem.mp h).1, fun q hq => (hDmem.mp h).2 q (hp.mem_iff.mpr hq)⟩
/-- locals by number -/
def hget : List (Nat × Value) → Nat → Option Value
  | [], _ => none
  | (j, v) :: t, i => match Nat.beq j i with
    | true => some v
    | false => hget t i
theorem hget_mem : ∀ {lv : List (Nat × Value)} {i : Nat} {v : Value}, hget lv i = some v → (i, v) ∈ lv
  | [], _, _, h => by simp [hget] at h
  | (j, w) :: t, i, v, h => by
    unfold hget at h
    cases hb : Nat.beq j i with
    | true =>
      rw [hb] at h
      cases h
      have := Nat.eq_of_beq_eq_true hb
      subst this
      exact List.mem_cons_self
    | false =>
      rw [hb] at h
      exact List.mem_cons_of_mem _ (hget_mem h)
def hput (lv : List (Nat × Value)) (i : Nat) (v : Value) : List (Nat × Value) := (i, v) :: lv.filter (fun q => !(q.1 == i) && !(q.1 + 1 == i && q.2.category == 2))
def hput2 (lv : List (Nat × Value)) (i : Nat) (v : Value) : List (Nat × Value) := (i, v) :: lv.filter (fun q => !(q.1 == i) && (!(q.1 == i + 1) && !(q.1 + 1 == i && q.2.category == 2)))
def hX (p : Program) (s : State) (m : MethodId) (args : Array Value) (meth : Method) (c : Code) (G : hG) (A : Nat → Prop) (nL : Nat) (cc : ByteArray) (own : String) (Ts : List Cond) (ret : Option FieldType) : Prop :=
  p.tables.exec = Jvm.exec ∧ c.code = cc ∧ c.maxLocals = nL ∧ s.vm.findClass own = some m.cls ∧ (∀ w ∈ Ts, w.before args s = true) ∧ va_K G.1 vwCl (hT G) s ∧ (∀ q : Nat, s.heap.size ≤ q → A q) ∧ hE G A s s.heap ∧ meth.locks = false ∧ meth.sig.returnType = ret
def hV (p : Program) (l : Launch) (e : Env) (R : Room) (s : State) (m : MethodId) (args : Array Value) (below : List Frame) (meth : Method) (c : Code) (G : hG) (A : Nat → Prop) (nL cells slots : Nat) (Q : State → Prop) (ws : va_W) (pc : Nat) (lv : List (Nat × Value)) (st : List Value) : Prop :=
  ∀ (H : Heap) (locs : List Loc) (ls : Array Slot), va_P G.1 vwCl ws H → va_D A ws → va_S A s.heap H locs → lv_has ls nL lv → W p l e R s m args below meth c H locs cells slots Q (F0 m pc ls st)
section HV
variable {p : Program} {l : Launch} {e : Env} {R : Room} {s : State} {m : MethodId} {args : Array Value} {below : List Frame} {meth : Method} {c : Code} {cells slots : Nat} {Q : State → Prop}
variable {G : hG} {A : Nat → Prop} {nL : Nat} {cc : ByteArray} {own : String} {Ts : List Cond} {ret : Option FieldType}
variable {ws : va_W} {pc : Nat} {lv : List (Nat × Value)} {st : List Value}
theorem hX.hx (X : hX p s m args meth c G A nL cc own Ts ret) : p.tables.exec = Jvm.exec := X.1
theorem hX.hb (X : hX p s m args meth c G A nL cc own Ts ret) : c.code = cc := X.2.1
theorem hX.hml (X : hX p s m args meth c G A nL cc own Ts ret) : c.maxLocals = nL := X.2.2.1
theorem hX.hown (X : hX p s m args meth c G A nL cc own Ts ret) : s.vm.findClass own = some m.cls := X.2.2.2.1
theorem hX.hts (X : hX p s m args meth c G A nL cc own Ts ret) : ∀ w ∈ Ts, w.before args s = true := X.2.2.2.2.1
theorem hX.hK (X : hX p s m args meth c G A nL cc own Ts ret) : va_K G.1 vwCl (hT G) s := X.2.2.2.2.2.1
theorem hX.hA (X : hX p s m args meth c G A nL cc own Ts ret) : ∀ q : Nat, s.heap.size ≤ q → A q := X.2.2.2.2.2.2.1
theorem hX.hE (X : hX p s m args meth c G A nL cc own Ts ret) : hE G A s s.heap := X.2.2.2.2.2.2.2.1
theorem hX.hlk (X : hX p s m args meth c G A nL cc own Ts ret) : meth.locks = false := X.2.2.2.2.2.2.2.2.1
theorem hX.hr (X : hX p s m args meth c G A nL cc own Ts ret) : meth.sig.returnType = ret := X.2.2.2.2.2.2.2.2.2
theorem hV_perm {ws' : va_W} (hp : ws.Perm ws') (k : hV p l e R s m args below meth c G A nL cells slots Q ws' pc lv st) : hV p l e R s m args below meth c G A nL cells slots Q ws pc lv st :=
  fun H locs ls hP hD hS hl => k H locs ls (hPperm hp hP) (hDperm hp hD) hS hl
theorem hV_to {ws' : va_W} {lv' : List (Nat × Value)} {st' : List Value} (hw : ws = ws') (hlv : lv = lv') (hst : st = st') (k : hV p l e R s m args below meth c G A nL cells slots Q ws' pc lv' st') : hV p l e R s m args below meth c G A nL cells slots Q ws pc lv st := by
  subst hw; subst hlv; subst hst; exact k
theorem hV_lv {lv' : List (Nat × Value)} (ks : List Nat) (h : lv_pick lv ks = lv') (k : hV p l e R s m args below meth c G A nL cells slots Q ws pc lv' st) : hV p l e R s m args below meth c G A nL cells slots Q ws pc lv st :=
  fun H locs ls hP hD hS hl => k H locs ls hP hD hS (lv_sub hl ks h)
theorem hV_st {st' : List Value} (h : st = st') (k : hV p l e R s m args below meth c G A nL cells slots Q ws pc lv st') : hV p l e R s m args below meth c G A nL cells slots Q ws pc lv st := by
  subst h; exact k
theorem hV_widen {a b : Nat} (h1 : cells ≤ a) (h2 : slots ≤ b) (k : hV p l e R s m args below meth c G A nL a b Q ws pc lv st) : hV p l e R s m args below meth c G A nL cells slots Q ws pc lv st :=
  fun H locs ls hP hD hS hl => W.widen h1 h2 (k H locs ls hP hD hS hl)
-- constants, locals
theorem hiconst (X : hX p s m args meth c G A nL cc own Ts ret) {n : Int} {v : Int32} (hdg : decode cc pc = .ok (.iconst n, 1)) (hv : Int32.ofInt n = v) (k : hV p l e R s m args below meth c G A nL cells slots Q ws (pc + 1) lv (.int v :: st)) : hV p l e R s m args below meth c G A nL cells slots Q ws pc lv st :=
  fun H locs ls hP hD hS hl => lv_iconst X.hx X.hb hdg hv (k H locs ls hP hD hS hl)
theorem hbipush (X : hX p s m args meth c G A nL cc own Ts ret) {n : Int} {v : Int32} (hdg : decode cc pc = .ok (.bipush n, 2)) (hv : (Int8.ofInt n).toInt32 = v) (k : hV p l e R s m args below meth c G A nL cells slots Q ws (pc + 2) lv (.int v :: st)) : hV p l e R s m args below meth c G A nL cells slots Q ws pc lv st :=
  fun H locs ls hP hD hS hl => lv_bipush X.hx X.hb hdg hv (k H locs ls hP hD hS hl)
theorem hsipush (X : hX p s m args meth c G A nL cc own Ts ret) {n : Int} {v : Int32} (hdg : decode cc pc = .ok (.sipush n, 3)) (hv : (Int16.ofInt n).toInt32 = v) (k : hV p l e R s m args below meth c G A nL cells slots Q ws (pc + 3) lv (.int v :: st)) : hV p l e R s m args below meth c G A nL cells slots Q ws pc lv st :=
  fun H locs ls hP hD hS hl => lv_sipush X.hx X.hb hdg hv (k H locs ls hP hD hS hl)
theorem hlconst (X : hX p s m args meth c G A nL cc own Ts ret) {n : Fin 2} {v : Int64} (hdg : decode cc pc = .ok (.lconst n, 1)) (hv : Int64.ofNat (n : Nat) = v) (k : hV p l e R s m args below meth c G A nL cells slots Q ws (pc + 1) lv (.long v :: st)) : hV p l e R s m args below meth c G A nL cells slots Q ws pc lv st :=
  fun H locs ls hP hD hS hl => lv_lconst X.hx X.hb hdg hv (k H locs ls hP hD hS hl)
theorem hldc2 (X : hX p s m args meth c G A nL cc own Ts ret) {index : Nat} {v : Int64} (hconst : Jvm.Cond.constantLong own index v ∈ Ts) (hdg : decode cc pc = .ok (.ldc2_w index, 3)) (k : hV p l e R s m args below meth c G A nL cells slots Q ws (pc + 3) lv (.long v :: st)) : hV p l e R s m args below meth c G A nL cells slots Q ws pc lv st :=
  fun H locs ls hP hD hS hl => lv_ldc2 X.hx X.hb X.hown (X.hts _ hconst) hdg (k H locs ls hP hD hS hl)
theorem haconst_null (X : hX p s m args meth c G A nL cc own Ts ret) (hdg : decode cc pc = .ok (.aconst_null, 1)) (k : hV p l e R s m args below meth c G A nL cells slots Q ws (pc + 1) lv (.null :: st)) : hV p l e R s m args below meth c G A nL cells slots Q ws pc lv st :=
  fun H locs ls hP hD hS hl => lv_null X.hx X.hb hdg (k H locs ls hP hD hS hl)
theorem hiload_n (X : hX p s m args meth c G A nL cc own Ts ret) {k0 : Fin 4} {x : Int32} (hdg : decode cc pc = .ok (.iload_n k0, 1)) (hg : hget lv k0.val = some (.int x)) (k : hV p l e R s m args below meth c G A nL cells slots Q ws (pc + 1) lv (.int x :: st)) : hV p l e R s m args below meth c G A nL cells slots Q ws pc lv st :=
  fun H locs ls hP hD hS hl => lv_iload_n X.hx X.hb hdg rfl (hl.2.2 _ (hget_mem hg)) (k H locs ls hP hD hS hl)
theorem hiload (X : hX p s m args meth c G A nL cc own Ts ret) {i : Nat} {x : Int32} (hdg : decode cc pc = .ok (.iload i, 2)) (hg : hget lv i = some (.int x)) (k : hV p l e R s m args below meth c G A nL cells slots Q ws (pc + 2) lv (.int x :: st)) : hV p l e R s m args below meth c G A nL cells slots Q ws pc lv st :=
  fun H locs ls hP hD hS hl => lv_iload X.hx X.hb hdg (hl.2.2 _ (hget_mem hg)) (k H locs ls hP hD hS hl)
theorem haload_n (X : hX p s m args meth c G A nL cc own Ts ret) {k0 : Fin 4} {x : Nat} (hdg : decode cc pc = .ok (.aload_n k0, 1)) (hg : hget lv k0.val = some (.ref x)) (k : hV p l e R s m args below meth c G A nL cells slots Q ws (pc + 1) lv (.ref x :: st)) : hV p l e R s m args below meth c G A nL cells slots Q ws pc lv st :=
  fun H locs ls hP hD hS hl => lv_aload_n X.hx X.hb hdg rfl (hl.2.2 _ (hget_mem hg)) (k H locs ls hP hD hS hl)
theorem hlload_n (X : hX p s m args meth c G A nL cc own Ts ret) {k0 : Fin 4} {x : Int64} (hdg : decode cc pc = .ok (.lload_n k0, 1)) (hg : hget lv k0.val = some (.long x)) (k : hV p l e R s m args below meth c G A nL cells slots Q ws (pc + 1) lv (.long x :: st)) : hV p l e R s m args below meth c G A nL cells slots Q ws pc lv st :=
  fun H locs ls hP hD hS hl => lv_lload_n X.hx X.hb hdg rfl (hl.2.2 _ (hget_mem hg)) (k H locs ls hP hD hS hl)
theorem hlload (X : hX p s m args meth c G A nL cc own Ts ret) {i : Nat} {x : Int64} (hdg : decode cc pc = .ok (.lload i, 2)) (hg : hget lv i = some (.long x)) (k : hV p l e R s m args below meth c G A nL cells slots Q ws (pc + 2) lv (.long x :: st)) : hV p l e R s m args below meth c G A nL cells slots Q ws pc lv st :=
  fun H locs ls hP hD hS hl => lv_lload X.hx X.hb hdg (hl.2.2 _ (hget_mem hg)) (k H locs ls hP hD hS hl)
theorem histore_n (X : hX p s m args meth c G A nL cc own Ts ret) {k0 : Fin 4} {x : Int32} {lv' : List (Nat × Value)} (hdg : decode cc pc = .ok (.istore_n k0, 1)) (hn : k0.val < nL) (hp : hput lv k0.val (.int x) = lv') (k : hV p l e R s m args below meth c G A nL cells slots Q ws (pc + 1) lv' st) : hV p l e R s m args below meth c G A nL cells slots Q ws pc lv (.int x :: st) :=
  fun H locs ls hP hD hS hl => lv_istore_n X.hx X.hb hdg rfl hl hn hp (fun ls' hl' => k H locs ls' hP hD hS hl')
theorem histore (X : hX p s m args meth c G A nL cc own Ts ret) {i : Nat} {x : Int32} {lv' : List (Nat × Value)} (hdg : decode cc pc = .ok (.istore i, 2)) (hn : i < nL) (hp : hput lv i (.int x) = lv') (k : hV p l e R s m args below meth c G A nL cells slots Q ws (pc + 2) lv' st) : hV p l e R s m args below meth c G A nL cells slots Q ws pc lv (.int x :: st) :=
  fun H locs ls hP hD hS hl => lv_istore X.hx X.hb hdg hl hn hp (fun ls' hl' => k H locs ls' hP hD hS hl')
theorem hastore_n (X : hX p s m args meth c G A nL cc own Ts ret) {k0 : Fin 4} {x : Nat} {lv' : List (Nat × Value)} (hdg : decode cc pc = .ok (.astore_n k0, 1)) (hn : k0.val < nL) (hp : hput lv k0.val (.ref x) = lv') (k : hV p l e R s m args below meth c G A nL cells slots Q ws (pc + 1) lv' st) : hV p l e R s m args below meth c G A nL cells slots Q ws pc lv (.ref x :: st) :=
  fun H locs ls hP hD hS hl => lv_astore_n X.hx X.hb hdg rfl hl hn hp (fun ls' hl' => k H locs ls' hP hD hS hl')
theorem hlstore_n (X : hX p s m args meth c G A nL cc own Ts ret) {k0 : Fin 4} {x : Int64} {lv' : List (Nat × Value)} (hdg : decode cc pc = .ok (.lstore_n k0, 1)) (hn : k0.val + 1 < nL) (hp : hput2 lv k0.val (.long x) = lv') (k : hV p l e R s m args below meth c G A nL cells slots Q ws (pc + 1) lv' st) : hV p l e R s m args below meth c G A nL cells slots Q ws pc lv (.long x :: st) :=
  fun H locs ls hP hD hS hl => lv_lstore_n X.hx X.hb hdg rfl hl hn hp (fun ls' hl' => k H locs ls' hP hD hS hl')
theorem hlstore (X : hX p s m args meth c G A nL cc own Ts ret) {i : Nat} {x : Int64} {lv' : List (Nat × Value)} (hdg : decode cc pc = .ok (.lstore i, 2)) (hn : i + 1 < nL) (hp : hput2 lv i (.long x) = lv') (k : hV p l e R s m args below meth c G A nL cells slots Q ws (pc + 2) lv' st) : hV p l e R s m args below meth c G A nL cells slots Q ws pc lv (.long x :: st) :=
  fun H locs ls hP hD hS hl => lv_lstore X.hx X.hb hdg hl hn hp (fun ls' hl' => k H locs ls' hP hD hS hl')
theorem hiinc (X : hX p s m args meth c G A nL cc own Ts ret) {i : Nat} {n : Int} {x v : Int32} {lv' : List (Nat × Value)} (hdg : decode cc pc = .ok (.iinc i n, 3)) (hg : hget lv i = some (.int x)) (hv : x + Int32.ofInt n = v) (hn : i < nL) (hp : hput lv i (.int v) = lv') (k : hV p l e R s m args below meth c G A nL cells slots Q ws (pc + 3) lv' st) : hV p l e R s m args below meth c G A nL cells slots Q ws pc lv st := by
  intro H locs ls hP hD hS hl
  obtain ⟨j, hj⟩ := List.getElem?_of_mem (hget_mem hg)
  exact lv_iinc X.hx X.hb hdg hl hj hv hn hp (fun ls' hl' => k H locs ls' hP hD hS hl')
-- arithmetic
theorem hiadd (X : hX p s m args meth c G A nL cc own Ts ret) {x y : Int32} (hdg : decode cc pc = .ok (.iadd, 1)) (k : hV p l e R s m args below meth c G A nL cells slots Q ws (pc + 1) lv (.int (x + y) :: st)) : hV p l e R s m args below meth c G A nL cells slots Q ws pc lv (.int y :: .int x :: st) :=
  fun H locs ls hP hD hS hl => lv_iadd X.hx X.hb hdg (k H locs ls hP hD hS hl)
theorem hisub (X : hX p s m args meth c G A nL cc own Ts ret) {x y : Int32} (hdg : decode cc pc = .ok (.isub, 1)) (k : hV p l e R s m args below meth c G A nL cells slots Q ws (pc + 1) lv (.int (x - y) :: st)) : hV p l e R s m args below meth c G A nL cells slots Q ws pc lv (.int y :: .int x :: st) :=
  fun H locs ls hP hD hS hl => lv_isub X.hx X.hb hdg (k H locs ls hP hD hS hl)
theorem himul (X : hX p s m args meth c G A nL cc own Ts ret) {x y : Int32} (hdg : decode cc pc = .ok (.imul, 1)) (k : hV p l e R s m args below meth c G A nL cells slots Q ws (pc + 1) lv (.int (x * y) :: st)) : hV p l e R s m args below meth c G A nL cells slots Q ws pc lv (.int y :: .int x :: st) :=
  fun H locs ls hP hD hS hl => lv_imul X.hx X.hb hdg (k H locs ls hP hD hS hl)
theorem hidiv (X : hX p s m args meth c G A nL cc own Ts ret) {x y : Int32} (hdg : decode cc pc = .ok (.idiv, 1)) (hne : ¬ y = 0) (k : hV p l e R s m args below meth c G A nL cells slots Q ws (pc + 1) lv (.int (x / y) :: st)) : hV p l e R s m args below meth c G A nL cells slots Q ws pc lv (.int y :: .int x :: st) :=
  fun H locs ls hP hD hS hl => lv_idiv X.hx X.hb hdg hne (k H locs ls hP hD hS hl)
theorem hirem (X : hX p s m args meth c G A nL cc own Ts ret) {x y : Int32} (hdg : decode cc pc = .ok (.irem, 1)) (hne : ¬ y = 0) (k : hV p l e R s m args below meth c G A nL cells slots Q ws (pc + 1) lv (.int (x - x / y * y) :: st)) : hV p l e R s m args below meth c G A nL cells slots Q ws pc lv (.int y :: .int x :: st) :=
  fun H locs ls hP hD hS hl => lv_irem X.hx X.hb hdg hne (k H locs ls hP hD hS hl)
theorem hishl (X : hX p s m args meth c G A nL cc own Ts ret) {x y : Int32} (hdg : decode cc pc = .ok (.ishl, 1)) (k : hV p l e R s m args below meth c G A nL cells slots Q ws (pc + 1) lv (.int (x <<< (y &&& 31)) :: st)) : hV p l e R s m args below meth c G A nL cells slots Q ws pc lv (.int y :: .int x :: st) :=
  fun H locs ls hP hD hS hl => lv_ishl X.hx X.hb hdg (k H locs ls hP hD hS hl)
theorem hior (X : hX p s m args meth c G A nL cc own Ts ret) {x y : Int32} (hdg : decode cc pc = .ok (.ior, 1)) (k : hV p l e R s m args below meth c G A nL cells slots Q ws (pc + 1) lv (.int (x ||| y) :: st)) : hV p l e R s m args below meth c G A nL cells slots Q ws pc lv (.int y :: .int x :: st) :=
  fun H locs ls hP hD hS hl => lv_ior X.hx X.hb hdg (k H locs ls hP hD hS hl)
theorem hiand (X : hX p s m args meth c G A nL cc own Ts ret) {x y : Int32} (hdg : decode cc pc = .ok (.iand, 1)) (k : hV p l e R s m args below meth c G A nL cells slots Q ws (pc + 1) lv (.int (x &&& y) :: st)) : hV p l e R s m args below meth c G A nL cells slots Q ws pc lv (.int y :: .int x :: st) :=
  fun H locs ls hP hD hS hl => lv_iand X.hx X.hb hdg (k H locs ls hP hD hS hl)
theorem hlushr (X : hX p s m args meth c G A nL cc own Ts ret) {x v : Int64} {y : Int32} (hdg : decode cc pc = .ok (.lushr, 1)) (hv : (x.toUInt64 >>> (y.toInt64.toUInt64 &&& Int64.toUInt64 63)).toInt64 = v) (k : hV p l e R s m args below meth c G A nL cells slots Q ws (pc + 1) lv (.long v :: st)) : hV p l e R s m args below meth c G A nL cells slots Q ws pc lv (.int y :: .long x :: st) :=
  fun H locs ls hP hD hS hl => lv_lushr X.hx X.hb hdg hv (k H locs ls hP hD hS hl)
theorem hlshl (X : hX p s m args meth c G A nL cc own Ts ret) {x v : Int64} {y : Int32} (hdg : decode cc pc = .ok (.lshl, 1)) (hv : x <<< (y.toInt64 &&& 63) = v) (k : hV p l e R s m args below meth c G A nL cells slots Q ws (pc + 1) lv (.long v :: st)) : hV p l e R s m args below meth c G A nL cells slots Q ws pc lv (.int y :: .long x :: st) :=
  fun H locs ls hP hD hS hl => lv_lshl X.hx X.hb hdg hv (k H locs ls hP hD hS hl)
theorem hland (X : hX p s m args meth c G A nL cc own Ts ret) {x y : Int64} (hdg : decode cc pc = .ok (.land, 1)) (k : hV p l e R s m args below meth c G A nL cells slots Q ws (pc + 1) lv (.long (x &&& y) :: st)) : hV p l e R s m args below meth c G A nL cells slots Q ws pc lv (.long y :: .long x :: st) :=
  fun H locs ls hP hD hS hl => lv_land X.hx X.hb hdg (k H locs ls hP hD hS hl)
theorem hlor (X : hX p s m args meth c G A nL cc own Ts ret) {x y : Int64} (hdg : decode cc pc = .ok (.lor, 1)) (k : hV p l e R s m args below meth c G A nL cells slots Q ws (pc + 1) lv (.long (x ||| y) :: st)) : hV p l e R s m args below meth c G A nL cells slots Q ws pc lv (.long y :: .long x :: st) :=
  fun H locs ls hP hD hS hl => lv_lor X.hx X.hb hdg (k H locs ls hP hD hS hl)
theorem hi2l (X : hX p s m args meth c G A nL cc own Ts ret) {x : Int32} {v : Int64} (hdg : decode cc pc = .ok (.i2l, 1)) (hv : x.toInt64 = v) (k : hV p l e R s m args below meth c G A nL cells slots Q ws (pc + 1) lv (.long v :: st)) : hV p l e R s m args below meth c G A nL cells slots Q ws pc lv (.int x :: st) :=
  fun H locs ls hP hD hS hl => lv_i2l X.hx X.hb hdg hv (k H locs ls hP hD hS hl)
theorem hl2i (X : hX p s m args meth c G A nL cc own Ts ret) {x : Int64} {v : Int32} (hdg : decode cc pc = .ok (.l2i, 1)) (hv : x.toInt32 = v) (k : hV p l e R s m args below meth c G A nL cells slots Q ws (pc + 1) lv (.int v :: st)) : hV p l e R s m args below meth c G A nL cells slots Q ws pc lv (.long x :: st) :=
  fun H locs ls hP hD hS hl => lv_l2i X.hx X.hb hdg hv (k H locs ls hP hD hS hl)
theorem hi2c (X : hX p s m args meth c G A nL cc own Ts ret) {x v : Int32} (hdg : decode cc pc = .ok (.i2c, 1)) (hv : (x.toUInt32 % 65536).toInt32 = v) (k : hV p l e R s m args below meth c G A nL cells slots Q ws (pc + 1) lv (.int v :: st)) : hV p l e R s m args below meth c G A nL cells slots Q ws pc lv (.int x :: st) :=
  fun H locs ls hP hD hS hl => lv_i2c X.hx X.hb hdg hv (k H locs ls hP hD hS hl)
theorem hlcmp (X : hX p s m args meth c G A nL cc own Ts ret) {x y : Int64} (hdg : decode cc pc = .ok (.lcmp, 1)) (k : hV p l e R s m args below meth c G A nL cells slots Q ws (pc + 1) lv (.int (lg_cmp x y) :: st)) : hV p l e R s m args below meth c G A nL cells slots Q ws pc lv (.long y :: .long x :: st) :=
  fun H locs ls hP hD hS hl => W.lcmp X.hx X.hb hdg (k H locs ls hP hD hS hl)
theorem hdup (X : hX p s m args meth c G A nL cc own Ts ret) {va : Value} (hdg : decode cc pc = .ok (.dup, 1)) (hva : va.category = 1) (k : hV p l e R s m args below meth c G A nL cells slots Q ws (pc + 1) lv (va :: va :: st)) : hV p l e R s m args below meth c G A nL cells slots Q ws pc lv (va :: st) :=
  fun H locs ls hP hD hS hl => lv_dup X.hx X.hb hdg hva (k H locs ls hP hD hS hl)
theorem hdup2 (X : hX p s m args meth c G A nL cc own Ts ret) {va vb : Value} (hdg : decode cc pc = .ok (.dup2, 1)) (hva : va.category = 1) (hvb : vb.category = 1) (k : hV p l e R s m args below meth c G A nL cells slots Q ws (pc + 1) lv (va :: vb :: va :: vb :: st)) : hV p l e R s m args below meth c G A nL cells slots Q ws pc lv (va :: vb :: st) :=
  fun H locs ls hP hD hS hl => lv_dup2_11 X.hx X.hb hdg hva hvb (k H locs ls hP hD hS hl)
theorem hpop (X : hX p s m args meth c G A nL cc own Ts ret) {va : Value} (hdg : decode cc pc = .ok (.pop, 1)) (hva : va.category = 1) (k : hV p l e R s m args below meth c G A nL cells slots Q ws (pc + 1) lv st) : hV p l e R s m args below meth c G A nL cells slots Q ws pc lv (va :: st) :=
  fun H locs ls hP hD hS hl => lv_pop X.hx X.hb hdg hva (k H locs ls hP hD hS hl)
theorem hgoto (X : hX p s m args meth c G A nL cc own Ts ret) {off : Int} {tgt : Nat} (hdg : decode cc pc = .ok (.goto off, 3)) (ht : (pc : Int) + off = (tgt : Int)) (k : hV p l e R s m args below meth c G A nL cells slots Q ws tgt lv st) : hV p l e R s m args below meth c G A nL cells slots Q ws pc lv st :=
  fun H locs ls hP hD hS hl => lv_goto X.hx X.hb hdg ht (k H locs ls hP hD hS hl)
theorem hif_eq (X : hX p s m args meth c G A nL cc own Ts ret) {x : Int32} {off : Int} {tgt : Nat} (hdg : decode cc pc = .ok (.ifCond .eq off, 3)) (ht : (pc : Int) + off = (tgt : Int)) (kt : x = 0 → hV p l e R s m args below meth c G A nL cells slots Q ws tgt lv st) (kf : ¬ x = 0 → hV p l e R s m args below meth c G A nL cells slots Q ws (pc + 3) lv st) : hV p l e R s m args below meth c G A nL cells slots Q ws pc lv (.int x :: st) :=
  fun H locs ls hP hD hS hl => lv_if_eq X.hx X.hb hdg ht (fun q => kt q H locs ls hP hD hS hl) (fun q => kf q H locs ls hP hD hS hl)
theorem hif_ne (X : hX p s m args meth c G A nL cc own Ts ret) {x : Int32} {off : Int} {tgt : Nat} (hdg : decode cc pc = .ok (.ifCond .ne off, 3)) (ht : (pc : Int) + off = (tgt : Int)) (kt : ¬ x = 0 → hV p l e R s m args below meth c G A nL cells slots Q ws tgt lv st) (kf : x = 0 → hV p l e R s m args below meth c G A nL cells slots Q ws (pc + 3) lv st) : hV p l e R s m args below meth c G A nL cells slots Q ws pc lv (.int x :: st) :=
  fun H locs ls hP hD hS hl => lv_if_ne X.hx X.hb hdg ht (fun q => kt q H locs ls hP hD hS hl) (fun q => kf q H locs ls hP hD hS hl)
theorem hif_lt (X : hX p s m args meth c G A nL cc own Ts ret) {x : Int32} {off : Int} {tgt : Nat} (hdg : decode cc pc = .ok (.ifCond .lt off, 3)) (ht : (pc : Int) + off = (tgt : Int)) (kt : x < 0 → hV p l e R s m args below meth c G A nL cells slots Q ws tgt lv st) (kf : ¬ x < 0 → hV p l e R s m args below meth c G A nL cells slots Q ws (pc + 3) lv st) : hV p l e R s m args below meth c G A nL cells slots Q ws pc lv (.int x :: st) :=
  fun H locs ls hP hD hS hl => lv_if_lt X.hx X.hb hdg ht (fun q => kt q H locs ls hP hD hS hl) (fun q => kf q H locs ls hP hD hS hl)
theorem hif_ge (X : hX p s m args meth c G A nL cc own Ts ret) {x : Int32} {off : Int} {tgt : Nat} (hdg : decode cc pc = .ok (.ifCond .ge off, 3)) (ht : (pc : Int) + off = (tgt : Int)) (kt : 0 ≤ x → hV p l e R s m args below meth c G A nL cells slots Q ws tgt lv st) (kf : ¬ 0 ≤ x → hV p l e R s m args below meth c G A nL cells slots Q ws (pc + 3) lv st) : hV p l e R s m args below meth c G A nL cells slots Q ws pc lv (.int x :: st) :=
  fun H locs ls hP hD hS hl => lv_if_ge X.hx X.hb hdg ht (fun q => kt q H locs ls hP hD hS hl) (fun q => kf q H locs ls hP hD hS hl)
theorem hif_gt (X : hX p s m args meth c G A nL cc own Ts ret) {x : Int32} {off : Int} {tgt : Nat} (hdg : decode cc pc = .ok (.ifCond .gt off, 3)) (ht : (pc : Int) + off = (tgt : Int)) (kt : 0 < x → hV p l e R s m args below meth c G A nL cells slots Q ws tgt lv st) (kf : ¬ 0 < x → hV p l e R s m args below meth c G A nL cells slots Q ws (pc + 3) lv st) : hV p l e R s m args below meth c G A nL cells slots Q ws pc lv (.int x :: st) :=
  fun H locs ls hP hD hS hl => lv_if_gt X.hx X.hb hdg ht (fun q => kt q H locs ls hP hD hS hl) (fun q => kf q H locs ls hP hD hS hl)
theorem hif_le (X : hX p s m args meth c G A nL cc own Ts ret) {x : Int32} {off : Int} {tgt : Nat} (hdg : decode cc pc = .ok (.ifCond .le off, 3)) (ht : (pc : Int) + off = (tgt : Int)) (kt : x ≤ 0 → hV p l e R s m args below meth c G A nL cells slots Q ws tgt lv st) (kf : ¬ x ≤ 0 → hV p l e R s m args below meth c G A nL cells slots Q ws (pc + 3) lv st) : hV p l e R s m args below meth c G A nL cells slots Q ws pc lv (.int x :: st) :=
  fun H locs ls hP hD hS hl => lv_if_le X.hx X.hb hdg ht (fun q => kt q H locs ls hP hD hS hl) (fun q => kf q H locs ls hP hD hS hl)
theorem hicmp_eq (X : hX p s m args meth c G A nL cc own Ts ret) {x y : Int32} {off : Int} {tgt : Nat} (hdg : decode cc pc = .ok (.if_icmp .eq off, 3)) (ht : (pc : Int) + off = (tgt : Int)) (kt : x = y → hV p l e R s m args below meth c G A nL cells slots Q ws tgt lv st) (kf : ¬ x = y → hV p l e R s m args below meth c G A nL cells slots Q ws (pc + 3) lv st) : hV p l e R s m args below meth c G A nL cells slots Q ws pc lv (.int y :: .int x :: st) :=
  fun H locs ls hP hD hS hl => lv_icmp_eq X.hx X.hb hdg ht (fun q => kt q H locs ls hP hD hS hl) (fun q => kf q H locs ls hP hD hS hl)
theorem hicmp_ne (X : hX p s m args meth c G A nL cc own Ts ret) {x y : Int32} {off : Int} {tgt : Nat} (hdg : decode cc pc = .ok (.if_icmp .ne off, 3)) (ht : (pc : Int) + off = (tgt : Int)) (kt : ¬ x = y → hV p l e R s m args below meth c G A nL cells slots Q ws tgt lv st) (kf : x = y → hV p l e R s m args below meth c G A nL cells slots Q ws (pc + 3) lv st) : hV p l e R s m args below meth c G A nL cells slots Q ws pc lv (.int y :: .int x :: st) :=
  fun H locs ls hP hD hS hl => lv_icmp_ne X.hx X.hb hdg ht (fun q => kt q H locs ls hP hD hS hl) (fun q => kf q H locs ls hP hD hS hl)
theorem hicmp_lt (X : hX p s m args meth c G A nL cc own Ts ret) {x y : Int32} {off : Int} {tgt : Nat} (hdg : decode cc pc = .ok (.if_icmp .lt off, 3)) (ht : (pc : Int) + off = (tgt : Int)) (kt : x < y → hV p l e R s m args below meth c G A nL cells slots Q ws tgt lv st) (kf : ¬ x < y → hV p l e R s m args below meth c G A nL cells slots Q ws (pc + 3) lv st) : hV p l e R s m args below meth c G A nL cells slots Q ws pc lv (.int y :: .int x :: st) :=
  fun H locs ls hP hD hS hl => lv_icmp_lt X.hx X.hb hdg ht (fun q => kt q H locs ls hP hD hS hl) (fun q => kf q H locs ls hP hD hS hl)
theorem hicmp_ge (X : hX p s m args meth c G A nL cc own Ts ret) {x y : Int32} {off : Int} {tgt : Nat} (hdg : decode cc pc = .ok (.if_icmp .ge off, 3)) (ht : (pc : Int) + off = (tgt : Int)) (kt : y ≤ x → hV p l e R s m args below meth c G A nL cells slots Q ws tgt lv st) (kf : ¬ y ≤ x → hV p l e R s m args below meth c G A nL cells slots Q ws (pc + 3) lv st) : hV p l e R s m args below meth c G A nL cells slots Q ws pc lv (.int y :: .int x :: st) :=
  fun H locs ls hP hD hS hl => lv_icmp_ge X.hx X.hb hdg ht (fun q => kt q H locs ls hP hD hS hl) (fun q => kf q H locs ls hP hD hS hl)
theorem hicmp_gt (X : hX p s m args meth c G A nL cc own Ts ret) {x y : Int32} {off : Int} {tgt : Nat} (hdg : decode cc pc = .ok (.if_icmp .gt off, 3)) (ht : (pc : Int) + off = (tgt : Int)) (kt : y < x → hV p l e R s m args below meth c G A nL cells slots Q ws tgt lv st) (kf : ¬ y < x → hV p l e R s m args below meth c G A nL cells slots Q ws (pc + 3) lv st) : hV p l e R s m args below meth c G A nL cells slots Q ws pc lv (.int y :: .int x :: st) :=
  fun H locs ls hP hD hS hl => lv_icmp_gt X.hx X.hb hdg ht (fun q => kt q H locs ls hP hD hS hl) (fun q => kf q H locs ls hP hD hS hl)
theorem hicmp_le (X : hX p s m args meth c G A nL cc own Ts ret) {x y : Int32} {off : Int} {tgt : Nat} (hdg : decode cc pc = .ok (.if_icmp .le off, 3)) (ht : (pc : Int) + off = (tgt : Int)) (kt : x ≤ y → hV p l e R s m args below meth c G A nL cells slots Q ws tgt lv st) (kf : ¬ x ≤ y → hV p l e R s m args below meth c G A nL cells slots Q ws (pc + 3) lv st) : hV p l e R s m args below meth c G A nL cells slots Q ws pc lv (.int y :: .int x :: st) :=
  fun H locs ls hP hD hS hl => lv_icmp_le X.hx X.hb hdg ht (fun q => kt q H locs ls hP hD hS hl) (fun q => kf q H locs ls hP hD hS hl)
theorem htableIn (X : hX p s m args meth c G A nL cc own Ts ret) {dflt lo hi : Int} {offs : Array Int} {len : Nat} {x : Int32} {off : Int} {tgt : Nat} (hdg : decode cc pc = .ok (.tableswitch dflt lo hi offs, len)) (h1 : ¬ x.toInt < lo) (h2 : ¬ hi < x.toInt) (ho : offs[(x.toInt - lo).toNat]? = some off) (ht : (pc : Int) + off = (tgt : Int)) (k : hV p l e R s m args below meth c G A nL cells slots Q ws tgt lv st) : hV p l e R s m args below meth c G A nL cells slots Q ws pc lv (.int x :: st) :=
  fun H locs ls hP hD hS hl => lv_tableIn X.hx X.hb hdg h1 h2 ho ht (k H locs ls hP hD hS hl)
theorem htableOut (X : hX p s m args meth c G A nL cc own Ts ret) {dflt lo hi : Int} {offs : Array Int} {len : Nat} {x : Int32} {tgt : Nat} (hdg : decode cc pc = .ok (.tableswitch dflt lo hi offs, len)) (h : x.toInt < lo ∨ hi < x.toInt) (ht : (pc : Int) + dflt = (tgt : Int)) (k : hV p l e R s m args below meth c G A nL cells slots Q ws tgt lv st) : hV p l e R s m args below meth c G A nL cells slots Q ws pc lv (.int x :: st) :=
  fun H locs ls hP hD hS hl => lv_tableOut X.hx X.hb hdg h ht (k H locs ls hP hD hS hl)
theorem hlookup (X : hX p s m args meth c G A nL cc own Ts ret) {dflt : Int} {ps : Array (Int × Int)} {len : Nat} {x : Int32} {off : Int} {tgt : Nat} (hdg : decode cc pc = .ok (.lookupswitch dflt ps, len)) (hp : (ps.toList.zip (ps.toList.drop 1)).all (fun (a, next) => a.1 < next.1) = true) (ho : Op.lookupswitch.offset ps.toList dflt x.toInt = off) (ht : (pc : Int) + off = (tgt : Int)) (k : hV p l e R s m args below meth c G A nL cells slots Q ws tgt lv st) : hV p l e R s m args below meth c G A nL cells slots Q ws pc lv (.int x :: st) :=
  fun H locs ls hP hD hS hl => lv_lookup X.hx X.hb hdg hp ho ht (k H locs ls hP hD hS hl)
theorem hifnonnull (X : hX p s m args meth c G A nL cc own Ts ret) {x : Nat} {off : Int} {tgt : Nat} (hdg : decode cc pc = .ok (.ifnonnull off, 3)) (ht : (pc : Int) + off = (tgt : Int)) (k : hV p l e R s m args below meth c G A nL cells slots Q ws tgt lv st) : hV p l e R s m args below meth c G A nL cells slots Q ws pc lv (.ref x :: st) :=
  fun H locs ls hP hD hS hl => lv_ifnonnull X.hx X.hb hdg ht (k H locs ls hP hD hS hl)
theorem hifnull (X : hX p s m args meth c G A nL cc own Ts ret) {x : Nat} {off : Int} (hdg : decode cc pc = .ok (.ifnull off, 3)) (k : hV p l e R s m args below meth c G A nL cells slots Q ws (pc + 3) lv st) : hV p l e R s m args below meth c G A nL cells slots Q ws pc lv (.ref x :: st) :=
  fun H locs ls hP hD hS hl => lv_ifnull X.hx X.hb hdg (k H locs ls hP hD hS hl)
-- fields
theorem hget1 (X : hX p s m args meth c G A nL cc own Ts ret) {C : String} {T : u_T} {N ci index a : Nat} (hin : ∀ w ∈ u_ws C T N, w ∈ Ts) (q0 : Nat) {fs : List Value} (he : ws[q0]? = some (a, .inr (ci, fs))) (hc : vwCl[ci]? = some (C, T, N)) (k : Nat) (hk : k < N) (hlink : Cond.fieldLink own index (T k).1 (T k).2.1 (T k).2.2.1 ∈ Ts) {v : Value} (hv : fs[k]? = some v) (hdg : decode cc pc = .ok (.getfield index, 3)) (kk : hV p l e R s m args below meth c G A nL cells slots Q ws (pc + 3) lv (v :: st)) : hV p l e R s m args below meth c G A nL cells slots Q ws pc lv (.ref a :: st) :=
  fun H locs ls hP hD hS hl => va_get X.hx X.hb X.hts hin X.hown X.hK hP q0 he hc k hk (X.hts _ hlink) (fun _ h9 => h9) hv hdg (kk H locs ls hP hD hS hl)
theorem hgetN (X : hX p s m args meth c G A nL cc own Ts ret) {C : String} {T : u_T} {N ci index a : Nat} (hin : ∀ w ∈ u_ws C T N, w ∈ Ts) (q0 : Nat) {fs : List Value} (he : ws[q0]? = some (a, .inr (ci, fs))) (hc : vwCl[ci]? = some (C, T, N)) (k : Nat) (hk : k < N) (hlink : (own, index, (T k).1, (T k).2.1, (T k).2.2.1) ∈ hNF) {v : Value} (hv : fs[k]? = some v) (hdg : decode cc pc = .ok (.getfield index, 3)) (kk : hV p l e R s m args below meth c G A nL cells slots Q ws (pc + 3) lv (v :: st)) : hV p l e R s m args below meth c G A nL cells slots Q ws pc lv (.ref a :: st) :=
  fun H locs ls hP hD hS hl => va_getN X.hx X.hb X.hts hin X.hown X.hK hP q0 he hc k hk (va_Nw.use rfl (X.hE.1.1 _ hlink)) (fun _ h9 => h9) hv hdg (kk H locs ls hP hD hS hl)
theorem hput1 (X : hX p s m args meth c G A nL cc own Ts ret) {C : String} {T : u_T} {N ci index a : Nat} (hin : ∀ w ∈ u_ws C T N, w ∈ Ts) (ty0 : Nat → FieldType) (hty : ∀ k, k < N → parseFieldDescriptor (T k).2.2.1 = some (ty0 k)) (hnm : ∀ a, a < N → ∀ b, b < N → a ≠ b → (T a).2.1 ≠ (T b).2.1) (q0 : Nat) {fs : List Value} (he : ws[q0]? = some (a, .inr (ci, fs))) (hc : vwCl[ci]? = some (C, T, N)) (k : Nat) (hk : k < N) (hlink : Cond.fieldLink own index (T k).1 (T k).2.1 (T k).2.2.1 ∈ Ts) (hfin : (T k).2.2.2 = false) {v : Value} (hn : narrow (ty0 k) v = v) (hfit : fits (ty0 k) v = true) (hl : k < fs.length) (hdg : decode cc pc = .ok (.putfield index, 3)) {ws' : va_W} (hw : ws.set q0 (a, .inr (ci, fs.set k v)) = ws') (kk : hV p l e R s m args below meth c G A nL cells slots Q ws' (pc + 3) lv st) : hV p l e R s m args below meth c G A nL cells slots Q ws pc lv (v :: .ref a :: st) := by
  subst hw
  exact fun H locs ls hP hD hS hl0 => va_put X.hx X.hb X.hts hin ty0 hty hnm X.hown X.hK hP hD hS q0 he hc k hk (X.hts _ hlink) (fun _ h9 => h9) hfin (hty k hk) hn hfit hl hdg (fun H1 locs1 hP hD hS => kk H1 locs1 ls hP hD hS hl0)
theorem hputN (X : hX p s m args meth c G A nL cc own Ts ret) {C : String} {T : u_T} {N ci index a : Nat} (hin : ∀ w ∈ u_ws C T N, w ∈ Ts) (ty0 : Nat → FieldType) (hty : ∀ k, k < N → parseFieldDescriptor (T k).2.2.1 = some (ty0 k)) (hnm : ∀ a, a < N → ∀ b, b < N → a ≠ b → (T a).2.1 ≠ (T b).2.1) (q0 : Nat) {fs : List Value} (he : ws[q0]? = some (a, .inr (ci, fs))) (hc : vwCl[ci]? = some (C, T, N)) (k : Nat) (hk : k < N) (hlink : (own, index, (T k).1, (T k).2.1, (T k).2.2.1) ∈ hNF) (hfin : (T k).2.2.2 = false) {v : Value} (hn : narrow (ty0 k) v = v) (hfit : fits (ty0 k) v = true) (hl : k < fs.length) (hdg : decode cc pc = .ok (.putfield index, 3)) {ws' : va_W} (hw : ws.set q0 (a, .inr (ci, fs.set k v)) = ws') (kk : hV p l e R s m args below meth c G A nL cells slots Q ws' (pc + 3) lv st) : hV p l e R s m args below meth c G A nL cells slots Q ws pc lv (v :: .ref a :: st) := by
  subst hw
  exact fun H locs ls hP hD hS hl0 => va_putN X.hx X.hb X.hts hin ty0 hty hnm X.hown X.hK hP hD hS q0 he hc k hk (va_Nw.use rfl (X.hE.1.1 _ hlink)) (fun _ h9 => h9) hfin (hty k hk) hn hfit hl hdg (fun H1 locs1 hP hD hS => kk H1 locs1 ls hP hD hS hl0)
theorem hputF (X : hX p s m args meth c G A nL cc own Ts ret) (hin2 : meth.name = "<init>") {C : String} {T : u_T} {N ci index a : Nat} (hin : ∀ w ∈ u_ws C T N, w ∈ Ts) (ty0 : Nat → FieldType) (hty : ∀ k, k < N → parseFieldDescriptor (T k).2.2.1 = some (ty0 k)) (hnm : ∀ a, a < N → ∀ b, b < N → a ≠ b → (T a).2.1 ≠ (T b).2.1) (q0 : Nat) {fs : List Value} (he : ws[q0]? = some (a, .inr (ci, fs))) (hc : vwCl[ci]? = some (C, T, N)) (k : Nat) (hk : k < N) (hlink : Cond.fieldLink own index (T k).1 (T k).2.1 (T k).2.2.1 ∈ Ts) (hfin : (T k).2.2.2 = true) (hdecl : (T k).1 = own) {v : Value} (hn : narrow (ty0 k) v = v) (hfit : fits (ty0 k) v = true) (hl : k < fs.length) (hdg : decode cc pc = .ok (.putfield index, 3)) {ws' : va_W} (hw : ws.set q0 (a, .inr (ci, fs.set k v)) = ws') (kk : hV p l e R s m args below meth c G A nL cells slots Q ws' (pc + 3) lv st) : hV p l e R s m args below meth c G A nL cells slots Q ws pc lv (v :: .ref a :: st) := by
  subst hw
  exact fun H locs ls hP hD hS hl0 => va_putF X.hx X.hb X.hts hin ty0 hty hnm X.hown X.hK hP hD hS q0 he hc k hk (X.hts _ hlink) (fun _ h9 => h9) hfin hin2 hdecl (hty k hk) hn hfit hl hdg (fun H1 locs1 hP hD hS => kk H1 locs1 ls hP hD hS hl0)
-- arrays
theorem hialen (X : hX p s m args meth c G A nL cc own Ts ret) (q0 t0 : Nat) {a : Nat} {cA : ClassId} {x : vp_A} (ha : ws[q0]? = some (a, .inl (cA, x))) {ty : FieldType} (ht : (hT G)[t0]? = some (cA, ty)) {v : Int32} (hv : Int32.ofNat x.1 = v) (hdg : decode cc pc = .ok (.arraylength, 1)) (k : hV p l e R s m args below meth c G A nL cells slots Q ws (pc + 1) lv (.int v :: st)) : hV p l e R s m args below meth c G A nL cells slots Q ws pc lv (.ref a :: st) :=
  fun H locs ls hP hD hS hl => va_alen X.hx X.hb X.hK hP q0 t0 ha ht hv hdg (k H locs ls hP hD hS hl)
theorem hiald (X : hX p s m args meth c G A nL cc own Ts ret) (q0 : Nat) {a n : Nat} {f : Nat → Int32} (ha : ws[q0]? = some (a, .inl (G.2.1 0, n, .inl f))) {i : Int32} (k : Nat) (hi : i = nI k) (hk : k < n) (hn : n < 2 ^ 31) (hdg : decode cc pc = .ok (.iaload, 1)) (kk : hV p l e R s m args below meth c G A nL cells slots Q ws (pc + 1) lv (.int (f k) :: st)) : hV p l e R s m args below meth c G A nL cells slots Q ws pc lv (.int i :: .ref a :: st) := by
  subst hi
  intro H locs ls hP hD hS hl
  refine va_iald X.hx X.hb X.hK hP q0 0 ha rfl (vp_in_nI hk hn) hdg ?_
  rw [nI_clamp (Nat.lt_trans hk hn)]
  exact kk H locs ls hP hD hS hl
theorem hiast (X : hX p s m args meth c G A nL cc own Ts ret) (q0 : Nat) {a n : Nat} {f : Nat → Int32} (ha : ws[q0]? = some (a, .inl (G.2.1 0, n, .inl f))) {i x : Int32} (k : Nat) (hi : i = nI k) (hk : k < n) (hn : n < 2 ^ 31) (hdg : decode cc pc = .ok (.iastore, 1)) {ws' : va_W} (hw : ws.set q0 (a, .inl (G.2.1 0, n, .inl (upd f k x))) = ws') (kk : hV p l e R s m args below meth c G A nL cells slots Q ws' (pc + 1) lv st) : hV p l e R s m args below meth c G A nL cells slots Q ws pc lv (.int x :: .int i :: .ref a :: st) := by
  subst hi; subst hw
  intro H locs ls hP hD hS hl
  refine va_iast X.hx X.hb X.hK hP hD hS q0 0 ha rfl (vp_in_nI hk hn) hdg ?_
  rw [nI_clamp (Nat.lt_trans hk hn)]
  exact fun H1 locs1 hP hD hS => kk H1 locs1 ls hP hD hS hl
theorem hcald (X : hX p s m args meth c G A nL cc own Ts ret) (q0 : Nat) {a n : Nat} {f : Nat → Int32} (ha : ws[q0]? = some (a, .inl (G.2.1 1, n, .inl f))) {i : Int32} (k : Nat) (hi : i = nI k) (hk : k < n) (hn : n < 2 ^ 31) (hdg : decode cc pc = .ok (.caload, 1)) (kk : hV p l e R s m args below meth c G A nL cells slots Q ws (pc + 1) lv (.int (f k) :: st)) : hV p l e R s m args below meth c G A nL cells slots Q ws pc lv (.int i :: .ref a :: st) := by
  subst hi
  intro H locs ls hP hD hS hl
  refine va_cald X.hx X.hb X.hK hP q0 1 ha rfl (vp_in_nI hk hn) hdg ?_
  rw [nI_clamp (Nat.lt_trans hk hn)]
  exact kk H locs ls hP hD hS hl
theorem hcast (X : hX p s m args meth c G A nL cc own Ts ret) (q0 : Nat) {a n : Nat} {f : Nat → Int32} (ha : ws[q0]? = some (a, .inl (G.2.1 1, n, .inl f))) {i x : Int32} (k : Nat) (hi : i = nI k) (hk : k < n) (hn : n < 2 ^ 31) (hdg : decode cc pc = .ok (.castore, 1)) {ws' : va_W} (hw : ws.set q0 (a, .inl (G.2.1 1, n, .inl (upd f k (vp_nar .char x)))) = ws') (kk : hV p l e R s m args below meth c G A nL cells slots Q ws' (pc + 1) lv st) : hV p l e R s m args below meth c G A nL cells slots Q ws pc lv (.int x :: .int i :: .ref a :: st) := by
  subst hi; subst hw
  intro H locs ls hP hD hS hl
  refine va_cast X.hx X.hb X.hK hP hD hS q0 1 ha rfl (vp_in_nI hk hn) hdg ?_
  rw [nI_clamp (Nat.lt_trans hk hn)]
  exact fun H1 locs1 hP hD hS => kk H1 locs1 ls hP hD hS hl
theorem hzald (X : hX p s m args meth c G A nL cc own Ts ret) (q0 : Nat) {a n : Nat} {f : Nat → Int32} (ha : ws[q0]? = some (a, .inl (G.2.1 2, n, .inl f))) {i : Int32} (k : Nat) (hi : i = nI k) (hk : k < n) (hn : n < 2 ^ 31) (hdg : decode cc pc = .ok (.baload, 1)) (kk : hV p l e R s m args below meth c G A nL cells slots Q ws (pc + 1) lv (.int (f k) :: st)) : hV p l e R s m args below meth c G A nL cells slots Q ws pc lv (.int i :: .ref a :: st) := by
  subst hi
  intro H locs ls hP hD hS hl
  refine va_zald X.hx X.hb X.hK hP q0 2 ha rfl (vp_in_nI hk hn) hdg ?_
  rw [nI_clamp (Nat.lt_trans hk hn)]
  exact kk H locs ls hP hD hS hl
theorem hzast (X : hX p s m args meth c G A nL cc own Ts ret) (q0 : Nat) {a n : Nat} {f : Nat → Int32} (ha : ws[q0]? = some (a, .inl (G.2.1 2, n, .inl f))) {i x : Int32} (k : Nat) (hi : i = nI k) (hk : k < n) (hn : n < 2 ^ 31) (hdg : decode cc pc = .ok (.bastore, 1)) {ws' : va_W} (hw : ws.set q0 (a, .inl (G.2.1 2, n, .inl (upd f k (vp_nar .boolean x)))) = ws') (kk : hV p l e R s m args below meth c G A nL cells slots Q ws' (pc + 1) lv st) : hV p l e R s m args below meth c G A nL cells slots Q ws pc lv (.int x :: .int i :: .ref a :: st) := by
  subst hi; subst hw
  intro H locs ls hP hD hS hl
  refine va_zast X.hx X.hb X.hK hP hD hS q0 2 ha rfl (vp_in_nI hk hn) hdg ?_
  rw [nI_clamp (Nat.lt_trans hk hn)]
  exact fun H1 locs1 hP hD hS => kk H1 locs1 ls hP hD hS hl
theorem haald (X : hX p s m args meth c G A nL cc own Ts ret) (q0 : Nat) {a n : Nat} {f : Nat → Option Nat} (ha : ws[q0]? = some (a, .inl (G.2.1 3, n, .inr (.inr (.inr (.inr f)))))) {i : Int32} (k : Nat) (hi : i = nI k) (hk : k < n) (hn : n < 2 ^ 31) (hdg : decode cc pc = .ok (.aaload, 1)) (kk : hV p l e R s m args below meth c G A nL cells slots Q ws (pc + 1) lv (va_rf (f k) :: st)) : hV p l e R s m args below meth c G A nL cells slots Q ws pc lv (.int i :: .ref a :: st) := by
  subst hi
  intro H locs ls hP hD hS hl
  refine va_aldq X.hx X.hb X.hK hP q0 3 ha rfl (vp_in_nI hk hn) hdg ?_
  rw [nI_clamp (Nat.lt_trans hk hn)]
  exact kk H locs ls hP hD hS hl
theorem haast (X : hX p s m args meth c G A nL cc own Ts ret) (q0 qk : Nat) {a n v : Nat} {vs : List Value} {f : Nat → Option Nat} (ha : ws[q0]? = some (a, .inl (G.2.1 3, n, .inr (.inr (.inr (.inr f)))))) (hv : ws[qk]? = some (v, .inr (1, vs))) {i : Int32} (k : Nat) (hi : i = nI k) (hk : k < n) (hn : n < 2 ^ 31) (hdg : decode cc pc = .ok (.aastore, 1)) {ws' : va_W} (hw : ws.set q0 (a, .inl (G.2.1 3, n, .inr (.inr (.inr (.inr (va_up f k (some v))))))) = ws') (kk : hV p l e R s m args below meth c G A nL cells slots Q ws' (pc + 1) lv st) : hV p l e R s m args below meth c G A nL cells slots Q ws pc lv (.ref v :: .int i :: .ref a :: st) := by
  subst hi; subst hw
  intro H locs ls hP hD hS hl
  refine va_astq (r := (RX1, TX1, 7)) X.hx X.hb X.hK hP hD hS q0 3 qk 1 ha rfl hv rfl (vp_in_nI hk hn) hdg ?_
  rw [nI_clamp (Nat.lt_trans hk hn)]
  exact fun H1 locs1 hP hD hS => kk H1 locs1 ls hP hD hS hl
-- making
theorem hnew (X : hX p s m args meth c G A nL cc own Ts ret) {C : String} {T : u_T} {N ci index : Nat} (hin : ∀ w ∈ u_ws C T N, w ∈ Ts) (ty : Nat → FieldType) (hty : ∀ k, k < N → parseFieldDescriptor (T k).2.2.1 = some (ty k)) (hcl : Cond.classLink own index C ∈ Ts) (hinst : Cond.instantiable C N ∈ Ts) (hini : Cond.initialized C ∈ Ts) (hc : vwCl[ci]? = some (C, T, N)) {fs : List Value} (hfs : ∀ j, j < N → defaultValue (ty j) = vp_V fs j) (hcells : cells + 1 ≤ R.cells) (hslots : slots + N ≤ R.slots) (hdg : decode cc pc = .ok (.new index, 3)) (kk : ∀ q : Nat, hV p l e R s m args below meth c G A nL (cells + 1) (slots + N) Q (ws ++ [(q, .inr (ci, fs))]) (pc + 3) lv (.ref q :: st)) : hV p l e R s m args below meth c G A nL cells slots Q ws pc lv st :=
  fun H locs ls hP hD hS hl => va_new X.hx X.hb X.hts hin ty hty X.hown (X.hts _ hcl) (X.hts _ hinst) (X.hts _ hini) X.hK hP hD hS X.hA hc hfs hcells hslots hdg (fun q H1 hP hD hS => kk q H1 locs ls hP hD hS hl)
theorem hRA_in {U : State} {cA cB : ClassId} {t : FieldType} (h1 : va_RA U cA t) (h2 : va_RA U cB t) : cA = cB := by
  cases t with
  | object C =>
    obtain ⟨_, _, _, _, _, h⟩ := h1
    obtain ⟨_, _, _, _, _, h'⟩ := h2
    exact Option.some.inj (h.symm.trans h')
  | _ => exact Option.some.inj (Eq.trans (Eq.symm h1) h2)
theorem hnewa (X : hX p s m args meth c G A nL cc own Ts ret) {atype : ArrayType} (harr : Cond.arrayClass (newarray.typeOf atype) ∈ Ts) {ty : FieldType} (hty : newarray.typeOf atype = ty) (t0 : Nat) {cI : ClassId} (ht : (hT G)[t0]? = some (cI, ty)) {n : Int32} {N' : Nat} {a0 : vp_A} (ha : ∀ cA : ClassId, vp_cell cA a0 = arrV cA N' (fun _ => defaultValue ty)) (hn : ¬ n < 0) (hN : n.toNatClampNeg = N') (hbytes : N' * componentBytes ty ≤ 536870912) (hcells : cells + 1 ≤ R.cells) (hslots : slots + N' ≤ R.slots) (hdg : decode cc pc = .ok (.newarray atype, 2)) (kk : ∀ q : Nat, hV p l e R s m args below meth c G A nL (cells + 1) (slots + N') Q (ws ++ [(q, .inl (cI, a0))]) (pc + 2) lv (.ref q :: st)) : hV p l e R s m args below meth c G A nL cells slots Q ws pc lv (.int n :: st) := by
  intro H locs ls hP hD hS hl
  refine va_newa X.hx X.hb (X.hts _ harr) hty X.hK hP hD hS X.hA ha hn hN hbytes hcells hslots hdg (fun q cA H1 hK hP hD hS => ?_)
  have e : cA = cI := hRA_in (hK.2 4 (cA, ty) rfl).2 (X.hK.2 t0 _ ht).2
  subst e
  exact kk q H1 locs ls hP hD hS hl
theorem hnewq (X : hX p s m args meth c G A nL cc own Ts ret) {index : Nat} (hcl : Cond.classLink own index "HallBuilds$Hall" ∈ Ts) {n : Int32} {N' : Nat} (hn : ¬ n < 0) (hN : n.toNatClampNeg = N') (hbytes : N' * 4 ≤ 536870912) (hcells : cells + 1 ≤ R.cells) (hslots : slots + N' ≤ R.slots) (hdg : decode cc pc = .ok (.anewarray index, 3)) (kk : ∀ q : Nat, hV p l e R s m args below meth c G A nL (cells + 1) (slots + N') Q (ws ++ [(q, .inl (G.2.1 3, N', .inr (.inr (.inr (.inr (fun _ => none))))))]) (pc + 3) lv (.ref q :: st)) : hV p l e R s m args below meth c G A nL cells slots Q ws pc lv (.int n :: st) := by
  intro H locs ls hP hD hS hl
  refine va_newq X.hx X.hb X.hown (X.hts _ hcl) X.hE.1.2.2.2 X.hK hP hD hS X.hA hn hN hbytes hcells hslots hdg (fun q cA H1 hK hP hD hS => ?_)
  have e : cA = G.2.1 3 := hRA_in (hK.2 4 (cA, _) rfl).2 (X.hK.2 3 _ rfl).2
  subst e
  exact kk q H1 locs ls hP hD hS hl
theorem hobj (X : hX p s m args meth c G A nL cc own Ts ret) {idx a : Nat} (h1 : Cond.methodLink own idx Lib.objectInit ∈ Ts) (h2 : Cond.instanceMethod Lib.objectInit ∈ Ts) (h3 : Cond.code Lib.objectInit ⟨#[0xb1]⟩ 1 none ∈ Ts) (hdg : decode cc pc = .ok (.invokespecial idx, 3)) (hf : 1 ≤ R.frames) (hl0 : (st.map fun v => v.category).sum + 12 ≤ R.locals) (k : hV p l e R s m args below meth c G A nL cells slots Q ws (pc + 3) lv st) : hV p l e R s m args below meth c G A nL cells slots Q ws pc lv (.ref a :: st) :=
  fun H locs ls hP hD hS hl => W.objInit X.hx X.hb X.hown (X.hts _ h1) (X.hts _ h2) (X.hts _ h3) rfl (by rw [X.hml]; exact hl.1) rfl hdg hf (by show 2 * 0 + _ + 12 ≤ _; omega) (W.eq (g2 := F0 m (pc + 3) ls st) rfl (k H locs ls hP hD hS hl))
-- Math
theorem hmmax (X : hX p s m args meth c G A nL cc own Ts ret) {index : Nat} (h1 : Cond.methodLink own index Lib.Math.max.name ∈ Ts) (h2 : Cond.static Lib.Math.max.name ∈ Ts) (h3 : Cond.initialized "java/lang/Math" ∈ Ts) (h4 : Cond.code Lib.Math.max.name Lib.Math.max.code 2 (some .int) ∈ Ts) (hf : 1 ≤ R.frames) (hlo : (st.map fun v => v.category).sum + 13 ≤ R.locals) (hc : cells ≤ R.cells) (hs : slots ≤ R.slots) {x y : Int32} (hdg : decode cc pc = .ok (.invokestatic index, 3)) (k : hV p l e R s m args below meth c G A nL cells slots Q ws (pc + 3) lv (.int (if x < y then y else x) :: st)) : hV p l e R s m args below meth c G A nL cells slots Q ws pc lv (.int y :: .int x :: st) :=
  fun H locs ls hP hD hS hl => va_mmax X.hx X.hb (by rw [X.hml]; exact hl.1.symm) X.hown (X.hts _ h1) (X.hts _ h2) (X.hts _ h3) (X.hts _ h4) hf hlo hc hs hdg (k H locs ls hP hD hS hl)
theorem hmmin (X : hX p s m args meth c G A nL cc own Ts ret) {index : Nat} (h1 : Cond.methodLink own index Lib.Math.min.name ∈ Ts) (h2 : Cond.static Lib.Math.min.name ∈ Ts) (h3 : Cond.initialized "java/lang/Math" ∈ Ts) (h4 : Cond.code Lib.Math.min.name Lib.Math.min.code 2 (some .int) ∈ Ts) (hf : 1 ≤ R.frames) (hlo : (st.map fun v => v.category).sum + 13 ≤ R.locals) (hc : cells ≤ R.cells) (hs : slots ≤ R.slots) {x y : Int32} (hdg : decode cc pc = .ok (.invokestatic index, 3)) (k : hV p l e R s m args below meth c G A nL cells slots Q ws (pc + 3) lv (.int (if y < x then y else x) :: st)) : hV p l e R s m args below meth c G A nL cells slots Q ws pc lv (.int y :: .int x :: st) :=
  fun H locs ls hP hD hS hl => va_mmin X.hx X.hb (by rw [X.hml]; exact hl.1.symm) X.hown (X.hts _ h1) (X.hts _ h2) (X.hts _ h3) (X.hts _ h4) hf hlo hc hs hdg (k H locs ls hP hD hS hl)
-- the table MOST_OF_SETTINGS
theorem hgetsM (X : hX p s m args meth c G A nL cc own Ts ret) {index : Nat} (hlink : (own, index, "HallBuilds", "MOST_OF_SETTINGS", "[I") ∈ hNF) (hdg : decode cc pc = .ok (.getstatic index, 3)) (k : hV p l e R s m args below meth c G A nL cells slots Q ws (pc + 3) lv (.ref (G.2.2 1) :: st)) : hV p l e R s m args below meth c G A nL cells slots Q ws pc lv st :=
  fun H locs ls hP hD hS hl => va_getsN X.hx X.hb X.hE.2.2.1 hS X.hown (va_Nw.use rfl (X.hE.1.1 _ hlink)) (fun _ h9 => h9) hdg (k H locs ls hP hD hS hl)
theorem hgetsF (X : hX p s m args meth c G A nL cc own Ts ret) {index : Nat} (hlink : (own, index, "HallBuilds", "FIRST_SETTINGS", "[I") ∈ hNF) (hdg : decode cc pc = .ok (.getstatic index, 3)) (k : hV p l e R s m args below meth c G A nL cells slots Q ws (pc + 3) lv (.ref (G.2.2 0) :: st)) : hV p l e R s m args below meth c G A nL cells slots Q ws pc lv st :=
  fun H locs ls hP hD hS hl => va_getsN X.hx X.hb X.hE.2.1 hS X.hown (va_Nw.use rfl (X.hE.1.1 _ hlink)) (fun _ h9 => h9) hdg (k H locs ls hP hD hS hl)
theorem hialdM (X : hX p s m args meth c G A nL cc own Ts ret) {i : Int32} (k : Nat) (hi : i = nI k) (hk : k < 3) (hdg : decode cc pc = .ok (.iaload, 1)) (kk : hV p l e R s m args below meth c G A nL cells slots Q ws (pc + 1) lv (.int (hMst k) :: st)) : hV p l e R s m args below meth c G A nL cells slots Q ws pc lv (.int i :: .ref (G.2.2 1) :: st) := by
  subst hi
  intro H locs ls hP hD hS hl
  exact va_ti (v := .int (hMst k)) X.hx X.hb X.hE.2.2.2.1 hS (vp_in_nI hk (by omega)) (by rw [nI_clamp (by omega)]) hdg (kk H locs ls hP hD hS hl)
end HV
theorem hlenM {p : Program} {l : Launch} {e : Env} {R : Room} {s : State} {m : MethodId} {args : Array Value} {below : List Frame} {meth : Method} {c : Code} {cells slots : Nat} {Q : State → Prop} {G : hG} {A : Nat → Prop} {nL : Nat} {cc : ByteArray} {own : String} {Ts : List Cond} {ret : Option FieldType} {ws : va_W} {pc : Nat} {lv : List (Nat × Value)} {st : List Value} (X : hX p s m args meth c G A nL cc own Ts ret) {v : Int32} (hv : Int32.ofNat 3 = v) (hdg : decode cc pc = .ok (.arraylength, 1)) (k : hV p l e R s m args below meth c G A nL cells slots Q ws (pc + 1) lv (.int v :: st)) : hV p l e R s m args below meth c G A nL cells slots Q ws pc lv (.ref (G.2.2 1) :: st) :=
  fun H locs ls hP hD hS hl => va_tlen X.hx X.hb X.hE.2.2.2.1 hS hv hdg (k H locs ls hP hD hS hl)
/-! contracts: from a world and arguments to an answer and a world -/
def hPc (G : hG) (ws : va_W) (as : List Value) (sz : Nat) : Array Value → State → Prop := va_Pc as (fun U => U.heap.size = sz ∧ va_P G.1 vwCl ws U.heap ∧ va_K G.1 vwCl (hT G) U ∧ va_D (fun _ => True) ws ∧ hE G (va_A ws sz) U U.heap)
def hQc (G : hG) (ws : va_W) (sz : Nat) (post : Option Value → va_W → Prop) : Array Value → State → Outcome → State → Prop := fun _ st oc t => (∃ (v : Option Value) (ws' : va_W), oc = .returned v ∧ post v ws' ∧ va_P G.1 vwCl ws' t.heap ∧ va_D (va_A ws sz) ws') ∧ va_F (va_A ws sz) st t
def hM (l : Launch) (G : hG) (y : MethodName) (wds : List Cond) (rm : Room) (ws : va_W) (as : List Value) (post : Option Value → va_W → Prop) : Prop := ∀ sz : Nat, Met l y wds rm (hPc G ws as sz) (hQc G ws sz post) rm.cells rm.slots (va_A ws sz)
/-- the answer v and the world w, nothing else -/
def hR (v : Option Value) (w : va_W) : Option Value → va_W → Prop := fun v' w' => v' = v ∧ w' = w
theorem hPc_blind {G : hG} {ws : va_W} {as : List Value} {sz : Nat} : FrameBlind (hPc G ws as sz) := by
  intro a U g mk q
  obtain ⟨q0, q1, qP, qK, qD, qE⟩ := q
  exact ⟨q0, q1, qP, va_K.moved (u := U) (U := U.calling g mk a) (Vm.Alike.refl U.vm) qK, qD, hE.same (s := U) (U := U.calling g mk a) rfl qE⟩
section HC
variable {p : Program} {l : Launch} {e : Env} {R : Room} {s : State} {m : MethodId} {args : Array Value} {below : List Frame} {meth : Method} {c : Code} {cells slots : Nat} {Q : State → Prop}
variable {G : hG} {A : Nat → Prop} {nL : Nat} {cc : ByteArray} {own : String} {Ts : List Cond} {ret : Option FieldType}
variable {ws : va_W} {pc : Nat} {lv : List (Nat × Value)} {st : List Value}
/-- what a callee is given -/
theorem hPc_at (X : hX p s m args meth c G A nL cc own Ts ret) {wsC wsR : va_W} {as : List Value} {H : Heap} {locs : List Loc} (hP : va_P G.1 vwCl (wsC ++ wsR) H) (hD : va_D A (wsC ++ wsR)) (hS : va_S A s.heap H locs) (U : State) (hU : U.heap = H) (hW : s.WarmedH U.vm) : hPc G wsC as H.size as.toArray U := by
  have hPc : va_P G.1 vwCl wsC H := hPmem.mpr fun q hq => hPmem.mp hP q (List.mem_append_left _ hq)
  have hD' := hDmem.mp hD
  have hDc : va_D (fun _ => True) wsC := hDmem.mpr ⟨by
    have h := hD'.1
    rw [List.map_append] at h
    exact (List.nodup_append.mp h).1, fun _ _ => trivial⟩
  refine ⟨rfl, by rw [hU], by rw [hU]; exact hPc, va_K.moved hW.alike X.hK, hDc, ?_⟩
  have h1 : hE G A s H := X.hE.kept fun a ha hn => hS.2.1 a ha hn
  rw [hU]
  refine (h1.warm hW).narrow fun q hq => ?_
  rcases hq with ⟨k, en, hk⟩ | hq
  · exact hD'.2 (q, en) (List.mem_append_left _ (List.mem_of_getElem? hk))
  · exact X.hA q (Nat.le_trans hS.1 hq)
theorem hV_run (X : hX p s m args meth c G A nL cc own Ts ret) {wsC wsR : va_W} {post : Option Value → va_W → Prop} {mc ms : Nat} {rest : List Value} {a : Array Value}
    (hrun : ∀ (H : Heap) (locs : List Loc) (ls : Array Slot), va_P G.1 vwCl (wsC ++ wsR) H → va_D A (wsC ++ wsR) → va_S A s.heap H locs → lv_has ls nL lv → va_Run p l e R s m args below meth c H locs cells slots mc ms (F0 m pc ls st) rest (hQc G wsC H.size post a) (va_A wsC H.size))
    (kk : ∀ (v : Option Value) (ws1 : va_W), post v ws1 → hV p l e R s m args below meth c G A nL (cells + mc) (slots + ms) Q (ws1 ++ wsR) (pc + 3) lv (v.toList ++ rest)) : hV p l e R s m args below meth c G A nL cells slots Q (wsC ++ wsR) pc lv st := by
  intro H locs ls hP hD hS hl T hT Y
  obtain ⟨v, st₀, t, T', L, h0, X', hL, e1, e2, ⟨⟨v', ws1, hv, hp, hP1, hD1⟩, hz, hk⟩, goes⟩ := hrun H locs ls hP hD hS hl T hT Y
  cases hv
  rw [h0] at hz hk
  have hDm := hDmem.mp hD
  have hAc : ∀ q : Nat, va_A wsC H.size q → A q := by
    intro q hq
    rcases hq with ⟨k, en, hk⟩ | hq
    · exact hDm.2 (q, en) (List.mem_append_left _ (List.mem_of_getElem? hk))
    · exact X.hA q (Nat.le_trans hS.1 hq)
  have apart : ∀ q ∈ wsR, q.1 < H.size ∧ ¬ va_A wsC H.size q.1 := by
    intro q hq
    have hlt : q.1 < H.size := va_at.lt (hPmem.mp hP q (List.mem_append_right _ hq))
    refine ⟨hlt, fun h => ?_⟩
    rcases h with ⟨k, en, hk⟩ | h
    · have hnd := hDm.1
      rw [List.map_append] at hnd
      exact (List.nodup_append.mp hnd).2.2 q.1 (List.mem_map.mpr ⟨(q.1, en), List.mem_of_getElem? hk, rfl⟩) q.1 (List.mem_map.mpr ⟨q, hq, rfl⟩) rfl
    · omega
  have hPn : va_P G.1 vwCl (ws1 ++ wsR) t.heap := hPmem.mpr fun q hq => by
    rcases List.mem_append.mp hq with h | h
    · exact hPmem.mp hP1 q h
    · obtain ⟨g1, g2⟩ := apart q h
      exact va_at.kept (hPmem.mp hP q (List.mem_append_right _ h)) (hk q.1 g1 g2)
  have hDn : va_D A (ws1 ++ wsR) := by
    have hD1' := hDmem.mp hD1
    refine hDmem.mpr ⟨?_, fun q hq => ?_⟩
    · rw [List.map_append]
      refine List.nodup_append.mpr ⟨hD1'.1, ?_, ?_⟩
      · have hnd := hDm.1
        rw [List.map_append] at hnd
        exact (List.nodup_append.mp hnd).2.1
      · intro x hx y hy hxy
        obtain ⟨q, hq, rfl⟩ := List.mem_map.mp hx
        obtain ⟨q', hq', rfl⟩ := List.mem_map.mp hy
        have h1 := hD1'.2 q hq
        rw [hxy] at h1
        exact (apart q' hq').2 h1
    · rcases List.mem_append.mp hq with h | h
      · exact hAc _ (hD1'.2 q h)
      · exact hDm.2 q (List.mem_append_right _ h)
  obtain ⟨t2, a1, b1⟩ := kk v ws1 hp T'.heap (locs ++ L) ls (by rw [e1]; exact hPn) hDn
    ⟨Nat.le_trans hS.1 (by rw [e1]; exact hz), fun q h1 h2 => by rw [e1, hk q (Nat.lt_of_lt_of_le h1 hS.1) (fun z => h2 (hAc q z))]; exact hS.2.1 q h1 h2, fun q hq => by
      rcases List.mem_append.mp hq with h | h
      · exact hS.2.2 q h
      · exact hAc _ (hL q h)⟩ hl T' rfl X'
  exact ⟨t2, goes t2 a1, b1⟩
/-- invokevirtual of a method of the class itself or of another one that may be reached plainly -/
theorem hcallV (X : hX p s m args meth c G A nL cc own Ts ret) {y : MethodName} {bytes : ByteArray} {maxL n index b ci q0 N : Nat} {T : u_T} {fs : List Value} {rt : Option FieldType} {wds wds' : List Cond} {rm : Room} {C : String} {wsC wsR : va_W} {As rest : List Value} {post : Option Value → va_W → Prop}
    (hM0 : hM l G y wds rm wsC (.ref b :: As) post) (hG : GoodIn Ts (wsV own index C y wds)) (hw : wds = Cond.code y bytes maxL rt :: wds')
    (hd : y.cls = C ∧ y.cls ≠ "java/lang/invoke/MethodHandle" ∧ y.cls ≠ "java/lang/invoke/VarHandle" ∧ (parseMethodDescriptor y.desc).map (fun d => d.parameters.length) = some n) (hR : rm.frames + 1 ≤ R.frames ∧ 8 + (maxL + 11) + rm.locals ≤ R.locals)
    (hrecv : wsC[q0]? = some (b, .inr (ci, fs))) (hc : vwCl[ci]? = some (C, T, N)) (hn : As.length = n) (hst : st = As.reverse ++ .ref b :: rest) (hcat : (rest.map fun v => v.category).sum ≤ 8) (hdg : decode cc pc = .ok (.invokevirtual index, 3)) (hf : cells + rm.cells ≤ R.cells ∧ slots + rm.slots ≤ R.slots)
    (kk : ∀ (v : Option Value) (ws1 : va_W), post v ws1 → hV p l e R s m args below meth c G A nL (cells + rm.cells) (slots + rm.slots) Q (ws1 ++ wsR) (pc + 3) lv (v.toList ++ rest)) : hV p l e R s m args below meth c G A nL cells slots Q (wsC ++ wsR) pc lv st := by
  refine hV_run (a := (Value.ref b :: As).toArray) X (fun H locs ls hP hD hS hl => ?_) kk
  have hPc : va_P G.1 vwCl wsC H := hPmem.mpr fun q hq => hPmem.mp hP q (List.mem_append_left _ hq)
  exact va_runV (C := C) (As := As) (rest := rest) ⟨X.hx, X.hb, X.hml, X.hown, X.hts⟩ (hM0 H.size) (cwV n X.hts hG hw rfl rfl hd hR) ⟨hPc_blind, va_recv X.hK hPc hc hrecv, fun U hU hW => hPc_at X hP hD hS U hU hW⟩ rfl hn hl.1 hst (lv_room hcat) hdg hf
theorem hcallS (X : hX p s m args meth c G A nL cc own Ts ret) {y : MethodName} {bytes : ByteArray} {maxL n index : Nat} {rt : Option FieldType} {wds wds' : List Cond} {rm : Room} {wsC wsR : va_W} {As rest : List Value} {post : Option Value → va_W → Prop}
    (hM0 : hM l G y wds rm wsC As post) (hG : GoodIn Ts (va_wsS own index y wds)) (hw : wds = Cond.code y bytes maxL rt :: wds')
    (hd : y.cls ≠ "java/lang/invoke/MethodHandle" ∧ y.cls ≠ "java/lang/invoke/VarHandle" ∧ (parseMethodDescriptor y.desc).map (fun d => d.parameters.length) = some n) (hR : rm.frames + 1 ≤ R.frames ∧ 8 + (maxL + 11) + rm.locals ≤ R.locals)
    (hn : As.length = n) (hst : st = As.reverse ++ rest) (hcat : (rest.map fun v => v.category).sum ≤ 8) (hdg : decode cc pc = .ok (.invokestatic index, 3)) (hf : cells + rm.cells ≤ R.cells ∧ slots + rm.slots ≤ R.slots)
    (kk : ∀ (v : Option Value) (ws1 : va_W), post v ws1 → hV p l e R s m args below meth c G A nL (cells + rm.cells) (slots + rm.slots) Q (ws1 ++ wsR) (pc + 3) lv (v.toList ++ rest)) : hV p l e R s m args below meth c G A nL cells slots Q (wsC ++ wsR) pc lv st := by
  refine hV_run (a := As.toArray) X (fun H locs ls hP hD hS hl => ?_) kk
  exact va_runS (As := As) (rest := rest) ⟨X.hx, X.hb, X.hml, X.hown, X.hts⟩ (hM0 H.size) (va_cwS n X.hts hG hw rfl rfl hd hR) ⟨hPc_blind, fun U hU hW => hPc_at X hP hD hS U hU hW⟩ rfl hn hl.1 hst (lv_room hcat) hdg hf
theorem hcallSN (X : hX p s m args meth c G A nL cc own Ts ret) {y : MethodName} {bytes : ByteArray} {maxL n index : Nat} {rt : Option FieldType} {wds wds' : List Cond} {rm : Room} {wsC wsR : va_W} {As rest : List Value} {post : Option Value → va_W → Prop}
    (hM0 : hM l G y wds rm wsC As post) (hG : GoodIn Ts wds) (hw : wds = Cond.code y bytes maxL rt :: wds') (hlink : (own, index, y) ∈ hNM) (hst1 : Cond.static y ∈ Ts) (hini : Cond.initialized y.cls ∈ Ts)
    (hd : y.cls ≠ "java/lang/invoke/MethodHandle" ∧ y.cls ≠ "java/lang/invoke/VarHandle" ∧ (parseMethodDescriptor y.desc).map (fun d => d.parameters.length) = some n) (hR : rm.frames + 1 ≤ R.frames ∧ 8 + (maxL + 11) + rm.locals ≤ R.locals)
    (hn : As.length = n) (hst : st = As.reverse ++ rest) (hcat : (rest.map fun v => v.category).sum ≤ 8) (hdg : decode cc pc = .ok (.invokestatic index, 3)) (hf : cells + rm.cells ≤ R.cells ∧ slots + rm.slots ≤ R.slots)
    (kk : ∀ (v : Option Value) (ws1 : va_W), post v ws1 → hV p l e R s m args below meth c G A nL (cells + rm.cells) (slots + rm.slots) Q (ws1 ++ wsR) (pc + 3) lv (v.toList ++ rest)) : hV p l e R s m args below meth c G A nL cells slots Q (wsC ++ wsR) pc lv st := by
  refine hV_run (a := As.toArray) X (fun H locs ls hP hD hS hl => ?_) kk
  exact va_runSN (As := As) (rest := rest) ⟨X.hx, X.hb, X.hml, X.hown, X.hts⟩ (hM0 H.size) ⟨va_cnB n X.hts hG hw rfl rfl (X.hE.1.2.1 _ hlink) (X.hts _ hini) hd hR, X.hts _ hst1, trivial⟩ ⟨hPc_blind, fun U hU hW => hPc_at X hP hD hS U hU hW⟩ rfl hn hl.1 hst (lv_room hcat) hdg hf
theorem hcallI (X : hX p s m args meth c G A nL cc own Ts ret) {y : MethodName} {bytes : ByteArray} {maxL n index b : Nat} {wds wds' : List Cond} {rm : Room} {wsC wsR : va_W} {As rest : List Value} {post : Option Value → va_W → Prop}
    (hM0 : hM l G y wds rm wsC (.ref b :: As) post) (hG : GoodIn Ts wds) (hw : wds = Cond.code y bytes maxL none :: wds') (hini : Cond.initialized y.cls ∈ Ts) (hlink : Cond.methodLink own index y ∈ Ts) (hin : Cond.instanceMethod y ∈ Ts) (hy1 : y.name = "<init>")
    (hd : y.cls ≠ "java/lang/invoke/MethodHandle" ∧ y.cls ≠ "java/lang/invoke/VarHandle" ∧ (parseMethodDescriptor y.desc).map (fun d => d.parameters.length) = some n) (hR : rm.frames + 1 ≤ R.frames ∧ 8 + (maxL + 11) + rm.locals ≤ R.locals)
    (hn : As.length = n) (hst : st = As.reverse ++ .ref b :: rest) (hcat : (rest.map fun v => v.category).sum ≤ 8) (hdg : decode cc pc = .ok (.invokespecial index, 3)) (hf : cells + rm.cells ≤ R.cells ∧ slots + rm.slots ≤ R.slots)
    (kk : ∀ (v : Option Value) (ws1 : va_W), post v ws1 → hV p l e R s m args below meth c G A nL (cells + rm.cells) (slots + rm.slots) Q (ws1 ++ wsR) (pc + 3) lv (v.toList ++ rest)) : hV p l e R s m args below meth c G A nL cells slots Q (wsC ++ wsR) pc lv st := by
  refine hV_run (a := (Value.ref b :: As).toArray) X (fun H locs ls hP hD hS hl => ?_) kk
  exact va_runI (As := As) (rest := rest) ⟨X.hx, X.hb, X.hml, X.hown, X.hts⟩ (hM0 H.size) (cwI n X.hts hG hw rfl rfl (X.hts _ hini) (X.hts _ hlink) (X.hts _ hin) hy1 hd hR) ⟨hPc_blind, fun U hU hW => hPc_at X hP hD hS U hU hW⟩ rfl hn hl.1 hst (lv_room hcat) hdg hf
theorem hcallIN (X : hX p s m args meth c G A nL cc own Ts ret) {y : MethodName} {bytes : ByteArray} {maxL n index b : Nat} {wds wds' : List Cond} {rm : Room} {wsC wsR : va_W} {As rest : List Value} {post : Option Value → va_W → Prop}
    (hM0 : hM l G y wds rm wsC (.ref b :: As) post) (hG : GoodIn Ts wds) (hw : wds = Cond.code y bytes maxL none :: wds') (hini : Cond.initialized y.cls ∈ Ts) (hlink : (own, index, y) ∈ hNM) (hin : Cond.instanceMethod y ∈ Ts) (hy1 : y.name = "<init>")
    (hd : y.cls ≠ "java/lang/invoke/MethodHandle" ∧ y.cls ≠ "java/lang/invoke/VarHandle" ∧ (parseMethodDescriptor y.desc).map (fun d => d.parameters.length) = some n) (hR : rm.frames + 1 ≤ R.frames ∧ 8 + (maxL + 11) + rm.locals ≤ R.locals)
    (hn : As.length = n) (hst : st = As.reverse ++ .ref b :: rest) (hcat : (rest.map fun v => v.category).sum ≤ 8) (hdg : decode cc pc = .ok (.invokespecial index, 3)) (hf : cells + rm.cells ≤ R.cells ∧ slots + rm.slots ≤ R.slots)
    (kk : ∀ (v : Option Value) (ws1 : va_W), post v ws1 → hV p l e R s m args below meth c G A nL (cells + rm.cells) (slots + rm.slots) Q (ws1 ++ wsR) (pc + 3) lv (v.toList ++ rest)) : hV p l e R s m args below meth c G A nL cells slots Q (wsC ++ wsR) pc lv st := by
  refine hV_run (a := (Value.ref b :: As).toArray) X (fun H locs ls hP hD hS hl => ?_) kk
  exact va_runIN (As := As) (rest := rest) ⟨X.hx, X.hb, X.hml, X.hown, X.hts⟩ (hM0 H.size) ⟨va_cnB n X.hts hG hw rfl rfl (X.hE.1.2.1 _ hlink) (X.hts _ hini) hd hR, hy1, X.hts _ hin⟩ ⟨hPc_blind, fun U hU hW => hPc_at X hP hD hS U hU hW⟩ rfl hn hl.1 hst (lv_room hcat) hdg hf
-- the ends
theorem hiret {ws0 : va_W} {post : Option Value → va_W → Prop} {v : Int32} (X : hX p s m args meth c G (va_A ws0 s.heap.size) nL cc own Ts (some .int)) (hdg : decode cc pc = .ok (.ireturn, 1)) (hp : post (some (.int v)) ws) : hV p l e R s m args below meth c G (va_A ws0 s.heap.size) nL cells slots (MQ below (hQc G ws0 s.heap.size post) args s cells slots (va_A ws0 s.heap.size)) ws pc lv [.int v] :=
  fun H locs ls hP hD hS hl => W.iret X.hx X.hb X.hr (fun t ht hW => ⟨⟨_, ws, rfl, hp, by rw [ht]; exact hP, hD⟩, hS.F ht⟩) hS.2.2 hdg X.hlk
theorem hzret {ws0 : va_W} {post : Option Value → va_W → Prop} {v : Int32} {ty : FieldType} (X : hX p s m args meth c G (va_A ws0 s.heap.size) nL cc own Ts (some ty)) (hn : narrow ty (.int v) = .int v) (hdg : decode cc pc = .ok (.ireturn, 1)) (hp : post (some (.int v)) ws) : hV p l e R s m args below meth c G (va_A ws0 s.heap.size) nL cells slots (MQ below (hQc G ws0 s.heap.size post) args s cells slots (va_A ws0 s.heap.size)) ws pc lv [.int v] :=
  fun H locs ls hP hD hS hl => W.zret X.hx X.hb X.hr hn (fun t ht hW => ⟨⟨_, ws, rfl, hp, by rw [ht]; exact hP, hD⟩, hS.F ht⟩) hS.2.2 hdg X.hlk
theorem hvret {ws0 : va_W} {post : Option Value → va_W → Prop} (X : hX p s m args meth c G (va_A ws0 s.heap.size) nL cc own Ts none) (hdg : decode cc pc = .ok (.return_, 1)) (hp : post none ws) : hV p l e R s m args below meth c G (va_A ws0 s.heap.size) nL cells slots (MQ below (hQc G ws0 s.heap.size post) args s cells slots (va_A ws0 s.heap.size)) ws pc lv [] :=
  fun H locs ls hP hD hS hl => W.vret X.hx X.hb X.hr (fun t ht hW => ⟨⟨_, ws, rfl, hp, by rw [ht]; exact hP, hD⟩, hS.F ht⟩) hS.2.2 hdg X.hlk
theorem haret {ws0 : va_W} {post : Option Value → va_W → Prop} {v : Value} {rt : FieldType} (X : hX p s m args meth c G (va_A ws0 s.heap.size) nL cc own Ts (some rt)) (hrt : (∃ n, rt = .object n) ∨ ∃ t, rt = .array t) (hv : v = .null ∨ ∃ a, v = .ref a) (hdg : decode cc pc = .ok (.areturn, 1)) (hp : post (some v) ws) : hV p l e R s m args below meth c G (va_A ws0 s.heap.size) nL cells slots (MQ below (hQc G ws0 s.heap.size post) args s cells slots (va_A ws0 s.heap.size)) ws pc lv [v] :=
  fun H locs ls hP hD hS hl => W.aret X.hx X.hb X.hr hrt hv (fun t ht hW => ⟨⟨_, ws, rfl, hp, by rw [ht]; exact hP, hD⟩, hS.F ht⟩) hS.2.2 hdg X.hlk
end HC
/-- a contract out of a walk -/
theorem hM_of {l : Launch} {G : hG} {y : MethodName} {wds wds' : List Cond} {rm : Room} {ws : va_W} {as : List Value} {post : Option Value → va_W → Prop} {cc : ByteArray} {maxL : Nat} {ret : Option FieldType} (hy : plainName y.cls = true) (hw : wds = Cond.code y cc maxL ret :: wds') (hle : (lg_sl as).length ≤ maxL)
    (body : ∀ (p : Program) (e : Env) (s : State) (m : MethodId) (args : Array Value) (below : List Frame) (meth : Method) (c : Code), hX p s m args meth c G (va_A ws s.heap.size) maxL cc y.cls wds ret → (y.name = "<init>" → meth.name = "<init>") →
      hV p l e rm s m args below meth c G (va_A ws s.heap.size) maxL 0 0 (MQ below (hQc G ws s.heap.size post) args s rm.cells rm.slots (va_A ws s.heap.size)) ws 0 (lv_args 0 as) []) : hM l G y wds rm ws as post := by
  intro sz
  refine Met.ofW (cc := cc) (maxL := maxL) (ret := ret) hy hw ?_
  intro p e s m args below meth c s₁ B hml hv
  obtain ⟨rfl, hsz, hP, hK, hD, hE⟩ := hv
  subst hsz
  have hts := atoms_spec (ws := wds) B.pre
  have X : hX p s m as.toArray meth c G (va_A ws s.heap.size) maxL cc y.cls wds ret := ⟨B.exec, B.bytes, hml, findClass_of_methodNamed B.named, hts, hK, fun q h => Or.inr h, hE, B.notSynchronized, B.returns⟩
  have hl := lv_entry as (n := maxL) hle
  rw [lg_entry_eq]
  exact body p e s m as.toArray below meth c X (fun hn => (name_of_methodNamed B.named B.method).1.trans hn) s.heap [] _ hP hD.self va_S.rf hl
end
section
/-! the worlds: a hall's cells, the reference's cells -/
abbrev hF : Type := Nat → Nat → Int32
def fs (F : hF) (j i : Nat) (v : Int32) : hF := fun j' => if j' = j then upd (F j) i v else F j'
theorem fs_at (F : hF) (j i : Nat) (v : Int32) (j' i' : Nat) : fs F j i v j' i' = if j' = j ∧ i' = i then v else F j' i' := by
  unfold fs upd
  by_cases h : j' = j
  · subst h
    by_cases h2 : i' = i <;> simp [h2]
  · simp [h]
theorem fs_same (F : hF) (j i : Nat) (v : Int32) : fs F j i v j i = v := by simp [fs_at]
theorem fs_row (F : hF) (j i : Nat) (v : Int32) : fs F j i v j = upd (F j) i v := by simp [fs]
theorem fs_ne (F : hF) {j j' : Nat} (i : Nat) (v : Int32) (h : j' ≠ j) : fs F j i v j' = F j' := by simp [fs, h]
/-- a truth as an int -/
def bI (P : Prop) [Decidable P] : Int32 := if P then 1 else 0
theorem bI_t {P : Prop} [Decidable P] (h : P) : bI P = 1 := by simp [bI, h]
theorem bI_f {P : Prop} [Decidable P] (h : ¬ P) : bI P = 0 := by simp [bI, h]
theorem bI_nar {P : Prop} [Decidable P] : narrow .boolean (.int (bI P)) = .int (bI P) := by
  unfold bI
  split <;> rfl
/-- the reference: rows 0 state, 1 kept, 2 history, 3 slots, 4 isSaved, 5 pad; row 6: recorded, padLength, at, letter, first, second, third, fourth -/
def mW (G : hG) (q : Nat → Nat) (E : hF) : va_W := [(q 0, .inr (8, [.ref (q 1), .ref (q 2), .ref (q 3), .int (E 6 0), .ref (q 4), .ref (q 5), .ref (q 6), .int (E 6 1), .int (E 6 2), .int (E 6 3), .int (E 6 4), .int (E 6 5), .int (E 6 6), .int (E 6 7)])), (q 1, .inl (G.2.1 0, 250, .inl (E 0))), (q 2, .inl (G.2.1 0, 250, .inl (E 1))), (q 3, .inl (G.2.1 0, 1500, .inl (E 2))), (q 4, .inl (G.2.1 0, 500, .inl (E 3))), (q 5, .inl (G.2.1 0, 2, .inl (E 4))), (q 6, .inl (G.2.1 0, 80, .inl (E 5)))]
/-- a hall: rows 0 to 9 of the stands, 10 to 15 of the crews, 16 settings, 17 loads; row 18: hour, ended, lost -/
def hoW (G : hG) (h : Nat → Nat) (F : hF) : va_W := [(h 0, .inr (1, [.ref (h 1), .ref (h 2), .ref (h 3), .ref (h 14), .int (F 18 0), .int (F 18 1), .int (F 18 2)])), (h 1, .inl (G.2.1 0, 3, .inl (F 16))), (h 2, .inl (G.2.1 0, 3, .inl (F 17)))]
def stW (G : hG) (h : Nat → Nat) (n : Nat) (F : hF) : va_W := [(h 3, .inr (6, [.int (nI n), .ref (h 4), .ref (h 5), .ref (h 6), .ref (h 7), .ref (h 8), .ref (h 9), .ref (h 10), .ref (h 11), .ref (h 12), .ref (h 13)])), (h 4, .inl (G.2.1 0, 20, .inl (F 0))), (h 5, .inl (G.2.1 0, 20, .inl (F 1))), (h 6, .inl (G.2.1 0, 20, .inl (F 2))), (h 7, .inl (G.2.1 0, 20, .inl (F 3))), (h 8, .inl (G.2.1 0, 20, .inl (F 4))), (h 9, .inl (G.2.1 0, 20, .inl (F 5))), (h 10, .inl (G.2.1 0, 20, .inl (F 6))), (h 11, .inl (G.2.1 0, 20, .inl (F 7))), (h 12, .inl (G.2.1 0, 20, .inl (F 8))), (h 13, .inl (G.2.1 0, 20, .inl (F 9)))]
def crW (G : hG) (h : Nat → Nat) (c : Nat) (F : hF) : va_W := [(h 14, .inr (0, [.int (nI c), .ref (h 15), .ref (h 16), .ref (h 17), .ref (h 18), .ref (h 19), .ref (h 20)])), (h 15, .inl (G.2.1 0, 6, .inl (F 10))), (h 16, .inl (G.2.1 0, 6, .inl (F 11))), (h 17, .inl (G.2.1 0, 6, .inl (F 12))), (h 18, .inl (G.2.1 0, 6, .inl (F 13))), (h 19, .inl (G.2.1 0, 6, .inl (F 14))), (h 20, .inl (G.2.1 0, 6, .inl (F 15)))]
def haW (G : hG) (h : Nat → Nat) (n c : Nat) (F : hF) : va_W := hoW G h F ++ (stW G h n F ++ crW G h c F)
theorem pm2 {α : Type} (a b c : List α) : (a ++ (b ++ c)).Perm (b ++ (a ++ c)) := by
  rw [← List.append_assoc, ← List.append_assoc]
  exact List.Perm.append_right c List.perm_append_comm
theorem pm3 {α : Type} (a b c : List α) : (a ++ (b ++ c)).Perm (c ++ (a ++ b)) := by
  rw [← List.append_assoc]
  exact List.perm_append_comm
/-- the rest of the world that a read of the stands, of the crews leaves -/
def hrS (G : hG) (h : Nat → Nat) (c : Nat) (F : hF) : va_W := hoW G h F ++ crW G h c F
def hrC (G : hG) (h : Nat → Nat) (n : Nat) (F : hF) : va_W := hoW G h F ++ stW G h n F
theorem pmS (G : hG) (h : Nat → Nat) (n c : Nat) (F : hF) : (haW G h n c F).Perm (stW G h n F ++ hrS G h c F) := pm2 _ _ _
theorem pmC (G : hG) (h : Nat → Nat) (n c : Nat) (F : hF) : (haW G h n c F).Perm (crW G h c F ++ hrC G h n F) := pm3 _ _ _
/-- sums, counts, unions over the first k -/
def sumN : Nat → (Nat → Int32) → Int32
  | 0, _ => 0
  | k + 1, f => sumN k f + f k
def orN : Nat → (Nat → Int32) → Int32
  | 0, _ => 0
  | k + 1, f => orN k f ||| f k
/-- k steps from the first on -/
def itN {α : Type} : Nat → (Nat → α → α) → α → α
  | 0, _, a => a
  | k + 1, f, a => f k (itN k f a)
theorem i_lt {k n : Nat} (hk : k ≤ n) (hn : n < 2 ^ 31) (h : ¬ nI n ≤ nI k) : k < n := by
  rcases Nat.lt_or_ge k n with q | q
  · exact q
  · exact absurd (nI_le q (by omega)) h
theorem i_ge {k n : Nat} (hk : k ≤ n) (hn : n < 2 ^ 31) (h : nI n ≤ nI k) : k = n := by
  rcases Nat.lt_or_ge k n with q | q
  · exact absurd h (nI_ge q hn)
  · omega
section HB
variable {p : Program} {l : Launch} {e : Env} {R : Room} {s : State} {m : MethodId} {args : Array Value} {below : List Frame} {meth : Method} {c : Code} {cells slots : Nat} {Q : State → Prop}
variable {G : hG} {A : Nat → Prop} {nL : Nat} {cc : ByteArray} {own : String} {Ts : List Cond} {ret : Option FieldType}
variable {ws : va_W} {pc : Nat} {lv : List (Nat × Value)} {st : List Value}
theorem hif_eqB (X : hX p s m args meth c G A nL cc own Ts ret) {P : Prop} [Decidable P] {off : Int} {tgt : Nat} (hdg : decode cc pc = .ok (.ifCond .eq off, 3)) (ht : (pc : Int) + off = (tgt : Int)) (kt : ¬ P → hV p l e R s m args below meth c G A nL cells slots Q ws tgt lv st) (kf : P → hV p l e R s m args below meth c G A nL cells slots Q ws (pc + 3) lv st) : hV p l e R s m args below meth c G A nL cells slots Q ws pc lv (.int (bI P) :: st) :=
  hif_eq X hdg ht (fun q => kt (fun hp => by rw [bI_t hp] at q; exact absurd q (by decide))) (fun q => kf (Classical.byContradiction fun hp => q (bI_f hp)))
theorem hif_neB (X : hX p s m args meth c G A nL cc own Ts ret) {P : Prop} [Decidable P] {off : Int} {tgt : Nat} (hdg : decode cc pc = .ok (.ifCond .ne off, 3)) (ht : (pc : Int) + off = (tgt : Int)) (kt : P → hV p l e R s m args below meth c G A nL cells slots Q ws tgt lv st) (kf : ¬ P → hV p l e R s m args below meth c G A nL cells slots Q ws (pc + 3) lv st) : hV p l e R s m args below meth c G A nL cells slots Q ws pc lv (.int (bI P) :: st) :=
  hif_ne X hdg ht (fun q => kt (Classical.byContradiction fun hp => q (bI_f hp))) (fun q => kf (fun hp => by rw [bI_t hp] at q; exact absurd q (by decide)))
/-- deterministic callee: the answer v and the world w -/
theorem hcallVr (X : hX p s m args meth c G A nL cc own Ts ret) {y : MethodName} {bytes : ByteArray} {maxL n index b ci q0 N : Nat} {T : u_T} {fs : List Value} {rt : Option FieldType} {wds wds' : List Cond} {rm : Room} {C : String} {wsC w wsR : va_W} {v : Option Value} {As rest st' : List Value}
    (hM0 : hM l G y wds rm wsC (.ref b :: As) (hR v w)) (hG : GoodIn Ts (wsV own index C y wds)) (hw : wds = Cond.code y bytes maxL rt :: wds')
    (hd : y.cls = C ∧ y.cls ≠ "java/lang/invoke/MethodHandle" ∧ y.cls ≠ "java/lang/invoke/VarHandle" ∧ (parseMethodDescriptor y.desc).map (fun d => d.parameters.length) = some n) (hRm : rm.frames + 1 ≤ R.frames ∧ 8 + (maxL + 11) + rm.locals ≤ R.locals)
    (hrecv : wsC[q0]? = some (b, .inr (ci, fs))) (hc : vwCl[ci]? = some (C, T, N)) (hn : As.length = n) (hst : st = As.reverse ++ .ref b :: rest) (hcat : (rest.map fun v => v.category).sum ≤ 8) (hdg : decode cc pc = .ok (.invokevirtual index, 3)) (hrc : rm.cells = 0) (hrs : rm.slots = 0) (hf : cells ≤ R.cells ∧ slots ≤ R.slots) (hst' : v.toList ++ rest = st')
    (kk : hV p l e R s m args below meth c G A nL cells slots Q (w ++ wsR) (pc + 3) lv st') : hV p l e R s m args below meth c G A nL cells slots Q (wsC ++ wsR) pc lv st := by
  subst hst'
  refine hcallV X hM0 hG hw hd hRm hrecv hc hn hst hcat hdg (by rw [hrc, hrs]; exact hf) ?_
  rintro _ _ ⟨rfl, rfl⟩
  rw [hrc, hrs]
  exact kk
theorem hcallV0 (X : hX p s m args meth c G A nL cc own Ts ret) {y : MethodName} {bytes : ByteArray} {maxL n index b ci q0 N : Nat} {T : u_T} {fs : List Value} {rt : Option FieldType} {wds wds' : List Cond} {rm : Room} {C : String} {w : va_W} {v : Option Value} {As rest st' : List Value}
    (hM0 : hM l G y wds rm ws (.ref b :: As) (hR v w)) (hG : GoodIn Ts (wsV own index C y wds)) (hw : wds = Cond.code y bytes maxL rt :: wds')
    (hd : y.cls = C ∧ y.cls ≠ "java/lang/invoke/MethodHandle" ∧ y.cls ≠ "java/lang/invoke/VarHandle" ∧ (parseMethodDescriptor y.desc).map (fun d => d.parameters.length) = some n) (hRm : rm.frames + 1 ≤ R.frames ∧ 8 + (maxL + 11) + rm.locals ≤ R.locals)
    (hrecv : ws[q0]? = some (b, .inr (ci, fs))) (hc : vwCl[ci]? = some (C, T, N)) (hn : As.length = n) (hst : st = As.reverse ++ .ref b :: rest) (hcat : (rest.map fun v => v.category).sum ≤ 8) (hdg : decode cc pc = .ok (.invokevirtual index, 3)) (hrc : rm.cells = 0) (hrs : rm.slots = 0) (hf : cells ≤ R.cells ∧ slots ≤ R.slots) (hst' : v.toList ++ rest = st')
    (kk : hV p l e R s m args below meth c G A nL cells slots Q w (pc + 3) lv st') : hV p l e R s m args below meth c G A nL cells slots Q ws pc lv st := by
  have h := hcallVr (wsR := []) (w := w) X hM0 hG hw hd hRm hrecv hc hn hst hcat hdg hrc hrs hf hst' (by rw [List.append_nil]; exact kk)
  rw [List.append_nil] at h
  exact h
theorem hcallSr (X : hX p s m args meth c G A nL cc own Ts ret) {y : MethodName} {bytes : ByteArray} {maxL n index : Nat} {rt : Option FieldType} {wds wds' : List Cond} {rm : Room} {wsC w wsR : va_W} {v : Option Value} {As rest st' : List Value}
    (hM0 : hM l G y wds rm wsC As (hR v w)) (hG : GoodIn Ts (va_wsS own index y wds)) (hw : wds = Cond.code y bytes maxL rt :: wds')
    (hd : y.cls ≠ "java/lang/invoke/MethodHandle" ∧ y.cls ≠ "java/lang/invoke/VarHandle" ∧ (parseMethodDescriptor y.desc).map (fun d => d.parameters.length) = some n) (hRm : rm.frames + 1 ≤ R.frames ∧ 8 + (maxL + 11) + rm.locals ≤ R.locals)
    (hn : As.length = n) (hst : st = As.reverse ++ rest) (hcat : (rest.map fun v => v.category).sum ≤ 8) (hdg : decode cc pc = .ok (.invokestatic index, 3)) (hrc : rm.cells = 0) (hrs : rm.slots = 0) (hf : cells ≤ R.cells ∧ slots ≤ R.slots) (hst' : v.toList ++ rest = st')
    (kk : hV p l e R s m args below meth c G A nL cells slots Q (w ++ wsR) (pc + 3) lv st') : hV p l e R s m args below meth c G A nL cells slots Q (wsC ++ wsR) pc lv st := by
  subst hst'
  refine hcallS X hM0 hG hw hd hRm hn hst hcat hdg (by rw [hrc, hrs]; exact hf) ?_
  rintro _ _ ⟨rfl, rfl⟩
  rw [hrc, hrs]
  exact kk
theorem hcallSNr (X : hX p s m args meth c G A nL cc own Ts ret) {y : MethodName} {bytes : ByteArray} {maxL n index : Nat} {rt : Option FieldType} {wds wds' : List Cond} {rm : Room} {wsC w wsR : va_W} {v : Option Value} {As rest st' : List Value}
    (hM0 : hM l G y wds rm wsC As (hR v w)) (hG : GoodIn Ts wds) (hw : wds = Cond.code y bytes maxL rt :: wds') (hlink : (own, index, y) ∈ hNM) (hst1 : Cond.static y ∈ Ts) (hini : Cond.initialized y.cls ∈ Ts)
    (hd : y.cls ≠ "java/lang/invoke/MethodHandle" ∧ y.cls ≠ "java/lang/invoke/VarHandle" ∧ (parseMethodDescriptor y.desc).map (fun d => d.parameters.length) = some n) (hRm : rm.frames + 1 ≤ R.frames ∧ 8 + (maxL + 11) + rm.locals ≤ R.locals)
    (hn : As.length = n) (hst : st = As.reverse ++ rest) (hcat : (rest.map fun v => v.category).sum ≤ 8) (hdg : decode cc pc = .ok (.invokestatic index, 3)) (hrc : rm.cells = 0) (hrs : rm.slots = 0) (hf : cells ≤ R.cells ∧ slots ≤ R.slots) (hst' : v.toList ++ rest = st')
    (kk : hV p l e R s m args below meth c G A nL cells slots Q (w ++ wsR) (pc + 3) lv st') : hV p l e R s m args below meth c G A nL cells slots Q (wsC ++ wsR) pc lv st := by
  subst hst'
  refine hcallSN X hM0 hG hw hlink hst1 hini hd hRm hn hst hcat hdg (by rw [hrc, hrs]; exact hf) ?_
  rintro _ _ ⟨rfl, rfl⟩
  rw [hrc, hrs]
  exact kk
end HB
theorem nadd {x y : Int32} {a b : Nat} (h1 : x = nI a) (h2 : y = nI b) : x + y = nI (a + b) := by rw [h1, h2, nI_add]
theorem nmul {x y : Int32} {a b : Nat} (h1 : x = nI a) (h2 : y = nI b) : x * y = nI (a * b) := by rw [h1, h2, pk_mul]
theorem nsub {x y : Int32} {a b : Nat} (h1 : x = nI a) (h2 : y = nI b) (h : b ≤ a) : x - y = nI (a - b) := by rw [h1, h2, pk_sub h]
end
section
theorem dX8_init_0 : decode cX8_init 0 = .ok (.aload_n 0, 1) := by decide +kernel
theorem dX8_init_1 : decode cX8_init 1 = .ok (.invokespecial 1, 3) := by decide +kernel
theorem dX8_init_4 : decode cX8_init 4 = .ok (.aload_n 0, 1) := by decide +kernel
theorem dX8_init_5 : decode cX8_init 5 = .ok (.sipush 250, 3) := by decide +kernel
theorem dX8_init_8 : decode cX8_init 8 = .ok (.newarray .int, 2) := by decide +kernel
theorem dX8_init_10 : decode cX8_init 10 = .ok (.putfield 7, 3) := by decide +kernel
theorem dX8_init_13 : decode cX8_init 13 = .ok (.aload_n 0, 1) := by decide +kernel
theorem dX8_init_14 : decode cX8_init 14 = .ok (.sipush 250, 3) := by decide +kernel
theorem dX8_init_17 : decode cX8_init 17 = .ok (.newarray .int, 2) := by decide +kernel
theorem dX8_init_19 : decode cX8_init 19 = .ok (.putfield 13, 3) := by decide +kernel
theorem dX8_init_22 : decode cX8_init 22 = .ok (.aload_n 0, 1) := by decide +kernel
theorem dX8_init_23 : decode cX8_init 23 = .ok (.sipush 1500, 3) := by decide +kernel
theorem dX8_init_26 : decode cX8_init 26 = .ok (.newarray .int, 2) := by decide +kernel
theorem dX8_init_28 : decode cX8_init 28 = .ok (.putfield 16, 3) := by decide +kernel
theorem dX8_init_31 : decode cX8_init 31 = .ok (.aload_n 0, 1) := by decide +kernel
theorem dX8_init_32 : decode cX8_init 32 = .ok (.sipush 500, 3) := by decide +kernel
theorem dX8_init_35 : decode cX8_init 35 = .ok (.newarray .int, 2) := by decide +kernel
theorem dX8_init_37 : decode cX8_init 37 = .ok (.putfield 19, 3) := by decide +kernel
theorem dX8_init_40 : decode cX8_init 40 = .ok (.aload_n 0, 1) := by decide +kernel
theorem dX8_init_41 : decode cX8_init 41 = .ok (.iconst 2, 1) := by decide +kernel
theorem dX8_init_42 : decode cX8_init 42 = .ok (.newarray .int, 2) := by decide +kernel
theorem dX8_init_44 : decode cX8_init 44 = .ok (.putfield 22, 3) := by decide +kernel
theorem dX8_init_47 : decode cX8_init 47 = .ok (.aload_n 0, 1) := by decide +kernel
theorem dX8_init_48 : decode cX8_init 48 = .ok (.bipush 80, 2) := by decide +kernel
theorem dX8_init_50 : decode cX8_init 50 = .ok (.newarray .int, 2) := by decide +kernel
theorem dX8_init_52 : decode cX8_init 52 = .ok (.putfield 25, 3) := by decide +kernel
theorem dX8_init_55 : decode cX8_init 55 = .ok (.aload_n 0, 1) := by decide +kernel
theorem dX8_init_56 : decode cX8_init 56 = .ok (.getfield 7, 3) := by decide +kernel
theorem dX8_init_59 : decode cX8_init 59 = .ok (.iconst 0, 1) := by decide +kernel
theorem dX8_init_60 : decode cX8_init 60 = .ok (.bipush 20, 2) := by decide +kernel
theorem dX8_init_62 : decode cX8_init 62 = .ok (.iastore, 1) := by decide +kernel
theorem dX8_init_63 : decode cX8_init 63 = .ok (.aload_n 0, 1) := by decide +kernel
theorem dX8_init_64 : decode cX8_init 64 = .ok (.getfield 7, 3) := by decide +kernel
theorem dX8_init_67 : decode cX8_init 67 = .ok (.iconst 1, 1) := by decide +kernel
theorem dX8_init_68 : decode cX8_init 68 = .ok (.iconst 2, 1) := by decide +kernel
theorem dX8_init_69 : decode cX8_init 69 = .ok (.iastore, 1) := by decide +kernel
theorem dX8_init_70 : decode cX8_init 70 = .ok (.aload_n 0, 1) := by decide +kernel
theorem dX8_init_71 : decode cX8_init 71 = .ok (.getfield 7, 3) := by decide +kernel
theorem dX8_init_74 : decode cX8_init 74 = .ok (.iconst 2, 1) := by decide +kernel
theorem dX8_init_75 : decode cX8_init 75 = .ok (.bipush 60, 2) := by decide +kernel
theorem dX8_init_77 : decode cX8_init 77 = .ok (.iastore, 1) := by decide +kernel
theorem dX8_init_78 : decode cX8_init 78 = .ok (.return_, 1) := by decide +kernel
theorem dX8_moves_0 : decode cX8_moves 0 = .ok (.iconst 0, 1) := by decide +kernel
theorem dX8_moves_1 : decode cX8_moves 1 = .ok (.istore 4, 2) := by decide +kernel
theorem dX8_moves_3 : decode cX8_moves 3 = .ok (.iload 4, 2) := by decide +kernel
theorem dX8_moves_5 : decode cX8_moves 5 = .ok (.sipush 250, 3) := by decide +kernel
theorem dX8_moves_8 : decode cX8_moves 8 = .ok (.if_icmp .ge 21, 3) := by decide +kernel
theorem dX8_moves_11 : decode cX8_moves 11 = .ok (.aload_n 2, 1) := by decide +kernel
theorem dX8_moves_12 : decode cX8_moves 12 = .ok (.iload_n 3, 1) := by decide +kernel
theorem dX8_moves_13 : decode cX8_moves 13 = .ok (.iload 4, 2) := by decide +kernel
theorem dX8_moves_15 : decode cX8_moves 15 = .ok (.iadd, 1) := by decide +kernel
theorem dX8_moves_16 : decode cX8_moves 16 = .ok (.aload_n 0, 1) := by decide +kernel
theorem dX8_moves_17 : decode cX8_moves 17 = .ok (.iload_n 1, 1) := by decide +kernel
theorem dX8_moves_18 : decode cX8_moves 18 = .ok (.iload 4, 2) := by decide +kernel
theorem dX8_moves_20 : decode cX8_moves 20 = .ok (.iadd, 1) := by decide +kernel
theorem dX8_moves_21 : decode cX8_moves 21 = .ok (.iaload, 1) := by decide +kernel
theorem dX8_moves_22 : decode cX8_moves 22 = .ok (.iastore, 1) := by decide +kernel
theorem dX8_moves_23 : decode cX8_moves 23 = .ok (.iinc 4 1, 3) := by decide +kernel
theorem dX8_moves_26 : decode cX8_moves 26 = .ok (.goto (-23), 3) := by decide +kernel
theorem dX8_moves_29 : decode cX8_moves 29 = .ok (.return_, 1) := by decide +kernel
theorem dX8_within_0 : decode cX8_within 0 = .ok (.iload_n 0, 1) := by decide +kernel
theorem dX8_within_1 : decode cX8_within 1 = .ok (.iload_n 1, 1) := by decide +kernel
theorem dX8_within_2 : decode cX8_within 2 = .ok (.if_icmp .lt 12, 3) := by decide +kernel
theorem dX8_within_5 : decode cX8_within 5 = .ok (.iload_n 0, 1) := by decide +kernel
theorem dX8_within_6 : decode cX8_within 6 = .ok (.iload_n 2, 1) := by decide +kernel
theorem dX8_within_7 : decode cX8_within 7 = .ok (.if_icmp .gt 7, 3) := by decide +kernel
theorem dX8_within_10 : decode cX8_within 10 = .ok (.iconst 1, 1) := by decide +kernel
theorem dX8_within_11 : decode cX8_within 11 = .ok (.goto 4, 3) := by decide +kernel
theorem dX8_within_14 : decode cX8_within 14 = .ok (.iconst 0, 1) := by decide +kernel
theorem dX8_within_15 : decode cX8_within 15 = .ok (.ireturn, 1) := by decide +kernel
set_option maxRecDepth 20000 in
theorem ggX8_record_X8_moves : GoodIn wsX8_record wsX8_moves := goodIn_r _ [7] (by decide +kernel) (by decide +kernel)
set_option maxRecDepth 20000 in
theorem gX8_record_X8_moves : GoodIn wsX8_record (va_wsS RX8 32 yX8_moves wsX8_moves) := goodIn_app (goodIn_of _ (by decide +kernel)) ggX8_record_X8_moves
theorem dX8_record_0 : decode cX8_record 0 = .ok (.aload_n 0, 1) := by decide +kernel
theorem dX8_record_1 : decode cX8_record 1 = .ok (.getfield 28, 3) := by decide +kernel
theorem dX8_record_4 : decode cX8_record 4 = .ok (.bipush 6, 2) := by decide +kernel
theorem dX8_record_6 : decode cX8_record 6 = .ok (.if_icmp .ne 44, 3) := by decide +kernel
theorem dX8_record_9 : decode cX8_record 9 = .ok (.iconst 0, 1) := by decide +kernel
theorem dX8_record_10 : decode cX8_record 10 = .ok (.istore_n 1, 1) := by decide +kernel
theorem dX8_record_11 : decode cX8_record 11 = .ok (.iload_n 1, 1) := by decide +kernel
theorem dX8_record_12 : decode cX8_record 12 = .ok (.sipush 1250, 3) := by decide +kernel
theorem dX8_record_15 : decode cX8_record 15 = .ok (.if_icmp .ge 25, 3) := by decide +kernel
theorem dX8_record_18 : decode cX8_record 18 = .ok (.aload_n 0, 1) := by decide +kernel
theorem dX8_record_19 : decode cX8_record 19 = .ok (.getfield 16, 3) := by decide +kernel
theorem dX8_record_22 : decode cX8_record 22 = .ok (.iload_n 1, 1) := by decide +kernel
theorem dX8_record_23 : decode cX8_record 23 = .ok (.aload_n 0, 1) := by decide +kernel
theorem dX8_record_24 : decode cX8_record 24 = .ok (.getfield 16, 3) := by decide +kernel
theorem dX8_record_27 : decode cX8_record 27 = .ok (.iload_n 1, 1) := by decide +kernel
theorem dX8_record_28 : decode cX8_record 28 = .ok (.sipush 250, 3) := by decide +kernel
theorem dX8_record_31 : decode cX8_record 31 = .ok (.iadd, 1) := by decide +kernel
theorem dX8_record_32 : decode cX8_record 32 = .ok (.iaload, 1) := by decide +kernel
theorem dX8_record_33 : decode cX8_record 33 = .ok (.iastore, 1) := by decide +kernel
theorem dX8_record_34 : decode cX8_record 34 = .ok (.iinc 1 1, 3) := by decide +kernel
theorem dX8_record_37 : decode cX8_record 37 = .ok (.goto (-26), 3) := by decide +kernel
theorem dX8_record_40 : decode cX8_record 40 = .ok (.aload_n 0, 1) := by decide +kernel
theorem dX8_record_41 : decode cX8_record 41 = .ok (.dup, 1) := by decide +kernel
theorem dX8_record_42 : decode cX8_record 42 = .ok (.getfield 28, 3) := by decide +kernel
theorem dX8_record_45 : decode cX8_record 45 = .ok (.iconst 1, 1) := by decide +kernel
theorem dX8_record_46 : decode cX8_record 46 = .ok (.isub, 1) := by decide +kernel
theorem dX8_record_47 : decode cX8_record 47 = .ok (.putfield 28, 3) := by decide +kernel
theorem dX8_record_50 : decode cX8_record 50 = .ok (.aload_n 0, 1) := by decide +kernel
theorem dX8_record_51 : decode cX8_record 51 = .ok (.getfield 7, 3) := by decide +kernel
theorem dX8_record_54 : decode cX8_record 54 = .ok (.iconst 0, 1) := by decide +kernel
theorem dX8_record_55 : decode cX8_record 55 = .ok (.aload_n 0, 1) := by decide +kernel
theorem dX8_record_56 : decode cX8_record 56 = .ok (.getfield 16, 3) := by decide +kernel
theorem dX8_record_59 : decode cX8_record 59 = .ok (.aload_n 0, 1) := by decide +kernel
theorem dX8_record_60 : decode cX8_record 60 = .ok (.getfield 28, 3) := by decide +kernel
theorem dX8_record_63 : decode cX8_record 63 = .ok (.sipush 250, 3) := by decide +kernel
theorem dX8_record_66 : decode cX8_record 66 = .ok (.imul, 1) := by decide +kernel
theorem dX8_record_67 : decode cX8_record 67 = .ok (.invokestatic 32, 3) := by decide +kernel
theorem dX8_record_70 : decode cX8_record 70 = .ok (.aload_n 0, 1) := by decide +kernel
theorem dX8_record_71 : decode cX8_record 71 = .ok (.dup, 1) := by decide +kernel
theorem dX8_record_72 : decode cX8_record 72 = .ok (.getfield 28, 3) := by decide +kernel
theorem dX8_record_75 : decode cX8_record 75 = .ok (.iconst 1, 1) := by decide +kernel
theorem dX8_record_76 : decode cX8_record 76 = .ok (.iadd, 1) := by decide +kernel
theorem dX8_record_77 : decode cX8_record 77 = .ok (.putfield 28, 3) := by decide +kernel
theorem dX8_record_80 : decode cX8_record 80 = .ok (.return_, 1) := by decide +kernel
set_option maxRecDepth 20000 in
theorem ggX8_isStand_X8_within : GoodIn wsX8_isStand wsX8_within := goodIn_r _ [5] (by decide +kernel) (by decide +kernel)
set_option maxRecDepth 20000 in
theorem gX8_isStand_X8_within : GoodIn wsX8_isStand (va_wsS RX8 36 yX8_within wsX8_within) := goodIn_app (goodIn_of _ (by decide +kernel)) ggX8_isStand_X8_within
theorem dX8_isStand_0 : decode cX8_isStand 0 = .ok (.iload_n 1, 1) := by decide +kernel
theorem dX8_isStand_1 : decode cX8_isStand 1 = .ok (.iconst 0, 1) := by decide +kernel
theorem dX8_isStand_2 : decode cX8_isStand 2 = .ok (.aload_n 0, 1) := by decide +kernel
theorem dX8_isStand_3 : decode cX8_isStand 3 = .ok (.getfield 7, 3) := by decide +kernel
theorem dX8_isStand_6 : decode cX8_isStand 6 = .ok (.iconst 4, 1) := by decide +kernel
theorem dX8_isStand_7 : decode cX8_isStand 7 = .ok (.iaload, 1) := by decide +kernel
theorem dX8_isStand_8 : decode cX8_isStand 8 = .ok (.iconst 1, 1) := by decide +kernel
theorem dX8_isStand_9 : decode cX8_isStand 9 = .ok (.isub, 1) := by decide +kernel
theorem dX8_isStand_10 : decode cX8_isStand 10 = .ok (.invokestatic 36, 3) := by decide +kernel
theorem dX8_isStand_13 : decode cX8_isStand 13 = .ok (.ireturn, 1) := by decide +kernel
set_option maxRecDepth 20000 in
theorem ggX8_isCrew_X8_within : GoodIn wsX8_isCrew wsX8_within := goodIn_r _ [5] (by decide +kernel) (by decide +kernel)
set_option maxRecDepth 20000 in
theorem gX8_isCrew_X8_within : GoodIn wsX8_isCrew (va_wsS RX8 36 yX8_within wsX8_within) := goodIn_app (goodIn_of _ (by decide +kernel)) ggX8_isCrew_X8_within
theorem dX8_isCrew_0 : decode cX8_isCrew 0 = .ok (.iload_n 1, 1) := by decide +kernel
theorem dX8_isCrew_1 : decode cX8_isCrew 1 = .ok (.iconst 0, 1) := by decide +kernel
theorem dX8_isCrew_2 : decode cX8_isCrew 2 = .ok (.aload_n 0, 1) := by decide +kernel
theorem dX8_isCrew_3 : decode cX8_isCrew 3 = .ok (.getfield 7, 3) := by decide +kernel
theorem dX8_isCrew_6 : decode cX8_isCrew 6 = .ok (.iconst 5, 1) := by decide +kernel
theorem dX8_isCrew_7 : decode cX8_isCrew 7 = .ok (.iaload, 1) := by decide +kernel
theorem dX8_isCrew_8 : decode cX8_isCrew 8 = .ok (.iconst 1, 1) := by decide +kernel
theorem dX8_isCrew_9 : decode cX8_isCrew 9 = .ok (.isub, 1) := by decide +kernel
theorem dX8_isCrew_10 : decode cX8_isCrew 10 = .ok (.invokestatic 36, 3) := by decide +kernel
theorem dX8_isCrew_13 : decode cX8_isCrew 13 = .ok (.ireturn, 1) := by decide +kernel
theorem dX8_part_0 : decode cX8_part 0 = .ok (.aload_n 0, 1) := by decide +kernel
theorem dX8_part_1 : decode cX8_part 1 = .ok (.getfield 7, 3) := by decide +kernel
theorem dX8_part_4 : decode cX8_part 4 = .ok (.bipush 8, 2) := by decide +kernel
theorem dX8_part_6 : decode cX8_part 6 = .ok (.bipush 10, 2) := by decide +kernel
theorem dX8_part_8 : decode cX8_part 8 = .ok (.iload_n 1, 1) := by decide +kernel
theorem dX8_part_9 : decode cX8_part 9 = .ok (.imul, 1) := by decide +kernel
theorem dX8_part_10 : decode cX8_part 10 = .ok (.iadd, 1) := by decide +kernel
theorem dX8_part_11 : decode cX8_part 11 = .ok (.iload_n 2, 1) := by decide +kernel
theorem dX8_part_12 : decode cX8_part 12 = .ok (.iadd, 1) := by decide +kernel
theorem dX8_part_13 : decode cX8_part 13 = .ok (.iaload, 1) := by decide +kernel
theorem dX8_part_14 : decode cX8_part 14 = .ok (.ireturn, 1) := by decide +kernel
theorem dX8_setPart_0 : decode cX8_setPart 0 = .ok (.aload_n 0, 1) := by decide +kernel
theorem dX8_setPart_1 : decode cX8_setPart 1 = .ok (.getfield 7, 3) := by decide +kernel
theorem dX8_setPart_4 : decode cX8_setPart 4 = .ok (.bipush 8, 2) := by decide +kernel
theorem dX8_setPart_6 : decode cX8_setPart 6 = .ok (.bipush 10, 2) := by decide +kernel
theorem dX8_setPart_8 : decode cX8_setPart 8 = .ok (.iload_n 1, 1) := by decide +kernel
theorem dX8_setPart_9 : decode cX8_setPart 9 = .ok (.imul, 1) := by decide +kernel
theorem dX8_setPart_10 : decode cX8_setPart 10 = .ok (.iadd, 1) := by decide +kernel
theorem dX8_setPart_11 : decode cX8_setPart 11 = .ok (.iload_n 2, 1) := by decide +kernel
theorem dX8_setPart_12 : decode cX8_setPart 12 = .ok (.iadd, 1) := by decide +kernel
theorem dX8_setPart_13 : decode cX8_setPart 13 = .ok (.iload_n 3, 1) := by decide +kernel
theorem dX8_setPart_14 : decode cX8_setPart 14 = .ok (.iastore, 1) := by decide +kernel
theorem dX8_setPart_15 : decode cX8_setPart 15 = .ok (.return_, 1) := by decide +kernel
theorem dX8_ofCrewPart_0 : decode cX8_ofCrewPart 0 = .ok (.aload_n 0, 1) := by decide +kernel
theorem dX8_ofCrewPart_1 : decode cX8_ofCrewPart 1 = .ok (.getfield 7, 3) := by decide +kernel
theorem dX8_ofCrewPart_4 : decode cX8_ofCrewPart 4 = .ok (.sipush 208, 3) := by decide +kernel
theorem dX8_ofCrewPart_7 : decode cX8_ofCrewPart 7 = .ok (.bipush 7, 2) := by decide +kernel
theorem dX8_ofCrewPart_9 : decode cX8_ofCrewPart 9 = .ok (.iload_n 1, 1) := by decide +kernel
theorem dX8_ofCrewPart_10 : decode cX8_ofCrewPart 10 = .ok (.imul, 1) := by decide +kernel
theorem dX8_ofCrewPart_11 : decode cX8_ofCrewPart 11 = .ok (.iadd, 1) := by decide +kernel
theorem dX8_ofCrewPart_12 : decode cX8_ofCrewPart 12 = .ok (.iload_n 2, 1) := by decide +kernel
theorem dX8_ofCrewPart_13 : decode cX8_ofCrewPart 13 = .ok (.iadd, 1) := by decide +kernel
theorem dX8_ofCrewPart_14 : decode cX8_ofCrewPart 14 = .ok (.iaload, 1) := by decide +kernel
theorem dX8_ofCrewPart_15 : decode cX8_ofCrewPart 15 = .ok (.ireturn, 1) := by decide +kernel
theorem dX8_setCrew_0 : decode cX8_setCrew 0 = .ok (.aload_n 0, 1) := by decide +kernel
theorem dX8_setCrew_1 : decode cX8_setCrew 1 = .ok (.getfield 7, 3) := by decide +kernel
theorem dX8_setCrew_4 : decode cX8_setCrew 4 = .ok (.sipush 208, 3) := by decide +kernel
theorem dX8_setCrew_7 : decode cX8_setCrew 7 = .ok (.bipush 7, 2) := by decide +kernel
theorem dX8_setCrew_9 : decode cX8_setCrew 9 = .ok (.iload_n 1, 1) := by decide +kernel
theorem dX8_setCrew_10 : decode cX8_setCrew 10 = .ok (.imul, 1) := by decide +kernel
theorem dX8_setCrew_11 : decode cX8_setCrew 11 = .ok (.iadd, 1) := by decide +kernel
theorem dX8_setCrew_12 : decode cX8_setCrew 12 = .ok (.iload_n 2, 1) := by decide +kernel
theorem dX8_setCrew_13 : decode cX8_setCrew 13 = .ok (.iadd, 1) := by decide +kernel
theorem dX8_setCrew_14 : decode cX8_setCrew 14 = .ok (.iload_n 3, 1) := by decide +kernel
theorem dX8_setCrew_15 : decode cX8_setCrew 15 = .ok (.iastore, 1) := by decide +kernel
theorem dX8_setCrew_16 : decode cX8_setCrew 16 = .ok (.return_, 1) := by decide +kernel
set_option maxRecDepth 20000 in
theorem ggX8_isHow_X8_part : GoodIn wsX8_isHow wsX8_part := goodIn_r _ [5, 6, 7, 8, 9, 10, 11, 12, 13, 14, 15, 16, 17, 18, 19, 20] (by decide +kernel) (by decide +kernel)
set_option maxRecDepth 20000 in
theorem gX8_isHow_X8_part : GoodIn wsX8_isHow (wsV RX8 40 RX8 yX8_part wsX8_part) := goodIn_app (goodIn_of _ (by decide +kernel)) ggX8_isHow_X8_part
theorem dX8_isHow_0 : decode cX8_isHow 0 = .ok (.aload_n 0, 1) := by decide +kernel
theorem dX8_isHow_1 : decode cX8_isHow 1 = .ok (.iload_n 1, 1) := by decide +kernel
theorem dX8_isHow_2 : decode cX8_isHow 2 = .ok (.iconst 4, 1) := by decide +kernel
theorem dX8_isHow_3 : decode cX8_isHow 3 = .ok (.invokevirtual 40, 3) := by decide +kernel
theorem dX8_isHow_6 : decode cX8_isHow 6 = .ok (.iload_n 2, 1) := by decide +kernel
theorem dX8_isHow_7 : decode cX8_isHow 7 = .ok (.if_icmp .ne 7, 3) := by decide +kernel
theorem dX8_isHow_10 : decode cX8_isHow 10 = .ok (.iconst 1, 1) := by decide +kernel
theorem dX8_isHow_11 : decode cX8_isHow 11 = .ok (.goto 4, 3) := by decide +kernel
theorem dX8_isHow_14 : decode cX8_isHow 14 = .ok (.iconst 0, 1) := by decide +kernel
theorem dX8_isHow_15 : decode cX8_isHow 15 = .ok (.ireturn, 1) := by decide +kernel
set_option maxRecDepth 20000 in
theorem ggX8_withHow_X8_isHow : GoodIn wsX8_withHow wsX8_isHow := goodIn_r _ [6, 7, 8, 9, 5, 10, 1, 11, 12, 13, 14, 15, 16, 17, 18, 19, 20, 21, 22, 23, 24] (by decide +kernel) (by decide +kernel)
set_option maxRecDepth 20000 in
theorem gX8_withHow_X8_isHow : GoodIn wsX8_withHow (wsV RX8 44 RX8 yX8_isHow wsX8_isHow) := goodIn_app (goodIn_of _ (by decide +kernel)) ggX8_withHow_X8_isHow
theorem dX8_withHow_0 : decode cX8_withHow 0 = .ok (.iconst 0, 1) := by decide +kernel
theorem dX8_withHow_1 : decode cX8_withHow 1 = .ok (.istore_n 2, 1) := by decide +kernel
theorem dX8_withHow_2 : decode cX8_withHow 2 = .ok (.iconst 0, 1) := by decide +kernel
theorem dX8_withHow_3 : decode cX8_withHow 3 = .ok (.istore_n 3, 1) := by decide +kernel
theorem dX8_withHow_4 : decode cX8_withHow 4 = .ok (.iload_n 3, 1) := by decide +kernel
theorem dX8_withHow_5 : decode cX8_withHow 5 = .ok (.aload_n 0, 1) := by decide +kernel
theorem dX8_withHow_6 : decode cX8_withHow 6 = .ok (.getfield 7, 3) := by decide +kernel
theorem dX8_withHow_9 : decode cX8_withHow 9 = .ok (.iconst 4, 1) := by decide +kernel
theorem dX8_withHow_10 : decode cX8_withHow 10 = .ok (.iaload, 1) := by decide +kernel
theorem dX8_withHow_11 : decode cX8_withHow 11 = .ok (.if_icmp .ge 26, 3) := by decide +kernel
theorem dX8_withHow_14 : decode cX8_withHow 14 = .ok (.iload_n 2, 1) := by decide +kernel
theorem dX8_withHow_15 : decode cX8_withHow 15 = .ok (.aload_n 0, 1) := by decide +kernel
theorem dX8_withHow_16 : decode cX8_withHow 16 = .ok (.iload_n 3, 1) := by decide +kernel
theorem dX8_withHow_17 : decode cX8_withHow 17 = .ok (.iload_n 1, 1) := by decide +kernel
theorem dX8_withHow_18 : decode cX8_withHow 18 = .ok (.invokevirtual 44, 3) := by decide +kernel
theorem dX8_withHow_21 : decode cX8_withHow 21 = .ok (.ifCond .eq 7, 3) := by decide +kernel
theorem dX8_withHow_24 : decode cX8_withHow 24 = .ok (.iconst 1, 1) := by decide +kernel
theorem dX8_withHow_25 : decode cX8_withHow 25 = .ok (.goto 4, 3) := by decide +kernel
theorem dX8_withHow_28 : decode cX8_withHow 28 = .ok (.iconst 0, 1) := by decide +kernel
theorem dX8_withHow_29 : decode cX8_withHow 29 = .ok (.iadd, 1) := by decide +kernel
theorem dX8_withHow_30 : decode cX8_withHow 30 = .ok (.istore_n 2, 1) := by decide +kernel
theorem dX8_withHow_31 : decode cX8_withHow 31 = .ok (.iinc 3 1, 3) := by decide +kernel
theorem dX8_withHow_34 : decode cX8_withHow 34 = .ok (.goto (-30), 3) := by decide +kernel
theorem dX8_withHow_37 : decode cX8_withHow 37 = .ok (.iload_n 2, 1) := by decide +kernel
theorem dX8_withHow_38 : decode cX8_withHow 38 = .ok (.ireturn, 1) := by decide +kernel
set_option maxRecDepth 20000 in
theorem ggX8_standingOn_X8_part : GoodIn wsX8_standingOn wsX8_part := goodIn_r _ [6, 1, 11, 12, 13, 14, 15, 16, 17, 18, 19, 20, 21, 22, 23, 24] (by decide +kernel) (by decide +kernel)
set_option maxRecDepth 20000 in
theorem gX8_standingOn_X8_part : GoodIn wsX8_standingOn (wsV RX8 40 RX8 yX8_part wsX8_part) := goodIn_app (goodIn_of _ (by decide +kernel)) ggX8_standingOn_X8_part
set_option maxRecDepth 20000 in
theorem ggX8_standingOn_X8_isHow : GoodIn wsX8_standingOn wsX8_isHow := goodIn_r _ [10, 2, 3, 4, 5, 6, 1, 11, 12, 13, 14, 15, 16, 17, 18, 19, 20, 21, 22, 23, 24] (by decide +kernel) (by decide +kernel)
set_option maxRecDepth 20000 in
theorem gX8_standingOn_X8_isHow : GoodIn wsX8_standingOn (wsV RX8 44 RX8 yX8_isHow wsX8_isHow) := goodIn_app (goodIn_of _ (by decide +kernel)) ggX8_standingOn_X8_isHow
theorem dX8_standingOn_0 : decode cX8_standingOn 0 = .ok (.iconst 0, 1) := by decide +kernel
theorem dX8_standingOn_1 : decode cX8_standingOn 1 = .ok (.istore_n 2, 1) := by decide +kernel
theorem dX8_standingOn_2 : decode cX8_standingOn 2 = .ok (.iconst 0, 1) := by decide +kernel
theorem dX8_standingOn_3 : decode cX8_standingOn 3 = .ok (.istore_n 3, 1) := by decide +kernel
theorem dX8_standingOn_4 : decode cX8_standingOn 4 = .ok (.iload_n 3, 1) := by decide +kernel
theorem dX8_standingOn_5 : decode cX8_standingOn 5 = .ok (.aload_n 0, 1) := by decide +kernel
theorem dX8_standingOn_6 : decode cX8_standingOn 6 = .ok (.getfield 7, 3) := by decide +kernel
theorem dX8_standingOn_9 : decode cX8_standingOn 9 = .ok (.iconst 4, 1) := by decide +kernel
theorem dX8_standingOn_10 : decode cX8_standingOn 10 = .ok (.iaload, 1) := by decide +kernel
theorem dX8_standingOn_11 : decode cX8_standingOn 11 = .ok (.if_icmp .ge 39, 3) := by decide +kernel
theorem dX8_standingOn_14 : decode cX8_standingOn 14 = .ok (.iload_n 2, 1) := by decide +kernel
theorem dX8_standingOn_15 : decode cX8_standingOn 15 = .ok (.aload_n 0, 1) := by decide +kernel
theorem dX8_standingOn_16 : decode cX8_standingOn 16 = .ok (.iload_n 3, 1) := by decide +kernel
theorem dX8_standingOn_17 : decode cX8_standingOn 17 = .ok (.iconst 3, 1) := by decide +kernel
theorem dX8_standingOn_18 : decode cX8_standingOn 18 = .ok (.invokevirtual 40, 3) := by decide +kernel
theorem dX8_standingOn_21 : decode cX8_standingOn 21 = .ok (.iload_n 1, 1) := by decide +kernel
theorem dX8_standingOn_22 : decode cX8_standingOn 22 = .ok (.if_icmp .ne 19, 3) := by decide +kernel
theorem dX8_standingOn_25 : decode cX8_standingOn 25 = .ok (.aload_n 0, 1) := by decide +kernel
theorem dX8_standingOn_26 : decode cX8_standingOn 26 = .ok (.iload_n 3, 1) := by decide +kernel
theorem dX8_standingOn_27 : decode cX8_standingOn 27 = .ok (.bipush 6, 2) := by decide +kernel
theorem dX8_standingOn_29 : decode cX8_standingOn 29 = .ok (.invokevirtual 44, 3) := by decide +kernel
theorem dX8_standingOn_32 : decode cX8_standingOn 32 = .ok (.ifCond .ne 9, 3) := by decide +kernel
theorem dX8_standingOn_35 : decode cX8_standingOn 35 = .ok (.iconst 1, 1) := by decide +kernel
theorem dX8_standingOn_36 : decode cX8_standingOn 36 = .ok (.iload_n 3, 1) := by decide +kernel
theorem dX8_standingOn_37 : decode cX8_standingOn 37 = .ok (.ishl, 1) := by decide +kernel
theorem dX8_standingOn_38 : decode cX8_standingOn 38 = .ok (.goto 4, 3) := by decide +kernel
theorem dX8_standingOn_41 : decode cX8_standingOn 41 = .ok (.iconst 0, 1) := by decide +kernel
theorem dX8_standingOn_42 : decode cX8_standingOn 42 = .ok (.ior, 1) := by decide +kernel
theorem dX8_standingOn_43 : decode cX8_standingOn 43 = .ok (.istore_n 2, 1) := by decide +kernel
theorem dX8_standingOn_44 : decode cX8_standingOn 44 = .ok (.iinc 3 1, 3) := by decide +kernel
theorem dX8_standingOn_47 : decode cX8_standingOn 47 = .ok (.goto (-43), 3) := by decide +kernel
theorem dX8_standingOn_50 : decode cX8_standingOn 50 = .ok (.iload_n 2, 1) := by decide +kernel
theorem dX8_standingOn_51 : decode cX8_standingOn 51 = .ok (.ireturn, 1) := by decide +kernel
set_option maxRecDepth 20000 in
theorem ggX8_meters_X8_isHow : GoodIn wsX8_meters wsX8_isHow := goodIn_r _ [6, 7, 8, 9, 5, 10, 1, 11, 12, 13, 14, 15, 16, 17, 18, 19, 20, 21, 22, 23, 24] (by decide +kernel) (by decide +kernel)
set_option maxRecDepth 20000 in
theorem gX8_meters_X8_isHow : GoodIn wsX8_meters (wsV RX8 44 RX8 yX8_isHow wsX8_isHow) := goodIn_app (goodIn_of _ (by decide +kernel)) ggX8_meters_X8_isHow
set_option maxRecDepth 20000 in
theorem ggX8_meters_X8_part : GoodIn wsX8_meters wsX8_part := goodIn_r _ [10, 1, 11, 12, 13, 14, 15, 16, 17, 18, 19, 20, 21, 22, 23, 24] (by decide +kernel) (by decide +kernel)
set_option maxRecDepth 20000 in
theorem gX8_meters_X8_part : GoodIn wsX8_meters (wsV RX8 40 RX8 yX8_part wsX8_part) := goodIn_app (goodIn_of _ (by decide +kernel)) ggX8_meters_X8_part
theorem dX8_meters_0 : decode cX8_meters 0 = .ok (.iconst 0, 1) := by decide +kernel
theorem dX8_meters_1 : decode cX8_meters 1 = .ok (.istore_n 1, 1) := by decide +kernel
theorem dX8_meters_2 : decode cX8_meters 2 = .ok (.iconst 0, 1) := by decide +kernel
theorem dX8_meters_3 : decode cX8_meters 3 = .ok (.istore_n 2, 1) := by decide +kernel
theorem dX8_meters_4 : decode cX8_meters 4 = .ok (.iload_n 2, 1) := by decide +kernel
theorem dX8_meters_5 : decode cX8_meters 5 = .ok (.aload_n 0, 1) := by decide +kernel
theorem dX8_meters_6 : decode cX8_meters 6 = .ok (.getfield 7, 3) := by decide +kernel
theorem dX8_meters_9 : decode cX8_meters 9 = .ok (.iconst 4, 1) := by decide +kernel
theorem dX8_meters_10 : decode cX8_meters 10 = .ok (.iaload, 1) := by decide +kernel
theorem dX8_meters_11 : decode cX8_meters 11 = .ok (.if_icmp .ge 31, 3) := by decide +kernel
theorem dX8_meters_14 : decode cX8_meters 14 = .ok (.iload_n 1, 1) := by decide +kernel
theorem dX8_meters_15 : decode cX8_meters 15 = .ok (.aload_n 0, 1) := by decide +kernel
theorem dX8_meters_16 : decode cX8_meters 16 = .ok (.iload_n 2, 1) := by decide +kernel
theorem dX8_meters_17 : decode cX8_meters 17 = .ok (.iconst 1, 1) := by decide +kernel
theorem dX8_meters_18 : decode cX8_meters 18 = .ok (.invokevirtual 44, 3) := by decide +kernel
theorem dX8_meters_21 : decode cX8_meters 21 = .ok (.ifCond .eq 12, 3) := by decide +kernel
theorem dX8_meters_24 : decode cX8_meters 24 = .ok (.aload_n 0, 1) := by decide +kernel
theorem dX8_meters_25 : decode cX8_meters 25 = .ok (.iload_n 2, 1) := by decide +kernel
theorem dX8_meters_26 : decode cX8_meters 26 = .ok (.iconst 1, 1) := by decide +kernel
theorem dX8_meters_27 : decode cX8_meters 27 = .ok (.invokevirtual 40, 3) := by decide +kernel
theorem dX8_meters_30 : decode cX8_meters 30 = .ok (.goto 4, 3) := by decide +kernel
theorem dX8_meters_33 : decode cX8_meters 33 = .ok (.iconst 0, 1) := by decide +kernel
theorem dX8_meters_34 : decode cX8_meters 34 = .ok (.iadd, 1) := by decide +kernel
theorem dX8_meters_35 : decode cX8_meters 35 = .ok (.istore_n 1, 1) := by decide +kernel
theorem dX8_meters_36 : decode cX8_meters 36 = .ok (.iinc 2 1, 3) := by decide +kernel
theorem dX8_meters_39 : decode cX8_meters 39 = .ok (.goto (-35), 3) := by decide +kernel
theorem dX8_meters_42 : decode cX8_meters 42 = .ok (.iload_n 1, 1) := by decide +kernel
theorem dX8_meters_43 : decode cX8_meters 43 = .ok (.ireturn, 1) := by decide +kernel
set_option maxRecDepth 20000 in
theorem ggX8_loadOf_X8_part : GoodIn wsX8_loadOf wsX8_part := goodIn_r _ [6, 1, 7, 8, 9, 10, 11, 12, 13, 14, 15, 16, 17, 18, 19, 20] (by decide +kernel) (by decide +kernel)
set_option maxRecDepth 20000 in
theorem gX8_loadOf_X8_part : GoodIn wsX8_loadOf (wsV RX8 40 RX8 yX8_part wsX8_part) := goodIn_app (goodIn_of _ (by decide +kernel)) ggX8_loadOf_X8_part
theorem dX8_loadOf_0 : decode cX8_loadOf 0 = .ok (.iconst 0, 1) := by decide +kernel
theorem dX8_loadOf_1 : decode cX8_loadOf 1 = .ok (.istore_n 2, 1) := by decide +kernel
theorem dX8_loadOf_2 : decode cX8_loadOf 2 = .ok (.iconst 0, 1) := by decide +kernel
theorem dX8_loadOf_3 : decode cX8_loadOf 3 = .ok (.istore_n 3, 1) := by decide +kernel
theorem dX8_loadOf_4 : decode cX8_loadOf 4 = .ok (.iload_n 3, 1) := by decide +kernel
theorem dX8_loadOf_5 : decode cX8_loadOf 5 = .ok (.aload_n 0, 1) := by decide +kernel
theorem dX8_loadOf_6 : decode cX8_loadOf 6 = .ok (.getfield 7, 3) := by decide +kernel
theorem dX8_loadOf_9 : decode cX8_loadOf 9 = .ok (.iconst 4, 1) := by decide +kernel
theorem dX8_loadOf_10 : decode cX8_loadOf 10 = .ok (.iaload, 1) := by decide +kernel
theorem dX8_loadOf_11 : decode cX8_loadOf 11 = .ok (.if_icmp .ge 33, 3) := by decide +kernel
theorem dX8_loadOf_14 : decode cX8_loadOf 14 = .ok (.iload_n 2, 1) := by decide +kernel
theorem dX8_loadOf_15 : decode cX8_loadOf 15 = .ok (.aload_n 0, 1) := by decide +kernel
theorem dX8_loadOf_16 : decode cX8_loadOf 16 = .ok (.iload_n 3, 1) := by decide +kernel
theorem dX8_loadOf_17 : decode cX8_loadOf 17 = .ok (.bipush 6, 2) := by decide +kernel
theorem dX8_loadOf_19 : decode cX8_loadOf 19 = .ok (.invokevirtual 40, 3) := by decide +kernel
theorem dX8_loadOf_22 : decode cX8_loadOf 22 = .ok (.iload_n 1, 1) := by decide +kernel
theorem dX8_loadOf_23 : decode cX8_loadOf 23 = .ok (.if_icmp .ne 12, 3) := by decide +kernel
theorem dX8_loadOf_26 : decode cX8_loadOf 26 = .ok (.aload_n 0, 1) := by decide +kernel
theorem dX8_loadOf_27 : decode cX8_loadOf 27 = .ok (.iload_n 3, 1) := by decide +kernel
theorem dX8_loadOf_28 : decode cX8_loadOf 28 = .ok (.iconst 2, 1) := by decide +kernel
theorem dX8_loadOf_29 : decode cX8_loadOf 29 = .ok (.invokevirtual 40, 3) := by decide +kernel
theorem dX8_loadOf_32 : decode cX8_loadOf 32 = .ok (.goto 4, 3) := by decide +kernel
theorem dX8_loadOf_35 : decode cX8_loadOf 35 = .ok (.iconst 0, 1) := by decide +kernel
theorem dX8_loadOf_36 : decode cX8_loadOf 36 = .ok (.iadd, 1) := by decide +kernel
theorem dX8_loadOf_37 : decode cX8_loadOf 37 = .ok (.istore_n 2, 1) := by decide +kernel
theorem dX8_loadOf_38 : decode cX8_loadOf 38 = .ok (.iinc 3 1, 3) := by decide +kernel
theorem dX8_loadOf_41 : decode cX8_loadOf 41 = .ok (.goto (-37), 3) := by decide +kernel
theorem dX8_loadOf_44 : decode cX8_loadOf 44 = .ok (.iload_n 2, 1) := by decide +kernel
theorem dX8_loadOf_45 : decode cX8_loadOf 45 = .ok (.ireturn, 1) := by decide +kernel
set_option maxRecDepth 20000 in
theorem ggX8_hasBase_X8_part : GoodIn wsX8_hasBase wsX8_part := goodIn_r _ [5, 6, 11, 12, 13, 14, 15, 16, 17, 18, 19, 20, 21, 22, 23, 24] (by decide +kernel) (by decide +kernel)
set_option maxRecDepth 20000 in
theorem gX8_hasBase_X8_part : GoodIn wsX8_hasBase (wsV RX8 40 RX8 yX8_part wsX8_part) := goodIn_app (goodIn_of _ (by decide +kernel)) ggX8_hasBase_X8_part
set_option maxRecDepth 20000 in
theorem ggX8_hasBase_X8_isHow : GoodIn wsX8_hasBase wsX8_isHow := goodIn_r _ [10, 1, 2, 3, 4, 5, 6, 11, 12, 13, 14, 15, 16, 17, 18, 19, 20, 21, 22, 23, 24] (by decide +kernel) (by decide +kernel)
set_option maxRecDepth 20000 in
theorem gX8_hasBase_X8_isHow : GoodIn wsX8_hasBase (wsV RX8 44 RX8 yX8_isHow wsX8_isHow) := goodIn_app (goodIn_of _ (by decide +kernel)) ggX8_hasBase_X8_isHow
theorem dX8_hasBase_0 : decode cX8_hasBase 0 = .ok (.aload_n 0, 1) := by decide +kernel
theorem dX8_hasBase_1 : decode cX8_hasBase 1 = .ok (.iload_n 1, 1) := by decide +kernel
theorem dX8_hasBase_2 : decode cX8_hasBase 2 = .ok (.iconst 3, 1) := by decide +kernel
theorem dX8_hasBase_3 : decode cX8_hasBase 3 = .ok (.invokevirtual 40, 3) := by decide +kernel
theorem dX8_hasBase_6 : decode cX8_hasBase 6 = .ok (.bipush (-6), 2) := by decide +kernel
theorem dX8_hasBase_8 : decode cX8_hasBase 8 = .ok (.if_icmp .eq 17, 3) := by decide +kernel
theorem dX8_hasBase_11 : decode cX8_hasBase 11 = .ok (.aload_n 0, 1) := by decide +kernel
theorem dX8_hasBase_12 : decode cX8_hasBase 12 = .ok (.aload_n 0, 1) := by decide +kernel
theorem dX8_hasBase_13 : decode cX8_hasBase 13 = .ok (.iload_n 1, 1) := by decide +kernel
theorem dX8_hasBase_14 : decode cX8_hasBase 14 = .ok (.iconst 3, 1) := by decide +kernel
theorem dX8_hasBase_15 : decode cX8_hasBase 15 = .ok (.invokevirtual 40, 3) := by decide +kernel
theorem dX8_hasBase_18 : decode cX8_hasBase 18 = .ok (.iconst 4, 1) := by decide +kernel
theorem dX8_hasBase_19 : decode cX8_hasBase 19 = .ok (.invokevirtual 44, 3) := by decide +kernel
theorem dX8_hasBase_22 : decode cX8_hasBase 22 = .ok (.ifCond .eq 7, 3) := by decide +kernel
theorem dX8_hasBase_25 : decode cX8_hasBase 25 = .ok (.iconst 1, 1) := by decide +kernel
theorem dX8_hasBase_26 : decode cX8_hasBase 26 = .ok (.goto 4, 3) := by decide +kernel
theorem dX8_hasBase_29 : decode cX8_hasBase 29 = .ok (.iconst 0, 1) := by decide +kernel
theorem dX8_hasBase_30 : decode cX8_hasBase 30 = .ok (.ireturn, 1) := by decide +kernel
set_option maxRecDepth 20000 in
theorem ggX8_lorries_X8_isHow : GoodIn wsX8_lorries wsX8_isHow := goodIn_r _ [6, 7, 8, 9, 5, 10, 1, 19, 20, 21, 22, 23, 24, 25, 26, 27, 28, 29, 30, 31, 32] (by decide +kernel) (by decide +kernel)
set_option maxRecDepth 20000 in
theorem gX8_lorries_X8_isHow : GoodIn wsX8_lorries (wsV RX8 44 RX8 yX8_isHow wsX8_isHow) := goodIn_app (goodIn_of _ (by decide +kernel)) ggX8_lorries_X8_isHow
set_option maxRecDepth 20000 in
theorem ggX8_lorries_X8_part : GoodIn wsX8_lorries wsX8_part := goodIn_r _ [10, 1, 19, 20, 21, 22, 23, 24, 25, 26, 27, 28, 29, 30, 31, 32] (by decide +kernel) (by decide +kernel)
set_option maxRecDepth 20000 in
theorem gX8_lorries_X8_part : GoodIn wsX8_lorries (wsV RX8 40 RX8 yX8_part wsX8_part) := goodIn_app (goodIn_of _ (by decide +kernel)) ggX8_lorries_X8_part
set_option maxRecDepth 20000 in
theorem ggX8_lorries_X8_setPart : GoodIn wsX8_lorries wsX8_setPart := goodIn_r _ [14, 1, 19, 20, 21, 22, 23, 24, 25, 26, 27, 28, 29, 30, 31, 32] (by decide +kernel) (by decide +kernel)
set_option maxRecDepth 20000 in
theorem gX8_lorries_X8_setPart : GoodIn wsX8_lorries (wsV RX8 48 RX8 yX8_setPart wsX8_setPart) := goodIn_app (goodIn_of _ (by decide +kernel)) ggX8_lorries_X8_setPart
set_option maxRecDepth 20000 in
theorem ggX8_lorries_X8_meters : GoodIn wsX8_lorries wsX8_meters := goodIn_r _ [18, 1, 2, 3, 4, 5, 6, 7, 8, 9, 10, 19, 20, 21, 22, 23, 24, 25, 26, 27, 28, 29, 30, 31, 32] (by decide +kernel) (by decide +kernel)
set_option maxRecDepth 20000 in
theorem gX8_lorries_X8_meters : GoodIn wsX8_lorries (wsV RX8 52 RX8 yX8_meters wsX8_meters) := goodIn_app (goodIn_of _ (by decide +kernel)) ggX8_lorries_X8_meters
theorem dX8_lorries_0 : decode cX8_lorries 0 = .ok (.iconst 0, 1) := by decide +kernel
theorem dX8_lorries_1 : decode cX8_lorries 1 = .ok (.istore_n 1, 1) := by decide +kernel
theorem dX8_lorries_2 : decode cX8_lorries 2 = .ok (.iload_n 1, 1) := by decide +kernel
theorem dX8_lorries_3 : decode cX8_lorries 3 = .ok (.aload_n 0, 1) := by decide +kernel
theorem dX8_lorries_4 : decode cX8_lorries 4 = .ok (.getfield 7, 3) := by decide +kernel
theorem dX8_lorries_7 : decode cX8_lorries 7 = .ok (.iconst 4, 1) := by decide +kernel
theorem dX8_lorries_8 : decode cX8_lorries 8 = .ok (.iaload, 1) := by decide +kernel
theorem dX8_lorries_9 : decode cX8_lorries 9 = .ok (.if_icmp .ge 35, 3) := by decide +kernel
theorem dX8_lorries_12 : decode cX8_lorries 12 = .ok (.aload_n 0, 1) := by decide +kernel
theorem dX8_lorries_13 : decode cX8_lorries 13 = .ok (.iload_n 1, 1) := by decide +kernel
theorem dX8_lorries_14 : decode cX8_lorries 14 = .ok (.iconst 1, 1) := by decide +kernel
theorem dX8_lorries_15 : decode cX8_lorries 15 = .ok (.invokevirtual 44, 3) := by decide +kernel
theorem dX8_lorries_18 : decode cX8_lorries 18 = .ok (.ifCond .eq 20, 3) := by decide +kernel
theorem dX8_lorries_21 : decode cX8_lorries 21 = .ok (.aload_n 0, 1) := by decide +kernel
theorem dX8_lorries_22 : decode cX8_lorries 22 = .ok (.iload_n 1, 1) := by decide +kernel
theorem dX8_lorries_23 : decode cX8_lorries 23 = .ok (.bipush 8, 2) := by decide +kernel
theorem dX8_lorries_25 : decode cX8_lorries 25 = .ok (.invokevirtual 40, 3) := by decide +kernel
theorem dX8_lorries_28 : decode cX8_lorries 28 = .ok (.ifCond .ne 10, 3) := by decide +kernel
theorem dX8_lorries_31 : decode cX8_lorries 31 = .ok (.aload_n 0, 1) := by decide +kernel
theorem dX8_lorries_32 : decode cX8_lorries 32 = .ok (.iload_n 1, 1) := by decide +kernel
theorem dX8_lorries_33 : decode cX8_lorries 33 = .ok (.iconst 4, 1) := by decide +kernel
theorem dX8_lorries_34 : decode cX8_lorries 34 = .ok (.iconst 2, 1) := by decide +kernel
theorem dX8_lorries_35 : decode cX8_lorries 35 = .ok (.invokevirtual 48, 3) := by decide +kernel
theorem dX8_lorries_38 : decode cX8_lorries 38 = .ok (.iinc 1 1, 3) := by decide +kernel
theorem dX8_lorries_41 : decode cX8_lorries 41 = .ok (.goto (-39), 3) := by decide +kernel
theorem dX8_lorries_44 : decode cX8_lorries 44 = .ok (.iconst 1, 1) := by decide +kernel
theorem dX8_lorries_45 : decode cX8_lorries 45 = .ok (.istore_n 1, 1) := by decide +kernel
theorem dX8_lorries_46 : decode cX8_lorries 46 = .ok (.iconst 0, 1) := by decide +kernel
theorem dX8_lorries_47 : decode cX8_lorries 47 = .ok (.istore_n 2, 1) := by decide +kernel
theorem dX8_lorries_48 : decode cX8_lorries 48 = .ok (.iload_n 2, 1) := by decide +kernel
theorem dX8_lorries_49 : decode cX8_lorries 49 = .ok (.aload_n 0, 1) := by decide +kernel
theorem dX8_lorries_50 : decode cX8_lorries 50 = .ok (.getfield 7, 3) := by decide +kernel
theorem dX8_lorries_53 : decode cX8_lorries 53 = .ok (.iconst 4, 1) := by decide +kernel
theorem dX8_lorries_54 : decode cX8_lorries 54 = .ok (.iaload, 1) := by decide +kernel
theorem dX8_lorries_55 : decode cX8_lorries 55 = .ok (.if_icmp .ge 72, 3) := by decide +kernel
theorem dX8_lorries_58 : decode cX8_lorries 58 = .ok (.iload_n 1, 1) := by decide +kernel
theorem dX8_lorries_59 : decode cX8_lorries 59 = .ok (.ifCond .eq 68, 3) := by decide +kernel
theorem dX8_lorries_62 : decode cX8_lorries 62 = .ok (.aload_n 0, 1) := by decide +kernel
theorem dX8_lorries_63 : decode cX8_lorries 63 = .ok (.iload_n 2, 1) := by decide +kernel
theorem dX8_lorries_64 : decode cX8_lorries 64 = .ok (.iconst 0, 1) := by decide +kernel
theorem dX8_lorries_65 : decode cX8_lorries 65 = .ok (.invokevirtual 44, 3) := by decide +kernel
theorem dX8_lorries_68 : decode cX8_lorries 68 = .ok (.ifCond .eq 53, 3) := by decide +kernel
theorem dX8_lorries_71 : decode cX8_lorries 71 = .ok (.aload_n 0, 1) := by decide +kernel
theorem dX8_lorries_72 : decode cX8_lorries 72 = .ok (.invokevirtual 52, 3) := by decide +kernel
theorem dX8_lorries_75 : decode cX8_lorries 75 = .ok (.aload_n 0, 1) := by decide +kernel
theorem dX8_lorries_76 : decode cX8_lorries 76 = .ok (.iload_n 2, 1) := by decide +kernel
theorem dX8_lorries_77 : decode cX8_lorries 77 = .ok (.iconst 1, 1) := by decide +kernel
theorem dX8_lorries_78 : decode cX8_lorries 78 = .ok (.invokevirtual 40, 3) := by decide +kernel
theorem dX8_lorries_81 : decode cX8_lorries 81 = .ok (.iadd, 1) := by decide +kernel
theorem dX8_lorries_82 : decode cX8_lorries 82 = .ok (.aload_n 0, 1) := by decide +kernel
theorem dX8_lorries_83 : decode cX8_lorries 83 = .ok (.getfield 7, 3) := by decide +kernel
theorem dX8_lorries_86 : decode cX8_lorries 86 = .ok (.iconst 0, 1) := by decide +kernel
theorem dX8_lorries_87 : decode cX8_lorries 87 = .ok (.iaload, 1) := by decide +kernel
theorem dX8_lorries_88 : decode cX8_lorries 88 = .ok (.if_icmp .gt 7, 3) := by decide +kernel
theorem dX8_lorries_91 : decode cX8_lorries 91 = .ok (.iconst 1, 1) := by decide +kernel
theorem dX8_lorries_92 : decode cX8_lorries 92 = .ok (.goto 4, 3) := by decide +kernel
theorem dX8_lorries_95 : decode cX8_lorries 95 = .ok (.iconst 0, 1) := by decide +kernel
theorem dX8_lorries_96 : decode cX8_lorries 96 = .ok (.istore_n 1, 1) := by decide +kernel
theorem dX8_lorries_97 : decode cX8_lorries 97 = .ok (.iload_n 1, 1) := by decide +kernel
theorem dX8_lorries_98 : decode cX8_lorries 98 = .ok (.ifCond .eq 23, 3) := by decide +kernel
theorem dX8_lorries_101 : decode cX8_lorries 101 = .ok (.aload_n 0, 1) := by decide +kernel
theorem dX8_lorries_102 : decode cX8_lorries 102 = .ok (.iload_n 2, 1) := by decide +kernel
theorem dX8_lorries_103 : decode cX8_lorries 103 = .ok (.iconst 4, 1) := by decide +kernel
theorem dX8_lorries_104 : decode cX8_lorries 104 = .ok (.iconst 1, 1) := by decide +kernel
theorem dX8_lorries_105 : decode cX8_lorries 105 = .ok (.invokevirtual 48, 3) := by decide +kernel
theorem dX8_lorries_108 : decode cX8_lorries 108 = .ok (.aload_n 0, 1) := by decide +kernel
theorem dX8_lorries_109 : decode cX8_lorries 109 = .ok (.iload_n 2, 1) := by decide +kernel
theorem dX8_lorries_110 : decode cX8_lorries 110 = .ok (.bipush 8, 2) := by decide +kernel
theorem dX8_lorries_112 : decode cX8_lorries 112 = .ok (.aload_n 0, 1) := by decide +kernel
theorem dX8_lorries_113 : decode cX8_lorries 113 = .ok (.getfield 7, 3) := by decide +kernel
theorem dX8_lorries_116 : decode cX8_lorries 116 = .ok (.iconst 1, 1) := by decide +kernel
theorem dX8_lorries_117 : decode cX8_lorries 117 = .ok (.iaload, 1) := by decide +kernel
theorem dX8_lorries_118 : decode cX8_lorries 118 = .ok (.invokevirtual 48, 3) := by decide +kernel
theorem dX8_lorries_121 : decode cX8_lorries 121 = .ok (.iinc 2 1, 3) := by decide +kernel
theorem dX8_lorries_124 : decode cX8_lorries 124 = .ok (.goto (-76), 3) := by decide +kernel
theorem dX8_lorries_127 : decode cX8_lorries 127 = .ok (.iconst 0, 1) := by decide +kernel
theorem dX8_lorries_128 : decode cX8_lorries 128 = .ok (.istore_n 2, 1) := by decide +kernel
theorem dX8_lorries_129 : decode cX8_lorries 129 = .ok (.iload_n 2, 1) := by decide +kernel
theorem dX8_lorries_130 : decode cX8_lorries 130 = .ok (.aload_n 0, 1) := by decide +kernel
theorem dX8_lorries_131 : decode cX8_lorries 131 = .ok (.getfield 7, 3) := by decide +kernel
theorem dX8_lorries_134 : decode cX8_lorries 134 = .ok (.iconst 4, 1) := by decide +kernel
theorem dX8_lorries_135 : decode cX8_lorries 135 = .ok (.iaload, 1) := by decide +kernel
theorem dX8_lorries_136 : decode cX8_lorries 136 = .ok (.if_icmp .ge 34, 3) := by decide +kernel
theorem dX8_lorries_139 : decode cX8_lorries 139 = .ok (.aload_n 0, 1) := by decide +kernel
theorem dX8_lorries_140 : decode cX8_lorries 140 = .ok (.iload_n 2, 1) := by decide +kernel
theorem dX8_lorries_141 : decode cX8_lorries 141 = .ok (.iconst 1, 1) := by decide +kernel
theorem dX8_lorries_142 : decode cX8_lorries 142 = .ok (.invokevirtual 44, 3) := by decide +kernel
theorem dX8_lorries_145 : decode cX8_lorries 145 = .ok (.ifCond .eq 19, 3) := by decide +kernel
theorem dX8_lorries_148 : decode cX8_lorries 148 = .ok (.aload_n 0, 1) := by decide +kernel
theorem dX8_lorries_149 : decode cX8_lorries 149 = .ok (.iload_n 2, 1) := by decide +kernel
theorem dX8_lorries_150 : decode cX8_lorries 150 = .ok (.bipush 8, 2) := by decide +kernel
theorem dX8_lorries_152 : decode cX8_lorries 152 = .ok (.aload_n 0, 1) := by decide +kernel
theorem dX8_lorries_153 : decode cX8_lorries 153 = .ok (.iload_n 2, 1) := by decide +kernel
theorem dX8_lorries_154 : decode cX8_lorries 154 = .ok (.bipush 8, 2) := by decide +kernel
theorem dX8_lorries_156 : decode cX8_lorries 156 = .ok (.invokevirtual 40, 3) := by decide +kernel
theorem dX8_lorries_159 : decode cX8_lorries 159 = .ok (.iconst 1, 1) := by decide +kernel
theorem dX8_lorries_160 : decode cX8_lorries 160 = .ok (.isub, 1) := by decide +kernel
theorem dX8_lorries_161 : decode cX8_lorries 161 = .ok (.invokevirtual 48, 3) := by decide +kernel
theorem dX8_lorries_164 : decode cX8_lorries 164 = .ok (.iinc 2 1, 3) := by decide +kernel
theorem dX8_lorries_167 : decode cX8_lorries 167 = .ok (.goto (-38), 3) := by decide +kernel
theorem dX8_lorries_170 : decode cX8_lorries 170 = .ok (.return_, 1) := by decide +kernel
set_option maxRecDepth 20000 in
theorem ggX8_nextStand_X8_isHow : GoodIn wsX8_nextStand wsX8_isHow := goodIn_r _ [6, 7, 8, 9, 5, 10, 1, 19, 20, 21, 22, 23, 24, 25, 26, 27, 28, 29, 30, 31, 32] (by decide +kernel) (by decide +kernel)
set_option maxRecDepth 20000 in
theorem gX8_nextStand_X8_isHow : GoodIn wsX8_nextStand (wsV RX8 44 RX8 yX8_isHow wsX8_isHow) := goodIn_app (goodIn_of _ (by decide +kernel)) ggX8_nextStand_X8_isHow
set_option maxRecDepth 20000 in
theorem ggX8_nextStand_X8_standingOn : GoodIn wsX8_nextStand wsX8_standingOn := goodIn_r _ [14, 1, 7, 8, 9, 5, 10, 2, 3, 4, 6, 19, 20, 21, 22, 23, 24, 25, 26, 27, 28, 29, 30, 31, 32] (by decide +kernel) (by decide +kernel)
set_option maxRecDepth 20000 in
theorem gX8_nextStand_X8_standingOn : GoodIn wsX8_nextStand (wsV RX8 56 RX8 yX8_standingOn wsX8_standingOn) := goodIn_app (goodIn_of _ (by decide +kernel)) ggX8_nextStand_X8_standingOn
set_option maxRecDepth 20000 in
theorem ggX8_nextStand_X8_hasBase : GoodIn wsX8_nextStand wsX8_hasBase := goodIn_r _ [18, 7, 8, 9, 5, 10, 1, 2, 3, 4, 6, 19, 20, 21, 22, 23, 24, 25, 26, 27, 28, 29, 30, 31, 32] (by decide +kernel) (by decide +kernel)
set_option maxRecDepth 20000 in
theorem gX8_nextStand_X8_hasBase : GoodIn wsX8_nextStand (wsV RX8 60 RX8 yX8_hasBase wsX8_hasBase) := goodIn_app (goodIn_of _ (by decide +kernel)) ggX8_nextStand_X8_hasBase
theorem dX8_nextStand_0 : decode cX8_nextStand 0 = .ok (.bipush (-6), 2) := by decide +kernel
theorem dX8_nextStand_2 : decode cX8_nextStand 2 = .ok (.istore_n 1, 1) := by decide +kernel
theorem dX8_nextStand_3 : decode cX8_nextStand 3 = .ok (.iconst 0, 1) := by decide +kernel
theorem dX8_nextStand_4 : decode cX8_nextStand 4 = .ok (.istore_n 2, 1) := by decide +kernel
theorem dX8_nextStand_5 : decode cX8_nextStand 5 = .ok (.iload_n 2, 1) := by decide +kernel
theorem dX8_nextStand_6 : decode cX8_nextStand 6 = .ok (.aload_n 0, 1) := by decide +kernel
theorem dX8_nextStand_7 : decode cX8_nextStand 7 = .ok (.getfield 7, 3) := by decide +kernel
theorem dX8_nextStand_10 : decode cX8_nextStand 10 = .ok (.iconst 4, 1) := by decide +kernel
theorem dX8_nextStand_11 : decode cX8_nextStand 11 = .ok (.iaload, 1) := by decide +kernel
theorem dX8_nextStand_12 : decode cX8_nextStand 12 = .ok (.if_icmp .ge 106, 3) := by decide +kernel
theorem dX8_nextStand_15 : decode cX8_nextStand 15 = .ok (.aload_n 0, 1) := by decide +kernel
theorem dX8_nextStand_16 : decode cX8_nextStand 16 = .ok (.getfield 7, 3) := by decide +kernel
theorem dX8_nextStand_19 : decode cX8_nextStand 19 = .ok (.bipush 6, 2) := by decide +kernel
theorem dX8_nextStand_21 : decode cX8_nextStand 21 = .ok (.iaload, 1) := by decide +kernel
theorem dX8_nextStand_22 : decode cX8_nextStand 22 = .ok (.iconst 1, 1) := by decide +kernel
theorem dX8_nextStand_23 : decode cX8_nextStand 23 = .ok (.if_icmp .ne 7, 3) := by decide +kernel
theorem dX8_nextStand_26 : decode cX8_nextStand 26 = .ok (.iload_n 2, 1) := by decide +kernel
theorem dX8_nextStand_27 : decode cX8_nextStand 27 = .ok (.goto 13, 3) := by decide +kernel
theorem dX8_nextStand_30 : decode cX8_nextStand 30 = .ok (.aload_n 0, 1) := by decide +kernel
theorem dX8_nextStand_31 : decode cX8_nextStand 31 = .ok (.getfield 7, 3) := by decide +kernel
theorem dX8_nextStand_34 : decode cX8_nextStand 34 = .ok (.iconst 4, 1) := by decide +kernel
theorem dX8_nextStand_35 : decode cX8_nextStand 35 = .ok (.iaload, 1) := by decide +kernel
theorem dX8_nextStand_36 : decode cX8_nextStand 36 = .ok (.iconst 1, 1) := by decide +kernel
theorem dX8_nextStand_37 : decode cX8_nextStand 37 = .ok (.isub, 1) := by decide +kernel
theorem dX8_nextStand_38 : decode cX8_nextStand 38 = .ok (.iload_n 2, 1) := by decide +kernel
theorem dX8_nextStand_39 : decode cX8_nextStand 39 = .ok (.isub, 1) := by decide +kernel
theorem dX8_nextStand_40 : decode cX8_nextStand 40 = .ok (.istore_n 3, 1) := by decide +kernel
theorem dX8_nextStand_41 : decode cX8_nextStand 41 = .ok (.aload_n 0, 1) := by decide +kernel
theorem dX8_nextStand_42 : decode cX8_nextStand 42 = .ok (.getfield 7, 3) := by decide +kernel
theorem dX8_nextStand_45 : decode cX8_nextStand 45 = .ok (.bipush 6, 2) := by decide +kernel
theorem dX8_nextStand_47 : decode cX8_nextStand 47 = .ok (.iaload, 1) := by decide +kernel
theorem dX8_nextStand_48 : decode cX8_nextStand 48 = .ok (.iconst 1, 1) := by decide +kernel
theorem dX8_nextStand_49 : decode cX8_nextStand 49 = .ok (.if_icmp .ne 28, 3) := by decide +kernel
theorem dX8_nextStand_52 : decode cX8_nextStand 52 = .ok (.aload_n 0, 1) := by decide +kernel
theorem dX8_nextStand_53 : decode cX8_nextStand 53 = .ok (.iload_n 3, 1) := by decide +kernel
theorem dX8_nextStand_54 : decode cX8_nextStand 54 = .ok (.iconst 4, 1) := by decide +kernel
theorem dX8_nextStand_55 : decode cX8_nextStand 55 = .ok (.invokevirtual 44, 3) := by decide +kernel
theorem dX8_nextStand_58 : decode cX8_nextStand 58 = .ok (.ifCond .eq 15, 3) := by decide +kernel
theorem dX8_nextStand_61 : decode cX8_nextStand 61 = .ok (.aload_n 0, 1) := by decide +kernel
theorem dX8_nextStand_62 : decode cX8_nextStand 62 = .ok (.iload_n 3, 1) := by decide +kernel
theorem dX8_nextStand_63 : decode cX8_nextStand 63 = .ok (.invokevirtual 56, 3) := by decide +kernel
theorem dX8_nextStand_66 : decode cX8_nextStand 66 = .ok (.ifCond .ne 7, 3) := by decide +kernel
theorem dX8_nextStand_69 : decode cX8_nextStand 69 = .ok (.iconst 1, 1) := by decide +kernel
theorem dX8_nextStand_70 : decode cX8_nextStand 70 = .ok (.goto 29, 3) := by decide +kernel
theorem dX8_nextStand_73 : decode cX8_nextStand 73 = .ok (.iconst 0, 1) := by decide +kernel
theorem dX8_nextStand_74 : decode cX8_nextStand 74 = .ok (.goto 25, 3) := by decide +kernel
theorem dX8_nextStand_77 : decode cX8_nextStand 77 = .ok (.aload_n 0, 1) := by decide +kernel
theorem dX8_nextStand_78 : decode cX8_nextStand 78 = .ok (.iload_n 3, 1) := by decide +kernel
theorem dX8_nextStand_79 : decode cX8_nextStand 79 = .ok (.iconst 2, 1) := by decide +kernel
theorem dX8_nextStand_80 : decode cX8_nextStand 80 = .ok (.invokevirtual 44, 3) := by decide +kernel
theorem dX8_nextStand_83 : decode cX8_nextStand 83 = .ok (.ifCond .eq 15, 3) := by decide +kernel
theorem dX8_nextStand_86 : decode cX8_nextStand 86 = .ok (.aload_n 0, 1) := by decide +kernel
theorem dX8_nextStand_87 : decode cX8_nextStand 87 = .ok (.iload_n 3, 1) := by decide +kernel
theorem dX8_nextStand_88 : decode cX8_nextStand 88 = .ok (.invokevirtual 60, 3) := by decide +kernel
theorem dX8_nextStand_91 : decode cX8_nextStand 91 = .ok (.ifCond .eq 7, 3) := by decide +kernel
theorem dX8_nextStand_94 : decode cX8_nextStand 94 = .ok (.iconst 1, 1) := by decide +kernel
theorem dX8_nextStand_95 : decode cX8_nextStand 95 = .ok (.goto 4, 3) := by decide +kernel
theorem dX8_nextStand_98 : decode cX8_nextStand 98 = .ok (.iconst 0, 1) := by decide +kernel
theorem dX8_nextStand_99 : decode cX8_nextStand 99 = .ok (.istore 4, 2) := by decide +kernel
theorem dX8_nextStand_101 : decode cX8_nextStand 101 = .ok (.iload 4, 2) := by decide +kernel
theorem dX8_nextStand_103 : decode cX8_nextStand 103 = .ok (.ifCond .eq 7, 3) := by decide +kernel
theorem dX8_nextStand_106 : decode cX8_nextStand 106 = .ok (.iload_n 3, 1) := by decide +kernel
theorem dX8_nextStand_107 : decode cX8_nextStand 107 = .ok (.goto 4, 3) := by decide +kernel
theorem dX8_nextStand_110 : decode cX8_nextStand 110 = .ok (.iload_n 1, 1) := by decide +kernel
theorem dX8_nextStand_111 : decode cX8_nextStand 111 = .ok (.istore_n 1, 1) := by decide +kernel
theorem dX8_nextStand_112 : decode cX8_nextStand 112 = .ok (.iinc 2 1, 3) := by decide +kernel
theorem dX8_nextStand_115 : decode cX8_nextStand 115 = .ok (.goto (-110), 3) := by decide +kernel
theorem dX8_nextStand_118 : decode cX8_nextStand 118 = .ok (.iload_n 1, 1) := by decide +kernel
theorem dX8_nextStand_119 : decode cX8_nextStand 119 = .ok (.ireturn, 1) := by decide +kernel
set_option maxRecDepth 20000 in
theorem ggX8_takes_X8_setCrew : GoodIn wsX8_takes wsX8_setCrew := goodIn_r _ [6, 1, 15, 16, 17, 18, 19, 20, 21, 22, 23, 24, 25, 26, 27, 28] (by decide +kernel) (by decide +kernel)
set_option maxRecDepth 20000 in
theorem gX8_takes_X8_setCrew : GoodIn wsX8_takes (wsV RX8 64 RX8 yX8_setCrew wsX8_setCrew) := goodIn_app (goodIn_of _ (by decide +kernel)) ggX8_takes_X8_setCrew
set_option maxRecDepth 20000 in
theorem ggX8_takes_X8_setPart : GoodIn wsX8_takes wsX8_setPart := goodIn_r _ [10, 1, 15, 16, 17, 18, 19, 20, 21, 22, 23, 24, 25, 26, 27, 28] (by decide +kernel) (by decide +kernel)
set_option maxRecDepth 20000 in
theorem gX8_takes_X8_setPart : GoodIn wsX8_takes (wsV RX8 48 RX8 yX8_setPart wsX8_setPart) := goodIn_app (goodIn_of _ (by decide +kernel)) ggX8_takes_X8_setPart
set_option maxRecDepth 20000 in
theorem ggX8_takes_X8_part : GoodIn wsX8_takes wsX8_part := goodIn_r _ [14, 1, 15, 16, 17, 18, 19, 20, 21, 22, 23, 24, 25, 26, 27, 28] (by decide +kernel) (by decide +kernel)
set_option maxRecDepth 20000 in
theorem gX8_takes_X8_part : GoodIn wsX8_takes (wsV RX8 40 RX8 yX8_part wsX8_part) := goodIn_app (goodIn_of _ (by decide +kernel)) ggX8_takes_X8_part
theorem dX8_takes_0 : decode cX8_takes 0 = .ok (.aload_n 0, 1) := by decide +kernel
theorem dX8_takes_1 : decode cX8_takes 1 = .ok (.getfield 7, 3) := by decide +kernel
theorem dX8_takes_4 : decode cX8_takes 4 = .ok (.bipush 6, 2) := by decide +kernel
theorem dX8_takes_6 : decode cX8_takes 6 = .ok (.iaload, 1) := by decide +kernel
theorem dX8_takes_7 : decode cX8_takes 7 = .ok (.iconst 1, 1) := by decide +kernel
theorem dX8_takes_8 : decode cX8_takes 8 = .ok (.if_icmp .ne 7, 3) := by decide +kernel
theorem dX8_takes_11 : decode cX8_takes 11 = .ok (.iconst 1, 1) := by decide +kernel
theorem dX8_takes_12 : decode cX8_takes 12 = .ok (.goto 4, 3) := by decide +kernel
theorem dX8_takes_15 : decode cX8_takes 15 = .ok (.iconst 0, 1) := by decide +kernel
theorem dX8_takes_16 : decode cX8_takes 16 = .ok (.istore_n 3, 1) := by decide +kernel
theorem dX8_takes_17 : decode cX8_takes 17 = .ok (.aload_n 0, 1) := by decide +kernel
theorem dX8_takes_18 : decode cX8_takes 18 = .ok (.iload_n 1, 1) := by decide +kernel
theorem dX8_takes_19 : decode cX8_takes 19 = .ok (.iconst 2, 1) := by decide +kernel
theorem dX8_takes_20 : decode cX8_takes 20 = .ok (.iload_n 2, 1) := by decide +kernel
theorem dX8_takes_21 : decode cX8_takes 21 = .ok (.invokevirtual 64, 3) := by decide +kernel
theorem dX8_takes_24 : decode cX8_takes 24 = .ok (.aload_n 0, 1) := by decide +kernel
theorem dX8_takes_25 : decode cX8_takes 25 = .ok (.iload_n 2, 1) := by decide +kernel
theorem dX8_takes_26 : decode cX8_takes 26 = .ok (.bipush 7, 2) := by decide +kernel
theorem dX8_takes_28 : decode cX8_takes 28 = .ok (.iload_n 1, 1) := by decide +kernel
theorem dX8_takes_29 : decode cX8_takes 29 = .ok (.invokevirtual 48, 3) := by decide +kernel
theorem dX8_takes_32 : decode cX8_takes 32 = .ok (.aload_n 0, 1) := by decide +kernel
theorem dX8_takes_33 : decode cX8_takes 33 = .ok (.iload_n 2, 1) := by decide +kernel
theorem dX8_takes_34 : decode cX8_takes 34 = .ok (.iconst 4, 1) := by decide +kernel
theorem dX8_takes_35 : decode cX8_takes 35 = .ok (.iload_n 3, 1) := by decide +kernel
theorem dX8_takes_36 : decode cX8_takes 36 = .ok (.ifCond .eq 7, 3) := by decide +kernel
theorem dX8_takes_39 : decode cX8_takes 39 = .ok (.iconst 5, 1) := by decide +kernel
theorem dX8_takes_40 : decode cX8_takes 40 = .ok (.goto 4, 3) := by decide +kernel
theorem dX8_takes_43 : decode cX8_takes 43 = .ok (.iconst 3, 1) := by decide +kernel
theorem dX8_takes_44 : decode cX8_takes 44 = .ok (.invokevirtual 48, 3) := by decide +kernel
theorem dX8_takes_47 : decode cX8_takes 47 = .ok (.iload_n 3, 1) := by decide +kernel
theorem dX8_takes_48 : decode cX8_takes 48 = .ok (.ifCond .eq 28, 3) := by decide +kernel
theorem dX8_takes_51 : decode cX8_takes 51 = .ok (.aload_n 0, 1) := by decide +kernel
theorem dX8_takes_52 : decode cX8_takes 52 = .ok (.iload_n 2, 1) := by decide +kernel
theorem dX8_takes_53 : decode cX8_takes 53 = .ok (.iconst 5, 1) := by decide +kernel
theorem dX8_takes_54 : decode cX8_takes 54 = .ok (.aload_n 0, 1) := by decide +kernel
theorem dX8_takes_55 : decode cX8_takes 55 = .ok (.iload_n 2, 1) := by decide +kernel
theorem dX8_takes_56 : decode cX8_takes 56 = .ok (.iconst 0, 1) := by decide +kernel
theorem dX8_takes_57 : decode cX8_takes 57 = .ok (.invokevirtual 40, 3) := by decide +kernel
theorem dX8_takes_60 : decode cX8_takes 60 = .ok (.iconst 1, 1) := by decide +kernel
theorem dX8_takes_61 : decode cX8_takes 61 = .ok (.iadd, 1) := by decide +kernel
theorem dX8_takes_62 : decode cX8_takes 62 = .ok (.iconst 2, 1) := by decide +kernel
theorem dX8_takes_63 : decode cX8_takes 63 = .ok (.idiv, 1) := by decide +kernel
theorem dX8_takes_64 : decode cX8_takes 64 = .ok (.invokevirtual 48, 3) := by decide +kernel
theorem dX8_takes_67 : decode cX8_takes 67 = .ok (.aload_n 0, 1) := by decide +kernel
theorem dX8_takes_68 : decode cX8_takes 68 = .ok (.iload_n 2, 1) := by decide +kernel
theorem dX8_takes_69 : decode cX8_takes 69 = .ok (.bipush 6, 2) := by decide +kernel
theorem dX8_takes_71 : decode cX8_takes 71 = .ok (.bipush (-6), 2) := by decide +kernel
theorem dX8_takes_73 : decode cX8_takes 73 = .ok (.invokevirtual 48, 3) := by decide +kernel
theorem dX8_takes_76 : decode cX8_takes 76 = .ok (.return_, 1) := by decide +kernel
set_option maxRecDepth 20000 in
theorem ggX8_leastLoaded_X8_loadOf : GoodIn wsX8_leastLoaded wsX8_loadOf := goodIn_r _ [5, 6, 7, 8, 9, 4, 10, 11, 12, 13, 14, 15, 16, 17, 18, 19, 20, 21, 22, 23, 24] (by decide +kernel) (by decide +kernel)
set_option maxRecDepth 20000 in
theorem gX8_leastLoaded_X8_loadOf : GoodIn wsX8_leastLoaded (wsV RX8 67 RX8 yX8_loadOf wsX8_loadOf) := goodIn_app (goodIn_of _ (by decide +kernel)) ggX8_leastLoaded_X8_loadOf
theorem dX8_leastLoaded_0 : decode cX8_leastLoaded 0 = .ok (.iconst 0, 1) := by decide +kernel
theorem dX8_leastLoaded_1 : decode cX8_leastLoaded 1 = .ok (.istore_n 1, 1) := by decide +kernel
theorem dX8_leastLoaded_2 : decode cX8_leastLoaded 2 = .ok (.iconst 1, 1) := by decide +kernel
theorem dX8_leastLoaded_3 : decode cX8_leastLoaded 3 = .ok (.istore_n 2, 1) := by decide +kernel
theorem dX8_leastLoaded_4 : decode cX8_leastLoaded 4 = .ok (.iload_n 2, 1) := by decide +kernel
theorem dX8_leastLoaded_5 : decode cX8_leastLoaded 5 = .ok (.iconst 3, 1) := by decide +kernel
theorem dX8_leastLoaded_6 : decode cX8_leastLoaded 6 = .ok (.if_icmp .ge 28, 3) := by decide +kernel
theorem dX8_leastLoaded_9 : decode cX8_leastLoaded 9 = .ok (.aload_n 0, 1) := by decide +kernel
theorem dX8_leastLoaded_10 : decode cX8_leastLoaded 10 = .ok (.iload_n 2, 1) := by decide +kernel
theorem dX8_leastLoaded_11 : decode cX8_leastLoaded 11 = .ok (.invokevirtual 67, 3) := by decide +kernel
theorem dX8_leastLoaded_14 : decode cX8_leastLoaded 14 = .ok (.aload_n 0, 1) := by decide +kernel
theorem dX8_leastLoaded_15 : decode cX8_leastLoaded 15 = .ok (.iload_n 1, 1) := by decide +kernel
theorem dX8_leastLoaded_16 : decode cX8_leastLoaded 16 = .ok (.invokevirtual 67, 3) := by decide +kernel
theorem dX8_leastLoaded_19 : decode cX8_leastLoaded 19 = .ok (.if_icmp .ge 7, 3) := by decide +kernel
theorem dX8_leastLoaded_22 : decode cX8_leastLoaded 22 = .ok (.iload_n 2, 1) := by decide +kernel
theorem dX8_leastLoaded_23 : decode cX8_leastLoaded 23 = .ok (.goto 4, 3) := by decide +kernel
theorem dX8_leastLoaded_26 : decode cX8_leastLoaded 26 = .ok (.iload_n 1, 1) := by decide +kernel
theorem dX8_leastLoaded_27 : decode cX8_leastLoaded 27 = .ok (.istore_n 1, 1) := by decide +kernel
theorem dX8_leastLoaded_28 : decode cX8_leastLoaded 28 = .ok (.iinc 2 1, 3) := by decide +kernel
theorem dX8_leastLoaded_31 : decode cX8_leastLoaded 31 = .ok (.goto (-27), 3) := by decide +kernel
theorem dX8_leastLoaded_34 : decode cX8_leastLoaded 34 = .ok (.iload_n 1, 1) := by decide +kernel
theorem dX8_leastLoaded_35 : decode cX8_leastLoaded 35 = .ok (.ireturn, 1) := by decide +kernel
set_option maxRecDepth 20000 in
theorem ggX8_finishes_X8_setCrew : GoodIn wsX8_finishes wsX8_setCrew := goodIn_r _ [6, 1, 31, 32, 33, 34, 35, 36, 37, 38, 39, 40, 41, 42, 43, 44] (by decide +kernel) (by decide +kernel)
set_option maxRecDepth 20000 in
theorem gX8_finishes_X8_setCrew : GoodIn wsX8_finishes (wsV RX8 64 RX8 yX8_setCrew wsX8_setCrew) := goodIn_app (goodIn_of _ (by decide +kernel)) ggX8_finishes_X8_setCrew
set_option maxRecDepth 20000 in
theorem ggX8_finishes_X8_setPart : GoodIn wsX8_finishes wsX8_setPart := goodIn_r _ [10, 1, 31, 32, 33, 34, 35, 36, 37, 38, 39, 40, 41, 42, 43, 44] (by decide +kernel) (by decide +kernel)
set_option maxRecDepth 20000 in
theorem gX8_finishes_X8_setPart : GoodIn wsX8_finishes (wsV RX8 48 RX8 yX8_setPart wsX8_setPart) := goodIn_app (goodIn_of _ (by decide +kernel)) ggX8_finishes_X8_setPart
set_option maxRecDepth 20000 in
theorem ggX8_finishes_X8_isHow : GoodIn wsX8_finishes wsX8_isHow := goodIn_r _ [14, 15, 16, 17, 5, 18, 1, 31, 32, 33, 34, 35, 36, 37, 38, 39, 40, 41, 42, 43, 44] (by decide +kernel) (by decide +kernel)
set_option maxRecDepth 20000 in
theorem gX8_finishes_X8_isHow : GoodIn wsX8_finishes (wsV RX8 44 RX8 yX8_isHow wsX8_isHow) := goodIn_app (goodIn_of _ (by decide +kernel)) ggX8_finishes_X8_isHow
set_option maxRecDepth 20000 in
theorem ggX8_finishes_X8_leastLoaded : GoodIn wsX8_finishes wsX8_leastLoaded := goodIn_r _ [22, 23, 24, 25, 5, 26, 1, 15, 16, 17, 18, 31, 32, 33, 34, 35, 36, 37, 38, 39, 40, 41, 42, 43, 44] (by decide +kernel) (by decide +kernel)
set_option maxRecDepth 20000 in
theorem gX8_finishes_X8_leastLoaded : GoodIn wsX8_finishes (wsV RX8 70 RX8 yX8_leastLoaded wsX8_leastLoaded) := goodIn_app (goodIn_of _ (by decide +kernel)) ggX8_finishes_X8_leastLoaded
set_option maxRecDepth 20000 in
theorem ggX8_finishes_X8_loadOf : GoodIn wsX8_finishes wsX8_loadOf := goodIn_r _ [26, 1, 15, 16, 17, 5, 18, 31, 32, 33, 34, 35, 36, 37, 38, 39, 40, 41, 42, 43, 44] (by decide +kernel) (by decide +kernel)
set_option maxRecDepth 20000 in
theorem gX8_finishes_X8_loadOf : GoodIn wsX8_finishes (wsV RX8 67 RX8 yX8_loadOf wsX8_loadOf) := goodIn_app (goodIn_of _ (by decide +kernel)) ggX8_finishes_X8_loadOf
set_option maxRecDepth 20000 in
theorem ggX8_finishes_X8_part : GoodIn wsX8_finishes wsX8_part := goodIn_r _ [18, 1, 31, 32, 33, 34, 35, 36, 37, 38, 39, 40, 41, 42, 43, 44] (by decide +kernel) (by decide +kernel)
set_option maxRecDepth 20000 in
theorem gX8_finishes_X8_part : GoodIn wsX8_finishes (wsV RX8 40 RX8 yX8_part wsX8_part) := goodIn_app (goodIn_of _ (by decide +kernel)) ggX8_finishes_X8_part
set_option maxRecDepth 20000 in
theorem ggX8_finishes_X8_ofCrewPart : GoodIn wsX8_finishes wsX8_ofCrewPart := goodIn_r _ [30, 1, 31, 32, 33, 34, 35, 36, 37, 38, 39, 40, 41, 42, 43, 44] (by decide +kernel) (by decide +kernel)
set_option maxRecDepth 20000 in
theorem gX8_finishes_X8_ofCrewPart : GoodIn wsX8_finishes (wsV RX8 73 RX8 yX8_ofCrewPart wsX8_ofCrewPart) := goodIn_app (goodIn_of _ (by decide +kernel)) ggX8_finishes_X8_ofCrewPart
theorem dX8_finishes_0 : decode cX8_finishes 0 = .ok (.aload_n 0, 1) := by decide +kernel
theorem dX8_finishes_1 : decode cX8_finishes 1 = .ok (.iload_n 1, 1) := by decide +kernel
theorem dX8_finishes_2 : decode cX8_finishes 2 = .ok (.iconst 2, 1) := by decide +kernel
theorem dX8_finishes_3 : decode cX8_finishes 3 = .ok (.bipush (-6), 2) := by decide +kernel
theorem dX8_finishes_5 : decode cX8_finishes 5 = .ok (.invokevirtual 64, 3) := by decide +kernel
theorem dX8_finishes_8 : decode cX8_finishes 8 = .ok (.aload_n 0, 1) := by decide +kernel
theorem dX8_finishes_9 : decode cX8_finishes 9 = .ok (.iload_n 2, 1) := by decide +kernel
theorem dX8_finishes_10 : decode cX8_finishes 10 = .ok (.bipush 7, 2) := by decide +kernel
theorem dX8_finishes_12 : decode cX8_finishes 12 = .ok (.bipush (-6), 2) := by decide +kernel
theorem dX8_finishes_14 : decode cX8_finishes 14 = .ok (.invokevirtual 48, 3) := by decide +kernel
theorem dX8_finishes_17 : decode cX8_finishes 17 = .ok (.aload_n 0, 1) := by decide +kernel
theorem dX8_finishes_18 : decode cX8_finishes 18 = .ok (.iload_n 2, 1) := by decide +kernel
theorem dX8_finishes_19 : decode cX8_finishes 19 = .ok (.iconst 3, 1) := by decide +kernel
theorem dX8_finishes_20 : decode cX8_finishes 20 = .ok (.invokevirtual 44, 3) := by decide +kernel
theorem dX8_finishes_23 : decode cX8_finishes 23 = .ok (.ifCond .eq 66, 3) := by decide +kernel
theorem dX8_finishes_26 : decode cX8_finishes 26 = .ok (.aload_n 0, 1) := by decide +kernel
theorem dX8_finishes_27 : decode cX8_finishes 27 = .ok (.invokevirtual 70, 3) := by decide +kernel
theorem dX8_finishes_30 : decode cX8_finishes 30 = .ok (.istore_n 3, 1) := by decide +kernel
theorem dX8_finishes_31 : decode cX8_finishes 31 = .ok (.aload_n 0, 1) := by decide +kernel
theorem dX8_finishes_32 : decode cX8_finishes 32 = .ok (.iload_n 2, 1) := by decide +kernel
theorem dX8_finishes_33 : decode cX8_finishes 33 = .ok (.iconst 4, 1) := by decide +kernel
theorem dX8_finishes_34 : decode cX8_finishes 34 = .ok (.iconst 4, 1) := by decide +kernel
theorem dX8_finishes_35 : decode cX8_finishes 35 = .ok (.invokevirtual 48, 3) := by decide +kernel
theorem dX8_finishes_38 : decode cX8_finishes 38 = .ok (.aload_n 0, 1) := by decide +kernel
theorem dX8_finishes_39 : decode cX8_finishes 39 = .ok (.iload_n 2, 1) := by decide +kernel
theorem dX8_finishes_40 : decode cX8_finishes 40 = .ok (.bipush 6, 2) := by decide +kernel
theorem dX8_finishes_42 : decode cX8_finishes 42 = .ok (.aload_n 0, 1) := by decide +kernel
theorem dX8_finishes_43 : decode cX8_finishes 43 = .ok (.iload_n 3, 1) := by decide +kernel
theorem dX8_finishes_44 : decode cX8_finishes 44 = .ok (.invokevirtual 67, 3) := by decide +kernel
theorem dX8_finishes_47 : decode cX8_finishes 47 = .ok (.aload_n 0, 1) := by decide +kernel
theorem dX8_finishes_48 : decode cX8_finishes 48 = .ok (.iload_n 2, 1) := by decide +kernel
theorem dX8_finishes_49 : decode cX8_finishes 49 = .ok (.iconst 2, 1) := by decide +kernel
theorem dX8_finishes_50 : decode cX8_finishes 50 = .ok (.invokevirtual 40, 3) := by decide +kernel
theorem dX8_finishes_53 : decode cX8_finishes 53 = .ok (.iadd, 1) := by decide +kernel
theorem dX8_finishes_54 : decode cX8_finishes 54 = .ok (.aload_n 0, 1) := by decide +kernel
theorem dX8_finishes_55 : decode cX8_finishes 55 = .ok (.getfield 7, 3) := by decide +kernel
theorem dX8_finishes_58 : decode cX8_finishes 58 = .ok (.iconst 2, 1) := by decide +kernel
theorem dX8_finishes_59 : decode cX8_finishes 59 = .ok (.iaload, 1) := by decide +kernel
theorem dX8_finishes_60 : decode cX8_finishes 60 = .ok (.if_icmp .gt 7, 3) := by decide +kernel
theorem dX8_finishes_63 : decode cX8_finishes 63 = .ok (.iload_n 3, 1) := by decide +kernel
theorem dX8_finishes_64 : decode cX8_finishes 64 = .ok (.goto 5, 3) := by decide +kernel
theorem dX8_finishes_67 : decode cX8_finishes 67 = .ok (.bipush (-6), 2) := by decide +kernel
theorem dX8_finishes_69 : decode cX8_finishes 69 = .ok (.invokevirtual 48, 3) := by decide +kernel
theorem dX8_finishes_72 : decode cX8_finishes 72 = .ok (.aload_n 0, 1) := by decide +kernel
theorem dX8_finishes_73 : decode cX8_finishes 73 = .ok (.iload_n 1, 1) := by decide +kernel
theorem dX8_finishes_74 : decode cX8_finishes 74 = .ok (.iconst 5, 1) := by decide +kernel
theorem dX8_finishes_75 : decode cX8_finishes 75 = .ok (.aload_n 0, 1) := by decide +kernel
theorem dX8_finishes_76 : decode cX8_finishes 76 = .ok (.iload_n 1, 1) := by decide +kernel
theorem dX8_finishes_77 : decode cX8_finishes 77 = .ok (.iconst 5, 1) := by decide +kernel
theorem dX8_finishes_78 : decode cX8_finishes 78 = .ok (.invokevirtual 73, 3) := by decide +kernel
theorem dX8_finishes_81 : decode cX8_finishes 81 = .ok (.iconst 1, 1) := by decide +kernel
theorem dX8_finishes_82 : decode cX8_finishes 82 = .ok (.iadd, 1) := by decide +kernel
theorem dX8_finishes_83 : decode cX8_finishes 83 = .ok (.invokevirtual 64, 3) := by decide +kernel
theorem dX8_finishes_86 : decode cX8_finishes 86 = .ok (.goto 55, 3) := by decide +kernel
theorem dX8_finishes_89 : decode cX8_finishes 89 = .ok (.aload_n 0, 1) := by decide +kernel
theorem dX8_finishes_90 : decode cX8_finishes 90 = .ok (.iload_n 2, 1) := by decide +kernel
theorem dX8_finishes_91 : decode cX8_finishes 91 = .ok (.iconst 4, 1) := by decide +kernel
theorem dX8_finishes_92 : decode cX8_finishes 92 = .ok (.bipush 6, 2) := by decide +kernel
theorem dX8_finishes_94 : decode cX8_finishes 94 = .ok (.invokevirtual 48, 3) := by decide +kernel
theorem dX8_finishes_97 : decode cX8_finishes 97 = .ok (.aload_n 0, 1) := by decide +kernel
theorem dX8_finishes_98 : decode cX8_finishes 98 = .ok (.iload_n 1, 1) := by decide +kernel
theorem dX8_finishes_99 : decode cX8_finishes 99 = .ok (.bipush 6, 2) := by decide +kernel
theorem dX8_finishes_101 : decode cX8_finishes 101 = .ok (.aload_n 0, 1) := by decide +kernel
theorem dX8_finishes_102 : decode cX8_finishes 102 = .ok (.iload_n 1, 1) := by decide +kernel
theorem dX8_finishes_103 : decode cX8_finishes 103 = .ok (.bipush 6, 2) := by decide +kernel
theorem dX8_finishes_105 : decode cX8_finishes 105 = .ok (.invokevirtual 73, 3) := by decide +kernel
theorem dX8_finishes_108 : decode cX8_finishes 108 = .ok (.iconst 1, 1) := by decide +kernel
theorem dX8_finishes_109 : decode cX8_finishes 109 = .ok (.iadd, 1) := by decide +kernel
theorem dX8_finishes_110 : decode cX8_finishes 110 = .ok (.invokevirtual 64, 3) := by decide +kernel
theorem dX8_finishes_113 : decode cX8_finishes 113 = .ok (.aload_n 0, 1) := by decide +kernel
theorem dX8_finishes_114 : decode cX8_finishes 114 = .ok (.getfield 7, 3) := by decide +kernel
theorem dX8_finishes_117 : decode cX8_finishes 117 = .ok (.bipush 7, 2) := by decide +kernel
theorem dX8_finishes_119 : decode cX8_finishes 119 = .ok (.dup2, 1) := by decide +kernel
theorem dX8_finishes_120 : decode cX8_finishes 120 = .ok (.iaload, 1) := by decide +kernel
theorem dX8_finishes_121 : decode cX8_finishes 121 = .ok (.iload_n 2, 1) := by decide +kernel
theorem dX8_finishes_122 : decode cX8_finishes 122 = .ok (.aload_n 0, 1) := by decide +kernel
theorem dX8_finishes_123 : decode cX8_finishes 123 = .ok (.getfield 7, 3) := by decide +kernel
theorem dX8_finishes_126 : decode cX8_finishes 126 = .ok (.iconst 3, 1) := by decide +kernel
theorem dX8_finishes_127 : decode cX8_finishes 127 = .ok (.iaload, 1) := by decide +kernel
theorem dX8_finishes_128 : decode cX8_finishes 128 = .ok (.iadd, 1) := by decide +kernel
theorem dX8_finishes_129 : decode cX8_finishes 129 = .ok (.iconst 4, 1) := by decide +kernel
theorem dX8_finishes_130 : decode cX8_finishes 130 = .ok (.irem, 1) := by decide +kernel
theorem dX8_finishes_131 : decode cX8_finishes 131 = .ok (.ifCond .ne 7, 3) := by decide +kernel
theorem dX8_finishes_134 : decode cX8_finishes 134 = .ok (.iconst 1, 1) := by decide +kernel
theorem dX8_finishes_135 : decode cX8_finishes 135 = .ok (.goto 4, 3) := by decide +kernel
theorem dX8_finishes_138 : decode cX8_finishes 138 = .ok (.iconst 0, 1) := by decide +kernel
theorem dX8_finishes_139 : decode cX8_finishes 139 = .ok (.iadd, 1) := by decide +kernel
theorem dX8_finishes_140 : decode cX8_finishes 140 = .ok (.iastore, 1) := by decide +kernel
theorem dX8_finishes_141 : decode cX8_finishes 141 = .ok (.return_, 1) := by decide +kernel
set_option maxRecDepth 20000 in
theorem ggX8_works_X8_ofCrewPart : GoodIn wsX8_works wsX8_ofCrewPart := goodIn_r _ [5, 6, 35, 36, 37, 38, 39, 40, 41, 42, 43, 44, 45, 46, 47, 48] (by decide +kernel) (by decide +kernel)
set_option maxRecDepth 20000 in
theorem gX8_works_X8_ofCrewPart : GoodIn wsX8_works (wsV RX8 73 RX8 yX8_ofCrewPart wsX8_ofCrewPart) := goodIn_app (goodIn_of _ (by decide +kernel)) ggX8_works_X8_ofCrewPart
set_option maxRecDepth 20000 in
theorem ggX8_works_X8_part : GoodIn wsX8_works wsX8_part := goodIn_r _ [10, 6, 35, 36, 37, 38, 39, 40, 41, 42, 43, 44, 45, 46, 47, 48] (by decide +kernel) (by decide +kernel)
set_option maxRecDepth 20000 in
theorem gX8_works_X8_part : GoodIn wsX8_works (wsV RX8 40 RX8 yX8_part wsX8_part) := goodIn_app (goodIn_of _ (by decide +kernel)) ggX8_works_X8_part
set_option maxRecDepth 20000 in
theorem ggX8_works_X8_setPart : GoodIn wsX8_works wsX8_setPart := goodIn_r _ [14, 6, 35, 36, 37, 38, 39, 40, 41, 42, 43, 44, 45, 46, 47, 48] (by decide +kernel) (by decide +kernel)
set_option maxRecDepth 20000 in
theorem gX8_works_X8_setPart : GoodIn wsX8_works (wsV RX8 48 RX8 yX8_setPart wsX8_setPart) := goodIn_app (goodIn_of _ (by decide +kernel)) ggX8_works_X8_setPart
set_option maxRecDepth 20000 in
theorem ggX8_works_X8_setCrew : GoodIn wsX8_works wsX8_setCrew := goodIn_r _ [18, 6, 35, 36, 37, 38, 39, 40, 41, 42, 43, 44, 45, 46, 47, 48] (by decide +kernel) (by decide +kernel)
set_option maxRecDepth 20000 in
theorem gX8_works_X8_setCrew : GoodIn wsX8_works (wsV RX8 64 RX8 yX8_setCrew wsX8_setCrew) := goodIn_app (goodIn_of _ (by decide +kernel)) ggX8_works_X8_setCrew
set_option maxRecDepth 20000 in
theorem ggX8_works_X8_finishes : GoodIn wsX8_works wsX8_finishes := goodIn_r _ [22, 6, 15, 16, 17, 4, 18, 11, 12, 13, 14, 23, 24, 25, 26, 7, 8, 9, 10, 27, 28, 29, 30, 31, 32, 33, 34, 1, 2, 3, 5, 35, 36, 37, 38, 39, 40, 41, 42, 43, 44, 45, 46, 47, 48] (by decide +kernel) (by decide +kernel)
set_option maxRecDepth 20000 in
theorem gX8_works_X8_finishes : GoodIn wsX8_works (wsV RX8 76 RX8 yX8_finishes wsX8_finishes) := goodIn_app (goodIn_of _ (by decide +kernel)) ggX8_works_X8_finishes
theorem dX8_works_0 : decode cX8_works 0 = .ok (.aload_n 0, 1) := by decide +kernel
theorem dX8_works_1 : decode cX8_works 1 = .ok (.iload_n 1, 1) := by decide +kernel
theorem dX8_works_2 : decode cX8_works 2 = .ok (.iconst 2, 1) := by decide +kernel
theorem dX8_works_3 : decode cX8_works 3 = .ok (.invokevirtual 73, 3) := by decide +kernel
theorem dX8_works_6 : decode cX8_works 6 = .ok (.istore_n 2, 1) := by decide +kernel
theorem dX8_works_7 : decode cX8_works 7 = .ok (.aload_n 0, 1) := by decide +kernel
theorem dX8_works_8 : decode cX8_works 8 = .ok (.iload_n 2, 1) := by decide +kernel
theorem dX8_works_9 : decode cX8_works 9 = .ok (.iconst 5, 1) := by decide +kernel
theorem dX8_works_10 : decode cX8_works 10 = .ok (.invokevirtual 40, 3) := by decide +kernel
theorem dX8_works_13 : decode cX8_works 13 = .ok (.aload_n 0, 1) := by decide +kernel
theorem dX8_works_14 : decode cX8_works 14 = .ok (.iload_n 1, 1) := by decide +kernel
theorem dX8_works_15 : decode cX8_works 15 = .ok (.iconst 0, 1) := by decide +kernel
theorem dX8_works_16 : decode cX8_works 16 = .ok (.invokevirtual 73, 3) := by decide +kernel
theorem dX8_works_19 : decode cX8_works 19 = .ok (.isub, 1) := by decide +kernel
theorem dX8_works_20 : decode cX8_works 20 = .ok (.istore_n 3, 1) := by decide +kernel
theorem dX8_works_21 : decode cX8_works 21 = .ok (.aload_n 0, 1) := by decide +kernel
theorem dX8_works_22 : decode cX8_works 22 = .ok (.iload_n 2, 1) := by decide +kernel
theorem dX8_works_23 : decode cX8_works 23 = .ok (.iconst 5, 1) := by decide +kernel
theorem dX8_works_24 : decode cX8_works 24 = .ok (.iload_n 3, 1) := by decide +kernel
theorem dX8_works_25 : decode cX8_works 25 = .ok (.ifCond .ge 7, 3) := by decide +kernel
theorem dX8_works_28 : decode cX8_works 28 = .ok (.iconst 0, 1) := by decide +kernel
theorem dX8_works_29 : decode cX8_works 29 = .ok (.goto 4, 3) := by decide +kernel
theorem dX8_works_32 : decode cX8_works 32 = .ok (.iload_n 3, 1) := by decide +kernel
theorem dX8_works_33 : decode cX8_works 33 = .ok (.invokevirtual 48, 3) := by decide +kernel
theorem dX8_works_36 : decode cX8_works 36 = .ok (.aload_n 0, 1) := by decide +kernel
theorem dX8_works_37 : decode cX8_works 37 = .ok (.iload_n 2, 1) := by decide +kernel
theorem dX8_works_38 : decode cX8_works 38 = .ok (.bipush 9, 2) := by decide +kernel
theorem dX8_works_40 : decode cX8_works 40 = .ok (.aload_n 0, 1) := by decide +kernel
theorem dX8_works_41 : decode cX8_works 41 = .ok (.iload_n 2, 1) := by decide +kernel
theorem dX8_works_42 : decode cX8_works 42 = .ok (.bipush 9, 2) := by decide +kernel
theorem dX8_works_44 : decode cX8_works 44 = .ok (.invokevirtual 40, 3) := by decide +kernel
theorem dX8_works_47 : decode cX8_works 47 = .ok (.iconst 1, 1) := by decide +kernel
theorem dX8_works_48 : decode cX8_works 48 = .ok (.iadd, 1) := by decide +kernel
theorem dX8_works_49 : decode cX8_works 49 = .ok (.invokevirtual 48, 3) := by decide +kernel
theorem dX8_works_52 : decode cX8_works 52 = .ok (.aload_n 0, 1) := by decide +kernel
theorem dX8_works_53 : decode cX8_works 53 = .ok (.iload_n 1, 1) := by decide +kernel
theorem dX8_works_54 : decode cX8_works 54 = .ok (.iconst 3, 1) := by decide +kernel
theorem dX8_works_55 : decode cX8_works 55 = .ok (.aload_n 0, 1) := by decide +kernel
theorem dX8_works_56 : decode cX8_works 56 = .ok (.iload_n 1, 1) := by decide +kernel
theorem dX8_works_57 : decode cX8_works 57 = .ok (.iconst 3, 1) := by decide +kernel
theorem dX8_works_58 : decode cX8_works 58 = .ok (.invokevirtual 73, 3) := by decide +kernel
theorem dX8_works_61 : decode cX8_works 61 = .ok (.iconst 1, 1) := by decide +kernel
theorem dX8_works_62 : decode cX8_works 62 = .ok (.iadd, 1) := by decide +kernel
theorem dX8_works_63 : decode cX8_works 63 = .ok (.invokevirtual 64, 3) := by decide +kernel
theorem dX8_works_66 : decode cX8_works 66 = .ok (.aload_n 0, 1) := by decide +kernel
theorem dX8_works_67 : decode cX8_works 67 = .ok (.iload_n 1, 1) := by decide +kernel
theorem dX8_works_68 : decode cX8_works 68 = .ok (.iconst 4, 1) := by decide +kernel
theorem dX8_works_69 : decode cX8_works 69 = .ok (.aload_n 0, 1) := by decide +kernel
theorem dX8_works_70 : decode cX8_works 70 = .ok (.iload_n 1, 1) := by decide +kernel
theorem dX8_works_71 : decode cX8_works 71 = .ok (.iconst 4, 1) := by decide +kernel
theorem dX8_works_72 : decode cX8_works 72 = .ok (.invokevirtual 73, 3) := by decide +kernel
theorem dX8_works_75 : decode cX8_works 75 = .ok (.aload_n 0, 1) := by decide +kernel
theorem dX8_works_76 : decode cX8_works 76 = .ok (.iload_n 1, 1) := by decide +kernel
theorem dX8_works_77 : decode cX8_works 77 = .ok (.iconst 1, 1) := by decide +kernel
theorem dX8_works_78 : decode cX8_works 78 = .ok (.invokevirtual 73, 3) := by decide +kernel
theorem dX8_works_81 : decode cX8_works 81 = .ok (.iadd, 1) := by decide +kernel
theorem dX8_works_82 : decode cX8_works 82 = .ok (.invokevirtual 64, 3) := by decide +kernel
theorem dX8_works_85 : decode cX8_works 85 = .ok (.iload_n 3, 1) := by decide +kernel
theorem dX8_works_86 : decode cX8_works 86 = .ok (.ifCond .le 5, 3) := by decide +kernel
theorem dX8_works_89 : decode cX8_works 89 = .ok (.iconst 0, 1) := by decide +kernel
theorem dX8_works_90 : decode cX8_works 90 = .ok (.ireturn, 1) := by decide +kernel
theorem dX8_works_91 : decode cX8_works 91 = .ok (.aload_n 0, 1) := by decide +kernel
theorem dX8_works_92 : decode cX8_works 92 = .ok (.iload_n 1, 1) := by decide +kernel
theorem dX8_works_93 : decode cX8_works 93 = .ok (.iload_n 2, 1) := by decide +kernel
theorem dX8_works_94 : decode cX8_works 94 = .ok (.invokevirtual 76, 3) := by decide +kernel
theorem dX8_works_97 : decode cX8_works 97 = .ok (.iconst 1, 1) := by decide +kernel
theorem dX8_works_98 : decode cX8_works 98 = .ok (.ireturn, 1) := by decide +kernel
set_option maxRecDepth 20000 in
theorem ggX8_passesOne_X8_lorries : GoodIn wsX8_passesOne wsX8_lorries := goodIn_r _ [6, 1, 7, 8, 9, 5, 10, 11, 12, 13, 14, 15, 16, 17, 18, 19, 20, 21, 22, 63, 64, 65, 66, 67, 68, 69, 70, 71, 72, 73, 74, 75, 76] (by decide +kernel) (by decide +kernel)
set_option maxRecDepth 20000 in
theorem gX8_passesOne_X8_lorries : GoodIn wsX8_passesOne (wsV RX8 80 RX8 yX8_lorries wsX8_lorries) := goodIn_app (goodIn_of _ (by decide +kernel)) ggX8_passesOne_X8_lorries
set_option maxRecDepth 20000 in
theorem ggX8_passesOne_X8_ofCrewPart : GoodIn wsX8_passesOne wsX8_ofCrewPart := goodIn_r _ [26, 1, 63, 64, 65, 66, 67, 68, 69, 70, 71, 72, 73, 74, 75, 76] (by decide +kernel) (by decide +kernel)
set_option maxRecDepth 20000 in
theorem gX8_passesOne_X8_ofCrewPart : GoodIn wsX8_passesOne (wsV RX8 73 RX8 yX8_ofCrewPart wsX8_ofCrewPart) := goodIn_app (goodIn_of _ (by decide +kernel)) ggX8_passesOne_X8_ofCrewPart
set_option maxRecDepth 20000 in
theorem ggX8_passesOne_X8_nextStand : GoodIn wsX8_passesOne wsX8_nextStand := goodIn_r _ [30, 1, 7, 8, 9, 5, 10, 11, 12, 13, 14, 31, 32, 33, 34, 35, 36, 37, 38, 63, 64, 65, 66, 67, 68, 69, 70, 71, 72, 73, 74, 75, 76] (by decide +kernel) (by decide +kernel)
set_option maxRecDepth 20000 in
theorem gX8_passesOne_X8_nextStand : GoodIn wsX8_passesOne (wsV RX8 83 RX8 yX8_nextStand wsX8_nextStand) := goodIn_app (goodIn_of _ (by decide +kernel)) ggX8_passesOne_X8_nextStand
set_option maxRecDepth 20000 in
theorem ggX8_passesOne_X8_takes : GoodIn wsX8_passesOne wsX8_takes := goodIn_r _ [42, 1, 43, 44, 45, 5, 46, 15, 16, 17, 18, 11, 12, 13, 14, 63, 64, 65, 66, 67, 68, 69, 70, 71, 72, 73, 74, 75, 76] (by decide +kernel) (by decide +kernel)
set_option maxRecDepth 20000 in
theorem gX8_passesOne_X8_takes : GoodIn wsX8_passesOne (wsV RX8 86 RX8 yX8_takes wsX8_takes) := goodIn_app (goodIn_of _ (by decide +kernel)) ggX8_passesOne_X8_takes
set_option maxRecDepth 20000 in
theorem ggX8_passesOne_X8_works : GoodIn wsX8_passesOne wsX8_works := goodIn_r _ [50, 23, 24, 25, 5, 26, 1, 11, 12, 13, 14, 15, 16, 17, 18, 43, 44, 45, 46, 51, 52, 53, 54, 7, 8, 9, 10, 55, 56, 57, 58, 59, 60, 61, 62, 63, 64, 65, 66, 67, 68, 69, 70, 71, 72, 73, 74, 75, 76] (by decide +kernel) (by decide +kernel)
set_option maxRecDepth 20000 in
theorem gX8_passesOne_X8_works : GoodIn wsX8_passesOne (wsV RX8 89 RX8 yX8_works wsX8_works) := goodIn_app (goodIn_of _ (by decide +kernel)) ggX8_passesOne_X8_works
theorem dX8_passesOne_0 : decode cX8_passesOne 0 = .ok (.iconst 0, 1) := by decide +kernel
theorem dX8_passesOne_1 : decode cX8_passesOne 1 = .ok (.istore_n 1, 1) := by decide +kernel
theorem dX8_passesOne_2 : decode cX8_passesOne 2 = .ok (.aload_n 0, 1) := by decide +kernel
theorem dX8_passesOne_3 : decode cX8_passesOne 3 = .ok (.invokevirtual 80, 3) := by decide +kernel
theorem dX8_passesOne_6 : decode cX8_passesOne 6 = .ok (.iconst 0, 1) := by decide +kernel
theorem dX8_passesOne_7 : decode cX8_passesOne 7 = .ok (.istore_n 2, 1) := by decide +kernel
theorem dX8_passesOne_8 : decode cX8_passesOne 8 = .ok (.iload_n 2, 1) := by decide +kernel
theorem dX8_passesOne_9 : decode cX8_passesOne 9 = .ok (.aload_n 0, 1) := by decide +kernel
theorem dX8_passesOne_10 : decode cX8_passesOne 10 = .ok (.getfield 7, 3) := by decide +kernel
theorem dX8_passesOne_13 : decode cX8_passesOne 13 = .ok (.iconst 5, 1) := by decide +kernel
theorem dX8_passesOne_14 : decode cX8_passesOne 14 = .ok (.iaload, 1) := by decide +kernel
theorem dX8_passesOne_15 : decode cX8_passesOne 15 = .ok (.if_icmp .ge 42, 3) := by decide +kernel
theorem dX8_passesOne_18 : decode cX8_passesOne 18 = .ok (.aload_n 0, 1) := by decide +kernel
theorem dX8_passesOne_19 : decode cX8_passesOne 19 = .ok (.iload_n 2, 1) := by decide +kernel
theorem dX8_passesOne_20 : decode cX8_passesOne 20 = .ok (.iconst 2, 1) := by decide +kernel
theorem dX8_passesOne_21 : decode cX8_passesOne 21 = .ok (.invokevirtual 73, 3) := by decide +kernel
theorem dX8_passesOne_24 : decode cX8_passesOne 24 = .ok (.bipush (-6), 2) := by decide +kernel
theorem dX8_passesOne_26 : decode cX8_passesOne 26 = .ok (.if_icmp .ne 10, 3) := by decide +kernel
theorem dX8_passesOne_29 : decode cX8_passesOne 29 = .ok (.aload_n 0, 1) := by decide +kernel
theorem dX8_passesOne_30 : decode cX8_passesOne 30 = .ok (.invokevirtual 83, 3) := by decide +kernel
theorem dX8_passesOne_33 : decode cX8_passesOne 33 = .ok (.goto 5, 3) := by decide +kernel
theorem dX8_passesOne_36 : decode cX8_passesOne 36 = .ok (.bipush (-6), 2) := by decide +kernel
theorem dX8_passesOne_38 : decode cX8_passesOne 38 = .ok (.istore_n 3, 1) := by decide +kernel
theorem dX8_passesOne_39 : decode cX8_passesOne 39 = .ok (.iload_n 3, 1) := by decide +kernel
theorem dX8_passesOne_40 : decode cX8_passesOne 40 = .ok (.bipush (-6), 2) := by decide +kernel
theorem dX8_passesOne_42 : decode cX8_passesOne 42 = .ok (.if_icmp .eq 9, 3) := by decide +kernel
theorem dX8_passesOne_45 : decode cX8_passesOne 45 = .ok (.aload_n 0, 1) := by decide +kernel
theorem dX8_passesOne_46 : decode cX8_passesOne 46 = .ok (.iload_n 2, 1) := by decide +kernel
theorem dX8_passesOne_47 : decode cX8_passesOne 47 = .ok (.iload_n 3, 1) := by decide +kernel
theorem dX8_passesOne_48 : decode cX8_passesOne 48 = .ok (.invokevirtual 86, 3) := by decide +kernel
theorem dX8_passesOne_51 : decode cX8_passesOne 51 = .ok (.iinc 2 1, 3) := by decide +kernel
theorem dX8_passesOne_54 : decode cX8_passesOne 54 = .ok (.goto (-46), 3) := by decide +kernel
theorem dX8_passesOne_57 : decode cX8_passesOne 57 = .ok (.iconst 0, 1) := by decide +kernel
theorem dX8_passesOne_58 : decode cX8_passesOne 58 = .ok (.istore_n 2, 1) := by decide +kernel
theorem dX8_passesOne_59 : decode cX8_passesOne 59 = .ok (.iload_n 2, 1) := by decide +kernel
theorem dX8_passesOne_60 : decode cX8_passesOne 60 = .ok (.aload_n 0, 1) := by decide +kernel
theorem dX8_passesOne_61 : decode cX8_passesOne 61 = .ok (.getfield 7, 3) := by decide +kernel
theorem dX8_passesOne_64 : decode cX8_passesOne 64 = .ok (.iconst 5, 1) := by decide +kernel
theorem dX8_passesOne_65 : decode cX8_passesOne 65 = .ok (.iaload, 1) := by decide +kernel
theorem dX8_passesOne_66 : decode cX8_passesOne 66 = .ok (.if_icmp .ge 36, 3) := by decide +kernel
theorem dX8_passesOne_69 : decode cX8_passesOne 69 = .ok (.iload_n 1, 1) := by decide +kernel
theorem dX8_passesOne_70 : decode cX8_passesOne 70 = .ok (.aload_n 0, 1) := by decide +kernel
theorem dX8_passesOne_71 : decode cX8_passesOne 71 = .ok (.iload_n 2, 1) := by decide +kernel
theorem dX8_passesOne_72 : decode cX8_passesOne 72 = .ok (.iconst 2, 1) := by decide +kernel
theorem dX8_passesOne_73 : decode cX8_passesOne 73 = .ok (.invokevirtual 73, 3) := by decide +kernel
theorem dX8_passesOne_76 : decode cX8_passesOne 76 = .ok (.bipush (-6), 2) := by decide +kernel
theorem dX8_passesOne_78 : decode cX8_passesOne 78 = .ok (.if_icmp .eq 15, 3) := by decide +kernel
theorem dX8_passesOne_81 : decode cX8_passesOne 81 = .ok (.aload_n 0, 1) := by decide +kernel
theorem dX8_passesOne_82 : decode cX8_passesOne 82 = .ok (.iload_n 2, 1) := by decide +kernel
theorem dX8_passesOne_83 : decode cX8_passesOne 83 = .ok (.invokevirtual 89, 3) := by decide +kernel
theorem dX8_passesOne_86 : decode cX8_passesOne 86 = .ok (.ifCond .eq 7, 3) := by decide +kernel
theorem dX8_passesOne_89 : decode cX8_passesOne 89 = .ok (.iconst 1, 1) := by decide +kernel
theorem dX8_passesOne_90 : decode cX8_passesOne 90 = .ok (.goto 4, 3) := by decide +kernel
theorem dX8_passesOne_93 : decode cX8_passesOne 93 = .ok (.iconst 0, 1) := by decide +kernel
theorem dX8_passesOne_94 : decode cX8_passesOne 94 = .ok (.iadd, 1) := by decide +kernel
theorem dX8_passesOne_95 : decode cX8_passesOne 95 = .ok (.istore_n 1, 1) := by decide +kernel
theorem dX8_passesOne_96 : decode cX8_passesOne 96 = .ok (.iinc 2 1, 3) := by decide +kernel
theorem dX8_passesOne_99 : decode cX8_passesOne 99 = .ok (.goto (-40), 3) := by decide +kernel
theorem dX8_passesOne_102 : decode cX8_passesOne 102 = .ok (.aload_n 0, 1) := by decide +kernel
theorem dX8_passesOne_103 : decode cX8_passesOne 103 = .ok (.getfield 7, 3) := by decide +kernel
theorem dX8_passesOne_106 : decode cX8_passesOne 106 = .ok (.iconst 3, 1) := by decide +kernel
theorem dX8_passesOne_107 : decode cX8_passesOne 107 = .ok (.dup2, 1) := by decide +kernel
theorem dX8_passesOne_108 : decode cX8_passesOne 108 = .ok (.iaload, 1) := by decide +kernel
theorem dX8_passesOne_109 : decode cX8_passesOne 109 = .ok (.iconst 1, 1) := by decide +kernel
theorem dX8_passesOne_110 : decode cX8_passesOne 110 = .ok (.iadd, 1) := by decide +kernel
theorem dX8_passesOne_111 : decode cX8_passesOne 111 = .ok (.iastore, 1) := by decide +kernel
theorem dX8_passesOne_112 : decode cX8_passesOne 112 = .ok (.iload_n 1, 1) := by decide +kernel
theorem dX8_passesOne_113 : decode cX8_passesOne 113 = .ok (.ireturn, 1) := by decide +kernel
set_option maxRecDepth 20000 in
theorem ggX8_passes_X8_passesOne : GoodIn wsX8_passes wsX8_passesOne := goodIn_r _ [5, 6, 7, 8, 9, 4, 10, 11, 12, 13, 14, 15, 16, 17, 18, 19, 20, 21, 22, 23, 24, 25, 26, 27, 28, 29, 30, 31, 32, 33, 34, 35, 36, 37, 38, 39, 40, 41, 42, 43, 44, 45, 46, 47, 48, 49, 50, 51, 52, 53, 54, 55, 56, 57, 58, 59, 60, 61, 62, 63, 64, 65, 66, 67, 68, 69, 70, 71, 72, 73, 74, 75, 76, 77, 78, 79, 80] (by decide +kernel) (by decide +kernel)
set_option maxRecDepth 20000 in
theorem gX8_passes_X8_passesOne : GoodIn wsX8_passes (wsV RX8 92 RX8 yX8_passesOne wsX8_passesOne) := goodIn_app (goodIn_of _ (by decide +kernel)) ggX8_passes_X8_passesOne
theorem dX8_passes_0 : decode cX8_passes 0 = .ok (.iconst 0, 1) := by decide +kernel
theorem dX8_passes_1 : decode cX8_passes 1 = .ok (.istore_n 2, 1) := by decide +kernel
theorem dX8_passes_2 : decode cX8_passes 2 = .ok (.iconst 0, 1) := by decide +kernel
theorem dX8_passes_3 : decode cX8_passes 3 = .ok (.istore_n 3, 1) := by decide +kernel
theorem dX8_passes_4 : decode cX8_passes 4 = .ok (.iload_n 3, 1) := by decide +kernel
theorem dX8_passes_5 : decode cX8_passes 5 = .ok (.iload_n 1, 1) := by decide +kernel
theorem dX8_passes_6 : decode cX8_passes 6 = .ok (.if_icmp .ge 16, 3) := by decide +kernel
theorem dX8_passes_9 : decode cX8_passes 9 = .ok (.iload_n 2, 1) := by decide +kernel
theorem dX8_passes_10 : decode cX8_passes 10 = .ok (.aload_n 0, 1) := by decide +kernel
theorem dX8_passes_11 : decode cX8_passes 11 = .ok (.invokevirtual 92, 3) := by decide +kernel
theorem dX8_passes_14 : decode cX8_passes 14 = .ok (.iadd, 1) := by decide +kernel
theorem dX8_passes_15 : decode cX8_passes 15 = .ok (.istore_n 2, 1) := by decide +kernel
theorem dX8_passes_16 : decode cX8_passes 16 = .ok (.iinc 3 1, 3) := by decide +kernel
theorem dX8_passes_19 : decode cX8_passes 19 = .ok (.goto (-15), 3) := by decide +kernel
theorem dX8_passes_22 : decode cX8_passes 22 = .ok (.iload_n 2, 1) := by decide +kernel
theorem dX8_passes_23 : decode cX8_passes 23 = .ok (.ireturn, 1) := by decide +kernel
set_option maxRecDepth 20000 in
theorem ggX8_isValue_X8_within : GoodIn wsX8_isValue wsX8_within := goodIn_r _ [4] (by decide +kernel) (by decide +kernel)
set_option maxRecDepth 20000 in
theorem gX8_isValue_X8_within : GoodIn wsX8_isValue (va_wsS RX8 36 yX8_within wsX8_within) := goodIn_app (goodIn_of _ (by decide +kernel)) ggX8_isValue_X8_within
theorem dX8_isValue_0 : decode cX8_isValue 0 = .ok (.iload_n 0, 1) := by decide +kernel
theorem dX8_isValue_1 : decode cX8_isValue 1 = .ok (.ifCond .ne 13, 3) := by decide +kernel
theorem dX8_isValue_4 : decode cX8_isValue 4 = .ok (.iload_n 1, 1) := by decide +kernel
theorem dX8_isValue_5 : decode cX8_isValue 5 = .ok (.iconst 1, 1) := by decide +kernel
theorem dX8_isValue_6 : decode cX8_isValue 6 = .ok (.bipush 60, 2) := by decide +kernel
theorem dX8_isValue_8 : decode cX8_isValue 8 = .ok (.invokestatic 36, 3) := by decide +kernel
theorem dX8_isValue_11 : decode cX8_isValue 11 = .ok (.goto 39, 3) := by decide +kernel
theorem dX8_isValue_14 : decode cX8_isValue 14 = .ok (.iload_n 0, 1) := by decide +kernel
theorem dX8_isValue_15 : decode cX8_isValue 15 = .ok (.iconst 1, 1) := by decide +kernel
theorem dX8_isValue_16 : decode cX8_isValue 16 = .ok (.if_icmp .ne 13, 3) := by decide +kernel
theorem dX8_isValue_19 : decode cX8_isValue 19 = .ok (.iload_n 1, 1) := by decide +kernel
theorem dX8_isValue_20 : decode cX8_isValue 20 = .ok (.iconst 1, 1) := by decide +kernel
theorem dX8_isValue_21 : decode cX8_isValue 21 = .ok (.bipush 9, 2) := by decide +kernel
theorem dX8_isValue_23 : decode cX8_isValue 23 = .ok (.invokestatic 36, 3) := by decide +kernel
theorem dX8_isValue_26 : decode cX8_isValue 26 = .ok (.goto 24, 3) := by decide +kernel
theorem dX8_isValue_29 : decode cX8_isValue 29 = .ok (.iload_n 0, 1) := by decide +kernel
theorem dX8_isValue_30 : decode cX8_isValue 30 = .ok (.iconst 2, 1) := by decide +kernel
theorem dX8_isValue_31 : decode cX8_isValue 31 = .ok (.if_icmp .ne 18, 3) := by decide +kernel
theorem dX8_isValue_34 : decode cX8_isValue 34 = .ok (.iload_n 1, 1) := by decide +kernel
theorem dX8_isValue_35 : decode cX8_isValue 35 = .ok (.iconst 1, 1) := by decide +kernel
theorem dX8_isValue_36 : decode cX8_isValue 36 = .ok (.sipush 999, 3) := by decide +kernel
theorem dX8_isValue_39 : decode cX8_isValue 39 = .ok (.invokestatic 36, 3) := by decide +kernel
theorem dX8_isValue_42 : decode cX8_isValue 42 = .ok (.ifCond .eq 7, 3) := by decide +kernel
theorem dX8_isValue_45 : decode cX8_isValue 45 = .ok (.iconst 1, 1) := by decide +kernel
theorem dX8_isValue_46 : decode cX8_isValue 46 = .ok (.goto 4, 3) := by decide +kernel
theorem dX8_isValue_49 : decode cX8_isValue 49 = .ok (.iconst 0, 1) := by decide +kernel
theorem dX8_isValue_50 : decode cX8_isValue 50 = .ok (.ireturn, 1) := by decide +kernel
set_option maxRecDepth 20000 in
theorem ggX8_set_X8_isValue : GoodIn wsX8_set wsX8_isValue := goodIn_r _ [5, 6, 7, 4, 8] (by decide +kernel) (by decide +kernel)
set_option maxRecDepth 20000 in
theorem gX8_set_X8_isValue : GoodIn wsX8_set (va_wsS RX8 95 yX8_isValue wsX8_isValue) := goodIn_app (goodIn_of _ (by decide +kernel)) ggX8_set_X8_isValue
set_option maxRecDepth 20000 in
theorem ggX8_set_X8_record : GoodIn wsX8_set wsX8_record := goodIn_r _ [12, 13, 14, 1, 15, 16, 4, 17, 18, 19, 20, 21, 22, 23, 24, 25, 26, 27, 28, 29, 30, 31] (by decide +kernel) (by decide +kernel)
set_option maxRecDepth 20000 in
theorem gX8_set_X8_record : GoodIn wsX8_set (wsV RX8 98 RX8 yX8_record wsX8_record) := goodIn_app (goodIn_of _ (by decide +kernel)) ggX8_set_X8_record
theorem dX8_set_0 : decode cX8_set 0 = .ok (.iload_n 1, 1) := by decide +kernel
theorem dX8_set_1 : decode cX8_set 1 = .ok (.iload_n 2, 1) := by decide +kernel
theorem dX8_set_2 : decode cX8_set 2 = .ok (.invokestatic 95, 3) := by decide +kernel
theorem dX8_set_5 : decode cX8_set 5 = .ok (.ifCond .ne 6, 3) := by decide +kernel
theorem dX8_set_8 : decode cX8_set 8 = .ok (.bipush (-2), 2) := by decide +kernel
theorem dX8_set_10 : decode cX8_set 10 = .ok (.ireturn, 1) := by decide +kernel
theorem dX8_set_11 : decode cX8_set 11 = .ok (.aload_n 0, 1) := by decide +kernel
theorem dX8_set_12 : decode cX8_set 12 = .ok (.invokevirtual 98, 3) := by decide +kernel
theorem dX8_set_15 : decode cX8_set 15 = .ok (.aload_n 0, 1) := by decide +kernel
theorem dX8_set_16 : decode cX8_set 16 = .ok (.getfield 7, 3) := by decide +kernel
theorem dX8_set_19 : decode cX8_set 19 = .ok (.iload_n 1, 1) := by decide +kernel
theorem dX8_set_20 : decode cX8_set 20 = .ok (.iaload, 1) := by decide +kernel
theorem dX8_set_21 : decode cX8_set 21 = .ok (.istore_n 3, 1) := by decide +kernel
theorem dX8_set_22 : decode cX8_set 22 = .ok (.aload_n 0, 1) := by decide +kernel
theorem dX8_set_23 : decode cX8_set 23 = .ok (.getfield 7, 3) := by decide +kernel
theorem dX8_set_26 : decode cX8_set 26 = .ok (.iload_n 1, 1) := by decide +kernel
theorem dX8_set_27 : decode cX8_set 27 = .ok (.iload_n 2, 1) := by decide +kernel
theorem dX8_set_28 : decode cX8_set 28 = .ok (.iastore, 1) := by decide +kernel
theorem dX8_set_29 : decode cX8_set 29 = .ok (.iload_n 3, 1) := by decide +kernel
theorem dX8_set_30 : decode cX8_set 30 = .ok (.ireturn, 1) := by decide +kernel
set_option maxRecDepth 20000 in
theorem ggX8_whyNoStand_X8_within : GoodIn wsX8_whyNoStand wsX8_within := goodIn_r _ [5] (by decide +kernel) (by decide +kernel)
set_option maxRecDepth 20000 in
theorem gX8_whyNoStand_X8_within : GoodIn wsX8_whyNoStand (va_wsS RX8 36 yX8_within wsX8_within) := goodIn_app (goodIn_of _ (by decide +kernel)) ggX8_whyNoStand_X8_within
set_option maxRecDepth 20000 in
theorem ggX8_whyNoStand_X8_isStand : GoodIn wsX8_whyNoStand wsX8_isStand := goodIn_r _ [9, 1, 2, 3, 4, 5, 18, 19, 20, 21, 22, 23, 24, 25, 26, 27, 28, 29, 30, 31] (by decide +kernel) (by decide +kernel)
set_option maxRecDepth 20000 in
theorem gX8_whyNoStand_X8_isStand : GoodIn wsX8_whyNoStand (wsV RX8 101 RX8 yX8_isStand wsX8_isStand) := goodIn_app (goodIn_of _ (by decide +kernel)) ggX8_whyNoStand_X8_isStand
set_option maxRecDepth 20000 in
theorem ggX8_whyNoStand_X8_isHow : GoodIn wsX8_whyNoStand wsX8_isHow := goodIn_r _ [13, 14, 15, 16, 4, 17, 1, 18, 19, 20, 21, 22, 23, 24, 25, 26, 27, 28, 29, 30, 31] (by decide +kernel) (by decide +kernel)
set_option maxRecDepth 20000 in
theorem gX8_whyNoStand_X8_isHow : GoodIn wsX8_whyNoStand (wsV RX8 44 RX8 yX8_isHow wsX8_isHow) := goodIn_app (goodIn_of _ (by decide +kernel)) ggX8_whyNoStand_X8_isHow
theorem dX8_whyNoStand_0 : decode cX8_whyNoStand 0 = .ok (.iload_n 1, 1) := by decide +kernel
theorem dX8_whyNoStand_1 : decode cX8_whyNoStand 1 = .ok (.iconst 1, 1) := by decide +kernel
theorem dX8_whyNoStand_2 : decode cX8_whyNoStand 2 = .ok (.bipush 99, 2) := by decide +kernel
theorem dX8_whyNoStand_4 : decode cX8_whyNoStand 4 = .ok (.invokestatic 36, 3) := by decide +kernel
theorem dX8_whyNoStand_7 : decode cX8_whyNoStand 7 = .ok (.ifCond .eq 23, 3) := by decide +kernel
theorem dX8_whyNoStand_10 : decode cX8_whyNoStand 10 = .ok (.iload_n 2, 1) := by decide +kernel
theorem dX8_whyNoStand_11 : decode cX8_whyNoStand 11 = .ok (.iconst 1, 1) := by decide +kernel
theorem dX8_whyNoStand_12 : decode cX8_whyNoStand 12 = .ok (.bipush 20, 2) := by decide +kernel
theorem dX8_whyNoStand_14 : decode cX8_whyNoStand 14 = .ok (.invokestatic 36, 3) := by decide +kernel
theorem dX8_whyNoStand_17 : decode cX8_whyNoStand 17 = .ok (.ifCond .eq 13, 3) := by decide +kernel
theorem dX8_whyNoStand_20 : decode cX8_whyNoStand 20 = .ok (.iload_n 3, 1) := by decide +kernel
theorem dX8_whyNoStand_21 : decode cX8_whyNoStand 21 = .ok (.iconst 0, 1) := by decide +kernel
theorem dX8_whyNoStand_22 : decode cX8_whyNoStand 22 = .ok (.bipush 99, 2) := by decide +kernel
theorem dX8_whyNoStand_24 : decode cX8_whyNoStand 24 = .ok (.invokestatic 36, 3) := by decide +kernel
theorem dX8_whyNoStand_27 : decode cX8_whyNoStand 27 = .ok (.ifCond .ne 6, 3) := by decide +kernel
theorem dX8_whyNoStand_30 : decode cX8_whyNoStand 30 = .ok (.bipush (-2), 2) := by decide +kernel
theorem dX8_whyNoStand_32 : decode cX8_whyNoStand 32 = .ok (.ireturn, 1) := by decide +kernel
theorem dX8_whyNoStand_33 : decode cX8_whyNoStand 33 = .ok (.iload 4, 2) := by decide +kernel
theorem dX8_whyNoStand_35 : decode cX8_whyNoStand 35 = .ok (.bipush (-6), 2) := by decide +kernel
theorem dX8_whyNoStand_37 : decode cX8_whyNoStand 37 = .ok (.if_icmp .eq 14, 3) := by decide +kernel
theorem dX8_whyNoStand_40 : decode cX8_whyNoStand 40 = .ok (.aload_n 0, 1) := by decide +kernel
theorem dX8_whyNoStand_41 : decode cX8_whyNoStand 41 = .ok (.iload 4, 2) := by decide +kernel
theorem dX8_whyNoStand_43 : decode cX8_whyNoStand 43 = .ok (.invokevirtual 101, 3) := by decide +kernel
theorem dX8_whyNoStand_46 : decode cX8_whyNoStand 46 = .ok (.ifCond .ne 5, 3) := by decide +kernel
theorem dX8_whyNoStand_49 : decode cX8_whyNoStand 49 = .ok (.iconst (-1), 1) := by decide +kernel
theorem dX8_whyNoStand_50 : decode cX8_whyNoStand 50 = .ok (.ireturn, 1) := by decide +kernel
theorem dX8_whyNoStand_51 : decode cX8_whyNoStand 51 = .ok (.aload_n 0, 1) := by decide +kernel
theorem dX8_whyNoStand_52 : decode cX8_whyNoStand 52 = .ok (.getfield 7, 3) := by decide +kernel
theorem dX8_whyNoStand_55 : decode cX8_whyNoStand 55 = .ok (.iconst 4, 1) := by decide +kernel
theorem dX8_whyNoStand_56 : decode cX8_whyNoStand 56 = .ok (.iaload, 1) := by decide +kernel
theorem dX8_whyNoStand_57 : decode cX8_whyNoStand 57 = .ok (.bipush 20, 2) := by decide +kernel
theorem dX8_whyNoStand_59 : decode cX8_whyNoStand 59 = .ok (.if_icmp .ne 6, 3) := by decide +kernel
theorem dX8_whyNoStand_62 : decode cX8_whyNoStand 62 = .ok (.bipush (-4), 2) := by decide +kernel
theorem dX8_whyNoStand_64 : decode cX8_whyNoStand 64 = .ok (.ireturn, 1) := by decide +kernel
theorem dX8_whyNoStand_65 : decode cX8_whyNoStand 65 = .ok (.aload_n 0, 1) := by decide +kernel
theorem dX8_whyNoStand_66 : decode cX8_whyNoStand 66 = .ok (.getfield 7, 3) := by decide +kernel
theorem dX8_whyNoStand_69 : decode cX8_whyNoStand 69 = .ok (.bipush 6, 2) := by decide +kernel
theorem dX8_whyNoStand_71 : decode cX8_whyNoStand 71 = .ok (.iaload, 1) := by decide +kernel
theorem dX8_whyNoStand_72 : decode cX8_whyNoStand 72 = .ok (.iconst 1, 1) := by decide +kernel
theorem dX8_whyNoStand_73 : decode cX8_whyNoStand 73 = .ok (.if_icmp .eq 21, 3) := by decide +kernel
theorem dX8_whyNoStand_76 : decode cX8_whyNoStand 76 = .ok (.iload 4, 2) := by decide +kernel
theorem dX8_whyNoStand_78 : decode cX8_whyNoStand 78 = .ok (.bipush (-6), 2) := by decide +kernel
theorem dX8_whyNoStand_80 : decode cX8_whyNoStand 80 = .ok (.if_icmp .eq 19, 3) := by decide +kernel
theorem dX8_whyNoStand_83 : decode cX8_whyNoStand 83 = .ok (.aload_n 0, 1) := by decide +kernel
theorem dX8_whyNoStand_84 : decode cX8_whyNoStand 84 = .ok (.iload 4, 2) := by decide +kernel
theorem dX8_whyNoStand_86 : decode cX8_whyNoStand 86 = .ok (.bipush 6, 2) := by decide +kernel
theorem dX8_whyNoStand_88 : decode cX8_whyNoStand 88 = .ok (.invokevirtual 44, 3) := by decide +kernel
theorem dX8_whyNoStand_91 : decode cX8_whyNoStand 91 = .ok (.ifCond .eq 8, 3) := by decide +kernel
theorem dX8_whyNoStand_94 : decode cX8_whyNoStand 94 = .ok (.bipush (-5), 2) := by decide +kernel
theorem dX8_whyNoStand_96 : decode cX8_whyNoStand 96 = .ok (.goto 4, 3) := by decide +kernel
theorem dX8_whyNoStand_99 : decode cX8_whyNoStand 99 = .ok (.iconst 0, 1) := by decide +kernel
theorem dX8_whyNoStand_100 : decode cX8_whyNoStand 100 = .ok (.ireturn, 1) := by decide +kernel
set_option maxRecDepth 20000 in
theorem ggX8_comes_X8_setPart : GoodIn wsX8_comes wsX8_setPart := goodIn_r _ [6, 1, 7, 8, 9, 10, 11, 12, 13, 14, 15, 16, 17, 18, 19, 20] (by decide +kernel) (by decide +kernel)
set_option maxRecDepth 20000 in
theorem gX8_comes_X8_setPart : GoodIn wsX8_comes (wsV RX8 48 RX8 yX8_setPart wsX8_setPart) := goodIn_app (goodIn_of _ (by decide +kernel)) ggX8_comes_X8_setPart
theorem dX8_comes_0 : decode cX8_comes 0 = .ok (.aload_n 0, 1) := by decide +kernel
theorem dX8_comes_1 : decode cX8_comes 1 = .ok (.getfield 7, 3) := by decide +kernel
theorem dX8_comes_4 : decode cX8_comes 4 = .ok (.iconst 4, 1) := by decide +kernel
theorem dX8_comes_5 : decode cX8_comes 5 = .ok (.iaload, 1) := by decide +kernel
theorem dX8_comes_6 : decode cX8_comes 6 = .ok (.istore 5, 2) := by decide +kernel
theorem dX8_comes_8 : decode cX8_comes 8 = .ok (.aload_n 0, 1) := by decide +kernel
theorem dX8_comes_9 : decode cX8_comes 9 = .ok (.iload 5, 2) := by decide +kernel
theorem dX8_comes_11 : decode cX8_comes 11 = .ok (.iconst 0, 1) := by decide +kernel
theorem dX8_comes_12 : decode cX8_comes 12 = .ok (.iload_n 1, 1) := by decide +kernel
theorem dX8_comes_13 : decode cX8_comes 13 = .ok (.invokevirtual 48, 3) := by decide +kernel
theorem dX8_comes_16 : decode cX8_comes 16 = .ok (.aload_n 0, 1) := by decide +kernel
theorem dX8_comes_17 : decode cX8_comes 17 = .ok (.iload 5, 2) := by decide +kernel
theorem dX8_comes_19 : decode cX8_comes 19 = .ok (.iconst 1, 1) := by decide +kernel
theorem dX8_comes_20 : decode cX8_comes 20 = .ok (.iload_n 2, 1) := by decide +kernel
theorem dX8_comes_21 : decode cX8_comes 21 = .ok (.invokevirtual 48, 3) := by decide +kernel
theorem dX8_comes_24 : decode cX8_comes 24 = .ok (.aload_n 0, 1) := by decide +kernel
theorem dX8_comes_25 : decode cX8_comes 25 = .ok (.iload 5, 2) := by decide +kernel
theorem dX8_comes_27 : decode cX8_comes 27 = .ok (.iconst 2, 1) := by decide +kernel
theorem dX8_comes_28 : decode cX8_comes 28 = .ok (.iload_n 3, 1) := by decide +kernel
theorem dX8_comes_29 : decode cX8_comes 29 = .ok (.invokevirtual 48, 3) := by decide +kernel
theorem dX8_comes_32 : decode cX8_comes 32 = .ok (.aload_n 0, 1) := by decide +kernel
theorem dX8_comes_33 : decode cX8_comes 33 = .ok (.iload 5, 2) := by decide +kernel
theorem dX8_comes_35 : decode cX8_comes 35 = .ok (.iconst 3, 1) := by decide +kernel
theorem dX8_comes_36 : decode cX8_comes 36 = .ok (.iload 4, 2) := by decide +kernel
theorem dX8_comes_38 : decode cX8_comes 38 = .ok (.invokevirtual 48, 3) := by decide +kernel
theorem dX8_comes_41 : decode cX8_comes 41 = .ok (.aload_n 0, 1) := by decide +kernel
theorem dX8_comes_42 : decode cX8_comes 42 = .ok (.iload 5, 2) := by decide +kernel
theorem dX8_comes_44 : decode cX8_comes 44 = .ok (.iconst 4, 1) := by decide +kernel
theorem dX8_comes_45 : decode cX8_comes 45 = .ok (.iconst 0, 1) := by decide +kernel
theorem dX8_comes_46 : decode cX8_comes 46 = .ok (.invokevirtual 48, 3) := by decide +kernel
theorem dX8_comes_49 : decode cX8_comes 49 = .ok (.aload_n 0, 1) := by decide +kernel
theorem dX8_comes_50 : decode cX8_comes 50 = .ok (.iload 5, 2) := by decide +kernel
theorem dX8_comes_52 : decode cX8_comes 52 = .ok (.iconst 5, 1) := by decide +kernel
theorem dX8_comes_53 : decode cX8_comes 53 = .ok (.iload_n 1, 1) := by decide +kernel
theorem dX8_comes_54 : decode cX8_comes 54 = .ok (.invokevirtual 48, 3) := by decide +kernel
theorem dX8_comes_57 : decode cX8_comes 57 = .ok (.aload_n 0, 1) := by decide +kernel
theorem dX8_comes_58 : decode cX8_comes 58 = .ok (.iload 5, 2) := by decide +kernel
theorem dX8_comes_60 : decode cX8_comes 60 = .ok (.bipush 6, 2) := by decide +kernel
theorem dX8_comes_62 : decode cX8_comes 62 = .ok (.bipush (-6), 2) := by decide +kernel
theorem dX8_comes_64 : decode cX8_comes 64 = .ok (.invokevirtual 48, 3) := by decide +kernel
theorem dX8_comes_67 : decode cX8_comes 67 = .ok (.aload_n 0, 1) := by decide +kernel
theorem dX8_comes_68 : decode cX8_comes 68 = .ok (.iload 5, 2) := by decide +kernel
theorem dX8_comes_70 : decode cX8_comes 70 = .ok (.bipush 7, 2) := by decide +kernel
theorem dX8_comes_72 : decode cX8_comes 72 = .ok (.bipush (-6), 2) := by decide +kernel
theorem dX8_comes_74 : decode cX8_comes 74 = .ok (.invokevirtual 48, 3) := by decide +kernel
theorem dX8_comes_77 : decode cX8_comes 77 = .ok (.aload_n 0, 1) := by decide +kernel
theorem dX8_comes_78 : decode cX8_comes 78 = .ok (.iload 5, 2) := by decide +kernel
theorem dX8_comes_80 : decode cX8_comes 80 = .ok (.bipush 8, 2) := by decide +kernel
theorem dX8_comes_82 : decode cX8_comes 82 = .ok (.iconst 0, 1) := by decide +kernel
theorem dX8_comes_83 : decode cX8_comes 83 = .ok (.invokevirtual 48, 3) := by decide +kernel
theorem dX8_comes_86 : decode cX8_comes 86 = .ok (.aload_n 0, 1) := by decide +kernel
theorem dX8_comes_87 : decode cX8_comes 87 = .ok (.iload 5, 2) := by decide +kernel
theorem dX8_comes_89 : decode cX8_comes 89 = .ok (.bipush 9, 2) := by decide +kernel
theorem dX8_comes_91 : decode cX8_comes 91 = .ok (.iconst 0, 1) := by decide +kernel
theorem dX8_comes_92 : decode cX8_comes 92 = .ok (.invokevirtual 48, 3) := by decide +kernel
theorem dX8_comes_95 : decode cX8_comes 95 = .ok (.aload_n 0, 1) := by decide +kernel
theorem dX8_comes_96 : decode cX8_comes 96 = .ok (.getfield 7, 3) := by decide +kernel
theorem dX8_comes_99 : decode cX8_comes 99 = .ok (.iconst 4, 1) := by decide +kernel
theorem dX8_comes_100 : decode cX8_comes 100 = .ok (.dup2, 1) := by decide +kernel
theorem dX8_comes_101 : decode cX8_comes 101 = .ok (.iaload, 1) := by decide +kernel
theorem dX8_comes_102 : decode cX8_comes 102 = .ok (.iconst 1, 1) := by decide +kernel
theorem dX8_comes_103 : decode cX8_comes 103 = .ok (.iadd, 1) := by decide +kernel
theorem dX8_comes_104 : decode cX8_comes 104 = .ok (.iastore, 1) := by decide +kernel
theorem dX8_comes_105 : decode cX8_comes 105 = .ok (.iload 5, 2) := by decide +kernel
theorem dX8_comes_107 : decode cX8_comes 107 = .ok (.ireturn, 1) := by decide +kernel
set_option maxRecDepth 20000 in
theorem ggX8_stand_X8_whyNoStand : GoodIn wsX8_stand wsX8_whyNoStand := goodIn_r _ [5, 6, 7, 8, 4, 9, 10, 11, 12, 13, 14, 15, 16, 17, 18, 19, 20, 21, 39, 40, 41, 42, 43, 44, 45, 46, 47, 48, 49, 50, 51, 52] (by decide +kernel) (by decide +kernel)
set_option maxRecDepth 20000 in
theorem gX8_stand_X8_whyNoStand : GoodIn wsX8_stand (wsV RX8 104 RX8 yX8_whyNoStand wsX8_whyNoStand) := goodIn_app (goodIn_of _ (by decide +kernel)) ggX8_stand_X8_whyNoStand
set_option maxRecDepth 20000 in
theorem ggX8_stand_X8_record : GoodIn wsX8_stand wsX8_record := goodIn_r _ [25, 26, 27, 6, 28, 29, 4, 30, 39, 40, 41, 42, 43, 44, 45, 46, 47, 48, 49, 50, 51, 52] (by decide +kernel) (by decide +kernel)
set_option maxRecDepth 20000 in
theorem gX8_stand_X8_record : GoodIn wsX8_stand (wsV RX8 98 RX8 yX8_record wsX8_record) := goodIn_app (goodIn_of _ (by decide +kernel)) ggX8_stand_X8_record
set_option maxRecDepth 20000 in
theorem ggX8_stand_X8_comes : GoodIn wsX8_stand wsX8_comes := goodIn_r _ [34, 6, 35, 36, 37, 4, 38, 39, 40, 41, 42, 43, 44, 45, 46, 47, 48, 49, 50, 51, 52] (by decide +kernel) (by decide +kernel)
set_option maxRecDepth 20000 in
theorem gX8_stand_X8_comes : GoodIn wsX8_stand (wsV RX8 108 RX8 yX8_comes wsX8_comes) := goodIn_app (goodIn_of _ (by decide +kernel)) ggX8_stand_X8_comes
theorem dX8_stand_0 : decode cX8_stand 0 = .ok (.aload_n 0, 1) := by decide +kernel
theorem dX8_stand_1 : decode cX8_stand 1 = .ok (.iload_n 1, 1) := by decide +kernel
theorem dX8_stand_2 : decode cX8_stand 2 = .ok (.iload_n 2, 1) := by decide +kernel
theorem dX8_stand_3 : decode cX8_stand 3 = .ok (.iload_n 3, 1) := by decide +kernel
theorem dX8_stand_4 : decode cX8_stand 4 = .ok (.iload 4, 2) := by decide +kernel
theorem dX8_stand_6 : decode cX8_stand 6 = .ok (.invokevirtual 104, 3) := by decide +kernel
theorem dX8_stand_9 : decode cX8_stand 9 = .ok (.istore 5, 2) := by decide +kernel
theorem dX8_stand_11 : decode cX8_stand 11 = .ok (.iload 5, 2) := by decide +kernel
theorem dX8_stand_13 : decode cX8_stand 13 = .ok (.ifCond .ge 6, 3) := by decide +kernel
theorem dX8_stand_16 : decode cX8_stand 16 = .ok (.iload 5, 2) := by decide +kernel
theorem dX8_stand_18 : decode cX8_stand 18 = .ok (.ireturn, 1) := by decide +kernel
theorem dX8_stand_19 : decode cX8_stand 19 = .ok (.aload_n 0, 1) := by decide +kernel
theorem dX8_stand_20 : decode cX8_stand 20 = .ok (.invokevirtual 98, 3) := by decide +kernel
theorem dX8_stand_23 : decode cX8_stand 23 = .ok (.aload_n 0, 1) := by decide +kernel
theorem dX8_stand_24 : decode cX8_stand 24 = .ok (.iload_n 1, 1) := by decide +kernel
theorem dX8_stand_25 : decode cX8_stand 25 = .ok (.iload_n 2, 1) := by decide +kernel
theorem dX8_stand_26 : decode cX8_stand 26 = .ok (.iload_n 3, 1) := by decide +kernel
theorem dX8_stand_27 : decode cX8_stand 27 = .ok (.iload 4, 2) := by decide +kernel
theorem dX8_stand_29 : decode cX8_stand 29 = .ok (.invokevirtual 108, 3) := by decide +kernel
theorem dX8_stand_32 : decode cX8_stand 32 = .ok (.ireturn, 1) := by decide +kernel
set_option maxRecDepth 20000 in
theorem ggX8_whyNoCrew_X8_within : GoodIn wsX8_whyNoCrew wsX8_within := goodIn_r _ [5] (by decide +kernel) (by decide +kernel)
set_option maxRecDepth 20000 in
theorem gX8_whyNoCrew_X8_within : GoodIn wsX8_whyNoCrew (va_wsS RX8 36 yX8_within wsX8_within) := goodIn_app (goodIn_of _ (by decide +kernel)) ggX8_whyNoCrew_X8_within
theorem dX8_whyNoCrew_0 : decode cX8_whyNoCrew 0 = .ok (.iload_n 1, 1) := by decide +kernel
theorem dX8_whyNoCrew_1 : decode cX8_whyNoCrew 1 = .ok (.iconst 1, 1) := by decide +kernel
theorem dX8_whyNoCrew_2 : decode cX8_whyNoCrew 2 = .ok (.bipush 9, 2) := by decide +kernel
theorem dX8_whyNoCrew_4 : decode cX8_whyNoCrew 4 = .ok (.invokestatic 36, 3) := by decide +kernel
theorem dX8_whyNoCrew_7 : decode cX8_whyNoCrew 7 = .ok (.ifCond .eq 13, 3) := by decide +kernel
theorem dX8_whyNoCrew_10 : decode cX8_whyNoCrew 10 = .ok (.iload_n 2, 1) := by decide +kernel
theorem dX8_whyNoCrew_11 : decode cX8_whyNoCrew 11 = .ok (.iconst 0, 1) := by decide +kernel
theorem dX8_whyNoCrew_12 : decode cX8_whyNoCrew 12 = .ok (.bipush 99, 2) := by decide +kernel
theorem dX8_whyNoCrew_14 : decode cX8_whyNoCrew 14 = .ok (.invokestatic 36, 3) := by decide +kernel
theorem dX8_whyNoCrew_17 : decode cX8_whyNoCrew 17 = .ok (.ifCond .ne 8, 3) := by decide +kernel
theorem dX8_whyNoCrew_20 : decode cX8_whyNoCrew 20 = .ok (.bipush (-2), 2) := by decide +kernel
theorem dX8_whyNoCrew_22 : decode cX8_whyNoCrew 22 = .ok (.goto 20, 3) := by decide +kernel
theorem dX8_whyNoCrew_25 : decode cX8_whyNoCrew 25 = .ok (.aload_n 0, 1) := by decide +kernel
theorem dX8_whyNoCrew_26 : decode cX8_whyNoCrew 26 = .ok (.getfield 7, 3) := by decide +kernel
theorem dX8_whyNoCrew_29 : decode cX8_whyNoCrew 29 = .ok (.iconst 5, 1) := by decide +kernel
theorem dX8_whyNoCrew_30 : decode cX8_whyNoCrew 30 = .ok (.iaload, 1) := by decide +kernel
theorem dX8_whyNoCrew_31 : decode cX8_whyNoCrew 31 = .ok (.bipush 6, 2) := by decide +kernel
theorem dX8_whyNoCrew_33 : decode cX8_whyNoCrew 33 = .ok (.if_icmp .ne 8, 3) := by decide +kernel
theorem dX8_whyNoCrew_36 : decode cX8_whyNoCrew 36 = .ok (.bipush (-4), 2) := by decide +kernel
theorem dX8_whyNoCrew_38 : decode cX8_whyNoCrew 38 = .ok (.goto 4, 3) := by decide +kernel
theorem dX8_whyNoCrew_41 : decode cX8_whyNoCrew 41 = .ok (.iconst 0, 1) := by decide +kernel
theorem dX8_whyNoCrew_42 : decode cX8_whyNoCrew 42 = .ok (.ireturn, 1) := by decide +kernel
set_option maxRecDepth 20000 in
theorem ggX8_comesCrew_X8_setCrew : GoodIn wsX8_comesCrew wsX8_setCrew := goodIn_r _ [6, 1, 7, 8, 9, 10, 11, 12, 13, 14, 15, 16, 17, 18, 19, 20] (by decide +kernel) (by decide +kernel)
set_option maxRecDepth 20000 in
theorem gX8_comesCrew_X8_setCrew : GoodIn wsX8_comesCrew (wsV RX8 64 RX8 yX8_setCrew wsX8_setCrew) := goodIn_app (goodIn_of _ (by decide +kernel)) ggX8_comesCrew_X8_setCrew
theorem dX8_comesCrew_0 : decode cX8_comesCrew 0 = .ok (.aload_n 0, 1) := by decide +kernel
theorem dX8_comesCrew_1 : decode cX8_comesCrew 1 = .ok (.getfield 7, 3) := by decide +kernel
theorem dX8_comesCrew_4 : decode cX8_comesCrew 4 = .ok (.iconst 5, 1) := by decide +kernel
theorem dX8_comesCrew_5 : decode cX8_comesCrew 5 = .ok (.iaload, 1) := by decide +kernel
theorem dX8_comesCrew_6 : decode cX8_comesCrew 6 = .ok (.istore_n 3, 1) := by decide +kernel
theorem dX8_comesCrew_7 : decode cX8_comesCrew 7 = .ok (.iconst 0, 1) := by decide +kernel
theorem dX8_comesCrew_8 : decode cX8_comesCrew 8 = .ok (.istore 4, 2) := by decide +kernel
theorem dX8_comesCrew_10 : decode cX8_comesCrew 10 = .ok (.iload 4, 2) := by decide +kernel
theorem dX8_comesCrew_12 : decode cX8_comesCrew 12 = .ok (.bipush 7, 2) := by decide +kernel
theorem dX8_comesCrew_14 : decode cX8_comesCrew 14 = .ok (.if_icmp .ge 17, 3) := by decide +kernel
theorem dX8_comesCrew_17 : decode cX8_comesCrew 17 = .ok (.aload_n 0, 1) := by decide +kernel
theorem dX8_comesCrew_18 : decode cX8_comesCrew 18 = .ok (.iload_n 3, 1) := by decide +kernel
theorem dX8_comesCrew_19 : decode cX8_comesCrew 19 = .ok (.iload 4, 2) := by decide +kernel
theorem dX8_comesCrew_21 : decode cX8_comesCrew 21 = .ok (.iconst 0, 1) := by decide +kernel
theorem dX8_comesCrew_22 : decode cX8_comesCrew 22 = .ok (.invokevirtual 64, 3) := by decide +kernel
theorem dX8_comesCrew_25 : decode cX8_comesCrew 25 = .ok (.iinc 4 1, 3) := by decide +kernel
theorem dX8_comesCrew_28 : decode cX8_comesCrew 28 = .ok (.goto (-18), 3) := by decide +kernel
theorem dX8_comesCrew_31 : decode cX8_comesCrew 31 = .ok (.aload_n 0, 1) := by decide +kernel
theorem dX8_comesCrew_32 : decode cX8_comesCrew 32 = .ok (.iload_n 3, 1) := by decide +kernel
theorem dX8_comesCrew_33 : decode cX8_comesCrew 33 = .ok (.iconst 0, 1) := by decide +kernel
theorem dX8_comesCrew_34 : decode cX8_comesCrew 34 = .ok (.iload_n 1, 1) := by decide +kernel
theorem dX8_comesCrew_35 : decode cX8_comesCrew 35 = .ok (.invokevirtual 64, 3) := by decide +kernel
theorem dX8_comesCrew_38 : decode cX8_comesCrew 38 = .ok (.aload_n 0, 1) := by decide +kernel
theorem dX8_comesCrew_39 : decode cX8_comesCrew 39 = .ok (.iload_n 3, 1) := by decide +kernel
theorem dX8_comesCrew_40 : decode cX8_comesCrew 40 = .ok (.iconst 1, 1) := by decide +kernel
theorem dX8_comesCrew_41 : decode cX8_comesCrew 41 = .ok (.iload_n 2, 1) := by decide +kernel
theorem dX8_comesCrew_42 : decode cX8_comesCrew 42 = .ok (.invokevirtual 64, 3) := by decide +kernel
theorem dX8_comesCrew_45 : decode cX8_comesCrew 45 = .ok (.aload_n 0, 1) := by decide +kernel
theorem dX8_comesCrew_46 : decode cX8_comesCrew 46 = .ok (.iload_n 3, 1) := by decide +kernel
theorem dX8_comesCrew_47 : decode cX8_comesCrew 47 = .ok (.iconst 2, 1) := by decide +kernel
theorem dX8_comesCrew_48 : decode cX8_comesCrew 48 = .ok (.bipush (-6), 2) := by decide +kernel
theorem dX8_comesCrew_50 : decode cX8_comesCrew 50 = .ok (.invokevirtual 64, 3) := by decide +kernel
theorem dX8_comesCrew_53 : decode cX8_comesCrew 53 = .ok (.aload_n 0, 1) := by decide +kernel
theorem dX8_comesCrew_54 : decode cX8_comesCrew 54 = .ok (.getfield 7, 3) := by decide +kernel
theorem dX8_comesCrew_57 : decode cX8_comesCrew 57 = .ok (.iconst 5, 1) := by decide +kernel
theorem dX8_comesCrew_58 : decode cX8_comesCrew 58 = .ok (.dup2, 1) := by decide +kernel
theorem dX8_comesCrew_59 : decode cX8_comesCrew 59 = .ok (.iaload, 1) := by decide +kernel
theorem dX8_comesCrew_60 : decode cX8_comesCrew 60 = .ok (.iconst 1, 1) := by decide +kernel
theorem dX8_comesCrew_61 : decode cX8_comesCrew 61 = .ok (.iadd, 1) := by decide +kernel
theorem dX8_comesCrew_62 : decode cX8_comesCrew 62 = .ok (.iastore, 1) := by decide +kernel
theorem dX8_comesCrew_63 : decode cX8_comesCrew 63 = .ok (.iload_n 3, 1) := by decide +kernel
theorem dX8_comesCrew_64 : decode cX8_comesCrew 64 = .ok (.ireturn, 1) := by decide +kernel
set_option maxRecDepth 20000 in
theorem ggX8_crew_X8_whyNoCrew : GoodIn wsX8_crew wsX8_whyNoCrew := goodIn_r _ [5, 6, 7, 8, 4, 9, 27, 28, 29, 30, 31, 32, 33, 34, 35, 36, 37, 38, 39, 40] (by decide +kernel) (by decide +kernel)
set_option maxRecDepth 20000 in
theorem gX8_crew_X8_whyNoCrew : GoodIn wsX8_crew (wsV RX8 111 RX8 yX8_whyNoCrew wsX8_whyNoCrew) := goodIn_app (goodIn_of _ (by decide +kernel)) ggX8_crew_X8_whyNoCrew
set_option maxRecDepth 20000 in
theorem ggX8_crew_X8_record : GoodIn wsX8_crew wsX8_record := goodIn_r _ [13, 14, 15, 6, 16, 17, 4, 18, 27, 28, 29, 30, 31, 32, 33, 34, 35, 36, 37, 38, 39, 40] (by decide +kernel) (by decide +kernel)
set_option maxRecDepth 20000 in
theorem gX8_crew_X8_record : GoodIn wsX8_crew (wsV RX8 98 RX8 yX8_record wsX8_record) := goodIn_app (goodIn_of _ (by decide +kernel)) ggX8_crew_X8_record
set_option maxRecDepth 20000 in
theorem ggX8_crew_X8_comesCrew : GoodIn wsX8_crew wsX8_comesCrew := goodIn_r _ [22, 6, 23, 24, 25, 4, 26, 27, 28, 29, 30, 31, 32, 33, 34, 35, 36, 37, 38, 39, 40] (by decide +kernel) (by decide +kernel)
set_option maxRecDepth 20000 in
theorem gX8_crew_X8_comesCrew : GoodIn wsX8_crew (wsV RX8 114 RX8 yX8_comesCrew wsX8_comesCrew) := goodIn_app (goodIn_of _ (by decide +kernel)) ggX8_crew_X8_comesCrew
theorem dX8_crew_0 : decode cX8_crew 0 = .ok (.aload_n 0, 1) := by decide +kernel
theorem dX8_crew_1 : decode cX8_crew 1 = .ok (.iload_n 1, 1) := by decide +kernel
theorem dX8_crew_2 : decode cX8_crew 2 = .ok (.iload_n 2, 1) := by decide +kernel
theorem dX8_crew_3 : decode cX8_crew 3 = .ok (.invokevirtual 111, 3) := by decide +kernel
theorem dX8_crew_6 : decode cX8_crew 6 = .ok (.istore_n 3, 1) := by decide +kernel
theorem dX8_crew_7 : decode cX8_crew 7 = .ok (.iload_n 3, 1) := by decide +kernel
theorem dX8_crew_8 : decode cX8_crew 8 = .ok (.ifCond .ge 5, 3) := by decide +kernel
theorem dX8_crew_11 : decode cX8_crew 11 = .ok (.iload_n 3, 1) := by decide +kernel
theorem dX8_crew_12 : decode cX8_crew 12 = .ok (.ireturn, 1) := by decide +kernel
theorem dX8_crew_13 : decode cX8_crew 13 = .ok (.aload_n 0, 1) := by decide +kernel
theorem dX8_crew_14 : decode cX8_crew 14 = .ok (.invokevirtual 98, 3) := by decide +kernel
theorem dX8_crew_17 : decode cX8_crew 17 = .ok (.aload_n 0, 1) := by decide +kernel
theorem dX8_crew_18 : decode cX8_crew 18 = .ok (.iload_n 1, 1) := by decide +kernel
theorem dX8_crew_19 : decode cX8_crew 19 = .ok (.iload_n 2, 1) := by decide +kernel
theorem dX8_crew_20 : decode cX8_crew 20 = .ok (.invokevirtual 114, 3) := by decide +kernel
theorem dX8_crew_23 : decode cX8_crew 23 = .ok (.ireturn, 1) := by decide +kernel
set_option maxRecDepth 20000 in
theorem ggX8_ends_X8_part : GoodIn wsX8_ends wsX8_part := goodIn_r _ [6, 1, 15, 16, 17, 18, 19, 20, 21, 22, 23, 24, 25, 26, 27, 28] (by decide +kernel) (by decide +kernel)
set_option maxRecDepth 20000 in
theorem gX8_ends_X8_part : GoodIn wsX8_ends (wsV RX8 40 RX8 yX8_part wsX8_part) := goodIn_app (goodIn_of _ (by decide +kernel)) ggX8_ends_X8_part
set_option maxRecDepth 20000 in
theorem ggX8_ends_X8_setCrew : GoodIn wsX8_ends wsX8_setCrew := goodIn_r _ [10, 1, 15, 16, 17, 18, 19, 20, 21, 22, 23, 24, 25, 26, 27, 28] (by decide +kernel) (by decide +kernel)
set_option maxRecDepth 20000 in
theorem gX8_ends_X8_setCrew : GoodIn wsX8_ends (wsV RX8 64 RX8 yX8_setCrew wsX8_setCrew) := goodIn_app (goodIn_of _ (by decide +kernel)) ggX8_ends_X8_setCrew
set_option maxRecDepth 20000 in
theorem ggX8_ends_X8_setPart : GoodIn wsX8_ends wsX8_setPart := goodIn_r _ [14, 1, 15, 16, 17, 18, 19, 20, 21, 22, 23, 24, 25, 26, 27, 28] (by decide +kernel) (by decide +kernel)
set_option maxRecDepth 20000 in
theorem gX8_ends_X8_setPart : GoodIn wsX8_ends (wsV RX8 48 RX8 yX8_setPart wsX8_setPart) := goodIn_app (goodIn_of _ (by decide +kernel)) ggX8_ends_X8_setPart
end
section
theorem dX8_ends_0 : decode cX8_ends 0 = .ok (.iconst 0, 1) := by decide +kernel
theorem dX8_ends_1 : decode cX8_ends 1 = .ok (.istore_n 1, 1) := by decide +kernel
theorem dX8_ends_2 : decode cX8_ends 2 = .ok (.aload_n 0, 1) := by decide +kernel
theorem dX8_ends_3 : decode cX8_ends 3 = .ok (.getfield 7, 3) := by decide +kernel
theorem dX8_ends_6 : decode cX8_ends 6 = .ok (.bipush 6, 2) := by decide +kernel
theorem dX8_ends_8 : decode cX8_ends 8 = .ok (.iconst 1, 1) := by decide +kernel
theorem dX8_ends_9 : decode cX8_ends 9 = .ok (.iastore, 1) := by decide +kernel
theorem dX8_ends_10 : decode cX8_ends 10 = .ok (.iconst 0, 1) := by decide +kernel
theorem dX8_ends_11 : decode cX8_ends 11 = .ok (.istore_n 2, 1) := by decide +kernel
theorem dX8_ends_12 : decode cX8_ends 12 = .ok (.iload_n 2, 1) := by decide +kernel
theorem dX8_ends_13 : decode cX8_ends 13 = .ok (.aload_n 0, 1) := by decide +kernel
theorem dX8_ends_14 : decode cX8_ends 14 = .ok (.getfield 7, 3) := by decide +kernel
theorem dX8_ends_17 : decode cX8_ends 17 = .ok (.iconst 4, 1) := by decide +kernel
theorem dX8_ends_18 : decode cX8_ends 18 = .ok (.iaload, 1) := by decide +kernel
theorem dX8_ends_19 : decode cX8_ends 19 = .ok (.if_icmp .ge 72, 3) := by decide +kernel
theorem dX8_ends_22 : decode cX8_ends 22 = .ok (.aload_n 0, 1) := by decide +kernel
theorem dX8_ends_23 : decode cX8_ends 23 = .ok (.iload_n 2, 1) := by decide +kernel
theorem dX8_ends_24 : decode cX8_ends 24 = .ok (.iconst 4, 1) := by decide +kernel
theorem dX8_ends_25 : decode cX8_ends 25 = .ok (.invokevirtual 40, 3) := by decide +kernel
theorem dX8_ends_28 : decode cX8_ends 28 = .ok (.iconst 4, 1) := by decide +kernel
theorem dX8_ends_29 : decode cX8_ends 29 = .ok (.if_icmp .ge 56, 3) := by decide +kernel
theorem dX8_ends_32 : decode cX8_ends 32 = .ok (.aload_n 0, 1) := by decide +kernel
theorem dX8_ends_33 : decode cX8_ends 33 = .ok (.iload_n 2, 1) := by decide +kernel
theorem dX8_ends_34 : decode cX8_ends 34 = .ok (.bipush 7, 2) := by decide +kernel
theorem dX8_ends_36 : decode cX8_ends 36 = .ok (.invokevirtual 40, 3) := by decide +kernel
theorem dX8_ends_39 : decode cX8_ends 39 = .ok (.bipush (-6), 2) := by decide +kernel
theorem dX8_ends_41 : decode cX8_ends 41 = .ok (.if_icmp .eq 17, 3) := by decide +kernel
theorem dX8_ends_44 : decode cX8_ends 44 = .ok (.aload_n 0, 1) := by decide +kernel
theorem dX8_ends_45 : decode cX8_ends 45 = .ok (.aload_n 0, 1) := by decide +kernel
theorem dX8_ends_46 : decode cX8_ends 46 = .ok (.iload_n 2, 1) := by decide +kernel
theorem dX8_ends_47 : decode cX8_ends 47 = .ok (.bipush 7, 2) := by decide +kernel
theorem dX8_ends_49 : decode cX8_ends 49 = .ok (.invokevirtual 40, 3) := by decide +kernel
theorem dX8_ends_52 : decode cX8_ends 52 = .ok (.iconst 2, 1) := by decide +kernel
theorem dX8_ends_53 : decode cX8_ends 53 = .ok (.bipush (-6), 2) := by decide +kernel
theorem dX8_ends_55 : decode cX8_ends 55 = .ok (.invokevirtual 64, 3) := by decide +kernel
theorem dX8_ends_58 : decode cX8_ends 58 = .ok (.aload_n 0, 1) := by decide +kernel
theorem dX8_ends_59 : decode cX8_ends 59 = .ok (.iload_n 2, 1) := by decide +kernel
theorem dX8_ends_60 : decode cX8_ends 60 = .ok (.bipush 7, 2) := by decide +kernel
theorem dX8_ends_62 : decode cX8_ends 62 = .ok (.bipush (-6), 2) := by decide +kernel
theorem dX8_ends_64 : decode cX8_ends 64 = .ok (.invokevirtual 48, 3) := by decide +kernel
theorem dX8_ends_67 : decode cX8_ends 67 = .ok (.aload_n 0, 1) := by decide +kernel
theorem dX8_ends_68 : decode cX8_ends 68 = .ok (.iload_n 2, 1) := by decide +kernel
theorem dX8_ends_69 : decode cX8_ends 69 = .ok (.iconst 4, 1) := by decide +kernel
theorem dX8_ends_70 : decode cX8_ends 70 = .ok (.bipush 6, 2) := by decide +kernel
theorem dX8_ends_72 : decode cX8_ends 72 = .ok (.invokevirtual 48, 3) := by decide +kernel
theorem dX8_ends_75 : decode cX8_ends 75 = .ok (.aload_n 0, 1) := by decide +kernel
theorem dX8_ends_76 : decode cX8_ends 76 = .ok (.iload_n 2, 1) := by decide +kernel
theorem dX8_ends_77 : decode cX8_ends 77 = .ok (.iconst 5, 1) := by decide +kernel
theorem dX8_ends_78 : decode cX8_ends 78 = .ok (.iconst 0, 1) := by decide +kernel
theorem dX8_ends_79 : decode cX8_ends 79 = .ok (.invokevirtual 48, 3) := by decide +kernel
theorem dX8_ends_82 : decode cX8_ends 82 = .ok (.iinc 1 1, 3) := by decide +kernel
theorem dX8_ends_85 : decode cX8_ends 85 = .ok (.iinc 2 1, 3) := by decide +kernel
theorem dX8_ends_88 : decode cX8_ends 88 = .ok (.goto (-76), 3) := by decide +kernel
theorem dX8_ends_91 : decode cX8_ends 91 = .ok (.iload_n 1, 1) := by decide +kernel
theorem dX8_ends_92 : decode cX8_ends 92 = .ok (.ireturn, 1) := by decide +kernel
set_option maxRecDepth 20000 in
theorem ggX8_end_X8_record : GoodIn wsX8_end wsX8_record := goodIn_r _ [6, 7, 8, 1, 9, 10, 5, 11, 28, 29, 30, 31, 32, 33, 34, 35, 36, 37, 38, 39, 40, 41] (by decide +kernel) (by decide +kernel)
set_option maxRecDepth 20000 in
theorem gX8_end_X8_record : GoodIn wsX8_end (wsV RX8 98 RX8 yX8_record wsX8_record) := goodIn_app (goodIn_of _ (by decide +kernel)) ggX8_end_X8_record
set_option maxRecDepth 20000 in
theorem ggX8_end_X8_ends : GoodIn wsX8_end wsX8_ends := goodIn_r _ [15, 1, 16, 17, 18, 5, 19, 20, 21, 22, 23, 24, 25, 26, 27, 28, 29, 30, 31, 32, 33, 34, 35, 36, 37, 38, 39, 40, 41] (by decide +kernel) (by decide +kernel)
set_option maxRecDepth 20000 in
theorem gX8_end_X8_ends : GoodIn wsX8_end (wsV RX8 117 RX8 yX8_ends wsX8_ends) := goodIn_app (goodIn_of _ (by decide +kernel)) ggX8_end_X8_ends
theorem dX8_end_0 : decode cX8_end 0 = .ok (.aload_n 0, 1) := by decide +kernel
theorem dX8_end_1 : decode cX8_end 1 = .ok (.getfield 7, 3) := by decide +kernel
theorem dX8_end_4 : decode cX8_end 4 = .ok (.bipush 6, 2) := by decide +kernel
theorem dX8_end_6 : decode cX8_end 6 = .ok (.iaload, 1) := by decide +kernel
theorem dX8_end_7 : decode cX8_end 7 = .ok (.iconst 1, 1) := by decide +kernel
theorem dX8_end_8 : decode cX8_end 8 = .ok (.if_icmp .ne 6, 3) := by decide +kernel
theorem dX8_end_11 : decode cX8_end 11 = .ok (.bipush (-5), 2) := by decide +kernel
theorem dX8_end_13 : decode cX8_end 13 = .ok (.ireturn, 1) := by decide +kernel
theorem dX8_end_14 : decode cX8_end 14 = .ok (.aload_n 0, 1) := by decide +kernel
theorem dX8_end_15 : decode cX8_end 15 = .ok (.invokevirtual 98, 3) := by decide +kernel
theorem dX8_end_18 : decode cX8_end 18 = .ok (.aload_n 0, 1) := by decide +kernel
theorem dX8_end_19 : decode cX8_end 19 = .ok (.invokevirtual 117, 3) := by decide +kernel
theorem dX8_end_22 : decode cX8_end 22 = .ok (.ireturn, 1) := by decide +kernel
set_option maxRecDepth 20000 in
theorem ggX8_find_X8_record : GoodIn wsX8_find wsX8_record := goodIn_r _ [6, 7, 8, 1, 9, 10, 5, 11, 12, 13, 14, 15, 16, 17, 18, 19, 20, 21, 22, 23, 24, 25] (by decide +kernel) (by decide +kernel)
set_option maxRecDepth 20000 in
theorem gX8_find_X8_record : GoodIn wsX8_find (wsV RX8 98 RX8 yX8_record wsX8_record) := goodIn_app (goodIn_of _ (by decide +kernel)) ggX8_find_X8_record
theorem dX8_find_0 : decode cX8_find 0 = .ok (.aload_n 0, 1) := by decide +kernel
theorem dX8_find_1 : decode cX8_find 1 = .ok (.getfield 7, 3) := by decide +kernel
theorem dX8_find_4 : decode cX8_find 4 = .ok (.bipush 7, 2) := by decide +kernel
theorem dX8_find_6 : decode cX8_find 6 = .ok (.iaload, 1) := by decide +kernel
theorem dX8_find_7 : decode cX8_find 7 = .ok (.ifCond .ne 6, 3) := by decide +kernel
theorem dX8_find_10 : decode cX8_find 10 = .ok (.bipush (-5), 2) := by decide +kernel
theorem dX8_find_12 : decode cX8_find 12 = .ok (.ireturn, 1) := by decide +kernel
theorem dX8_find_13 : decode cX8_find 13 = .ok (.aload_n 0, 1) := by decide +kernel
theorem dX8_find_14 : decode cX8_find 14 = .ok (.invokevirtual 98, 3) := by decide +kernel
theorem dX8_find_17 : decode cX8_find 17 = .ok (.aload_n 0, 1) := by decide +kernel
theorem dX8_find_18 : decode cX8_find 18 = .ok (.getfield 7, 3) := by decide +kernel
theorem dX8_find_21 : decode cX8_find 21 = .ok (.bipush 7, 2) := by decide +kernel
theorem dX8_find_23 : decode cX8_find 23 = .ok (.dup2, 1) := by decide +kernel
theorem dX8_find_24 : decode cX8_find 24 = .ok (.iaload, 1) := by decide +kernel
theorem dX8_find_25 : decode cX8_find 25 = .ok (.iconst 1, 1) := by decide +kernel
theorem dX8_find_26 : decode cX8_find 26 = .ok (.isub, 1) := by decide +kernel
theorem dX8_find_27 : decode cX8_find 27 = .ok (.iastore, 1) := by decide +kernel
theorem dX8_find_28 : decode cX8_find 28 = .ok (.aload_n 0, 1) := by decide +kernel
theorem dX8_find_29 : decode cX8_find 29 = .ok (.getfield 7, 3) := by decide +kernel
theorem dX8_find_32 : decode cX8_find 32 = .ok (.bipush 7, 2) := by decide +kernel
theorem dX8_find_34 : decode cX8_find 34 = .ok (.iaload, 1) := by decide +kernel
theorem dX8_find_35 : decode cX8_find 35 = .ok (.ireturn, 1) := by decide +kernel
set_option maxRecDepth 20000 in
theorem ggX8_whyNotPassed_X8_within : GoodIn wsX8_whyNotPassed wsX8_within := goodIn_r _ [5] (by decide +kernel) (by decide +kernel)
set_option maxRecDepth 20000 in
theorem gX8_whyNotPassed_X8_within : GoodIn wsX8_whyNotPassed (va_wsS RX8 36 yX8_within wsX8_within) := goodIn_app (goodIn_of _ (by decide +kernel)) ggX8_whyNotPassed_X8_within
theorem dX8_whyNotPassed_0 : decode cX8_whyNotPassed 0 = .ok (.iload_n 1, 1) := by decide +kernel
theorem dX8_whyNotPassed_1 : decode cX8_whyNotPassed 1 = .ok (.iconst 1, 1) := by decide +kernel
theorem dX8_whyNotPassed_2 : decode cX8_whyNotPassed 2 = .ok (.bipush 99, 2) := by decide +kernel
theorem dX8_whyNotPassed_4 : decode cX8_whyNotPassed 4 = .ok (.invokestatic 36, 3) := by decide +kernel
theorem dX8_whyNotPassed_7 : decode cX8_whyNotPassed 7 = .ok (.ifCond .ne 8, 3) := by decide +kernel
theorem dX8_whyNotPassed_10 : decode cX8_whyNotPassed 10 = .ok (.bipush (-2), 2) := by decide +kernel
theorem dX8_whyNotPassed_12 : decode cX8_whyNotPassed 12 = .ok (.goto 23, 3) := by decide +kernel
theorem dX8_whyNotPassed_15 : decode cX8_whyNotPassed 15 = .ok (.aload_n 0, 1) := by decide +kernel
theorem dX8_whyNotPassed_16 : decode cX8_whyNotPassed 16 = .ok (.getfield 7, 3) := by decide +kernel
theorem dX8_whyNotPassed_19 : decode cX8_whyNotPassed 19 = .ok (.iconst 3, 1) := by decide +kernel
theorem dX8_whyNotPassed_20 : decode cX8_whyNotPassed 20 = .ok (.iaload, 1) := by decide +kernel
theorem dX8_whyNotPassed_21 : decode cX8_whyNotPassed 21 = .ok (.iload_n 1, 1) := by decide +kernel
theorem dX8_whyNotPassed_22 : decode cX8_whyNotPassed 22 = .ok (.iadd, 1) := by decide +kernel
theorem dX8_whyNotPassed_23 : decode cX8_whyNotPassed 23 = .ok (.sipush 9999, 3) := by decide +kernel
theorem dX8_whyNotPassed_26 : decode cX8_whyNotPassed 26 = .ok (.if_icmp .le 8, 3) := by decide +kernel
theorem dX8_whyNotPassed_29 : decode cX8_whyNotPassed 29 = .ok (.bipush (-5), 2) := by decide +kernel
theorem dX8_whyNotPassed_31 : decode cX8_whyNotPassed 31 = .ok (.goto 4, 3) := by decide +kernel
theorem dX8_whyNotPassed_34 : decode cX8_whyNotPassed 34 = .ok (.iconst 0, 1) := by decide +kernel
theorem dX8_whyNotPassed_35 : decode cX8_whyNotPassed 35 = .ok (.ireturn, 1) := by decide +kernel
set_option maxRecDepth 20000 in
theorem ggX8_pass_X8_whyNotPassed : GoodIn wsX8_pass wsX8_whyNotPassed := goodIn_r _ [5, 6, 7, 8, 4, 9, 87, 88, 89, 90, 91, 92, 93, 94, 95, 96, 97, 98, 99, 100] (by decide +kernel) (by decide +kernel)
set_option maxRecDepth 20000 in
theorem gX8_pass_X8_whyNotPassed : GoodIn wsX8_pass (wsV RX8 120 RX8 yX8_whyNotPassed wsX8_whyNotPassed) := goodIn_app (goodIn_of _ (by decide +kernel)) ggX8_pass_X8_whyNotPassed
set_option maxRecDepth 20000 in
theorem ggX8_pass_X8_record : GoodIn wsX8_pass wsX8_record := goodIn_r _ [13, 14, 15, 6, 16, 17, 4, 18, 87, 88, 89, 90, 91, 92, 93, 94, 95, 96, 97, 98, 99, 100] (by decide +kernel) (by decide +kernel)
set_option maxRecDepth 20000 in
theorem gX8_pass_X8_record : GoodIn wsX8_pass (wsV RX8 98 RX8 yX8_record wsX8_record) := goodIn_app (goodIn_of _ (by decide +kernel)) ggX8_pass_X8_record
set_option maxRecDepth 20000 in
theorem ggX8_pass_X8_passes : GoodIn wsX8_pass wsX8_passes := goodIn_r _ [22, 23, 24, 25, 4, 26, 6, 27, 28, 29, 30, 31, 32, 33, 34, 35, 36, 37, 38, 39, 40, 41, 42, 43, 44, 45, 46, 47, 48, 49, 50, 51, 52, 53, 54, 55, 56, 57, 58, 59, 60, 61, 62, 63, 64, 65, 66, 67, 68, 69, 70, 71, 72, 73, 74, 75, 76, 77, 78, 79, 80, 81, 82, 83, 84, 85, 86, 87, 88, 89, 90, 91, 92, 93, 94, 95, 96, 97, 98, 99, 100] (by decide +kernel) (by decide +kernel)
set_option maxRecDepth 20000 in
theorem gX8_pass_X8_passes : GoodIn wsX8_pass (wsV RX8 123 RX8 yX8_passes wsX8_passes) := goodIn_app (goodIn_of _ (by decide +kernel)) ggX8_pass_X8_passes
theorem dX8_pass_0 : decode cX8_pass 0 = .ok (.aload_n 0, 1) := by decide +kernel
theorem dX8_pass_1 : decode cX8_pass 1 = .ok (.iload_n 1, 1) := by decide +kernel
theorem dX8_pass_2 : decode cX8_pass 2 = .ok (.invokevirtual 120, 3) := by decide +kernel
theorem dX8_pass_5 : decode cX8_pass 5 = .ok (.istore_n 2, 1) := by decide +kernel
theorem dX8_pass_6 : decode cX8_pass 6 = .ok (.iload_n 2, 1) := by decide +kernel
theorem dX8_pass_7 : decode cX8_pass 7 = .ok (.ifCond .ge 5, 3) := by decide +kernel
theorem dX8_pass_10 : decode cX8_pass 10 = .ok (.iload_n 2, 1) := by decide +kernel
theorem dX8_pass_11 : decode cX8_pass 11 = .ok (.ireturn, 1) := by decide +kernel
theorem dX8_pass_12 : decode cX8_pass 12 = .ok (.aload_n 0, 1) := by decide +kernel
theorem dX8_pass_13 : decode cX8_pass 13 = .ok (.invokevirtual 98, 3) := by decide +kernel
theorem dX8_pass_16 : decode cX8_pass 16 = .ok (.aload_n 0, 1) := by decide +kernel
theorem dX8_pass_17 : decode cX8_pass 17 = .ok (.iload_n 1, 1) := by decide +kernel
theorem dX8_pass_18 : decode cX8_pass 18 = .ok (.invokevirtual 123, 3) := by decide +kernel
theorem dX8_pass_21 : decode cX8_pass 21 = .ok (.ireturn, 1) := by decide +kernel
set_option maxRecDepth 20000 in
theorem ggX8_leftOf_X8_isHow : GoodIn wsX8_leftOf wsX8_isHow := goodIn_r _ [5, 6, 7, 8, 4, 9, 10, 11, 12, 13, 14, 15, 16, 17, 18, 19, 20, 21, 22, 23, 24] (by decide +kernel) (by decide +kernel)
set_option maxRecDepth 20000 in
theorem gX8_leftOf_X8_isHow : GoodIn wsX8_leftOf (wsV RX8 44 RX8 yX8_isHow wsX8_isHow) := goodIn_app (goodIn_of _ (by decide +kernel)) ggX8_leftOf_X8_isHow
set_option maxRecDepth 20000 in
theorem ggX8_leftOf_X8_part : GoodIn wsX8_leftOf wsX8_part := goodIn_r _ [9, 10, 11, 12, 13, 14, 15, 16, 17, 18, 19, 20, 21, 22, 23, 24] (by decide +kernel) (by decide +kernel)
set_option maxRecDepth 20000 in
theorem gX8_leftOf_X8_part : GoodIn wsX8_leftOf (wsV RX8 40 RX8 yX8_part wsX8_part) := goodIn_app (goodIn_of _ (by decide +kernel)) ggX8_leftOf_X8_part
theorem dX8_leftOf_0 : decode cX8_leftOf 0 = .ok (.aload_n 0, 1) := by decide +kernel
theorem dX8_leftOf_1 : decode cX8_leftOf 1 = .ok (.iload_n 1, 1) := by decide +kernel
theorem dX8_leftOf_2 : decode cX8_leftOf 2 = .ok (.iconst 4, 1) := by decide +kernel
theorem dX8_leftOf_3 : decode cX8_leftOf 3 = .ok (.invokevirtual 44, 3) := by decide +kernel
theorem dX8_leftOf_6 : decode cX8_leftOf 6 = .ok (.ifCond .ne 13, 3) := by decide +kernel
theorem dX8_leftOf_9 : decode cX8_leftOf 9 = .ok (.aload_n 0, 1) := by decide +kernel
theorem dX8_leftOf_10 : decode cX8_leftOf 10 = .ok (.iload_n 1, 1) := by decide +kernel
theorem dX8_leftOf_11 : decode cX8_leftOf 11 = .ok (.bipush 6, 2) := by decide +kernel
theorem dX8_leftOf_13 : decode cX8_leftOf 13 = .ok (.invokevirtual 44, 3) := by decide +kernel
theorem dX8_leftOf_16 : decode cX8_leftOf 16 = .ok (.ifCond .eq 7, 3) := by decide +kernel
theorem dX8_leftOf_19 : decode cX8_leftOf 19 = .ok (.iconst 0, 1) := by decide +kernel
theorem dX8_leftOf_20 : decode cX8_leftOf 20 = .ok (.goto 9, 3) := by decide +kernel
theorem dX8_leftOf_23 : decode cX8_leftOf 23 = .ok (.aload_n 0, 1) := by decide +kernel
theorem dX8_leftOf_24 : decode cX8_leftOf 24 = .ok (.iload_n 1, 1) := by decide +kernel
theorem dX8_leftOf_25 : decode cX8_leftOf 25 = .ok (.iconst 5, 1) := by decide +kernel
theorem dX8_leftOf_26 : decode cX8_leftOf 26 = .ok (.invokevirtual 40, 3) := by decide +kernel
theorem dX8_leftOf_29 : decode cX8_leftOf 29 = .ok (.ireturn, 1) := by decide +kernel
set_option maxRecDepth 20000 in
theorem ggX8_ofStand_X8_isStand : GoodIn wsX8_ofStand wsX8_isStand := goodIn_r _ [5, 6, 7, 8, 4, 9, 26, 27, 28, 29, 30, 31, 32, 33, 34, 35, 36, 37, 38, 39] (by decide +kernel) (by decide +kernel)
set_option maxRecDepth 20000 in
theorem gX8_ofStand_X8_isStand : GoodIn wsX8_ofStand (wsV RX8 101 RX8 yX8_isStand wsX8_isStand) := goodIn_app (goodIn_of _ (by decide +kernel)) ggX8_ofStand_X8_isStand
set_option maxRecDepth 20000 in
theorem ggX8_ofStand_X8_part : GoodIn wsX8_ofStand wsX8_part := goodIn_r _ [13, 6, 26, 27, 28, 29, 30, 31, 32, 33, 34, 35, 36, 37, 38, 39] (by decide +kernel) (by decide +kernel)
set_option maxRecDepth 20000 in
theorem gX8_ofStand_X8_part : GoodIn wsX8_ofStand (wsV RX8 40 RX8 yX8_part wsX8_part) := goodIn_app (goodIn_of _ (by decide +kernel)) ggX8_ofStand_X8_part
set_option maxRecDepth 20000 in
theorem ggX8_ofStand_X8_leftOf : GoodIn wsX8_ofStand wsX8_leftOf := goodIn_r _ [17, 18, 19, 20, 4, 21, 10, 11, 12, 13, 6, 26, 27, 28, 29, 30, 31, 32, 33, 34, 35, 36, 37, 38, 39] (by decide +kernel) (by decide +kernel)
set_option maxRecDepth 20000 in
theorem gX8_ofStand_X8_leftOf : GoodIn wsX8_ofStand (wsV RX8 126 RX8 yX8_leftOf wsX8_leftOf) := goodIn_app (goodIn_of _ (by decide +kernel)) ggX8_ofStand_X8_leftOf
set_option maxRecDepth 20000 in
theorem ggX8_ofStand_X8_standingOn : GoodIn wsX8_ofStand wsX8_standingOn := goodIn_r _ [25, 6, 10, 11, 12, 4, 13, 18, 19, 20, 21, 26, 27, 28, 29, 30, 31, 32, 33, 34, 35, 36, 37, 38, 39] (by decide +kernel) (by decide +kernel)
set_option maxRecDepth 20000 in
theorem gX8_ofStand_X8_standingOn : GoodIn wsX8_ofStand (wsV RX8 56 RX8 yX8_standingOn wsX8_standingOn) := goodIn_app (goodIn_of _ (by decide +kernel)) ggX8_ofStand_X8_standingOn
theorem dX8_ofStand_0 : decode cX8_ofStand 0 = .ok (.aload_n 0, 1) := by decide +kernel
theorem dX8_ofStand_1 : decode cX8_ofStand 1 = .ok (.iload_n 1, 1) := by decide +kernel
theorem dX8_ofStand_2 : decode cX8_ofStand 2 = .ok (.invokevirtual 101, 3) := by decide +kernel
theorem dX8_ofStand_5 : decode cX8_ofStand 5 = .ok (.ifCond .ne 5, 3) := by decide +kernel
theorem dX8_ofStand_8 : decode cX8_ofStand 8 = .ok (.iconst (-1), 1) := by decide +kernel
theorem dX8_ofStand_9 : decode cX8_ofStand 9 = .ok (.ireturn, 1) := by decide +kernel
theorem dX8_ofStand_10 : decode cX8_ofStand 10 = .ok (.iload_n 2, 1) := by decide +kernel
theorem dX8_ofStand_11 : decode cX8_ofStand 11 = .ok (.tableswitch 72 0 9 #[53, 53, 53, 53, 53, 60, 53, 53, 66, 53], 53) := by decide +kernel
theorem dX8_ofStand_64 : decode cX8_ofStand 64 = .ok (.aload_n 0, 1) := by decide +kernel
theorem dX8_ofStand_65 : decode cX8_ofStand 65 = .ok (.iload_n 1, 1) := by decide +kernel
theorem dX8_ofStand_66 : decode cX8_ofStand 66 = .ok (.iload_n 2, 1) := by decide +kernel
theorem dX8_ofStand_67 : decode cX8_ofStand 67 = .ok (.invokevirtual 40, 3) := by decide +kernel
theorem dX8_ofStand_70 : decode cX8_ofStand 70 = .ok (.ireturn, 1) := by decide +kernel
theorem dX8_ofStand_71 : decode cX8_ofStand 71 = .ok (.aload_n 0, 1) := by decide +kernel
theorem dX8_ofStand_72 : decode cX8_ofStand 72 = .ok (.iload_n 1, 1) := by decide +kernel
theorem dX8_ofStand_73 : decode cX8_ofStand 73 = .ok (.invokevirtual 126, 3) := by decide +kernel
theorem dX8_ofStand_76 : decode cX8_ofStand 76 = .ok (.ireturn, 1) := by decide +kernel
theorem dX8_ofStand_77 : decode cX8_ofStand 77 = .ok (.aload_n 0, 1) := by decide +kernel
theorem dX8_ofStand_78 : decode cX8_ofStand 78 = .ok (.iload_n 1, 1) := by decide +kernel
theorem dX8_ofStand_79 : decode cX8_ofStand 79 = .ok (.invokevirtual 56, 3) := by decide +kernel
theorem dX8_ofStand_82 : decode cX8_ofStand 82 = .ok (.ireturn, 1) := by decide +kernel
theorem dX8_ofStand_83 : decode cX8_ofStand 83 = .ok (.bipush (-2), 2) := by decide +kernel
theorem dX8_ofStand_85 : decode cX8_ofStand 85 = .ok (.ireturn, 1) := by decide +kernel
set_option maxRecDepth 20000 in
theorem ggX8_ofCrew_X8_isCrew : GoodIn wsX8_ofCrew wsX8_isCrew := goodIn_r _ [5, 6, 7, 8, 4, 9, 14, 15, 16, 17, 18, 19, 20, 21, 22, 23, 24, 25, 26, 27] (by decide +kernel) (by decide +kernel)
set_option maxRecDepth 20000 in
theorem gX8_ofCrew_X8_isCrew : GoodIn wsX8_ofCrew (wsV RX8 129 RX8 yX8_isCrew wsX8_isCrew) := goodIn_app (goodIn_of _ (by decide +kernel)) ggX8_ofCrew_X8_isCrew
set_option maxRecDepth 20000 in
theorem ggX8_ofCrew_X8_within : GoodIn wsX8_ofCrew wsX8_within := goodIn_r _ [9] (by decide +kernel) (by decide +kernel)
set_option maxRecDepth 20000 in
theorem gX8_ofCrew_X8_within : GoodIn wsX8_ofCrew (va_wsS RX8 36 yX8_within wsX8_within) := goodIn_app (goodIn_of _ (by decide +kernel)) ggX8_ofCrew_X8_within
set_option maxRecDepth 20000 in
theorem ggX8_ofCrew_X8_ofCrewPart : GoodIn wsX8_ofCrew wsX8_ofCrewPart := goodIn_r _ [13, 6, 14, 15, 16, 17, 18, 19, 20, 21, 22, 23, 24, 25, 26, 27] (by decide +kernel) (by decide +kernel)
set_option maxRecDepth 20000 in
theorem gX8_ofCrew_X8_ofCrewPart : GoodIn wsX8_ofCrew (wsV RX8 73 RX8 yX8_ofCrewPart wsX8_ofCrewPart) := goodIn_app (goodIn_of _ (by decide +kernel)) ggX8_ofCrew_X8_ofCrewPart
theorem dX8_ofCrew_0 : decode cX8_ofCrew 0 = .ok (.aload_n 0, 1) := by decide +kernel
theorem dX8_ofCrew_1 : decode cX8_ofCrew 1 = .ok (.iload_n 1, 1) := by decide +kernel
theorem dX8_ofCrew_2 : decode cX8_ofCrew 2 = .ok (.invokevirtual 129, 3) := by decide +kernel
theorem dX8_ofCrew_5 : decode cX8_ofCrew 5 = .ok (.ifCond .ne 5, 3) := by decide +kernel
theorem dX8_ofCrew_8 : decode cX8_ofCrew 8 = .ok (.iconst (-1), 1) := by decide +kernel
theorem dX8_ofCrew_9 : decode cX8_ofCrew 9 = .ok (.ireturn, 1) := by decide +kernel
theorem dX8_ofCrew_10 : decode cX8_ofCrew 10 = .ok (.iload_n 2, 1) := by decide +kernel
theorem dX8_ofCrew_11 : decode cX8_ofCrew 11 = .ok (.iconst 0, 1) := by decide +kernel
theorem dX8_ofCrew_12 : decode cX8_ofCrew 12 = .ok (.bipush 6, 2) := by decide +kernel
theorem dX8_ofCrew_14 : decode cX8_ofCrew 14 = .ok (.invokestatic 36, 3) := by decide +kernel
theorem dX8_ofCrew_17 : decode cX8_ofCrew 17 = .ok (.ifCond .eq 12, 3) := by decide +kernel
theorem dX8_ofCrew_20 : decode cX8_ofCrew 20 = .ok (.aload_n 0, 1) := by decide +kernel
theorem dX8_ofCrew_21 : decode cX8_ofCrew 21 = .ok (.iload_n 1, 1) := by decide +kernel
theorem dX8_ofCrew_22 : decode cX8_ofCrew 22 = .ok (.iload_n 2, 1) := by decide +kernel
theorem dX8_ofCrew_23 : decode cX8_ofCrew 23 = .ok (.invokevirtual 73, 3) := by decide +kernel
theorem dX8_ofCrew_26 : decode cX8_ofCrew 26 = .ok (.goto 5, 3) := by decide +kernel
theorem dX8_ofCrew_29 : decode cX8_ofCrew 29 = .ok (.bipush (-2), 2) := by decide +kernel
theorem dX8_ofCrew_31 : decode cX8_ofCrew 31 = .ok (.ireturn, 1) := by decide +kernel
set_option maxRecDepth 20000 in
theorem ggX8_load_X8_within : GoodIn wsX8_load wsX8_within := goodIn_r _ [4] (by decide +kernel) (by decide +kernel)
set_option maxRecDepth 20000 in
theorem gX8_load_X8_within : GoodIn wsX8_load (va_wsS RX8 36 yX8_within wsX8_within) := goodIn_app (goodIn_of _ (by decide +kernel)) ggX8_load_X8_within
set_option maxRecDepth 20000 in
theorem ggX8_load_X8_loadOf : GoodIn wsX8_load wsX8_loadOf := goodIn_r _ [8, 9, 10, 11, 12, 3, 13, 14, 15, 16, 17, 18, 19, 20, 21, 22, 23, 24, 25, 26, 27] (by decide +kernel) (by decide +kernel)
set_option maxRecDepth 20000 in
theorem gX8_load_X8_loadOf : GoodIn wsX8_load (wsV RX8 67 RX8 yX8_loadOf wsX8_loadOf) := goodIn_app (goodIn_of _ (by decide +kernel)) ggX8_load_X8_loadOf
theorem dX8_load_0 : decode cX8_load 0 = .ok (.iload_n 1, 1) := by decide +kernel
theorem dX8_load_1 : decode cX8_load 1 = .ok (.iconst 0, 1) := by decide +kernel
theorem dX8_load_2 : decode cX8_load 2 = .ok (.iconst 2, 1) := by decide +kernel
theorem dX8_load_3 : decode cX8_load 3 = .ok (.invokestatic 36, 3) := by decide +kernel
theorem dX8_load_6 : decode cX8_load 6 = .ok (.ifCond .eq 11, 3) := by decide +kernel
theorem dX8_load_9 : decode cX8_load 9 = .ok (.aload_n 0, 1) := by decide +kernel
theorem dX8_load_10 : decode cX8_load 10 = .ok (.iload_n 1, 1) := by decide +kernel
theorem dX8_load_11 : decode cX8_load 11 = .ok (.invokevirtual 67, 3) := by decide +kernel
theorem dX8_load_14 : decode cX8_load 14 = .ok (.goto 4, 3) := by decide +kernel
theorem dX8_load_17 : decode cX8_load 17 = .ok (.iconst (-1), 1) := by decide +kernel
theorem dX8_load_18 : decode cX8_load 18 = .ok (.ireturn, 1) := by decide +kernel
set_option maxRecDepth 20000 in
theorem ggX8_allCosts_X8_ofCrewPart : GoodIn wsX8_allCosts wsX8_ofCrewPart := goodIn_r _ [6, 1, 7, 8, 9, 10, 11, 12, 13, 14, 15, 16, 17, 18, 19, 20] (by decide +kernel) (by decide +kernel)
set_option maxRecDepth 20000 in
theorem gX8_allCosts_X8_ofCrewPart : GoodIn wsX8_allCosts (wsV RX8 73 RX8 yX8_ofCrewPart wsX8_ofCrewPart) := goodIn_app (goodIn_of _ (by decide +kernel)) ggX8_allCosts_X8_ofCrewPart
theorem dX8_allCosts_0 : decode cX8_allCosts 0 = .ok (.iconst 0, 1) := by decide +kernel
theorem dX8_allCosts_1 : decode cX8_allCosts 1 = .ok (.istore_n 1, 1) := by decide +kernel
theorem dX8_allCosts_2 : decode cX8_allCosts 2 = .ok (.iconst 0, 1) := by decide +kernel
theorem dX8_allCosts_3 : decode cX8_allCosts 3 = .ok (.istore_n 2, 1) := by decide +kernel
theorem dX8_allCosts_4 : decode cX8_allCosts 4 = .ok (.iload_n 2, 1) := by decide +kernel
theorem dX8_allCosts_5 : decode cX8_allCosts 5 = .ok (.aload_n 0, 1) := by decide +kernel
theorem dX8_allCosts_6 : decode cX8_allCosts 6 = .ok (.getfield 7, 3) := by decide +kernel
theorem dX8_allCosts_9 : decode cX8_allCosts 9 = .ok (.iconst 5, 1) := by decide +kernel
theorem dX8_allCosts_10 : decode cX8_allCosts 10 = .ok (.iaload, 1) := by decide +kernel
theorem dX8_allCosts_11 : decode cX8_allCosts 11 = .ok (.if_icmp .ge 18, 3) := by decide +kernel
theorem dX8_allCosts_14 : decode cX8_allCosts 14 = .ok (.iload_n 1, 1) := by decide +kernel
theorem dX8_allCosts_15 : decode cX8_allCosts 15 = .ok (.aload_n 0, 1) := by decide +kernel
theorem dX8_allCosts_16 : decode cX8_allCosts 16 = .ok (.iload_n 2, 1) := by decide +kernel
theorem dX8_allCosts_17 : decode cX8_allCosts 17 = .ok (.iconst 4, 1) := by decide +kernel
theorem dX8_allCosts_18 : decode cX8_allCosts 18 = .ok (.invokevirtual 73, 3) := by decide +kernel
theorem dX8_allCosts_21 : decode cX8_allCosts 21 = .ok (.iadd, 1) := by decide +kernel
theorem dX8_allCosts_22 : decode cX8_allCosts 22 = .ok (.istore_n 1, 1) := by decide +kernel
theorem dX8_allCosts_23 : decode cX8_allCosts 23 = .ok (.iinc 2 1, 3) := by decide +kernel
theorem dX8_allCosts_26 : decode cX8_allCosts 26 = .ok (.goto (-22), 3) := by decide +kernel
theorem dX8_allCosts_29 : decode cX8_allCosts 29 = .ok (.iload_n 1, 1) := by decide +kernel
theorem dX8_allCosts_30 : decode cX8_allCosts 30 = .ok (.ireturn, 1) := by decide +kernel
set_option maxRecDepth 20000 in
theorem ggX8_withoutPower_X8_isHow : GoodIn wsX8_withoutPower wsX8_isHow := goodIn_r _ [6, 7, 8, 9, 5, 10, 1, 11, 12, 13, 14, 15, 16, 17, 18, 19, 20, 21, 22, 23, 24] (by decide +kernel) (by decide +kernel)
set_option maxRecDepth 20000 in
theorem gX8_withoutPower_X8_isHow : GoodIn wsX8_withoutPower (wsV RX8 44 RX8 yX8_isHow wsX8_isHow) := goodIn_app (goodIn_of _ (by decide +kernel)) ggX8_withoutPower_X8_isHow
set_option maxRecDepth 20000 in
theorem ggX8_withoutPower_X8_part : GoodIn wsX8_withoutPower wsX8_part := goodIn_r _ [10, 1, 11, 12, 13, 14, 15, 16, 17, 18, 19, 20, 21, 22, 23, 24] (by decide +kernel) (by decide +kernel)
set_option maxRecDepth 20000 in
theorem gX8_withoutPower_X8_part : GoodIn wsX8_withoutPower (wsV RX8 40 RX8 yX8_part wsX8_part) := goodIn_app (goodIn_of _ (by decide +kernel)) ggX8_withoutPower_X8_part
theorem dX8_withoutPower_0 : decode cX8_withoutPower 0 = .ok (.iconst 0, 1) := by decide +kernel
theorem dX8_withoutPower_1 : decode cX8_withoutPower 1 = .ok (.istore_n 1, 1) := by decide +kernel
theorem dX8_withoutPower_2 : decode cX8_withoutPower 2 = .ok (.iconst 0, 1) := by decide +kernel
theorem dX8_withoutPower_3 : decode cX8_withoutPower 3 = .ok (.istore_n 2, 1) := by decide +kernel
theorem dX8_withoutPower_4 : decode cX8_withoutPower 4 = .ok (.iload_n 2, 1) := by decide +kernel
theorem dX8_withoutPower_5 : decode cX8_withoutPower 5 = .ok (.aload_n 0, 1) := by decide +kernel
theorem dX8_withoutPower_6 : decode cX8_withoutPower 6 = .ok (.getfield 7, 3) := by decide +kernel
theorem dX8_withoutPower_9 : decode cX8_withoutPower 9 = .ok (.iconst 4, 1) := by decide +kernel
theorem dX8_withoutPower_10 : decode cX8_withoutPower 10 = .ok (.iaload, 1) := by decide +kernel
theorem dX8_withoutPower_11 : decode cX8_withoutPower 11 = .ok (.if_icmp .ge 47, 3) := by decide +kernel
theorem dX8_withoutPower_14 : decode cX8_withoutPower 14 = .ok (.iload_n 1, 1) := by decide +kernel
theorem dX8_withoutPower_15 : decode cX8_withoutPower 15 = .ok (.aload_n 0, 1) := by decide +kernel
theorem dX8_withoutPower_16 : decode cX8_withoutPower 16 = .ok (.iload_n 2, 1) := by decide +kernel
theorem dX8_withoutPower_17 : decode cX8_withoutPower 17 = .ok (.iconst 4, 1) := by decide +kernel
theorem dX8_withoutPower_18 : decode cX8_withoutPower 18 = .ok (.invokevirtual 44, 3) := by decide +kernel
theorem dX8_withoutPower_21 : decode cX8_withoutPower 21 = .ok (.ifCond .eq 28, 3) := by decide +kernel
theorem dX8_withoutPower_24 : decode cX8_withoutPower 24 = .ok (.aload_n 0, 1) := by decide +kernel
theorem dX8_withoutPower_25 : decode cX8_withoutPower 25 = .ok (.iload_n 2, 1) := by decide +kernel
theorem dX8_withoutPower_26 : decode cX8_withoutPower 26 = .ok (.bipush 6, 2) := by decide +kernel
theorem dX8_withoutPower_28 : decode cX8_withoutPower 28 = .ok (.invokevirtual 40, 3) := by decide +kernel
theorem dX8_withoutPower_31 : decode cX8_withoutPower 31 = .ok (.bipush (-6), 2) := by decide +kernel
theorem dX8_withoutPower_33 : decode cX8_withoutPower 33 = .ok (.if_icmp .ne 16, 3) := by decide +kernel
theorem dX8_withoutPower_36 : decode cX8_withoutPower 36 = .ok (.aload_n 0, 1) := by decide +kernel
theorem dX8_withoutPower_37 : decode cX8_withoutPower 37 = .ok (.iload_n 2, 1) := by decide +kernel
theorem dX8_withoutPower_38 : decode cX8_withoutPower 38 = .ok (.iconst 2, 1) := by decide +kernel
theorem dX8_withoutPower_39 : decode cX8_withoutPower 39 = .ok (.invokevirtual 40, 3) := by decide +kernel
theorem dX8_withoutPower_42 : decode cX8_withoutPower 42 = .ok (.ifCond .le 7, 3) := by decide +kernel
theorem dX8_withoutPower_45 : decode cX8_withoutPower 45 = .ok (.iconst 1, 1) := by decide +kernel
theorem dX8_withoutPower_46 : decode cX8_withoutPower 46 = .ok (.goto 4, 3) := by decide +kernel
theorem dX8_withoutPower_49 : decode cX8_withoutPower 49 = .ok (.iconst 0, 1) := by decide +kernel
theorem dX8_withoutPower_50 : decode cX8_withoutPower 50 = .ok (.iadd, 1) := by decide +kernel
theorem dX8_withoutPower_51 : decode cX8_withoutPower 51 = .ok (.istore_n 1, 1) := by decide +kernel
theorem dX8_withoutPower_52 : decode cX8_withoutPower 52 = .ok (.iinc 2 1, 3) := by decide +kernel
theorem dX8_withoutPower_55 : decode cX8_withoutPower 55 = .ok (.goto (-51), 3) := by decide +kernel
theorem dX8_withoutPower_58 : decode cX8_withoutPower 58 = .ok (.iload_n 1, 1) := by decide +kernel
theorem dX8_withoutPower_59 : decode cX8_withoutPower 59 = .ok (.ireturn, 1) := by decide +kernel
set_option maxRecDepth 20000 in
theorem ggX8_count_X8_withHow : GoodIn wsX8_count wsX8_withHow := goodIn_r _ [8, 1, 9, 10, 11, 7, 12, 13, 14, 15, 16, 33, 34, 35, 36, 37, 38, 39, 40, 41, 42, 43, 44, 45, 46] (by decide +kernel) (by decide +kernel)
set_option maxRecDepth 20000 in
theorem gX8_count_X8_withHow : GoodIn wsX8_count (wsV RX8 132 RX8 yX8_withHow wsX8_withHow) := goodIn_app (goodIn_of _ (by decide +kernel)) ggX8_count_X8_withHow
set_option maxRecDepth 20000 in
theorem ggX8_count_X8_meters : GoodIn wsX8_count wsX8_meters := goodIn_r _ [20, 1, 9, 10, 11, 7, 12, 13, 14, 15, 16, 33, 34, 35, 36, 37, 38, 39, 40, 41, 42, 43, 44, 45, 46] (by decide +kernel) (by decide +kernel)
set_option maxRecDepth 20000 in
theorem gX8_count_X8_meters : GoodIn wsX8_count (wsV RX8 52 RX8 yX8_meters wsX8_meters) := goodIn_app (goodIn_of _ (by decide +kernel)) ggX8_count_X8_meters
set_option maxRecDepth 20000 in
theorem ggX8_count_X8_allCosts : GoodIn wsX8_count wsX8_allCosts := goodIn_r _ [24, 1, 25, 26, 27, 7, 28, 33, 34, 35, 36, 37, 38, 39, 40, 41, 42, 43, 44, 45, 46] (by decide +kernel) (by decide +kernel)
set_option maxRecDepth 20000 in
theorem gX8_count_X8_allCosts : GoodIn wsX8_count (wsV RX8 135 RX8 yX8_allCosts wsX8_allCosts) := goodIn_app (goodIn_of _ (by decide +kernel)) ggX8_count_X8_allCosts
set_option maxRecDepth 20000 in
theorem ggX8_count_X8_withoutPower : GoodIn wsX8_count wsX8_withoutPower := goodIn_r _ [32, 1, 9, 10, 11, 7, 12, 13, 14, 15, 16, 33, 34, 35, 36, 37, 38, 39, 40, 41, 42, 43, 44, 45, 46] (by decide +kernel) (by decide +kernel)
set_option maxRecDepth 20000 in
theorem gX8_count_X8_withoutPower : GoodIn wsX8_count (wsV RX8 138 RX8 yX8_withoutPower wsX8_withoutPower) := goodIn_app (goodIn_of _ (by decide +kernel)) ggX8_count_X8_withoutPower
theorem dX8_count_0 : decode cX8_count 0 = .ok (.iload_n 1, 1) := by decide +kernel
theorem dX8_count_1 : decode cX8_count 1 = .ok (.tableswitch 175 0 19 #[95, 102, 109, 116, 116, 116, 116, 116, 116, 116, 124, 129, 137, 145, 150, 155, 155, 155, 165, 170], 95) := by decide +kernel
theorem dX8_count_96 : decode cX8_count 96 = .ok (.aload_n 0, 1) := by decide +kernel
theorem dX8_count_97 : decode cX8_count 97 = .ok (.getfield 7, 3) := by decide +kernel
theorem dX8_count_100 : decode cX8_count 100 = .ok (.iconst 3, 1) := by decide +kernel
theorem dX8_count_101 : decode cX8_count 101 = .ok (.iaload, 1) := by decide +kernel
theorem dX8_count_102 : decode cX8_count 102 = .ok (.ireturn, 1) := by decide +kernel
theorem dX8_count_103 : decode cX8_count 103 = .ok (.aload_n 0, 1) := by decide +kernel
theorem dX8_count_104 : decode cX8_count 104 = .ok (.getfield 7, 3) := by decide +kernel
theorem dX8_count_107 : decode cX8_count 107 = .ok (.iconst 4, 1) := by decide +kernel
theorem dX8_count_108 : decode cX8_count 108 = .ok (.iaload, 1) := by decide +kernel
theorem dX8_count_109 : decode cX8_count 109 = .ok (.ireturn, 1) := by decide +kernel
theorem dX8_count_110 : decode cX8_count 110 = .ok (.aload_n 0, 1) := by decide +kernel
theorem dX8_count_111 : decode cX8_count 111 = .ok (.getfield 7, 3) := by decide +kernel
theorem dX8_count_114 : decode cX8_count 114 = .ok (.iconst 5, 1) := by decide +kernel
theorem dX8_count_115 : decode cX8_count 115 = .ok (.iaload, 1) := by decide +kernel
theorem dX8_count_116 : decode cX8_count 116 = .ok (.ireturn, 1) := by decide +kernel
theorem dX8_count_117 : decode cX8_count 117 = .ok (.aload_n 0, 1) := by decide +kernel
theorem dX8_count_118 : decode cX8_count 118 = .ok (.iload_n 1, 1) := by decide +kernel
theorem dX8_count_119 : decode cX8_count 119 = .ok (.iconst 3, 1) := by decide +kernel
theorem dX8_count_120 : decode cX8_count 120 = .ok (.isub, 1) := by decide +kernel
theorem dX8_count_121 : decode cX8_count 121 = .ok (.invokevirtual 132, 3) := by decide +kernel
theorem dX8_count_124 : decode cX8_count 124 = .ok (.ireturn, 1) := by decide +kernel
theorem dX8_count_125 : decode cX8_count 125 = .ok (.aload_n 0, 1) := by decide +kernel
theorem dX8_count_126 : decode cX8_count 126 = .ok (.invokevirtual 52, 3) := by decide +kernel
theorem dX8_count_129 : decode cX8_count 129 = .ok (.ireturn, 1) := by decide +kernel
theorem dX8_count_130 : decode cX8_count 130 = .ok (.aload_n 0, 1) := by decide +kernel
theorem dX8_count_131 : decode cX8_count 131 = .ok (.getfield 7, 3) := by decide +kernel
theorem dX8_count_134 : decode cX8_count 134 = .ok (.bipush 6, 2) := by decide +kernel
theorem dX8_count_136 : decode cX8_count 136 = .ok (.iaload, 1) := by decide +kernel
theorem dX8_count_137 : decode cX8_count 137 = .ok (.ireturn, 1) := by decide +kernel
theorem dX8_count_138 : decode cX8_count 138 = .ok (.aload_n 0, 1) := by decide +kernel
theorem dX8_count_139 : decode cX8_count 139 = .ok (.getfield 7, 3) := by decide +kernel
theorem dX8_count_142 : decode cX8_count 142 = .ok (.bipush 7, 2) := by decide +kernel
theorem dX8_count_144 : decode cX8_count 144 = .ok (.iaload, 1) := by decide +kernel
theorem dX8_count_145 : decode cX8_count 145 = .ok (.ireturn, 1) := by decide +kernel
theorem dX8_count_146 : decode cX8_count 146 = .ok (.aload_n 0, 1) := by decide +kernel
theorem dX8_count_147 : decode cX8_count 147 = .ok (.invokevirtual 135, 3) := by decide +kernel
theorem dX8_count_150 : decode cX8_count 150 = .ok (.ireturn, 1) := by decide +kernel
theorem dX8_count_151 : decode cX8_count 151 = .ok (.aload_n 0, 1) := by decide +kernel
theorem dX8_count_152 : decode cX8_count 152 = .ok (.invokevirtual 138, 3) := by decide +kernel
theorem dX8_count_155 : decode cX8_count 155 = .ok (.ireturn, 1) := by decide +kernel
theorem dX8_count_156 : decode cX8_count 156 = .ok (.aload_n 0, 1) := by decide +kernel
theorem dX8_count_157 : decode cX8_count 157 = .ok (.getfield 7, 3) := by decide +kernel
theorem dX8_count_160 : decode cX8_count 160 = .ok (.iload_n 1, 1) := by decide +kernel
theorem dX8_count_161 : decode cX8_count 161 = .ok (.bipush 15, 2) := by decide +kernel
theorem dX8_count_163 : decode cX8_count 163 = .ok (.isub, 1) := by decide +kernel
theorem dX8_count_164 : decode cX8_count 164 = .ok (.iaload, 1) := by decide +kernel
theorem dX8_count_165 : decode cX8_count 165 = .ok (.ireturn, 1) := by decide +kernel
theorem dX8_count_166 : decode cX8_count 166 = .ok (.aload_n 0, 1) := by decide +kernel
theorem dX8_count_167 : decode cX8_count 167 = .ok (.getfield 141, 3) := by decide +kernel
theorem dX8_count_170 : decode cX8_count 170 = .ok (.ireturn, 1) := by decide +kernel
theorem dX8_count_171 : decode cX8_count 171 = .ok (.aload_n 0, 1) := by decide +kernel
theorem dX8_count_172 : decode cX8_count 172 = .ok (.getfield 28, 3) := by decide +kernel
theorem dX8_count_175 : decode cX8_count 175 = .ok (.ireturn, 1) := by decide +kernel
theorem dX8_count_176 : decode cX8_count 176 = .ok (.bipush (-2), 2) := by decide +kernel
theorem dX8_count_178 : decode cX8_count 178 = .ok (.ireturn, 1) := by decide +kernel
set_option maxRecDepth 20000 in
theorem ggX8_waitsFor_X8_isStand : GoodIn wsX8_waitsFor wsX8_isStand := goodIn_r _ [6, 1, 7, 8, 5, 9, 26, 27, 28, 29, 30, 31, 32, 33, 34, 35, 36, 37, 38, 39] (by decide +kernel) (by decide +kernel)
set_option maxRecDepth 20000 in
theorem gX8_waitsFor_X8_isStand : GoodIn wsX8_waitsFor (wsV RX8 101 RX8 yX8_isStand wsX8_isStand) := goodIn_app (goodIn_of _ (by decide +kernel)) ggX8_waitsFor_X8_isStand
set_option maxRecDepth 20000 in
theorem ggX8_waitsFor_X8_part : GoodIn wsX8_waitsFor wsX8_part := goodIn_r _ [13, 1, 26, 27, 28, 29, 30, 31, 32, 33, 34, 35, 36, 37, 38, 39] (by decide +kernel) (by decide +kernel)
set_option maxRecDepth 20000 in
theorem gX8_waitsFor_X8_part : GoodIn wsX8_waitsFor (wsV RX8 40 RX8 yX8_part wsX8_part) := goodIn_app (goodIn_of _ (by decide +kernel)) ggX8_waitsFor_X8_part
set_option maxRecDepth 20000 in
theorem ggX8_waitsFor_X8_hasBase : GoodIn wsX8_waitsFor wsX8_hasBase := goodIn_r _ [17, 10, 11, 12, 5, 13, 1, 18, 19, 20, 21, 26, 27, 28, 29, 30, 31, 32, 33, 34, 35, 36, 37, 38, 39] (by decide +kernel) (by decide +kernel)
set_option maxRecDepth 20000 in
theorem gX8_waitsFor_X8_hasBase : GoodIn wsX8_waitsFor (wsV RX8 60 RX8 yX8_hasBase wsX8_hasBase) := goodIn_app (goodIn_of _ (by decide +kernel)) ggX8_waitsFor_X8_hasBase
set_option maxRecDepth 20000 in
theorem ggX8_waitsFor_X8_standingOn : GoodIn wsX8_waitsFor wsX8_standingOn := goodIn_r _ [25, 1, 10, 11, 12, 5, 13, 18, 19, 20, 21, 26, 27, 28, 29, 30, 31, 32, 33, 34, 35, 36, 37, 38, 39] (by decide +kernel) (by decide +kernel)
set_option maxRecDepth 20000 in
theorem gX8_waitsFor_X8_standingOn : GoodIn wsX8_waitsFor (wsV RX8 56 RX8 yX8_standingOn wsX8_standingOn) := goodIn_app (goodIn_of _ (by decide +kernel)) ggX8_waitsFor_X8_standingOn
theorem dX8_waitsFor_0 : decode cX8_waitsFor 0 = .ok (.aload_n 0, 1) := by decide +kernel
theorem dX8_waitsFor_1 : decode cX8_waitsFor 1 = .ok (.iload_n 1, 1) := by decide +kernel
theorem dX8_waitsFor_2 : decode cX8_waitsFor 2 = .ok (.invokevirtual 101, 3) := by decide +kernel
theorem dX8_waitsFor_5 : decode cX8_waitsFor 5 = .ok (.ifCond .ne 5, 3) := by decide +kernel
theorem dX8_waitsFor_8 : decode cX8_waitsFor 8 = .ok (.iconst (-1), 1) := by decide +kernel
theorem dX8_waitsFor_9 : decode cX8_waitsFor 9 = .ok (.ireturn, 1) := by decide +kernel
theorem dX8_waitsFor_10 : decode cX8_waitsFor 10 = .ok (.aload_n 0, 1) := by decide +kernel
theorem dX8_waitsFor_11 : decode cX8_waitsFor 11 = .ok (.iload_n 1, 1) := by decide +kernel
theorem dX8_waitsFor_12 : decode cX8_waitsFor 12 = .ok (.iconst 4, 1) := by decide +kernel
theorem dX8_waitsFor_13 : decode cX8_waitsFor 13 = .ok (.invokevirtual 40, 3) := by decide +kernel
theorem dX8_waitsFor_16 : decode cX8_waitsFor 16 = .ok (.tableswitch 82 0 4 #[36, 38, 40, 82, 54], 36) := by decide +kernel
theorem dX8_waitsFor_52 : decode cX8_waitsFor 52 = .ok (.iconst 1, 1) := by decide +kernel
theorem dX8_waitsFor_53 : decode cX8_waitsFor 53 = .ok (.ireturn, 1) := by decide +kernel
theorem dX8_waitsFor_54 : decode cX8_waitsFor 54 = .ok (.iconst 2, 1) := by decide +kernel
theorem dX8_waitsFor_55 : decode cX8_waitsFor 55 = .ok (.ireturn, 1) := by decide +kernel
theorem dX8_waitsFor_56 : decode cX8_waitsFor 56 = .ok (.aload_n 0, 1) := by decide +kernel
theorem dX8_waitsFor_57 : decode cX8_waitsFor 57 = .ok (.iload_n 1, 1) := by decide +kernel
theorem dX8_waitsFor_58 : decode cX8_waitsFor 58 = .ok (.invokevirtual 60, 3) := by decide +kernel
theorem dX8_waitsFor_61 : decode cX8_waitsFor 61 = .ok (.ifCond .eq 7, 3) := by decide +kernel
theorem dX8_waitsFor_64 : decode cX8_waitsFor 64 = .ok (.iconst 4, 1) := by decide +kernel
theorem dX8_waitsFor_65 : decode cX8_waitsFor 65 = .ok (.goto 4, 3) := by decide +kernel
theorem dX8_waitsFor_68 : decode cX8_waitsFor 68 = .ok (.iconst 3, 1) := by decide +kernel
theorem dX8_waitsFor_69 : decode cX8_waitsFor 69 = .ok (.ireturn, 1) := by decide +kernel
theorem dX8_waitsFor_70 : decode cX8_waitsFor 70 = .ok (.aload_n 0, 1) := by decide +kernel
theorem dX8_waitsFor_71 : decode cX8_waitsFor 71 = .ok (.getfield 7, 3) := by decide +kernel
theorem dX8_waitsFor_74 : decode cX8_waitsFor 74 = .ok (.bipush 6, 2) := by decide +kernel
theorem dX8_waitsFor_76 : decode cX8_waitsFor 76 = .ok (.iaload, 1) := by decide +kernel
theorem dX8_waitsFor_77 : decode cX8_waitsFor 77 = .ok (.ifCond .ne 7, 3) := by decide +kernel
theorem dX8_waitsFor_80 : decode cX8_waitsFor 80 = .ok (.iconst 0, 1) := by decide +kernel
theorem dX8_waitsFor_81 : decode cX8_waitsFor 81 = .ok (.goto 16, 3) := by decide +kernel
theorem dX8_waitsFor_84 : decode cX8_waitsFor 84 = .ok (.aload_n 0, 1) := by decide +kernel
theorem dX8_waitsFor_85 : decode cX8_waitsFor 85 = .ok (.iload_n 1, 1) := by decide +kernel
theorem dX8_waitsFor_86 : decode cX8_waitsFor 86 = .ok (.invokevirtual 56, 3) := by decide +kernel
theorem dX8_waitsFor_89 : decode cX8_waitsFor 89 = .ok (.ifCond .ne 7, 3) := by decide +kernel
theorem dX8_waitsFor_92 : decode cX8_waitsFor 92 = .ok (.iconst 4, 1) := by decide +kernel
theorem dX8_waitsFor_93 : decode cX8_waitsFor 93 = .ok (.goto 4, 3) := by decide +kernel
theorem dX8_waitsFor_96 : decode cX8_waitsFor 96 = .ok (.iconst 5, 1) := by decide +kernel
theorem dX8_waitsFor_97 : decode cX8_waitsFor 97 = .ok (.ireturn, 1) := by decide +kernel
theorem dX8_waitsFor_98 : decode cX8_waitsFor 98 = .ok (.iconst 0, 1) := by decide +kernel
theorem dX8_waitsFor_99 : decode cX8_waitsFor 99 = .ok (.ireturn, 1) := by decide +kernel
set_option maxRecDepth 20000 in
theorem ggX8_isAllDone_X8_withHow : GoodIn wsX8_isAllDone wsX8_withHow := goodIn_r _ [6, 1, 7, 8, 9, 5, 10, 11, 12, 13, 14, 15, 16, 17, 18, 19, 20, 21, 22, 23, 24, 25, 26, 27, 28] (by decide +kernel) (by decide +kernel)
set_option maxRecDepth 20000 in
theorem gX8_isAllDone_X8_withHow : GoodIn wsX8_isAllDone (wsV RX8 132 RX8 yX8_withHow wsX8_withHow) := goodIn_app (goodIn_of _ (by decide +kernel)) ggX8_isAllDone_X8_withHow
theorem dX8_isAllDone_0 : decode cX8_isAllDone 0 = .ok (.aload_n 0, 1) := by decide +kernel
theorem dX8_isAllDone_1 : decode cX8_isAllDone 1 = .ok (.bipush 6, 2) := by decide +kernel
theorem dX8_isAllDone_3 : decode cX8_isAllDone 3 = .ok (.invokevirtual 132, 3) := by decide +kernel
theorem dX8_isAllDone_6 : decode cX8_isAllDone 6 = .ok (.aload_n 0, 1) := by decide +kernel
theorem dX8_isAllDone_7 : decode cX8_isAllDone 7 = .ok (.getfield 7, 3) := by decide +kernel
theorem dX8_isAllDone_10 : decode cX8_isAllDone 10 = .ok (.bipush 6, 2) := by decide +kernel
theorem dX8_isAllDone_12 : decode cX8_isAllDone 12 = .ok (.iaload, 1) := by decide +kernel
theorem dX8_isAllDone_13 : decode cX8_isAllDone 13 = .ok (.iconst 1, 1) := by decide +kernel
theorem dX8_isAllDone_14 : decode cX8_isAllDone 14 = .ok (.if_icmp .ne 7, 3) := by decide +kernel
theorem dX8_isAllDone_17 : decode cX8_isAllDone 17 = .ok (.iconst 0, 1) := by decide +kernel
theorem dX8_isAllDone_18 : decode cX8_isAllDone 18 = .ok (.goto 8, 3) := by decide +kernel
theorem dX8_isAllDone_21 : decode cX8_isAllDone 21 = .ok (.aload_n 0, 1) := by decide +kernel
theorem dX8_isAllDone_22 : decode cX8_isAllDone 22 = .ok (.iconst 4, 1) := by decide +kernel
theorem dX8_isAllDone_23 : decode cX8_isAllDone 23 = .ok (.invokevirtual 132, 3) := by decide +kernel
theorem dX8_isAllDone_26 : decode cX8_isAllDone 26 = .ok (.iadd, 1) := by decide +kernel
theorem dX8_isAllDone_27 : decode cX8_isAllDone 27 = .ok (.aload_n 0, 1) := by decide +kernel
theorem dX8_isAllDone_28 : decode cX8_isAllDone 28 = .ok (.getfield 7, 3) := by decide +kernel
theorem dX8_isAllDone_31 : decode cX8_isAllDone 31 = .ok (.iconst 4, 1) := by decide +kernel
theorem dX8_isAllDone_32 : decode cX8_isAllDone 32 = .ok (.iaload, 1) := by decide +kernel
theorem dX8_isAllDone_33 : decode cX8_isAllDone 33 = .ok (.if_icmp .ne 7, 3) := by decide +kernel
theorem dX8_isAllDone_36 : decode cX8_isAllDone 36 = .ok (.iconst 1, 1) := by decide +kernel
theorem dX8_isAllDone_37 : decode cX8_isAllDone 37 = .ok (.goto 4, 3) := by decide +kernel
theorem dX8_isAllDone_40 : decode cX8_isAllDone 40 = .ok (.iconst 0, 1) := by decide +kernel
theorem dX8_isAllDone_41 : decode cX8_isAllDone 41 = .ok (.ireturn, 1) := by decide +kernel
set_option maxRecDepth 20000 in
theorem ggX8_goesOn_X8_isAllDone : GoodIn wsX8_goesOn wsX8_isAllDone := goodIn_r _ [7, 2, 8, 9, 10, 6, 11, 12, 13, 14, 15, 16, 17, 18, 19, 79, 80, 81, 82, 83, 84, 85, 86, 87, 88, 89, 90, 91, 92] (by decide +kernel) (by decide +kernel)
set_option maxRecDepth 20000 in
theorem gX8_goesOn_X8_isAllDone : GoodIn wsX8_goesOn (wsV RX8 144 RX8 yX8_isAllDone wsX8_isAllDone) := goodIn_app (goodIn_of _ (by decide +kernel)) ggX8_goesOn_X8_isAllDone
set_option maxRecDepth 20000 in
theorem ggX8_goesOn_X8_passesOne : GoodIn wsX8_goesOn wsX8_passesOne := goodIn_r _ [23, 2, 24, 25, 26, 6, 27, 12, 13, 14, 15, 16, 17, 18, 19, 28, 29, 30, 31, 32, 33, 34, 35, 36, 37, 38, 39, 40, 41, 42, 43, 44, 45, 46, 47, 48, 49, 50, 51, 52, 53, 54, 55, 56, 57, 58, 59, 60, 61, 62, 63, 64, 65, 66, 67, 68, 69, 70, 71, 72, 73, 74, 75, 79, 80, 81, 82, 83, 84, 85, 86, 87, 88, 89, 90, 91, 92] (by decide +kernel) (by decide +kernel)
set_option maxRecDepth 20000 in
theorem gX8_goesOn_X8_passesOne : GoodIn wsX8_goesOn (wsV RX8 92 RX8 yX8_passesOne wsX8_passesOne) := goodIn_app (goodIn_of _ (by decide +kernel)) ggX8_goesOn_X8_passesOne
set_option maxRecDepth 20000 in
theorem ggX8_goesOn_X8_moves : GoodIn wsX8_goesOn wsX8_moves := goodIn_r _ [78] (by decide +kernel) (by decide +kernel)
set_option maxRecDepth 20000 in
theorem gX8_goesOn_X8_moves : GoodIn wsX8_goesOn (va_wsS RX8 32 yX8_moves wsX8_moves) := goodIn_app (goodIn_of _ (by decide +kernel)) ggX8_goesOn_X8_moves
theorem dX8_goesOn_0 : decode cX8_goesOn 0 = .ok (.iconst 0, 1) := by decide +kernel
theorem dX8_goesOn_1 : decode cX8_goesOn 1 = .ok (.istore_n 1, 1) := by decide +kernel
theorem dX8_goesOn_2 : decode cX8_goesOn 2 = .ok (.aload_n 0, 1) := by decide +kernel
theorem dX8_goesOn_3 : decode cX8_goesOn 3 = .ok (.invokevirtual 144, 3) := by decide +kernel
theorem dX8_goesOn_6 : decode cX8_goesOn 6 = .ok (.ifCond .ne 21, 3) := by decide +kernel
theorem dX8_goesOn_9 : decode cX8_goesOn 9 = .ok (.iload_n 1, 1) := by decide +kernel
theorem dX8_goesOn_10 : decode cX8_goesOn 10 = .ok (.sipush 1000, 3) := by decide +kernel
theorem dX8_goesOn_13 : decode cX8_goesOn 13 = .ok (.if_icmp .gt 14, 3) := by decide +kernel
theorem dX8_goesOn_16 : decode cX8_goesOn 16 = .ok (.aload_n 0, 1) := by decide +kernel
theorem dX8_goesOn_17 : decode cX8_goesOn 17 = .ok (.invokevirtual 92, 3) := by decide +kernel
theorem dX8_goesOn_20 : decode cX8_goesOn 20 = .ok (.pop, 1) := by decide +kernel
theorem dX8_goesOn_21 : decode cX8_goesOn 21 = .ok (.iinc 1 1, 3) := by decide +kernel
theorem dX8_goesOn_24 : decode cX8_goesOn 24 = .ok (.goto (-22), 3) := by decide +kernel
theorem dX8_goesOn_27 : decode cX8_goesOn 27 = .ok (.aload_n 0, 1) := by decide +kernel
theorem dX8_goesOn_28 : decode cX8_goesOn 28 = .ok (.getfield 13, 3) := by decide +kernel
theorem dX8_goesOn_31 : decode cX8_goesOn 31 = .ok (.iconst 0, 1) := by decide +kernel
theorem dX8_goesOn_32 : decode cX8_goesOn 32 = .ok (.aload_n 0, 1) := by decide +kernel
theorem dX8_goesOn_33 : decode cX8_goesOn 33 = .ok (.getfield 7, 3) := by decide +kernel
theorem dX8_goesOn_36 : decode cX8_goesOn 36 = .ok (.iconst 0, 1) := by decide +kernel
theorem dX8_goesOn_37 : decode cX8_goesOn 37 = .ok (.invokestatic 32, 3) := by decide +kernel
theorem dX8_goesOn_40 : decode cX8_goesOn 40 = .ok (.iload_n 1, 1) := by decide +kernel
theorem dX8_goesOn_41 : decode cX8_goesOn 41 = .ok (.sipush 1000, 3) := by decide +kernel
theorem dX8_goesOn_44 : decode cX8_goesOn 44 = .ok (.if_icmp .le 8, 3) := by decide +kernel
theorem dX8_goesOn_47 : decode cX8_goesOn 47 = .ok (.bipush (-6), 2) := by decide +kernel
theorem dX8_goesOn_49 : decode cX8_goesOn 49 = .ok (.goto 4, 3) := by decide +kernel
theorem dX8_goesOn_52 : decode cX8_goesOn 52 = .ok (.iload_n 1, 1) := by decide +kernel
theorem dX8_goesOn_53 : decode cX8_goesOn 53 = .ok (.ireturn, 1) := by decide +kernel
set_option maxRecDepth 20000 in
theorem ggX8_allIn_X8_moves : GoodIn wsX8_allIn wsX8_moves := goodIn_r _ [6] (by decide +kernel) (by decide +kernel)
set_option maxRecDepth 20000 in
theorem gX8_allIn_X8_moves : GoodIn wsX8_allIn (va_wsS RX8 32 yX8_moves wsX8_moves) := goodIn_app (goodIn_of _ (by decide +kernel)) ggX8_allIn_X8_moves
set_option maxRecDepth 20000 in
theorem ggX8_allIn_X8_goesOn : GoodIn wsX8_allIn wsX8_goesOn := goodIn_r _ [10, 2, 1, 11, 12, 13, 5, 14, 15, 16, 17, 18, 19, 20, 21, 22, 23, 24, 25, 26, 27, 28, 29, 30, 31, 32, 33, 34, 35, 36, 37, 38, 39, 40, 41, 42, 43, 44, 45, 46, 47, 48, 49, 50, 51, 52, 53, 54, 55, 56, 57, 58, 59, 60, 61, 62, 63, 64, 65, 66, 67, 68, 69, 70, 71, 72, 73, 74, 75, 76, 77, 78, 79, 80, 81, 82, 3, 4, 6, 83, 84, 85, 86, 87, 88, 89, 90, 91, 92, 93, 94, 95, 96] (by decide +kernel) (by decide +kernel)
set_option maxRecDepth 20000 in
theorem gX8_allIn_X8_goesOn : GoodIn wsX8_allIn (wsV RX8 148 RX8 yX8_goesOn wsX8_goesOn) := goodIn_app (goodIn_of _ (by decide +kernel)) ggX8_allIn_X8_goesOn
theorem dX8_allIn_0 : decode cX8_allIn 0 = .ok (.aload_n 0, 1) := by decide +kernel
theorem dX8_allIn_1 : decode cX8_allIn 1 = .ok (.getfield 7, 3) := by decide +kernel
theorem dX8_allIn_4 : decode cX8_allIn 4 = .ok (.iconst 0, 1) := by decide +kernel
theorem dX8_allIn_5 : decode cX8_allIn 5 = .ok (.aload_n 0, 1) := by decide +kernel
theorem dX8_allIn_6 : decode cX8_allIn 6 = .ok (.getfield 13, 3) := by decide +kernel
theorem dX8_allIn_9 : decode cX8_allIn 9 = .ok (.iconst 0, 1) := by decide +kernel
theorem dX8_allIn_10 : decode cX8_allIn 10 = .ok (.invokestatic 32, 3) := by decide +kernel
theorem dX8_allIn_13 : decode cX8_allIn 13 = .ok (.aload_n 0, 1) := by decide +kernel
theorem dX8_allIn_14 : decode cX8_allIn 14 = .ok (.invokevirtual 148, 3) := by decide +kernel
theorem dX8_allIn_17 : decode cX8_allIn 17 = .ok (.ireturn, 1) := by decide +kernel
set_option maxRecDepth 20000 in
theorem ggX8_withCrew_X8_whyNoCrew : GoodIn wsX8_withCrew wsX8_whyNoCrew := goodIn_r _ [7, 1, 8, 9, 6, 10, 94, 95, 96, 97, 98, 99, 100, 101, 102, 103, 104, 105, 106, 107] (by decide +kernel) (by decide +kernel)
set_option maxRecDepth 20000 in
theorem gX8_withCrew_X8_whyNoCrew : GoodIn wsX8_withCrew (wsV RX8 111 RX8 yX8_whyNoCrew wsX8_whyNoCrew) := goodIn_app (goodIn_of _ (by decide +kernel)) ggX8_withCrew_X8_whyNoCrew
set_option maxRecDepth 20000 in
theorem ggX8_withCrew_X8_moves : GoodIn wsX8_withCrew wsX8_moves := goodIn_r _ [13] (by decide +kernel) (by decide +kernel)
set_option maxRecDepth 20000 in
theorem gX8_withCrew_X8_moves : GoodIn wsX8_withCrew (va_wsS RX8 32 yX8_moves wsX8_moves) := goodIn_app (goodIn_of _ (by decide +kernel)) ggX8_withCrew_X8_moves
set_option maxRecDepth 20000 in
theorem ggX8_withCrew_X8_comesCrew : GoodIn wsX8_withCrew wsX8_comesCrew := goodIn_r _ [17, 1, 18, 19, 20, 6, 21, 94, 95, 96, 97, 98, 99, 100, 101, 102, 103, 104, 105, 106, 107] (by decide +kernel) (by decide +kernel)
set_option maxRecDepth 20000 in
theorem gX8_withCrew_X8_comesCrew : GoodIn wsX8_withCrew (wsV RX8 114 RX8 yX8_comesCrew wsX8_comesCrew) := goodIn_app (goodIn_of _ (by decide +kernel)) ggX8_withCrew_X8_comesCrew
set_option maxRecDepth 20000 in
theorem ggX8_withCrew_X8_goesOn : GoodIn wsX8_withCrew wsX8_goesOn := goodIn_r _ [25, 2, 1, 26, 27, 28, 6, 29, 30, 31, 32, 33, 34, 35, 36, 37, 38, 39, 40, 41, 42, 43, 44, 45, 46, 47, 48, 49, 50, 51, 52, 53, 54, 55, 56, 57, 58, 59, 60, 61, 62, 63, 64, 65, 66, 67, 68, 69, 70, 71, 72, 73, 74, 75, 76, 77, 18, 19, 20, 21, 78, 79, 80, 81, 82, 83, 84, 85, 86, 87, 88, 89, 90, 91, 92, 93, 11, 12, 13, 94, 95, 96, 97, 98, 99, 100, 101, 102, 103, 104, 105, 106, 107] (by decide +kernel) (by decide +kernel)
set_option maxRecDepth 20000 in
theorem gX8_withCrew_X8_goesOn : GoodIn wsX8_withCrew (wsV RX8 148 RX8 yX8_goesOn wsX8_goesOn) := goodIn_app (goodIn_of _ (by decide +kernel)) ggX8_withCrew_X8_goesOn
theorem dX8_withCrew_0 : decode cX8_withCrew 0 = .ok (.aload_n 0, 1) := by decide +kernel
theorem dX8_withCrew_1 : decode cX8_withCrew 1 = .ok (.iload_n 1, 1) := by decide +kernel
theorem dX8_withCrew_2 : decode cX8_withCrew 2 = .ok (.iconst 0, 1) := by decide +kernel
theorem dX8_withCrew_3 : decode cX8_withCrew 3 = .ok (.invokevirtual 111, 3) := by decide +kernel
theorem dX8_withCrew_6 : decode cX8_withCrew 6 = .ok (.istore_n 2, 1) := by decide +kernel
theorem dX8_withCrew_7 : decode cX8_withCrew 7 = .ok (.iload_n 2, 1) := by decide +kernel
theorem dX8_withCrew_8 : decode cX8_withCrew 8 = .ok (.ifCond .ge 5, 3) := by decide +kernel
theorem dX8_withCrew_11 : decode cX8_withCrew 11 = .ok (.iload_n 2, 1) := by decide +kernel
theorem dX8_withCrew_12 : decode cX8_withCrew 12 = .ok (.ireturn, 1) := by decide +kernel
theorem dX8_withCrew_13 : decode cX8_withCrew 13 = .ok (.aload_n 0, 1) := by decide +kernel
theorem dX8_withCrew_14 : decode cX8_withCrew 14 = .ok (.getfield 7, 3) := by decide +kernel
theorem dX8_withCrew_17 : decode cX8_withCrew 17 = .ok (.iconst 0, 1) := by decide +kernel
theorem dX8_withCrew_18 : decode cX8_withCrew 18 = .ok (.aload_n 0, 1) := by decide +kernel
theorem dX8_withCrew_19 : decode cX8_withCrew 19 = .ok (.getfield 13, 3) := by decide +kernel
theorem dX8_withCrew_22 : decode cX8_withCrew 22 = .ok (.iconst 0, 1) := by decide +kernel
theorem dX8_withCrew_23 : decode cX8_withCrew 23 = .ok (.invokestatic 32, 3) := by decide +kernel
theorem dX8_withCrew_26 : decode cX8_withCrew 26 = .ok (.aload_n 0, 1) := by decide +kernel
theorem dX8_withCrew_27 : decode cX8_withCrew 27 = .ok (.iload_n 1, 1) := by decide +kernel
theorem dX8_withCrew_28 : decode cX8_withCrew 28 = .ok (.iconst 0, 1) := by decide +kernel
theorem dX8_withCrew_29 : decode cX8_withCrew 29 = .ok (.invokevirtual 114, 3) := by decide +kernel
theorem dX8_withCrew_32 : decode cX8_withCrew 32 = .ok (.pop, 1) := by decide +kernel
theorem dX8_withCrew_33 : decode cX8_withCrew 33 = .ok (.aload_n 0, 1) := by decide +kernel
theorem dX8_withCrew_34 : decode cX8_withCrew 34 = .ok (.invokevirtual 148, 3) := by decide +kernel
theorem dX8_withCrew_37 : decode cX8_withCrew 37 = .ok (.ireturn, 1) := by decide +kernel
set_option maxRecDepth 20000 in
theorem ggX8_allWith_X8_moves : GoodIn wsX8_allWith wsX8_moves := goodIn_r _ [6] (by decide +kernel) (by decide +kernel)
set_option maxRecDepth 20000 in
theorem gX8_allWith_X8_moves : GoodIn wsX8_allWith (va_wsS RX8 32 yX8_moves wsX8_moves) := goodIn_app (goodIn_of _ (by decide +kernel)) ggX8_allWith_X8_moves
set_option maxRecDepth 20000 in
theorem ggX8_allWith_X8_goesOn : GoodIn wsX8_allWith wsX8_goesOn := goodIn_r _ [10, 2, 1, 11, 12, 13, 5, 14, 15, 16, 17, 18, 19, 20, 21, 22, 23, 24, 25, 26, 27, 28, 29, 30, 31, 32, 33, 34, 35, 36, 37, 38, 39, 40, 41, 42, 43, 44, 45, 46, 47, 48, 49, 50, 51, 52, 53, 54, 55, 56, 57, 58, 59, 60, 61, 62, 63, 64, 65, 66, 67, 68, 69, 70, 71, 72, 73, 74, 75, 76, 77, 78, 79, 80, 81, 82, 3, 4, 6, 83, 84, 85, 86, 87, 88, 89, 90, 91, 92, 93, 94, 95, 96] (by decide +kernel) (by decide +kernel)
set_option maxRecDepth 20000 in
theorem gX8_allWith_X8_goesOn : GoodIn wsX8_allWith (wsV RX8 148 RX8 yX8_goesOn wsX8_goesOn) := goodIn_app (goodIn_of _ (by decide +kernel)) ggX8_allWith_X8_goesOn
theorem dX8_allWith_0 : decode cX8_allWith 0 = .ok (.aload_n 0, 1) := by decide +kernel
theorem dX8_allWith_1 : decode cX8_allWith 1 = .ok (.getfield 7, 3) := by decide +kernel
theorem dX8_allWith_4 : decode cX8_allWith 4 = .ok (.iconst 0, 1) := by decide +kernel
theorem dX8_allWith_5 : decode cX8_allWith 5 = .ok (.aload_n 0, 1) := by decide +kernel
theorem dX8_allWith_6 : decode cX8_allWith 6 = .ok (.getfield 13, 3) := by decide +kernel
theorem dX8_allWith_9 : decode cX8_allWith 9 = .ok (.iconst 0, 1) := by decide +kernel
theorem dX8_allWith_10 : decode cX8_allWith 10 = .ok (.invokestatic 32, 3) := by decide +kernel
theorem dX8_allWith_13 : decode cX8_allWith 13 = .ok (.aload_n 0, 1) := by decide +kernel
theorem dX8_allWith_14 : decode cX8_allWith 14 = .ok (.getfield 7, 3) := by decide +kernel
theorem dX8_allWith_17 : decode cX8_allWith 17 = .ok (.iconst 0, 1) := by decide +kernel
theorem dX8_allWith_18 : decode cX8_allWith 18 = .ok (.iload_n 1, 1) := by decide +kernel
theorem dX8_allWith_19 : decode cX8_allWith 19 = .ok (.iastore, 1) := by decide +kernel
theorem dX8_allWith_20 : decode cX8_allWith 20 = .ok (.aload_n 0, 1) := by decide +kernel
theorem dX8_allWith_21 : decode cX8_allWith 21 = .ok (.invokevirtual 148, 3) := by decide +kernel
theorem dX8_allWith_24 : decode cX8_allWith 24 = .ok (.ireturn, 1) := by decide +kernel
set_option maxRecDepth 20000 in
theorem ggX8_leastDock_X8_allWith : GoodIn wsX8_leastDock wsX8_allWith := goodIn_r _ [5, 6, 7, 8, 9, 4, 10, 11, 12, 13, 14, 15, 16, 17, 18, 19, 20, 21, 22, 23, 24, 25, 26, 27, 28, 29, 30, 31, 32, 33, 34, 35, 36, 37, 38, 39, 40, 41, 42, 43, 44, 45, 46, 47, 48, 49, 50, 51, 52, 53, 54, 55, 56, 57, 58, 59, 60, 61, 62, 63, 64, 65, 66, 67, 68, 69, 70, 71, 72, 73, 74, 75, 76, 77, 78, 79, 80, 81, 82, 83, 84, 85, 86, 87, 88, 89, 90, 91, 92, 93, 94, 95, 96, 97, 98, 99, 100] (by decide +kernel) (by decide +kernel)
set_option maxRecDepth 20000 in
theorem gX8_leastDock_X8_allWith : GoodIn wsX8_leastDock (wsV RX8 151 RX8 yX8_allWith wsX8_allWith) := goodIn_app (goodIn_of _ (by decide +kernel)) ggX8_leastDock_X8_allWith
theorem dX8_leastDock_0 : decode cX8_leastDock 0 = .ok (.aload_n 0, 1) := by decide +kernel
theorem dX8_leastDock_1 : decode cX8_leastDock 1 = .ok (.bipush 60, 2) := by decide +kernel
theorem dX8_leastDock_3 : decode cX8_leastDock 3 = .ok (.invokevirtual 151, 3) := by decide +kernel
theorem dX8_leastDock_6 : decode cX8_leastDock 6 = .ok (.istore_n 1, 1) := by decide +kernel
theorem dX8_leastDock_7 : decode cX8_leastDock 7 = .ok (.iload_n 1, 1) := by decide +kernel
theorem dX8_leastDock_8 : decode cX8_leastDock 8 = .ok (.bipush (-6), 2) := by decide +kernel
theorem dX8_leastDock_10 : decode cX8_leastDock 10 = .ok (.if_icmp .ne 6, 3) := by decide +kernel
theorem dX8_leastDock_13 : decode cX8_leastDock 13 = .ok (.bipush (-6), 2) := by decide +kernel
theorem dX8_leastDock_15 : decode cX8_leastDock 15 = .ok (.ireturn, 1) := by decide +kernel
theorem dX8_leastDock_16 : decode cX8_leastDock 16 = .ok (.iconst 1, 1) := by decide +kernel
theorem dX8_leastDock_17 : decode cX8_leastDock 17 = .ok (.istore_n 2, 1) := by decide +kernel
theorem dX8_leastDock_18 : decode cX8_leastDock 18 = .ok (.iload_n 2, 1) := by decide +kernel
theorem dX8_leastDock_19 : decode cX8_leastDock 19 = .ok (.bipush 60, 2) := by decide +kernel
theorem dX8_leastDock_21 : decode cX8_leastDock 21 = .ok (.if_icmp .ge 28, 3) := by decide +kernel
theorem dX8_leastDock_24 : decode cX8_leastDock 24 = .ok (.aload_n 0, 1) := by decide +kernel
theorem dX8_leastDock_25 : decode cX8_leastDock 25 = .ok (.iload_n 2, 1) := by decide +kernel
theorem dX8_leastDock_26 : decode cX8_leastDock 26 = .ok (.invokevirtual 151, 3) := by decide +kernel
theorem dX8_leastDock_29 : decode cX8_leastDock 29 = .ok (.istore_n 3, 1) := by decide +kernel
theorem dX8_leastDock_30 : decode cX8_leastDock 30 = .ok (.iload_n 3, 1) := by decide +kernel
theorem dX8_leastDock_31 : decode cX8_leastDock 31 = .ok (.bipush (-6), 2) := by decide +kernel
theorem dX8_leastDock_33 : decode cX8_leastDock 33 = .ok (.if_icmp .eq 10, 3) := by decide +kernel
theorem dX8_leastDock_36 : decode cX8_leastDock 36 = .ok (.iload_n 3, 1) := by decide +kernel
theorem dX8_leastDock_37 : decode cX8_leastDock 37 = .ok (.iload_n 1, 1) := by decide +kernel
theorem dX8_leastDock_38 : decode cX8_leastDock 38 = .ok (.if_icmp .gt 5, 3) := by decide +kernel
theorem dX8_leastDock_41 : decode cX8_leastDock 41 = .ok (.iload_n 2, 1) := by decide +kernel
theorem dX8_leastDock_42 : decode cX8_leastDock 42 = .ok (.ireturn, 1) := by decide +kernel
theorem dX8_leastDock_43 : decode cX8_leastDock 43 = .ok (.iinc 2 1, 3) := by decide +kernel
theorem dX8_leastDock_46 : decode cX8_leastDock 46 = .ok (.goto (-28), 3) := by decide +kernel
theorem dX8_leastDock_49 : decode cX8_leastDock 49 = .ok (.bipush 60, 2) := by decide +kernel
theorem dX8_leastDock_51 : decode cX8_leastDock 51 = .ok (.ireturn, 1) := by decide +kernel
set_option maxRecDepth 20000 in
theorem ggX8_put_X8_within : GoodIn wsX8_put wsX8_within := goodIn_r _ [7] (by decide +kernel) (by decide +kernel)
set_option maxRecDepth 20000 in
theorem gX8_put_X8_within : GoodIn wsX8_put (va_wsS RX8 36 yX8_within wsX8_within) := goodIn_app (goodIn_of _ (by decide +kernel)) ggX8_put_X8_within
theorem dX8_put_0 : decode cX8_put 0 = .ok (.iconst 0, 1) := by decide +kernel
theorem dX8_put_1 : decode cX8_put 1 = .ok (.istore_n 3, 1) := by decide +kernel
theorem dX8_put_2 : decode cX8_put 2 = .ok (.lload_n 1, 1) := by decide +kernel
theorem dX8_put_3 : decode cX8_put 3 = .ok (.lstore 4, 2) := by decide +kernel
theorem dX8_put_5 : decode cX8_put 5 = .ok (.iconst 1, 1) := by decide +kernel
theorem dX8_put_6 : decode cX8_put 6 = .ok (.istore 6, 2) := by decide +kernel
theorem dX8_put_8 : decode cX8_put 8 = .ok (.iload_n 3, 1) := by decide +kernel
theorem dX8_put_9 : decode cX8_put 9 = .ok (.bipush 8, 2) := by decide +kernel
theorem dX8_put_11 : decode cX8_put 11 = .ok (.if_icmp .ge 56, 3) := by decide +kernel
theorem dX8_put_14 : decode cX8_put 14 = .ok (.lload 4, 2) := by decide +kernel
theorem dX8_put_16 : decode cX8_put 16 = .ok (.ldc2_w 154, 3) := by decide +kernel
theorem dX8_put_19 : decode cX8_put 19 = .ok (.land, 1) := by decide +kernel
theorem dX8_put_20 : decode cX8_put 20 = .ok (.lconst 0, 1) := by decide +kernel
theorem dX8_put_21 : decode cX8_put 21 = .ok (.lcmp, 1) := by decide +kernel
theorem dX8_put_22 : decode cX8_put 22 = .ok (.ifCond .eq 45, 3) := by decide +kernel
theorem dX8_put_25 : decode cX8_put 25 = .ok (.iload 6, 2) := by decide +kernel
theorem dX8_put_27 : decode cX8_put 27 = .ok (.ifCond .eq 24, 3) := by decide +kernel
theorem dX8_put_30 : decode cX8_put 30 = .ok (.lload 4, 2) := by decide +kernel
theorem dX8_put_32 : decode cX8_put 32 = .ok (.ldc2_w 154, 3) := by decide +kernel
theorem dX8_put_35 : decode cX8_put 35 = .ok (.land, 1) := by decide +kernel
theorem dX8_put_36 : decode cX8_put 36 = .ok (.l2i, 1) := by decide +kernel
theorem dX8_put_37 : decode cX8_put 37 = .ok (.bipush 33, 2) := by decide +kernel
theorem dX8_put_39 : decode cX8_put 39 = .ok (.bipush 126, 2) := by decide +kernel
theorem dX8_put_41 : decode cX8_put 41 = .ok (.invokestatic 36, 3) := by decide +kernel
theorem dX8_put_44 : decode cX8_put 44 = .ok (.ifCond .eq 7, 3) := by decide +kernel
theorem dX8_put_47 : decode cX8_put 47 = .ok (.iconst 1, 1) := by decide +kernel
theorem dX8_put_48 : decode cX8_put 48 = .ok (.goto 4, 3) := by decide +kernel
theorem dX8_put_51 : decode cX8_put 51 = .ok (.iconst 0, 1) := by decide +kernel
theorem dX8_put_52 : decode cX8_put 52 = .ok (.istore 6, 2) := by decide +kernel
theorem dX8_put_54 : decode cX8_put 54 = .ok (.lload 4, 2) := by decide +kernel
theorem dX8_put_56 : decode cX8_put 56 = .ok (.bipush 8, 2) := by decide +kernel
theorem dX8_put_58 : decode cX8_put 58 = .ok (.lushr, 1) := by decide +kernel
theorem dX8_put_59 : decode cX8_put 59 = .ok (.lstore 4, 2) := by decide +kernel
theorem dX8_put_61 : decode cX8_put 61 = .ok (.iinc 3 1, 3) := by decide +kernel
theorem dX8_put_64 : decode cX8_put 64 = .ok (.goto (-56), 3) := by decide +kernel
theorem dX8_put_67 : decode cX8_put 67 = .ok (.iload_n 3, 1) := by decide +kernel
theorem dX8_put_68 : decode cX8_put 68 = .ok (.ifCond .eq 15, 3) := by decide +kernel
theorem dX8_put_71 : decode cX8_put 71 = .ok (.iload 6, 2) := by decide +kernel
theorem dX8_put_73 : decode cX8_put 73 = .ok (.ifCond .eq 10, 3) := by decide +kernel
theorem dX8_put_76 : decode cX8_put 76 = .ok (.lload 4, 2) := by decide +kernel
theorem dX8_put_78 : decode cX8_put 78 = .ok (.lconst 0, 1) := by decide +kernel
theorem dX8_put_79 : decode cX8_put 79 = .ok (.lcmp, 1) := by decide +kernel
theorem dX8_put_80 : decode cX8_put 80 = .ok (.ifCond .eq 6, 3) := by decide +kernel
theorem dX8_put_83 : decode cX8_put 83 = .ok (.bipush (-2), 2) := by decide +kernel
theorem dX8_put_85 : decode cX8_put 85 = .ok (.ireturn, 1) := by decide +kernel
theorem dX8_put_86 : decode cX8_put 86 = .ok (.aload_n 0, 1) := by decide +kernel
theorem dX8_put_87 : decode cX8_put 87 = .ok (.getfield 141, 3) := by decide +kernel
theorem dX8_put_90 : decode cX8_put 90 = .ok (.iload_n 3, 1) := by decide +kernel
theorem dX8_put_91 : decode cX8_put 91 = .ok (.iadd, 1) := by decide +kernel
theorem dX8_put_92 : decode cX8_put 92 = .ok (.bipush 80, 2) := by decide +kernel
theorem dX8_put_94 : decode cX8_put 94 = .ok (.if_icmp .le 6, 3) := by decide +kernel
theorem dX8_put_97 : decode cX8_put 97 = .ok (.bipush (-4), 2) := by decide +kernel
theorem dX8_put_99 : decode cX8_put 99 = .ok (.ireturn, 1) := by decide +kernel
theorem dX8_put_100 : decode cX8_put 100 = .ok (.iload_n 3, 1) := by decide +kernel
theorem dX8_put_101 : decode cX8_put 101 = .ok (.iconst 1, 1) := by decide +kernel
theorem dX8_put_102 : decode cX8_put 102 = .ok (.isub, 1) := by decide +kernel
theorem dX8_put_103 : decode cX8_put 103 = .ok (.istore 7, 2) := by decide +kernel
theorem dX8_put_105 : decode cX8_put 105 = .ok (.iload 7, 2) := by decide +kernel
theorem dX8_put_107 : decode cX8_put 107 = .ok (.ifCond .lt 40, 3) := by decide +kernel
theorem dX8_put_110 : decode cX8_put 110 = .ok (.aload_n 0, 1) := by decide +kernel
theorem dX8_put_111 : decode cX8_put 111 = .ok (.getfield 25, 3) := by decide +kernel
theorem dX8_put_114 : decode cX8_put 114 = .ok (.aload_n 0, 1) := by decide +kernel
theorem dX8_put_115 : decode cX8_put 115 = .ok (.getfield 141, 3) := by decide +kernel
theorem dX8_put_118 : decode cX8_put 118 = .ok (.lload_n 1, 1) := by decide +kernel
theorem dX8_put_119 : decode cX8_put 119 = .ok (.bipush 8, 2) := by decide +kernel
theorem dX8_put_121 : decode cX8_put 121 = .ok (.iload 7, 2) := by decide +kernel
theorem dX8_put_123 : decode cX8_put 123 = .ok (.imul, 1) := by decide +kernel
theorem dX8_put_124 : decode cX8_put 124 = .ok (.lushr, 1) := by decide +kernel
theorem dX8_put_125 : decode cX8_put 125 = .ok (.ldc2_w 154, 3) := by decide +kernel
theorem dX8_put_128 : decode cX8_put 128 = .ok (.land, 1) := by decide +kernel
theorem dX8_put_129 : decode cX8_put 129 = .ok (.l2i, 1) := by decide +kernel
theorem dX8_put_130 : decode cX8_put 130 = .ok (.iastore, 1) := by decide +kernel
theorem dX8_put_131 : decode cX8_put 131 = .ok (.aload_n 0, 1) := by decide +kernel
theorem dX8_put_132 : decode cX8_put 132 = .ok (.dup, 1) := by decide +kernel
theorem dX8_put_133 : decode cX8_put 133 = .ok (.getfield 141, 3) := by decide +kernel
theorem dX8_put_136 : decode cX8_put 136 = .ok (.iconst 1, 1) := by decide +kernel
theorem dX8_put_137 : decode cX8_put 137 = .ok (.iadd, 1) := by decide +kernel
theorem dX8_put_138 : decode cX8_put 138 = .ok (.putfield 141, 3) := by decide +kernel
theorem dX8_put_141 : decode cX8_put 141 = .ok (.iinc 7 (-1), 3) := by decide +kernel
theorem dX8_put_144 : decode cX8_put 144 = .ok (.goto (-39), 3) := by decide +kernel
theorem dX8_put_147 : decode cX8_put 147 = .ok (.aload_n 0, 1) := by decide +kernel
theorem dX8_put_148 : decode cX8_put 148 = .ok (.getfield 141, 3) := by decide +kernel
theorem dX8_put_151 : decode cX8_put 151 = .ok (.ireturn, 1) := by decide +kernel
theorem dX8_wipe_0 : decode cX8_wipe 0 = .ok (.aload_n 0, 1) := by decide +kernel
theorem dX8_wipe_1 : decode cX8_wipe 1 = .ok (.getfield 141, 3) := by decide +kernel
theorem dX8_wipe_4 : decode cX8_wipe 4 = .ok (.istore_n 1, 1) := by decide +kernel
theorem dX8_wipe_5 : decode cX8_wipe 5 = .ok (.aload_n 0, 1) := by decide +kernel
theorem dX8_wipe_6 : decode cX8_wipe 6 = .ok (.iconst 0, 1) := by decide +kernel
theorem dX8_wipe_7 : decode cX8_wipe 7 = .ok (.putfield 141, 3) := by decide +kernel
theorem dX8_wipe_10 : decode cX8_wipe 10 = .ok (.iload_n 1, 1) := by decide +kernel
theorem dX8_wipe_11 : decode cX8_wipe 11 = .ok (.ireturn, 1) := by decide +kernel
theorem dX8_character_0 : decode cX8_character 0 = .ok (.iload_n 1, 1) := by decide +kernel
theorem dX8_character_1 : decode cX8_character 1 = .ok (.aload_n 0, 1) := by decide +kernel
theorem dX8_character_2 : decode cX8_character 2 = .ok (.getfield 141, 3) := by decide +kernel
theorem dX8_character_5 : decode cX8_character 5 = .ok (.if_icmp .ge 12, 3) := by decide +kernel
theorem dX8_character_8 : decode cX8_character 8 = .ok (.aload_n 0, 1) := by decide +kernel
theorem dX8_character_9 : decode cX8_character 9 = .ok (.getfield 25, 3) := by decide +kernel
theorem dX8_character_12 : decode cX8_character 12 = .ok (.iload_n 1, 1) := by decide +kernel
theorem dX8_character_13 : decode cX8_character 13 = .ok (.iaload, 1) := by decide +kernel
theorem dX8_character_14 : decode cX8_character 14 = .ok (.goto 4, 3) := by decide +kernel
theorem dX8_character_17 : decode cX8_character 17 = .ok (.iconst (-1), 1) := by decide +kernel
theorem dX8_character_18 : decode cX8_character 18 = .ok (.ireturn, 1) := by decide +kernel
set_option maxRecDepth 20000 in
theorem ggX8_isNext_X8_character : GoodIn wsX8_isNext wsX8_character := goodIn_r _ [6, 7, 8, 9, 10, 11, 12, 13, 14, 15, 16, 17, 18, 19, 20, 21, 22] (by decide +kernel) (by decide +kernel)
set_option maxRecDepth 20000 in
theorem gX8_isNext_X8_character : GoodIn wsX8_isNext (wsV RX8 159 RX8 yX8_character wsX8_character) := goodIn_app (goodIn_of _ (by decide +kernel)) ggX8_isNext_X8_character
theorem dX8_isNext_0 : decode cX8_isNext 0 = .ok (.aload_n 0, 1) := by decide +kernel
theorem dX8_isNext_1 : decode cX8_isNext 1 = .ok (.aload_n 0, 1) := by decide +kernel
theorem dX8_isNext_2 : decode cX8_isNext 2 = .ok (.getfield 156, 3) := by decide +kernel
theorem dX8_isNext_5 : decode cX8_isNext 5 = .ok (.invokevirtual 159, 3) := by decide +kernel
theorem dX8_isNext_8 : decode cX8_isNext 8 = .ok (.iload_n 1, 1) := by decide +kernel
theorem dX8_isNext_9 : decode cX8_isNext 9 = .ok (.if_icmp .ne 7, 3) := by decide +kernel
theorem dX8_isNext_12 : decode cX8_isNext 12 = .ok (.iconst 1, 1) := by decide +kernel
theorem dX8_isNext_13 : decode cX8_isNext 13 = .ok (.goto 4, 3) := by decide +kernel
theorem dX8_isNext_16 : decode cX8_isNext 16 = .ok (.iconst 0, 1) := by decide +kernel
theorem dX8_isNext_17 : decode cX8_isNext 17 = .ok (.istore_n 2, 1) := by decide +kernel
theorem dX8_isNext_18 : decode cX8_isNext 18 = .ok (.aload_n 0, 1) := by decide +kernel
theorem dX8_isNext_19 : decode cX8_isNext 19 = .ok (.dup, 1) := by decide +kernel
theorem dX8_isNext_20 : decode cX8_isNext 20 = .ok (.getfield 156, 3) := by decide +kernel
theorem dX8_isNext_23 : decode cX8_isNext 23 = .ok (.iload_n 2, 1) := by decide +kernel
theorem dX8_isNext_24 : decode cX8_isNext 24 = .ok (.ifCond .eq 7, 3) := by decide +kernel
theorem dX8_isNext_27 : decode cX8_isNext 27 = .ok (.iconst 1, 1) := by decide +kernel
theorem dX8_isNext_28 : decode cX8_isNext 28 = .ok (.goto 4, 3) := by decide +kernel
theorem dX8_isNext_31 : decode cX8_isNext 31 = .ok (.iconst 0, 1) := by decide +kernel
theorem dX8_isNext_32 : decode cX8_isNext 32 = .ok (.iadd, 1) := by decide +kernel
theorem dX8_isNext_33 : decode cX8_isNext 33 = .ok (.putfield 156, 3) := by decide +kernel
theorem dX8_isNext_36 : decode cX8_isNext 36 = .ok (.iload_n 2, 1) := by decide +kernel
theorem dX8_isNext_37 : decode cX8_isNext 37 = .ok (.ireturn, 1) := by decide +kernel
set_option maxRecDepth 20000 in
theorem ggX8_takeDigit_X8_character : GoodIn wsX8_takeDigit wsX8_character := goodIn_r _ [6, 7, 8, 12, 13, 14, 15, 16, 17, 18, 19, 20, 21, 22, 23, 24, 25] (by decide +kernel) (by decide +kernel)
set_option maxRecDepth 20000 in
theorem gX8_takeDigit_X8_character : GoodIn wsX8_takeDigit (wsV RX8 159 RX8 yX8_character wsX8_character) := goodIn_app (goodIn_of _ (by decide +kernel)) ggX8_takeDigit_X8_character
set_option maxRecDepth 20000 in
theorem ggX8_takeDigit_X8_within : GoodIn wsX8_takeDigit wsX8_within := goodIn_r _ [11] (by decide +kernel) (by decide +kernel)
set_option maxRecDepth 20000 in
theorem gX8_takeDigit_X8_within : GoodIn wsX8_takeDigit (va_wsS RX8 36 yX8_within wsX8_within) := goodIn_app (goodIn_of _ (by decide +kernel)) ggX8_takeDigit_X8_within
theorem dX8_takeDigit_0 : decode cX8_takeDigit 0 = .ok (.aload_n 0, 1) := by decide +kernel
theorem dX8_takeDigit_1 : decode cX8_takeDigit 1 = .ok (.aload_n 0, 1) := by decide +kernel
theorem dX8_takeDigit_2 : decode cX8_takeDigit 2 = .ok (.getfield 156, 3) := by decide +kernel
theorem dX8_takeDigit_5 : decode cX8_takeDigit 5 = .ok (.invokevirtual 159, 3) := by decide +kernel
theorem dX8_takeDigit_8 : decode cX8_takeDigit 8 = .ok (.bipush 48, 2) := by decide +kernel
theorem dX8_takeDigit_10 : decode cX8_takeDigit 10 = .ok (.isub, 1) := by decide +kernel
theorem dX8_takeDigit_11 : decode cX8_takeDigit 11 = .ok (.istore_n 2, 1) := by decide +kernel
theorem dX8_takeDigit_12 : decode cX8_takeDigit 12 = .ok (.iload_n 2, 1) := by decide +kernel
theorem dX8_takeDigit_13 : decode cX8_takeDigit 13 = .ok (.iload_n 1, 1) := by decide +kernel
theorem dX8_takeDigit_14 : decode cX8_takeDigit 14 = .ok (.bipush 9, 2) := by decide +kernel
theorem dX8_takeDigit_16 : decode cX8_takeDigit 16 = .ok (.invokestatic 36, 3) := by decide +kernel
theorem dX8_takeDigit_19 : decode cX8_takeDigit 19 = .ok (.ifCond .ne 5, 3) := by decide +kernel
theorem dX8_takeDigit_22 : decode cX8_takeDigit 22 = .ok (.iconst (-1), 1) := by decide +kernel
theorem dX8_takeDigit_23 : decode cX8_takeDigit 23 = .ok (.ireturn, 1) := by decide +kernel
theorem dX8_takeDigit_24 : decode cX8_takeDigit 24 = .ok (.aload_n 0, 1) := by decide +kernel
theorem dX8_takeDigit_25 : decode cX8_takeDigit 25 = .ok (.dup, 1) := by decide +kernel
theorem dX8_takeDigit_26 : decode cX8_takeDigit 26 = .ok (.getfield 156, 3) := by decide +kernel
theorem dX8_takeDigit_29 : decode cX8_takeDigit 29 = .ok (.iconst 1, 1) := by decide +kernel
theorem dX8_takeDigit_30 : decode cX8_takeDigit 30 = .ok (.iadd, 1) := by decide +kernel
theorem dX8_takeDigit_31 : decode cX8_takeDigit 31 = .ok (.putfield 156, 3) := by decide +kernel
theorem dX8_takeDigit_34 : decode cX8_takeDigit 34 = .ok (.iload_n 2, 1) := by decide +kernel
theorem dX8_takeDigit_35 : decode cX8_takeDigit 35 = .ok (.ireturn, 1) := by decide +kernel
set_option maxRecDepth 20000 in
theorem ggX8_takeNumber_X8_takeDigit : GoodIn wsX8_takeNumber wsX8_takeDigit := goodIn_r _ [6, 1, 7, 8, 9, 5, 10, 11, 12, 13, 14, 15, 16, 17, 18, 19, 20, 21, 22, 23, 24, 25, 26, 27, 28, 29] (by decide +kernel) (by decide +kernel)
set_option maxRecDepth 20000 in
theorem gX8_takeNumber_X8_takeDigit : GoodIn wsX8_takeNumber (wsV RX8 162 RX8 yX8_takeDigit wsX8_takeDigit) := goodIn_app (goodIn_of _ (by decide +kernel)) ggX8_takeNumber_X8_takeDigit
set_option maxRecDepth 20000 in
theorem ggX8_takeNumber_X8_character : GoodIn wsX8_takeNumber wsX8_character := goodIn_r _ [10, 11, 12, 16, 17, 18, 19, 20, 21, 22, 23, 24, 25, 26, 27, 28, 29] (by decide +kernel) (by decide +kernel)
set_option maxRecDepth 20000 in
theorem gX8_takeNumber_X8_character : GoodIn wsX8_takeNumber (wsV RX8 159 RX8 yX8_character wsX8_character) := goodIn_app (goodIn_of _ (by decide +kernel)) ggX8_takeNumber_X8_character
set_option maxRecDepth 20000 in
theorem ggX8_takeNumber_X8_within : GoodIn wsX8_takeNumber wsX8_within := goodIn_r _ [15] (by decide +kernel) (by decide +kernel)
set_option maxRecDepth 20000 in
theorem gX8_takeNumber_X8_within : GoodIn wsX8_takeNumber (va_wsS RX8 36 yX8_within wsX8_within) := goodIn_app (goodIn_of _ (by decide +kernel)) ggX8_takeNumber_X8_within
theorem dX8_takeNumber_0 : decode cX8_takeNumber 0 = .ok (.aload_n 0, 1) := by decide +kernel
theorem dX8_takeNumber_1 : decode cX8_takeNumber 1 = .ok (.iconst 0, 1) := by decide +kernel
theorem dX8_takeNumber_2 : decode cX8_takeNumber 2 = .ok (.invokevirtual 162, 3) := by decide +kernel
theorem dX8_takeNumber_5 : decode cX8_takeNumber 5 = .ok (.istore_n 1, 1) := by decide +kernel
theorem dX8_takeNumber_6 : decode cX8_takeNumber 6 = .ok (.iload_n 1, 1) := by decide +kernel
theorem dX8_takeNumber_7 : decode cX8_takeNumber 7 = .ok (.ifCond .le 32, 3) := by decide +kernel
theorem dX8_takeNumber_10 : decode cX8_takeNumber 10 = .ok (.aload_n 0, 1) := by decide +kernel
theorem dX8_takeNumber_11 : decode cX8_takeNumber 11 = .ok (.aload_n 0, 1) := by decide +kernel
theorem dX8_takeNumber_12 : decode cX8_takeNumber 12 = .ok (.getfield 156, 3) := by decide +kernel
theorem dX8_takeNumber_15 : decode cX8_takeNumber 15 = .ok (.invokevirtual 159, 3) := by decide +kernel
theorem dX8_takeNumber_18 : decode cX8_takeNumber 18 = .ok (.bipush 48, 2) := by decide +kernel
theorem dX8_takeNumber_20 : decode cX8_takeNumber 20 = .ok (.bipush 57, 2) := by decide +kernel
theorem dX8_takeNumber_22 : decode cX8_takeNumber 22 = .ok (.invokestatic 36, 3) := by decide +kernel
theorem dX8_takeNumber_25 : decode cX8_takeNumber 25 = .ok (.ifCond .eq 14, 3) := by decide +kernel
theorem dX8_takeNumber_28 : decode cX8_takeNumber 28 = .ok (.bipush 10, 2) := by decide +kernel
theorem dX8_takeNumber_30 : decode cX8_takeNumber 30 = .ok (.iload_n 1, 1) := by decide +kernel
theorem dX8_takeNumber_31 : decode cX8_takeNumber 31 = .ok (.imul, 1) := by decide +kernel
theorem dX8_takeNumber_32 : decode cX8_takeNumber 32 = .ok (.aload_n 0, 1) := by decide +kernel
theorem dX8_takeNumber_33 : decode cX8_takeNumber 33 = .ok (.iconst 0, 1) := by decide +kernel
theorem dX8_takeNumber_34 : decode cX8_takeNumber 34 = .ok (.invokevirtual 162, 3) := by decide +kernel
theorem dX8_takeNumber_37 : decode cX8_takeNumber 37 = .ok (.iadd, 1) := by decide +kernel
theorem dX8_takeNumber_38 : decode cX8_takeNumber 38 = .ok (.istore_n 1, 1) := by decide +kernel
theorem dX8_takeNumber_39 : decode cX8_takeNumber 39 = .ok (.iload_n 1, 1) := by decide +kernel
theorem dX8_takeNumber_40 : decode cX8_takeNumber 40 = .ok (.ireturn, 1) := by decide +kernel
set_option maxRecDepth 20000 in
theorem ggX8_readsStand_X8_takeNumber : GoodIn wsX8_readsStand wsX8_takeNumber := goodIn_r _ [9, 10, 11, 12, 13, 8, 14, 15, 16, 17, 18, 19, 20, 21, 22, 23, 28, 29, 30, 31, 32, 33, 34, 35, 36, 37, 38, 39, 40, 41] (by decide +kernel) (by decide +kernel)
set_option maxRecDepth 20000 in
theorem gX8_readsStand_X8_takeNumber : GoodIn wsX8_readsStand (wsV RX8 165 RX8 yX8_takeNumber wsX8_takeNumber) := goodIn_app (goodIn_of _ (by decide +kernel)) ggX8_readsStand_X8_takeNumber
set_option maxRecDepth 20000 in
theorem ggX8_readsStand_X8_isNext : GoodIn wsX8_readsStand wsX8_isNext := goodIn_r _ [27, 10, 15, 16, 17, 8, 18, 19, 20, 28, 29, 30, 31, 32, 33, 34, 35, 36, 37, 38, 39, 40, 41] (by decide +kernel) (by decide +kernel)
set_option maxRecDepth 20000 in
theorem gX8_readsStand_X8_isNext : GoodIn wsX8_readsStand (wsV RX8 171 RX8 yX8_isNext wsX8_isNext) := goodIn_app (goodIn_of _ (by decide +kernel)) ggX8_readsStand_X8_isNext
theorem dX8_readsStand_0 : decode cX8_readsStand 0 = .ok (.aload_n 0, 1) := by decide +kernel
theorem dX8_readsStand_1 : decode cX8_readsStand 1 = .ok (.aload_n 0, 1) := by decide +kernel
theorem dX8_readsStand_2 : decode cX8_readsStand 2 = .ok (.invokevirtual 165, 3) := by decide +kernel
theorem dX8_readsStand_5 : decode cX8_readsStand 5 = .ok (.putfield 168, 3) := by decide +kernel
theorem dX8_readsStand_8 : decode cX8_readsStand 8 = .ok (.aload_n 0, 1) := by decide +kernel
theorem dX8_readsStand_9 : decode cX8_readsStand 9 = .ok (.aload_n 0, 1) := by decide +kernel
theorem dX8_readsStand_10 : decode cX8_readsStand 10 = .ok (.getfield 168, 3) := by decide +kernel
theorem dX8_readsStand_13 : decode cX8_readsStand 13 = .ok (.ifCond .lt 19, 3) := by decide +kernel
theorem dX8_readsStand_16 : decode cX8_readsStand 16 = .ok (.aload_n 0, 1) := by decide +kernel
theorem dX8_readsStand_17 : decode cX8_readsStand 17 = .ok (.bipush 44, 2) := by decide +kernel
theorem dX8_readsStand_19 : decode cX8_readsStand 19 = .ok (.invokevirtual 171, 3) := by decide +kernel
theorem dX8_readsStand_22 : decode cX8_readsStand 22 = .ok (.ifCond .eq 10, 3) := by decide +kernel
theorem dX8_readsStand_25 : decode cX8_readsStand 25 = .ok (.aload_n 0, 1) := by decide +kernel
theorem dX8_readsStand_26 : decode cX8_readsStand 26 = .ok (.invokevirtual 165, 3) := by decide +kernel
theorem dX8_readsStand_29 : decode cX8_readsStand 29 = .ok (.goto 4, 3) := by decide +kernel
theorem dX8_readsStand_32 : decode cX8_readsStand 32 = .ok (.iconst (-1), 1) := by decide +kernel
theorem dX8_readsStand_33 : decode cX8_readsStand 33 = .ok (.putfield 174, 3) := by decide +kernel
theorem dX8_readsStand_36 : decode cX8_readsStand 36 = .ok (.aload_n 0, 1) := by decide +kernel
theorem dX8_readsStand_37 : decode cX8_readsStand 37 = .ok (.aload_n 0, 1) := by decide +kernel
theorem dX8_readsStand_38 : decode cX8_readsStand 38 = .ok (.getfield 174, 3) := by decide +kernel
theorem dX8_readsStand_41 : decode cX8_readsStand 41 = .ok (.ifCond .lt 19, 3) := by decide +kernel
theorem dX8_readsStand_44 : decode cX8_readsStand 44 = .ok (.aload_n 0, 1) := by decide +kernel
theorem dX8_readsStand_45 : decode cX8_readsStand 45 = .ok (.bipush 44, 2) := by decide +kernel
theorem dX8_readsStand_47 : decode cX8_readsStand 47 = .ok (.invokevirtual 171, 3) := by decide +kernel
theorem dX8_readsStand_50 : decode cX8_readsStand 50 = .ok (.ifCond .eq 10, 3) := by decide +kernel
theorem dX8_readsStand_53 : decode cX8_readsStand 53 = .ok (.aload_n 0, 1) := by decide +kernel
theorem dX8_readsStand_54 : decode cX8_readsStand 54 = .ok (.invokevirtual 165, 3) := by decide +kernel
theorem dX8_readsStand_57 : decode cX8_readsStand 57 = .ok (.goto 4, 3) := by decide +kernel
theorem dX8_readsStand_60 : decode cX8_readsStand 60 = .ok (.iconst (-1), 1) := by decide +kernel
theorem dX8_readsStand_61 : decode cX8_readsStand 61 = .ok (.putfield 177, 3) := by decide +kernel
theorem dX8_readsStand_64 : decode cX8_readsStand 64 = .ok (.aload_n 0, 1) := by decide +kernel
theorem dX8_readsStand_65 : decode cX8_readsStand 65 = .ok (.aload_n 0, 1) := by decide +kernel
theorem dX8_readsStand_66 : decode cX8_readsStand 66 = .ok (.getfield 177, 3) := by decide +kernel
theorem dX8_readsStand_69 : decode cX8_readsStand 69 = .ok (.ifCond .lt 19, 3) := by decide +kernel
theorem dX8_readsStand_72 : decode cX8_readsStand 72 = .ok (.aload_n 0, 1) := by decide +kernel
theorem dX8_readsStand_73 : decode cX8_readsStand 73 = .ok (.bipush 94, 2) := by decide +kernel
theorem dX8_readsStand_75 : decode cX8_readsStand 75 = .ok (.invokevirtual 171, 3) := by decide +kernel
theorem dX8_readsStand_78 : decode cX8_readsStand 78 = .ok (.ifCond .eq 10, 3) := by decide +kernel
theorem dX8_readsStand_81 : decode cX8_readsStand 81 = .ok (.aload_n 0, 1) := by decide +kernel
theorem dX8_readsStand_82 : decode cX8_readsStand 82 = .ok (.invokevirtual 165, 3) := by decide +kernel
theorem dX8_readsStand_85 : decode cX8_readsStand 85 = .ok (.goto 5, 3) := by decide +kernel
theorem dX8_readsStand_88 : decode cX8_readsStand 88 = .ok (.bipush (-6), 2) := by decide +kernel
theorem dX8_readsStand_90 : decode cX8_readsStand 90 = .ok (.putfield 180, 3) := by decide +kernel
theorem dX8_readsStand_93 : decode cX8_readsStand 93 = .ok (.aload_n 0, 1) := by decide +kernel
theorem dX8_readsStand_94 : decode cX8_readsStand 94 = .ok (.getfield 177, 3) := by decide +kernel
theorem dX8_readsStand_97 : decode cX8_readsStand 97 = .ok (.ifCond .lt 15, 3) := by decide +kernel
theorem dX8_readsStand_100 : decode cX8_readsStand 100 = .ok (.aload_n 0, 1) := by decide +kernel
theorem dX8_readsStand_101 : decode cX8_readsStand 101 = .ok (.getfield 180, 3) := by decide +kernel
theorem dX8_readsStand_104 : decode cX8_readsStand 104 = .ok (.iconst (-1), 1) := by decide +kernel
theorem dX8_readsStand_105 : decode cX8_readsStand 105 = .ok (.if_icmp .eq 7, 3) := by decide +kernel
theorem dX8_readsStand_108 : decode cX8_readsStand 108 = .ok (.iconst 1, 1) := by decide +kernel
theorem dX8_readsStand_109 : decode cX8_readsStand 109 = .ok (.goto 4, 3) := by decide +kernel
theorem dX8_readsStand_112 : decode cX8_readsStand 112 = .ok (.iconst 0, 1) := by decide +kernel
theorem dX8_readsStand_113 : decode cX8_readsStand 113 = .ok (.ireturn, 1) := by decide +kernel
set_option maxRecDepth 20000 in
theorem ggX8_readsOrder_X8_character : GoodIn wsX8_readsOrder wsX8_character := goodIn_r _ [9, 10, 11, 33, 34, 35, 36, 37, 38, 39, 40, 41, 42, 43, 44, 45, 46] (by decide +kernel) (by decide +kernel)
set_option maxRecDepth 20000 in
theorem gX8_readsOrder_X8_character : GoodIn wsX8_readsOrder (wsV RX8 159 RX8 yX8_character wsX8_character) := goodIn_app (goodIn_of _ (by decide +kernel)) ggX8_readsOrder_X8_character
set_option maxRecDepth 20000 in
theorem ggX8_readsOrder_X8_readsStand : GoodIn wsX8_readsOrder wsX8_readsStand := goodIn_r _ [15, 3, 4, 16, 17, 18, 19, 20, 8, 21, 1, 22, 23, 24, 25, 5, 6, 7, 9, 10, 11, 26, 27, 28, 29, 30, 31, 32, 33, 34, 35, 36, 37, 38, 39, 40, 41, 42, 43, 44, 45, 46] (by decide +kernel) (by decide +kernel)
set_option maxRecDepth 20000 in
theorem gX8_readsOrder_X8_readsStand : GoodIn wsX8_readsOrder (wsV RX8 186 RX8 yX8_readsStand wsX8_readsStand) := goodIn_app (goodIn_of _ (by decide +kernel)) ggX8_readsOrder_X8_readsStand
set_option maxRecDepth 20000 in
theorem ggX8_readsOrder_X8_takeDigit : GoodIn wsX8_readsOrder wsX8_takeDigit := goodIn_r _ [25, 1, 5, 6, 7, 8, 9, 10, 11, 26, 27, 28, 33, 34, 35, 36, 37, 38, 39, 40, 41, 42, 43, 44, 45, 46] (by decide +kernel) (by decide +kernel)
set_option maxRecDepth 20000 in
theorem gX8_readsOrder_X8_takeDigit : GoodIn wsX8_readsOrder (wsV RX8 162 RX8 yX8_takeDigit wsX8_takeDigit) := goodIn_app (goodIn_of _ (by decide +kernel)) ggX8_readsOrder_X8_takeDigit
set_option maxRecDepth 20000 in
theorem ggX8_readsOrder_X8_isNext : GoodIn wsX8_readsOrder wsX8_isNext := goodIn_r _ [32, 1, 5, 6, 7, 8, 9, 10, 11, 33, 34, 35, 36, 37, 38, 39, 40, 41, 42, 43, 44, 45, 46] (by decide +kernel) (by decide +kernel)
set_option maxRecDepth 20000 in
theorem gX8_readsOrder_X8_isNext : GoodIn wsX8_readsOrder (wsV RX8 171 RX8 yX8_isNext wsX8_isNext) := goodIn_app (goodIn_of _ (by decide +kernel)) ggX8_readsOrder_X8_isNext
set_option maxRecDepth 20000 in
theorem ggX8_readsOrder_X8_takeNumber : GoodIn wsX8_readsOrder wsX8_takeNumber := goodIn_r _ [21, 1, 22, 23, 24, 8, 25, 5, 6, 7, 9, 10, 11, 26, 27, 28, 33, 34, 35, 36, 37, 38, 39, 40, 41, 42, 43, 44, 45, 46] (by decide +kernel) (by decide +kernel)
set_option maxRecDepth 20000 in
theorem gX8_readsOrder_X8_takeNumber : GoodIn wsX8_readsOrder (wsV RX8 165 RX8 yX8_takeNumber wsX8_takeNumber) := goodIn_app (goodIn_of _ (by decide +kernel)) ggX8_readsOrder_X8_takeNumber
theorem dX8_readsOrder_0 : decode cX8_readsOrder 0 = .ok (.aload_n 0, 1) := by decide +kernel
theorem dX8_readsOrder_1 : decode cX8_readsOrder 1 = .ok (.aload_n 0, 1) := by decide +kernel
theorem dX8_readsOrder_2 : decode cX8_readsOrder 2 = .ok (.aload_n 0, 1) := by decide +kernel
theorem dX8_readsOrder_3 : decode cX8_readsOrder 3 = .ok (.getfield 156, 3) := by decide +kernel
theorem dX8_readsOrder_6 : decode cX8_readsOrder 6 = .ok (.invokevirtual 159, 3) := by decide +kernel
theorem dX8_readsOrder_9 : decode cX8_readsOrder 9 = .ok (.putfield 183, 3) := by decide +kernel
theorem dX8_readsOrder_12 : decode cX8_readsOrder 12 = .ok (.aload_n 0, 1) := by decide +kernel
theorem dX8_readsOrder_13 : decode cX8_readsOrder 13 = .ok (.dup, 1) := by decide +kernel
theorem dX8_readsOrder_14 : decode cX8_readsOrder 14 = .ok (.getfield 156, 3) := by decide +kernel
theorem dX8_readsOrder_17 : decode cX8_readsOrder 17 = .ok (.iconst 1, 1) := by decide +kernel
theorem dX8_readsOrder_18 : decode cX8_readsOrder 18 = .ok (.iadd, 1) := by decide +kernel
theorem dX8_readsOrder_19 : decode cX8_readsOrder 19 = .ok (.putfield 156, 3) := by decide +kernel
theorem dX8_readsOrder_22 : decode cX8_readsOrder 22 = .ok (.aload_n 0, 1) := by decide +kernel
theorem dX8_readsOrder_23 : decode cX8_readsOrder 23 = .ok (.getfield 183, 3) := by decide +kernel
theorem dX8_readsOrder_26 : decode cX8_readsOrder 26 = .ok (.lookupswitch 128 #[(43, 50), (99, 55), (100, 105), (101, 126), (116, 105)], 50) := by decide +kernel
theorem dX8_readsOrder_76 : decode cX8_readsOrder 76 = .ok (.aload_n 0, 1) := by decide +kernel
theorem dX8_readsOrder_77 : decode cX8_readsOrder 77 = .ok (.invokevirtual 186, 3) := by decide +kernel
theorem dX8_readsOrder_80 : decode cX8_readsOrder 80 = .ok (.ireturn, 1) := by decide +kernel
theorem dX8_readsOrder_81 : decode cX8_readsOrder 81 = .ok (.aload_n 0, 1) := by decide +kernel
theorem dX8_readsOrder_82 : decode cX8_readsOrder 82 = .ok (.aload_n 0, 1) := by decide +kernel
theorem dX8_readsOrder_83 : decode cX8_readsOrder 83 = .ok (.iconst 1, 1) := by decide +kernel
theorem dX8_readsOrder_84 : decode cX8_readsOrder 84 = .ok (.invokevirtual 162, 3) := by decide +kernel
theorem dX8_readsOrder_87 : decode cX8_readsOrder 87 = .ok (.putfield 168, 3) := by decide +kernel
theorem dX8_readsOrder_90 : decode cX8_readsOrder 90 = .ok (.aload_n 0, 1) := by decide +kernel
theorem dX8_readsOrder_91 : decode cX8_readsOrder 91 = .ok (.aload_n 0, 1) := by decide +kernel
theorem dX8_readsOrder_92 : decode cX8_readsOrder 92 = .ok (.getfield 168, 3) := by decide +kernel
theorem dX8_readsOrder_95 : decode cX8_readsOrder 95 = .ok (.ifCond .lt 19, 3) := by decide +kernel
theorem dX8_readsOrder_98 : decode cX8_readsOrder 98 = .ok (.aload_n 0, 1) := by decide +kernel
theorem dX8_readsOrder_99 : decode cX8_readsOrder 99 = .ok (.bipush 36, 2) := by decide +kernel
theorem dX8_readsOrder_101 : decode cX8_readsOrder 101 = .ok (.invokevirtual 171, 3) := by decide +kernel
theorem dX8_readsOrder_104 : decode cX8_readsOrder 104 = .ok (.ifCond .eq 10, 3) := by decide +kernel
theorem dX8_readsOrder_107 : decode cX8_readsOrder 107 = .ok (.aload_n 0, 1) := by decide +kernel
theorem dX8_readsOrder_108 : decode cX8_readsOrder 108 = .ok (.invokevirtual 165, 3) := by decide +kernel
theorem dX8_readsOrder_111 : decode cX8_readsOrder 111 = .ok (.goto 4, 3) := by decide +kernel
theorem dX8_readsOrder_114 : decode cX8_readsOrder 114 = .ok (.iconst (-1), 1) := by decide +kernel
theorem dX8_readsOrder_115 : decode cX8_readsOrder 115 = .ok (.putfield 174, 3) := by decide +kernel
theorem dX8_readsOrder_118 : decode cX8_readsOrder 118 = .ok (.aload_n 0, 1) := by decide +kernel
theorem dX8_readsOrder_119 : decode cX8_readsOrder 119 = .ok (.getfield 174, 3) := by decide +kernel
theorem dX8_readsOrder_122 : decode cX8_readsOrder 122 = .ok (.ifCond .lt 7, 3) := by decide +kernel
theorem dX8_readsOrder_125 : decode cX8_readsOrder 125 = .ok (.iconst 1, 1) := by decide +kernel
theorem dX8_readsOrder_126 : decode cX8_readsOrder 126 = .ok (.goto 4, 3) := by decide +kernel
theorem dX8_readsOrder_129 : decode cX8_readsOrder 129 = .ok (.iconst 0, 1) := by decide +kernel
theorem dX8_readsOrder_130 : decode cX8_readsOrder 130 = .ok (.ireturn, 1) := by decide +kernel
theorem dX8_readsOrder_131 : decode cX8_readsOrder 131 = .ok (.aload_n 0, 1) := by decide +kernel
theorem dX8_readsOrder_132 : decode cX8_readsOrder 132 = .ok (.aload_n 0, 1) := by decide +kernel
theorem dX8_readsOrder_133 : decode cX8_readsOrder 133 = .ok (.invokevirtual 165, 3) := by decide +kernel
theorem dX8_readsOrder_136 : decode cX8_readsOrder 136 = .ok (.putfield 168, 3) := by decide +kernel
theorem dX8_readsOrder_139 : decode cX8_readsOrder 139 = .ok (.aload_n 0, 1) := by decide +kernel
theorem dX8_readsOrder_140 : decode cX8_readsOrder 140 = .ok (.getfield 168, 3) := by decide +kernel
theorem dX8_readsOrder_143 : decode cX8_readsOrder 143 = .ok (.ifCond .lt 7, 3) := by decide +kernel
theorem dX8_readsOrder_146 : decode cX8_readsOrder 146 = .ok (.iconst 1, 1) := by decide +kernel
theorem dX8_readsOrder_147 : decode cX8_readsOrder 147 = .ok (.goto 4, 3) := by decide +kernel
theorem dX8_readsOrder_150 : decode cX8_readsOrder 150 = .ok (.iconst 0, 1) := by decide +kernel
theorem dX8_readsOrder_151 : decode cX8_readsOrder 151 = .ok (.ireturn, 1) := by decide +kernel
theorem dX8_readsOrder_152 : decode cX8_readsOrder 152 = .ok (.iconst 1, 1) := by decide +kernel
theorem dX8_readsOrder_153 : decode cX8_readsOrder 153 = .ok (.ireturn, 1) := by decide +kernel
theorem dX8_readsOrder_154 : decode cX8_readsOrder 154 = .ok (.aload_n 0, 1) := by decide +kernel
theorem dX8_readsOrder_155 : decode cX8_readsOrder 155 = .ok (.dup, 1) := by decide +kernel
theorem dX8_readsOrder_156 : decode cX8_readsOrder 156 = .ok (.getfield 156, 3) := by decide +kernel
theorem dX8_readsOrder_159 : decode cX8_readsOrder 159 = .ok (.iconst 1, 1) := by decide +kernel
theorem dX8_readsOrder_160 : decode cX8_readsOrder 160 = .ok (.isub, 1) := by decide +kernel
theorem dX8_readsOrder_161 : decode cX8_readsOrder 161 = .ok (.putfield 156, 3) := by decide +kernel
theorem dX8_readsOrder_164 : decode cX8_readsOrder 164 = .ok (.iconst 0, 1) := by decide +kernel
theorem dX8_readsOrder_165 : decode cX8_readsOrder 165 = .ok (.ireturn, 1) := by decide +kernel
set_option maxRecDepth 20000 in
theorem ggX8_findFault_X8_readsOrder : GoodIn wsX8_findFault wsX8_readsOrder := goodIn_r _ [7, 1, 8, 9, 10, 11, 12, 13, 6, 14, 2, 15, 16, 17, 18, 19, 20, 21, 22, 23, 24, 25, 26, 27, 28, 29, 30, 31, 32, 33, 34, 35, 36, 37, 38, 39, 40, 41, 42, 43, 44, 45, 46, 47, 48, 49, 50] (by decide +kernel) (by decide +kernel)
set_option maxRecDepth 20000 in
theorem gX8_findFault_X8_readsOrder : GoodIn wsX8_findFault (wsV RX8 189 RX8 yX8_readsOrder wsX8_readsOrder) := goodIn_app (goodIn_of _ (by decide +kernel)) ggX8_findFault_X8_readsOrder
set_option maxRecDepth 20000 in
theorem ggX8_findFault_X8_isNext : GoodIn wsX8_findFault wsX8_isNext := goodIn_r _ [36, 1, 11, 12, 13, 6, 14, 2, 15, 37, 38, 39, 40, 41, 42, 43, 44, 45, 46, 47, 48, 49, 50] (by decide +kernel) (by decide +kernel)
set_option maxRecDepth 20000 in
theorem gX8_findFault_X8_isNext : GoodIn wsX8_findFault (wsV RX8 171 RX8 yX8_isNext wsX8_isNext) := goodIn_app (goodIn_of _ (by decide +kernel)) ggX8_findFault_X8_isNext
theorem dX8_findFault_0 : decode cX8_findFault 0 = .ok (.aload_n 0, 1) := by decide +kernel
theorem dX8_findFault_1 : decode cX8_findFault 1 = .ok (.iconst 0, 1) := by decide +kernel
theorem dX8_findFault_2 : decode cX8_findFault 2 = .ok (.putfield 156, 3) := by decide +kernel
theorem dX8_findFault_5 : decode cX8_findFault 5 = .ok (.aload_n 0, 1) := by decide +kernel
theorem dX8_findFault_6 : decode cX8_findFault 6 = .ok (.invokevirtual 189, 3) := by decide +kernel
theorem dX8_findFault_9 : decode cX8_findFault 9 = .ok (.ifCond .ne 8, 3) := by decide +kernel
theorem dX8_findFault_12 : decode cX8_findFault 12 = .ok (.aload_n 0, 1) := by decide +kernel
theorem dX8_findFault_13 : decode cX8_findFault 13 = .ok (.getfield 156, 3) := by decide +kernel
theorem dX8_findFault_16 : decode cX8_findFault 16 = .ok (.ireturn, 1) := by decide +kernel
theorem dX8_findFault_17 : decode cX8_findFault 17 = .ok (.aload_n 0, 1) := by decide +kernel
theorem dX8_findFault_18 : decode cX8_findFault 18 = .ok (.getfield 156, 3) := by decide +kernel
theorem dX8_findFault_21 : decode cX8_findFault 21 = .ok (.aload_n 0, 1) := by decide +kernel
theorem dX8_findFault_22 : decode cX8_findFault 22 = .ok (.getfield 141, 3) := by decide +kernel
theorem dX8_findFault_25 : decode cX8_findFault 25 = .ok (.if_icmp .ne 6, 3) := by decide +kernel
theorem dX8_findFault_28 : decode cX8_findFault 28 = .ok (.bipush (-6), 2) := by decide +kernel
theorem dX8_findFault_30 : decode cX8_findFault 30 = .ok (.ireturn, 1) := by decide +kernel
theorem dX8_findFault_31 : decode cX8_findFault 31 = .ok (.aload_n 0, 1) := by decide +kernel
theorem dX8_findFault_32 : decode cX8_findFault 32 = .ok (.bipush 59, 2) := by decide +kernel
theorem dX8_findFault_34 : decode cX8_findFault 34 = .ok (.invokevirtual 171, 3) := by decide +kernel
theorem dX8_findFault_37 : decode cX8_findFault 37 = .ok (.ifCond .ne (-32), 3) := by decide +kernel
theorem dX8_findFault_40 : decode cX8_findFault 40 = .ok (.aload_n 0, 1) := by decide +kernel
theorem dX8_findFault_41 : decode cX8_findFault 41 = .ok (.getfield 156, 3) := by decide +kernel
theorem dX8_findFault_44 : decode cX8_findFault 44 = .ok (.ireturn, 1) := by decide +kernel
set_option maxRecDepth 20000 in
theorem ggX8_fault_X8_findFault : GoodIn wsX8_fault wsX8_findFault := goodIn_r _ [5, 6, 7, 8, 9, 10, 4, 11, 12, 13, 14, 15, 16, 17, 18, 19, 20, 21, 22, 23, 24, 25, 26, 27, 28, 29, 30, 31, 32, 33, 34, 35, 36, 37, 38, 39, 40, 41, 42, 43, 44, 45, 46, 47, 48, 49, 50, 51, 52, 53, 54] (by decide +kernel) (by decide +kernel)
set_option maxRecDepth 20000 in
theorem gX8_fault_X8_findFault : GoodIn wsX8_fault (wsV RX8 192 RX8 yX8_findFault wsX8_findFault) := goodIn_app (goodIn_of _ (by decide +kernel)) ggX8_fault_X8_findFault
theorem dX8_fault_0 : decode cX8_fault 0 = .ok (.aload_n 0, 1) := by decide +kernel
theorem dX8_fault_1 : decode cX8_fault 1 = .ok (.invokevirtual 192, 3) := by decide +kernel
theorem dX8_fault_4 : decode cX8_fault 4 = .ok (.ireturn, 1) := by decide +kernel
set_option maxRecDepth 20000 in
theorem ggX8_whyNotDone_X8_whyNoStand : GoodIn wsX8_whyNotDone wsX8_whyNoStand := goodIn_r _ [11, 6, 12, 13, 10, 14, 15, 16, 17, 18, 19, 20, 21, 22, 23, 24, 25, 26, 38, 39, 40, 41, 42, 43, 44, 45, 46, 47, 48, 49, 50, 51] (by decide +kernel) (by decide +kernel)
set_option maxRecDepth 20000 in
theorem gX8_whyNotDone_X8_whyNoStand : GoodIn wsX8_whyNotDone (wsV RX8 104 RX8 yX8_whyNoStand wsX8_whyNoStand) := goodIn_app (goodIn_of _ (by decide +kernel)) ggX8_whyNotDone_X8_whyNoStand
set_option maxRecDepth 20000 in
theorem ggX8_whyNotDone_X8_whyNoCrew : GoodIn wsX8_whyNotDone wsX8_whyNoCrew := goodIn_r _ [30, 6, 12, 13, 10, 14, 38, 39, 40, 41, 42, 43, 44, 45, 46, 47, 48, 49, 50, 51] (by decide +kernel) (by decide +kernel)
set_option maxRecDepth 20000 in
theorem gX8_whyNotDone_X8_whyNoCrew : GoodIn wsX8_whyNotDone (wsV RX8 111 RX8 yX8_whyNoCrew wsX8_whyNoCrew) := goodIn_app (goodIn_of _ (by decide +kernel)) ggX8_whyNotDone_X8_whyNoCrew
set_option maxRecDepth 20000 in
theorem ggX8_whyNotDone_X8_isValue : GoodIn wsX8_whyNotDone wsX8_isValue := goodIn_r _ [33, 12, 13, 10, 14] (by decide +kernel) (by decide +kernel)
set_option maxRecDepth 20000 in
theorem gX8_whyNotDone_X8_isValue : GoodIn wsX8_whyNotDone (va_wsS RX8 95 yX8_isValue wsX8_isValue) := goodIn_app (goodIn_of _ (by decide +kernel)) ggX8_whyNotDone_X8_isValue
set_option maxRecDepth 20000 in
theorem ggX8_whyNotDone_X8_whyNotPassed : GoodIn wsX8_whyNotDone wsX8_whyNotPassed := goodIn_r _ [37, 6, 12, 13, 10, 14, 38, 39, 40, 41, 42, 43, 44, 45, 46, 47, 48, 49, 50, 51] (by decide +kernel) (by decide +kernel)
set_option maxRecDepth 20000 in
theorem gX8_whyNotDone_X8_whyNotPassed : GoodIn wsX8_whyNotDone (wsV RX8 120 RX8 yX8_whyNotPassed wsX8_whyNotPassed) := goodIn_app (goodIn_of _ (by decide +kernel)) ggX8_whyNotDone_X8_whyNotPassed
theorem dX8_whyNotDone_0 : decode cX8_whyNotDone 0 = .ok (.aload_n 0, 1) := by decide +kernel
theorem dX8_whyNotDone_1 : decode cX8_whyNotDone 1 = .ok (.getfield 183, 3) := by decide +kernel
theorem dX8_whyNotDone_4 : decode cX8_whyNotDone 4 = .ok (.lookupswitch 105 #[(43, 44), (99, 65), (100, 78), (116, 96)], 44) := by decide +kernel
theorem dX8_whyNotDone_48 : decode cX8_whyNotDone 48 = .ok (.aload_n 0, 1) := by decide +kernel
theorem dX8_whyNotDone_49 : decode cX8_whyNotDone 49 = .ok (.aload_n 0, 1) := by decide +kernel
theorem dX8_whyNotDone_50 : decode cX8_whyNotDone 50 = .ok (.getfield 168, 3) := by decide +kernel
theorem dX8_whyNotDone_53 : decode cX8_whyNotDone 53 = .ok (.aload_n 0, 1) := by decide +kernel
theorem dX8_whyNotDone_54 : decode cX8_whyNotDone 54 = .ok (.getfield 174, 3) := by decide +kernel
theorem dX8_whyNotDone_57 : decode cX8_whyNotDone 57 = .ok (.aload_n 0, 1) := by decide +kernel
theorem dX8_whyNotDone_58 : decode cX8_whyNotDone 58 = .ok (.getfield 177, 3) := by decide +kernel
theorem dX8_whyNotDone_61 : decode cX8_whyNotDone 61 = .ok (.aload_n 0, 1) := by decide +kernel
theorem dX8_whyNotDone_62 : decode cX8_whyNotDone 62 = .ok (.getfield 180, 3) := by decide +kernel
theorem dX8_whyNotDone_65 : decode cX8_whyNotDone 65 = .ok (.invokevirtual 104, 3) := by decide +kernel
theorem dX8_whyNotDone_68 : decode cX8_whyNotDone 68 = .ok (.ireturn, 1) := by decide +kernel
theorem dX8_whyNotDone_69 : decode cX8_whyNotDone 69 = .ok (.aload_n 0, 1) := by decide +kernel
theorem dX8_whyNotDone_70 : decode cX8_whyNotDone 70 = .ok (.aload_n 0, 1) := by decide +kernel
theorem dX8_whyNotDone_71 : decode cX8_whyNotDone 71 = .ok (.getfield 168, 3) := by decide +kernel
theorem dX8_whyNotDone_74 : decode cX8_whyNotDone 74 = .ok (.aload_n 0, 1) := by decide +kernel
theorem dX8_whyNotDone_75 : decode cX8_whyNotDone 75 = .ok (.getfield 174, 3) := by decide +kernel
theorem dX8_whyNotDone_78 : decode cX8_whyNotDone 78 = .ok (.invokevirtual 111, 3) := by decide +kernel
theorem dX8_whyNotDone_81 : decode cX8_whyNotDone 81 = .ok (.ireturn, 1) := by decide +kernel
theorem dX8_whyNotDone_82 : decode cX8_whyNotDone 82 = .ok (.iconst 0, 1) := by decide +kernel
theorem dX8_whyNotDone_83 : decode cX8_whyNotDone 83 = .ok (.aload_n 0, 1) := by decide +kernel
theorem dX8_whyNotDone_84 : decode cX8_whyNotDone 84 = .ok (.getfield 168, 3) := by decide +kernel
theorem dX8_whyNotDone_87 : decode cX8_whyNotDone 87 = .ok (.invokestatic 95, 3) := by decide +kernel
theorem dX8_whyNotDone_90 : decode cX8_whyNotDone 90 = .ok (.ifCond .eq 7, 3) := by decide +kernel
theorem dX8_whyNotDone_93 : decode cX8_whyNotDone 93 = .ok (.iconst 0, 1) := by decide +kernel
theorem dX8_whyNotDone_94 : decode cX8_whyNotDone 94 = .ok (.goto 5, 3) := by decide +kernel
theorem dX8_whyNotDone_97 : decode cX8_whyNotDone 97 = .ok (.bipush (-2), 2) := by decide +kernel
theorem dX8_whyNotDone_99 : decode cX8_whyNotDone 99 = .ok (.ireturn, 1) := by decide +kernel
theorem dX8_whyNotDone_100 : decode cX8_whyNotDone 100 = .ok (.aload_n 0, 1) := by decide +kernel
theorem dX8_whyNotDone_101 : decode cX8_whyNotDone 101 = .ok (.aload_n 0, 1) := by decide +kernel
theorem dX8_whyNotDone_102 : decode cX8_whyNotDone 102 = .ok (.getfield 168, 3) := by decide +kernel
theorem dX8_whyNotDone_105 : decode cX8_whyNotDone 105 = .ok (.invokevirtual 120, 3) := by decide +kernel
theorem dX8_whyNotDone_108 : decode cX8_whyNotDone 108 = .ok (.ireturn, 1) := by decide +kernel
theorem dX8_whyNotDone_109 : decode cX8_whyNotDone 109 = .ok (.aload_n 0, 1) := by decide +kernel
theorem dX8_whyNotDone_110 : decode cX8_whyNotDone 110 = .ok (.getfield 7, 3) := by decide +kernel
theorem dX8_whyNotDone_113 : decode cX8_whyNotDone 113 = .ok (.bipush 6, 2) := by decide +kernel
theorem dX8_whyNotDone_115 : decode cX8_whyNotDone 115 = .ok (.iaload, 1) := by decide +kernel
theorem dX8_whyNotDone_116 : decode cX8_whyNotDone 116 = .ok (.iconst 1, 1) := by decide +kernel
theorem dX8_whyNotDone_117 : decode cX8_whyNotDone 117 = .ok (.if_icmp .ne 8, 3) := by decide +kernel
theorem dX8_whyNotDone_120 : decode cX8_whyNotDone 120 = .ok (.bipush (-5), 2) := by decide +kernel
theorem dX8_whyNotDone_122 : decode cX8_whyNotDone 122 = .ok (.goto 4, 3) := by decide +kernel
theorem dX8_whyNotDone_125 : decode cX8_whyNotDone 125 = .ok (.iconst 0, 1) := by decide +kernel
theorem dX8_whyNotDone_126 : decode cX8_whyNotDone 126 = .ok (.ireturn, 1) := by decide +kernel
set_option maxRecDepth 20000 in
theorem ggX8_does_X8_comes : GoodIn wsX8_does wsX8_comes := goodIn_r _ [11, 6, 12, 13, 14, 10, 15, 88, 89, 90, 91, 92, 93, 94, 95, 96, 97, 98, 99, 100, 101] (by decide +kernel) (by decide +kernel)
set_option maxRecDepth 20000 in
theorem gX8_does_X8_comes : GoodIn wsX8_does (wsV RX8 108 RX8 yX8_comes wsX8_comes) := goodIn_app (goodIn_of _ (by decide +kernel)) ggX8_does_X8_comes
set_option maxRecDepth 20000 in
theorem ggX8_does_X8_comesCrew : GoodIn wsX8_does wsX8_comesCrew := goodIn_r _ [19, 6, 20, 21, 22, 10, 23, 88, 89, 90, 91, 92, 93, 94, 95, 96, 97, 98, 99, 100, 101] (by decide +kernel) (by decide +kernel)
set_option maxRecDepth 20000 in
theorem gX8_does_X8_comesCrew : GoodIn wsX8_does (wsV RX8 114 RX8 yX8_comesCrew wsX8_comesCrew) := goodIn_app (goodIn_of _ (by decide +kernel)) ggX8_does_X8_comesCrew
set_option maxRecDepth 20000 in
theorem ggX8_does_X8_passes : GoodIn wsX8_does wsX8_passes := goodIn_r _ [27, 28, 29, 30, 10, 31, 6, 32, 33, 34, 35, 36, 37, 38, 39, 40, 41, 42, 43, 12, 13, 14, 15, 44, 45, 46, 47, 48, 49, 50, 51, 52, 53, 54, 55, 56, 57, 58, 59, 60, 61, 62, 63, 64, 65, 66, 67, 20, 21, 22, 23, 68, 69, 70, 71, 72, 73, 74, 75, 76, 77, 78, 79, 80, 81, 82, 83, 88, 89, 90, 91, 92, 93, 94, 95, 96, 97, 98, 99, 100, 101] (by decide +kernel) (by decide +kernel)
set_option maxRecDepth 20000 in
theorem gX8_does_X8_passes : GoodIn wsX8_does (wsV RX8 123 RX8 yX8_passes wsX8_passes) := goodIn_app (goodIn_of _ (by decide +kernel)) ggX8_does_X8_passes
set_option maxRecDepth 20000 in
theorem ggX8_does_X8_ends : GoodIn wsX8_does wsX8_ends := goodIn_r _ [87, 6, 40, 41, 42, 10, 43, 20, 21, 22, 23, 12, 13, 14, 15, 88, 89, 90, 91, 92, 93, 94, 95, 96, 97, 98, 99, 100, 101] (by decide +kernel) (by decide +kernel)
set_option maxRecDepth 20000 in
theorem gX8_does_X8_ends : GoodIn wsX8_does (wsV RX8 117 RX8 yX8_ends wsX8_ends) := goodIn_app (goodIn_of _ (by decide +kernel)) ggX8_does_X8_ends
theorem dX8_does_0 : decode cX8_does 0 = .ok (.aload_n 0, 1) := by decide +kernel
theorem dX8_does_1 : decode cX8_does 1 = .ok (.getfield 183, 3) := by decide +kernel
theorem dX8_does_4 : decode cX8_does 4 = .ok (.lookupswitch 109 #[(43, 44), (99, 68), (100, 84), (116, 97)], 44) := by decide +kernel
theorem dX8_does_48 : decode cX8_does 48 = .ok (.aload_n 0, 1) := by decide +kernel
theorem dX8_does_49 : decode cX8_does 49 = .ok (.aload_n 0, 1) := by decide +kernel
theorem dX8_does_50 : decode cX8_does 50 = .ok (.getfield 168, 3) := by decide +kernel
theorem dX8_does_53 : decode cX8_does 53 = .ok (.aload_n 0, 1) := by decide +kernel
theorem dX8_does_54 : decode cX8_does 54 = .ok (.getfield 174, 3) := by decide +kernel
theorem dX8_does_57 : decode cX8_does 57 = .ok (.aload_n 0, 1) := by decide +kernel
theorem dX8_does_58 : decode cX8_does 58 = .ok (.getfield 177, 3) := by decide +kernel
theorem dX8_does_61 : decode cX8_does 61 = .ok (.aload_n 0, 1) := by decide +kernel
theorem dX8_does_62 : decode cX8_does 62 = .ok (.getfield 180, 3) := by decide +kernel
theorem dX8_does_65 : decode cX8_does 65 = .ok (.invokevirtual 108, 3) := by decide +kernel
theorem dX8_does_68 : decode cX8_does 68 = .ok (.pop, 1) := by decide +kernel
theorem dX8_does_69 : decode cX8_does 69 = .ok (.goto 49, 3) := by decide +kernel
theorem dX8_does_72 : decode cX8_does 72 = .ok (.aload_n 0, 1) := by decide +kernel
theorem dX8_does_73 : decode cX8_does 73 = .ok (.aload_n 0, 1) := by decide +kernel
theorem dX8_does_74 : decode cX8_does 74 = .ok (.getfield 168, 3) := by decide +kernel
theorem dX8_does_77 : decode cX8_does 77 = .ok (.aload_n 0, 1) := by decide +kernel
theorem dX8_does_78 : decode cX8_does 78 = .ok (.getfield 174, 3) := by decide +kernel
theorem dX8_does_81 : decode cX8_does 81 = .ok (.invokevirtual 114, 3) := by decide +kernel
theorem dX8_does_84 : decode cX8_does 84 = .ok (.pop, 1) := by decide +kernel
theorem dX8_does_85 : decode cX8_does 85 = .ok (.goto 33, 3) := by decide +kernel
theorem dX8_does_88 : decode cX8_does 88 = .ok (.aload_n 0, 1) := by decide +kernel
theorem dX8_does_89 : decode cX8_does 89 = .ok (.getfield 7, 3) := by decide +kernel
theorem dX8_does_92 : decode cX8_does 92 = .ok (.iconst 0, 1) := by decide +kernel
theorem dX8_does_93 : decode cX8_does 93 = .ok (.aload_n 0, 1) := by decide +kernel
theorem dX8_does_94 : decode cX8_does 94 = .ok (.getfield 168, 3) := by decide +kernel
theorem dX8_does_97 : decode cX8_does 97 = .ok (.iastore, 1) := by decide +kernel
theorem dX8_does_98 : decode cX8_does 98 = .ok (.goto 20, 3) := by decide +kernel
theorem dX8_does_101 : decode cX8_does 101 = .ok (.aload_n 0, 1) := by decide +kernel
theorem dX8_does_102 : decode cX8_does 102 = .ok (.aload_n 0, 1) := by decide +kernel
theorem dX8_does_103 : decode cX8_does 103 = .ok (.getfield 168, 3) := by decide +kernel
theorem dX8_does_106 : decode cX8_does 106 = .ok (.invokevirtual 123, 3) := by decide +kernel
theorem dX8_does_109 : decode cX8_does 109 = .ok (.pop, 1) := by decide +kernel
theorem dX8_does_110 : decode cX8_does 110 = .ok (.goto 8, 3) := by decide +kernel
theorem dX8_does_113 : decode cX8_does 113 = .ok (.aload_n 0, 1) := by decide +kernel
theorem dX8_does_114 : decode cX8_does 114 = .ok (.invokevirtual 117, 3) := by decide +kernel
theorem dX8_does_117 : decode cX8_does 117 = .ok (.pop, 1) := by decide +kernel
theorem dX8_does_118 : decode cX8_does 118 = .ok (.return_, 1) := by decide +kernel
set_option maxRecDepth 20000 in
theorem ggX8_carryOut_X8_findFault : GoodIn wsX8_carryOut wsX8_findFault := goodIn_r _ [7, 1, 2, 8, 9, 10, 6, 11, 12, 13, 14, 15, 16, 17, 18, 19, 20, 21, 22, 23, 24, 25, 26, 27, 28, 29, 30, 31, 32, 33, 34, 35, 36, 37, 38, 39, 40, 158, 159, 160, 161, 162, 163, 164, 165, 166, 167, 168, 169, 170, 171] (by decide +kernel) (by decide +kernel)
set_option maxRecDepth 20000 in
theorem gX8_carryOut_X8_findFault : GoodIn wsX8_carryOut (wsV RX8 192 RX8 yX8_findFault wsX8_findFault) := goodIn_app (goodIn_of _ (by decide +kernel)) ggX8_carryOut_X8_findFault
set_option maxRecDepth 20000 in
theorem ggX8_carryOut_X8_record : GoodIn wsX8_carryOut wsX8_record := goodIn_r _ [44, 45, 46, 47, 48, 49, 6, 50, 158, 159, 160, 161, 162, 163, 164, 165, 166, 167, 168, 169, 170, 171] (by decide +kernel) (by decide +kernel)
set_option maxRecDepth 20000 in
theorem gX8_carryOut_X8_record : GoodIn wsX8_carryOut (wsV RX8 98 RX8 yX8_record wsX8_record) := goodIn_app (goodIn_of _ (by decide +kernel)) ggX8_carryOut_X8_record
set_option maxRecDepth 20000 in
theorem ggX8_carryOut_X8_readsOrder : GoodIn wsX8_carryOut wsX8_readsOrder := goodIn_r _ [11, 1, 12, 13, 14, 15, 16, 17, 6, 18, 2, 19, 20, 21, 22, 23, 24, 25, 26, 27, 28, 29, 30, 31, 32, 33, 34, 35, 36, 37, 38, 39, 40, 158, 159, 160, 161, 162, 163, 164, 165, 166, 167, 168, 169, 170, 171] (by decide +kernel) (by decide +kernel)
set_option maxRecDepth 20000 in
theorem gX8_carryOut_X8_readsOrder : GoodIn wsX8_carryOut (wsV RX8 189 RX8 yX8_readsOrder wsX8_readsOrder) := goodIn_app (goodIn_of _ (by decide +kernel)) ggX8_carryOut_X8_readsOrder
set_option maxRecDepth 20000 in
theorem ggX8_carryOut_X8_isNext : GoodIn wsX8_carryOut wsX8_isNext := goodIn_r _ [40, 1, 15, 16, 17, 6, 18, 2, 19, 158, 159, 160, 161, 162, 163, 164, 165, 166, 167, 168, 169, 170, 171] (by decide +kernel) (by decide +kernel)
set_option maxRecDepth 20000 in
theorem gX8_carryOut_X8_isNext : GoodIn wsX8_carryOut (wsV RX8 171 RX8 yX8_isNext wsX8_isNext) := goodIn_app (goodIn_of _ (by decide +kernel)) ggX8_carryOut_X8_isNext
set_option maxRecDepth 20000 in
theorem ggX8_carryOut_X8_whyNotDone : GoodIn wsX8_carryOut wsX8_whyNotDone := goodIn_r _ [54, 12, 13, 14, 24, 25, 47, 55, 56, 57, 6, 58, 34, 35, 36, 59, 60, 61, 62, 63, 64, 65, 66, 67, 68, 69, 70, 71, 72, 73, 74, 75, 76, 77, 78, 79, 80, 81, 158, 159, 160, 161, 162, 163, 164, 165, 166, 167, 168, 169, 170, 171] (by decide +kernel) (by decide +kernel)
set_option maxRecDepth 20000 in
theorem gX8_carryOut_X8_whyNotDone : GoodIn wsX8_carryOut (wsV RX8 195 RX8 yX8_whyNotDone wsX8_whyNotDone) := goodIn_app (goodIn_of _ (by decide +kernel)) ggX8_carryOut_X8_whyNotDone
set_option maxRecDepth 20000 in
theorem ggX8_carryOut_X8_does : GoodIn wsX8_carryOut wsX8_does := goodIn_r _ [85, 12, 13, 14, 24, 25, 47, 86, 87, 88, 6, 89, 90, 91, 92, 93, 94, 95, 96, 97, 98, 99, 100, 101, 102, 103, 104, 105, 106, 107, 108, 109, 110, 111, 112, 113, 63, 64, 65, 66, 67, 68, 69, 70, 114, 115, 116, 117, 118, 119, 120, 121, 122, 123, 124, 125, 126, 127, 128, 129, 130, 131, 132, 133, 134, 135, 136, 137, 138, 139, 140, 141, 142, 143, 144, 145, 146, 147, 148, 149, 150, 151, 152, 153, 154, 155, 156, 157, 158, 159, 160, 161, 162, 163, 164, 165, 166, 167, 168, 169, 170, 171] (by decide +kernel) (by decide +kernel)
set_option maxRecDepth 20000 in
theorem gX8_carryOut_X8_does : GoodIn wsX8_carryOut (wsV RX8 198 RX8 yX8_does wsX8_does) := goodIn_app (goodIn_of _ (by decide +kernel)) ggX8_carryOut_X8_does
theorem dX8_carryOut_0 : decode cX8_carryOut 0 = .ok (.aload_n 0, 1) := by decide +kernel
theorem dX8_carryOut_1 : decode cX8_carryOut 1 = .ok (.invokevirtual 192, 3) := by decide +kernel
theorem dX8_carryOut_4 : decode cX8_carryOut 4 = .ok (.bipush (-6), 2) := by decide +kernel
theorem dX8_carryOut_6 : decode cX8_carryOut 6 = .ok (.if_icmp .eq 6, 3) := by decide +kernel
theorem dX8_carryOut_9 : decode cX8_carryOut 9 = .ok (.bipush (-3), 2) := by decide +kernel
theorem dX8_carryOut_11 : decode cX8_carryOut 11 = .ok (.ireturn, 1) := by decide +kernel
theorem dX8_carryOut_12 : decode cX8_carryOut 12 = .ok (.aload_n 0, 1) := by decide +kernel
theorem dX8_carryOut_13 : decode cX8_carryOut 13 = .ok (.invokevirtual 98, 3) := by decide +kernel
theorem dX8_carryOut_16 : decode cX8_carryOut 16 = .ok (.iconst 0, 1) := by decide +kernel
theorem dX8_carryOut_17 : decode cX8_carryOut 17 = .ok (.istore_n 1, 1) := by decide +kernel
theorem dX8_carryOut_18 : decode cX8_carryOut 18 = .ok (.aload_n 0, 1) := by decide +kernel
theorem dX8_carryOut_19 : decode cX8_carryOut 19 = .ok (.iconst 0, 1) := by decide +kernel
theorem dX8_carryOut_20 : decode cX8_carryOut 20 = .ok (.putfield 156, 3) := by decide +kernel
theorem dX8_carryOut_23 : decode cX8_carryOut 23 = .ok (.iconst 1, 1) := by decide +kernel
theorem dX8_carryOut_24 : decode cX8_carryOut 24 = .ok (.istore_n 2, 1) := by decide +kernel
theorem dX8_carryOut_25 : decode cX8_carryOut 25 = .ok (.iload_n 2, 1) := by decide +kernel
theorem dX8_carryOut_26 : decode cX8_carryOut 26 = .ok (.ifCond .eq 53, 3) := by decide +kernel
theorem dX8_carryOut_29 : decode cX8_carryOut 29 = .ok (.aload_n 0, 1) := by decide +kernel
theorem dX8_carryOut_30 : decode cX8_carryOut 30 = .ok (.getfield 156, 3) := by decide +kernel
theorem dX8_carryOut_33 : decode cX8_carryOut 33 = .ok (.aload_n 0, 1) := by decide +kernel
theorem dX8_carryOut_34 : decode cX8_carryOut 34 = .ok (.getfield 141, 3) := by decide +kernel
theorem dX8_carryOut_37 : decode cX8_carryOut 37 = .ok (.if_icmp .ge 42, 3) := by decide +kernel
theorem dX8_carryOut_40 : decode cX8_carryOut 40 = .ok (.aload_n 0, 1) := by decide +kernel
theorem dX8_carryOut_41 : decode cX8_carryOut 41 = .ok (.invokevirtual 189, 3) := by decide +kernel
theorem dX8_carryOut_44 : decode cX8_carryOut 44 = .ok (.pop, 1) := by decide +kernel
theorem dX8_carryOut_45 : decode cX8_carryOut 45 = .ok (.aload_n 0, 1) := by decide +kernel
theorem dX8_carryOut_46 : decode cX8_carryOut 46 = .ok (.bipush 59, 2) := by decide +kernel
theorem dX8_carryOut_48 : decode cX8_carryOut 48 = .ok (.invokevirtual 171, 3) := by decide +kernel
theorem dX8_carryOut_51 : decode cX8_carryOut 51 = .ok (.pop, 1) := by decide +kernel
theorem dX8_carryOut_52 : decode cX8_carryOut 52 = .ok (.aload_n 0, 1) := by decide +kernel
theorem dX8_carryOut_53 : decode cX8_carryOut 53 = .ok (.invokevirtual 195, 3) := by decide +kernel
theorem dX8_carryOut_56 : decode cX8_carryOut 56 = .ok (.ifCond .ne 7, 3) := by decide +kernel
theorem dX8_carryOut_59 : decode cX8_carryOut 59 = .ok (.iconst 1, 1) := by decide +kernel
theorem dX8_carryOut_60 : decode cX8_carryOut 60 = .ok (.goto 4, 3) := by decide +kernel
theorem dX8_carryOut_63 : decode cX8_carryOut 63 = .ok (.iconst 0, 1) := by decide +kernel
theorem dX8_carryOut_64 : decode cX8_carryOut 64 = .ok (.istore_n 2, 1) := by decide +kernel
theorem dX8_carryOut_65 : decode cX8_carryOut 65 = .ok (.iload_n 2, 1) := by decide +kernel
theorem dX8_carryOut_66 : decode cX8_carryOut 66 = .ok (.ifCond .eq (-41), 3) := by decide +kernel
theorem dX8_carryOut_69 : decode cX8_carryOut 69 = .ok (.aload_n 0, 1) := by decide +kernel
theorem dX8_carryOut_70 : decode cX8_carryOut 70 = .ok (.invokevirtual 198, 3) := by decide +kernel
theorem dX8_carryOut_73 : decode cX8_carryOut 73 = .ok (.iinc 1 1, 3) := by decide +kernel
theorem dX8_carryOut_76 : decode cX8_carryOut 76 = .ok (.goto (-51), 3) := by decide +kernel
theorem dX8_carryOut_79 : decode cX8_carryOut 79 = .ok (.aload_n 0, 1) := by decide +kernel
theorem dX8_carryOut_80 : decode cX8_carryOut 80 = .ok (.iconst 0, 1) := by decide +kernel
theorem dX8_carryOut_81 : decode cX8_carryOut 81 = .ok (.putfield 141, 3) := by decide +kernel
theorem dX8_carryOut_84 : decode cX8_carryOut 84 = .ok (.iload_n 1, 1) := by decide +kernel
theorem dX8_carryOut_85 : decode cX8_carryOut 85 = .ok (.ireturn, 1) := by decide +kernel
set_option maxRecDepth 20000 in
theorem ggX8_undo_X8_moves : GoodIn wsX8_undo wsX8_moves := goodIn_r _ [7] (by decide +kernel) (by decide +kernel)
set_option maxRecDepth 20000 in
theorem gX8_undo_X8_moves : GoodIn wsX8_undo (va_wsS RX8 32 yX8_moves wsX8_moves) := goodIn_app (goodIn_of _ (by decide +kernel)) ggX8_undo_X8_moves
theorem dX8_undo_0 : decode cX8_undo 0 = .ok (.aload_n 0, 1) := by decide +kernel
theorem dX8_undo_1 : decode cX8_undo 1 = .ok (.getfield 28, 3) := by decide +kernel
theorem dX8_undo_4 : decode cX8_undo 4 = .ok (.ifCond .ne 6, 3) := by decide +kernel
theorem dX8_undo_7 : decode cX8_undo 7 = .ok (.bipush (-5), 2) := by decide +kernel
theorem dX8_undo_9 : decode cX8_undo 9 = .ok (.ireturn, 1) := by decide +kernel
theorem dX8_undo_10 : decode cX8_undo 10 = .ok (.aload_n 0, 1) := by decide +kernel
theorem dX8_undo_11 : decode cX8_undo 11 = .ok (.dup, 1) := by decide +kernel
theorem dX8_undo_12 : decode cX8_undo 12 = .ok (.getfield 28, 3) := by decide +kernel
theorem dX8_undo_15 : decode cX8_undo 15 = .ok (.iconst 1, 1) := by decide +kernel
theorem dX8_undo_16 : decode cX8_undo 16 = .ok (.isub, 1) := by decide +kernel
theorem dX8_undo_17 : decode cX8_undo 17 = .ok (.putfield 28, 3) := by decide +kernel
theorem dX8_undo_20 : decode cX8_undo 20 = .ok (.aload_n 0, 1) := by decide +kernel
theorem dX8_undo_21 : decode cX8_undo 21 = .ok (.getfield 16, 3) := by decide +kernel
theorem dX8_undo_24 : decode cX8_undo 24 = .ok (.aload_n 0, 1) := by decide +kernel
theorem dX8_undo_25 : decode cX8_undo 25 = .ok (.getfield 28, 3) := by decide +kernel
theorem dX8_undo_28 : decode cX8_undo 28 = .ok (.sipush 250, 3) := by decide +kernel
theorem dX8_undo_31 : decode cX8_undo 31 = .ok (.imul, 1) := by decide +kernel
theorem dX8_undo_32 : decode cX8_undo 32 = .ok (.aload_n 0, 1) := by decide +kernel
theorem dX8_undo_33 : decode cX8_undo 33 = .ok (.getfield 7, 3) := by decide +kernel
theorem dX8_undo_36 : decode cX8_undo 36 = .ok (.iconst 0, 1) := by decide +kernel
theorem dX8_undo_37 : decode cX8_undo 37 = .ok (.invokestatic 32, 3) := by decide +kernel
theorem dX8_undo_40 : decode cX8_undo 40 = .ok (.aload_n 0, 1) := by decide +kernel
theorem dX8_undo_41 : decode cX8_undo 41 = .ok (.getfield 28, 3) := by decide +kernel
theorem dX8_undo_44 : decode cX8_undo 44 = .ok (.ireturn, 1) := by decide +kernel
set_option maxRecDepth 20000 in
theorem ggX8_save_X8_within : GoodIn wsX8_save wsX8_within := goodIn_r _ [7] (by decide +kernel) (by decide +kernel)
set_option maxRecDepth 20000 in
theorem gX8_save_X8_within : GoodIn wsX8_save (va_wsS RX8 36 yX8_within wsX8_within) := goodIn_app (goodIn_of _ (by decide +kernel)) ggX8_save_X8_within
set_option maxRecDepth 20000 in
theorem ggX8_save_X8_moves : GoodIn wsX8_save wsX8_moves := goodIn_r _ [10] (by decide +kernel) (by decide +kernel)
set_option maxRecDepth 20000 in
theorem gX8_save_X8_moves : GoodIn wsX8_save (va_wsS RX8 32 yX8_moves wsX8_moves) := goodIn_app (goodIn_of _ (by decide +kernel)) ggX8_save_X8_moves
theorem dX8_save_0 : decode cX8_save 0 = .ok (.iload_n 1, 1) := by decide +kernel
theorem dX8_save_1 : decode cX8_save 1 = .ok (.iconst 0, 1) := by decide +kernel
theorem dX8_save_2 : decode cX8_save 2 = .ok (.iconst 1, 1) := by decide +kernel
theorem dX8_save_3 : decode cX8_save 3 = .ok (.invokestatic 36, 3) := by decide +kernel
theorem dX8_save_6 : decode cX8_save 6 = .ok (.ifCond .ne 6, 3) := by decide +kernel
theorem dX8_save_9 : decode cX8_save 9 = .ok (.bipush (-2), 2) := by decide +kernel
theorem dX8_save_11 : decode cX8_save 11 = .ok (.ireturn, 1) := by decide +kernel
theorem dX8_save_12 : decode cX8_save 12 = .ok (.aload_n 0, 1) := by decide +kernel
theorem dX8_save_13 : decode cX8_save 13 = .ok (.getfield 7, 3) := by decide +kernel
theorem dX8_save_16 : decode cX8_save 16 = .ok (.iconst 0, 1) := by decide +kernel
theorem dX8_save_17 : decode cX8_save 17 = .ok (.aload_n 0, 1) := by decide +kernel
theorem dX8_save_18 : decode cX8_save 18 = .ok (.getfield 19, 3) := by decide +kernel
theorem dX8_save_21 : decode cX8_save 21 = .ok (.sipush 250, 3) := by decide +kernel
theorem dX8_save_24 : decode cX8_save 24 = .ok (.iload_n 1, 1) := by decide +kernel
theorem dX8_save_25 : decode cX8_save 25 = .ok (.imul, 1) := by decide +kernel
theorem dX8_save_26 : decode cX8_save 26 = .ok (.invokestatic 32, 3) := by decide +kernel
theorem dX8_save_29 : decode cX8_save 29 = .ok (.aload_n 0, 1) := by decide +kernel
theorem dX8_save_30 : decode cX8_save 30 = .ok (.getfield 22, 3) := by decide +kernel
theorem dX8_save_33 : decode cX8_save 33 = .ok (.iload_n 1, 1) := by decide +kernel
theorem dX8_save_34 : decode cX8_save 34 = .ok (.iconst 1, 1) := by decide +kernel
theorem dX8_save_35 : decode cX8_save 35 = .ok (.iastore, 1) := by decide +kernel
theorem dX8_save_36 : decode cX8_save 36 = .ok (.aload_n 0, 1) := by decide +kernel
theorem dX8_save_37 : decode cX8_save 37 = .ok (.getfield 7, 3) := by decide +kernel
theorem dX8_save_40 : decode cX8_save 40 = .ok (.iconst 4, 1) := by decide +kernel
theorem dX8_save_41 : decode cX8_save 41 = .ok (.iaload, 1) := by decide +kernel
theorem dX8_save_42 : decode cX8_save 42 = .ok (.ireturn, 1) := by decide +kernel
set_option maxRecDepth 20000 in
theorem ggX8_restore_X8_within : GoodIn wsX8_restore wsX8_within := goodIn_r _ [7] (by decide +kernel) (by decide +kernel)
set_option maxRecDepth 20000 in
theorem gX8_restore_X8_within : GoodIn wsX8_restore (va_wsS RX8 36 yX8_within wsX8_within) := goodIn_app (goodIn_of _ (by decide +kernel)) ggX8_restore_X8_within
set_option maxRecDepth 20000 in
theorem ggX8_restore_X8_record : GoodIn wsX8_restore wsX8_record := goodIn_r _ [11, 12, 13, 3, 14, 15, 6, 16, 17, 18, 19, 20, 21, 22, 23, 24, 25, 26, 27, 28, 29, 30] (by decide +kernel) (by decide +kernel)
set_option maxRecDepth 20000 in
theorem gX8_restore_X8_record : GoodIn wsX8_restore (wsV RX8 98 RX8 yX8_record wsX8_record) := goodIn_app (goodIn_of _ (by decide +kernel)) ggX8_restore_X8_record
set_option maxRecDepth 20000 in
theorem ggX8_restore_X8_moves : GoodIn wsX8_restore wsX8_moves := goodIn_r _ [16] (by decide +kernel) (by decide +kernel)
set_option maxRecDepth 20000 in
theorem gX8_restore_X8_moves : GoodIn wsX8_restore (va_wsS RX8 32 yX8_moves wsX8_moves) := goodIn_app (goodIn_of _ (by decide +kernel)) ggX8_restore_X8_moves
theorem dX8_restore_0 : decode cX8_restore 0 = .ok (.iload_n 1, 1) := by decide +kernel
theorem dX8_restore_1 : decode cX8_restore 1 = .ok (.iconst 0, 1) := by decide +kernel
theorem dX8_restore_2 : decode cX8_restore 2 = .ok (.iconst 1, 1) := by decide +kernel
theorem dX8_restore_3 : decode cX8_restore 3 = .ok (.invokestatic 36, 3) := by decide +kernel
theorem dX8_restore_6 : decode cX8_restore 6 = .ok (.ifCond .ne 6, 3) := by decide +kernel
theorem dX8_restore_9 : decode cX8_restore 9 = .ok (.bipush (-2), 2) := by decide +kernel
theorem dX8_restore_11 : decode cX8_restore 11 = .ok (.ireturn, 1) := by decide +kernel
theorem dX8_restore_12 : decode cX8_restore 12 = .ok (.aload_n 0, 1) := by decide +kernel
theorem dX8_restore_13 : decode cX8_restore 13 = .ok (.getfield 22, 3) := by decide +kernel
theorem dX8_restore_16 : decode cX8_restore 16 = .ok (.iload_n 1, 1) := by decide +kernel
theorem dX8_restore_17 : decode cX8_restore 17 = .ok (.iaload, 1) := by decide +kernel
theorem dX8_restore_18 : decode cX8_restore 18 = .ok (.ifCond .ne 6, 3) := by decide +kernel
theorem dX8_restore_21 : decode cX8_restore 21 = .ok (.bipush (-5), 2) := by decide +kernel
theorem dX8_restore_23 : decode cX8_restore 23 = .ok (.ireturn, 1) := by decide +kernel
theorem dX8_restore_24 : decode cX8_restore 24 = .ok (.aload_n 0, 1) := by decide +kernel
theorem dX8_restore_25 : decode cX8_restore 25 = .ok (.invokevirtual 98, 3) := by decide +kernel
theorem dX8_restore_28 : decode cX8_restore 28 = .ok (.aload_n 0, 1) := by decide +kernel
theorem dX8_restore_29 : decode cX8_restore 29 = .ok (.getfield 19, 3) := by decide +kernel
theorem dX8_restore_32 : decode cX8_restore 32 = .ok (.sipush 250, 3) := by decide +kernel
theorem dX8_restore_35 : decode cX8_restore 35 = .ok (.iload_n 1, 1) := by decide +kernel
theorem dX8_restore_36 : decode cX8_restore 36 = .ok (.imul, 1) := by decide +kernel
theorem dX8_restore_37 : decode cX8_restore 37 = .ok (.aload_n 0, 1) := by decide +kernel
theorem dX8_restore_38 : decode cX8_restore 38 = .ok (.getfield 7, 3) := by decide +kernel
theorem dX8_restore_41 : decode cX8_restore 41 = .ok (.iconst 0, 1) := by decide +kernel
theorem dX8_restore_42 : decode cX8_restore 42 = .ok (.invokestatic 32, 3) := by decide +kernel
theorem dX8_restore_45 : decode cX8_restore 45 = .ok (.aload_n 0, 1) := by decide +kernel
theorem dX8_restore_46 : decode cX8_restore 46 = .ok (.getfield 7, 3) := by decide +kernel
theorem dX8_restore_49 : decode cX8_restore 49 = .ok (.iconst 4, 1) := by decide +kernel
theorem dX8_restore_50 : decode cX8_restore 50 = .ok (.iaload, 1) := by decide +kernel
theorem dX8_restore_51 : decode cX8_restore 51 = .ok (.ireturn, 1) := by decide +kernel
theorem dJ9_max_7cf53_0 : decode cJ9_max_7cf53 0 = .ok (.iload_n 0, 1) := by decide +kernel
theorem dJ9_max_7cf53_1 : decode cJ9_max_7cf53 1 = .ok (.iload_n 1, 1) := by decide +kernel
theorem dJ9_max_7cf53_2 : decode cJ9_max_7cf53 2 = .ok (.if_icmp .lt 7, 3) := by decide +kernel
theorem dJ9_max_7cf53_5 : decode cJ9_max_7cf53 5 = .ok (.iload_n 0, 1) := by decide +kernel
theorem dJ9_max_7cf53_6 : decode cJ9_max_7cf53 6 = .ok (.goto 4, 3) := by decide +kernel
theorem dJ9_max_7cf53_9 : decode cJ9_max_7cf53 9 = .ok (.iload_n 1, 1) := by decide +kernel
theorem dJ9_max_7cf53_10 : decode cJ9_max_7cf53 10 = .ok (.ireturn, 1) := by decide +kernel
theorem dJ9_min_7cf53_0 : decode cJ9_min_7cf53 0 = .ok (.iload_n 0, 1) := by decide +kernel
theorem dJ9_min_7cf53_1 : decode cJ9_min_7cf53 1 = .ok (.iload_n 1, 1) := by decide +kernel
theorem dJ9_min_7cf53_2 : decode cJ9_min_7cf53 2 = .ok (.if_icmp .gt 7, 3) := by decide +kernel
theorem dJ9_min_7cf53_5 : decode cJ9_min_7cf53 5 = .ok (.iload_n 0, 1) := by decide +kernel
theorem dJ9_min_7cf53_6 : decode cJ9_min_7cf53 6 = .ok (.goto 4, 3) := by decide +kernel
theorem dJ9_min_7cf53_9 : decode cJ9_min_7cf53 9 = .ok (.iload_n 1, 1) := by decide +kernel
theorem dJ9_min_7cf53_10 : decode cJ9_min_7cf53 10 = .ok (.ireturn, 1) := by decide +kernel
end
section
/-! the reference's methods as functions of its rows -/
abbrev wI (v a b : Int32) : Prop := ¬ v < a ∧ ¬ b < v
def metE (n : Nat) (E : hF) : Int32 := sumN n (fun s => if E 0 (8 + 10 * s + 4) = 1 then E 0 (8 + 10 * s + 1) else 0)
def cntE (n : Nat) (E : hF) (w : Int32) : Int32 := sumN n (fun s => if E 0 (8 + 10 * s + 4) = w then 1 else 0)
def stoE (n : Nat) (E : hF) (x : Int32) : Int32 := orN n (fun s => if E 0 (8 + 10 * s + 3) = x ∧ ¬ E 0 (8 + 10 * s + 4) = 6 then (1 : Int32) <<< (nI s &&& 31) else 0)
def loaE (n : Nat) (E : hF) (x : Int32) : Int32 := sumN n (fun s => if E 0 (8 + 10 * s + 6) = x then E 0 (8 + 10 * s + 2) else 0)
def cosE (c : Nat) (E : hF) : Int32 := sumN c (fun k => E 0 (208 + 7 * k + 4))
def wopE (n : Nat) (E : hF) : Int32 := sumN n (fun s => if E 0 (8 + 10 * s + 4) = 4 ∧ E 0 (8 + 10 * s + 6) = -6 ∧ ¬ E 0 (8 + 10 * s + 2) ≤ 0 then 1 else 0)
abbrev hasB (E : hF) (s : Nat) : Prop := E 0 (8 + 10 * s + 3) = -6 ∨ E 0 (8 + 10 * (E 0 (8 + 10 * s + 3)).toNatClampNeg + 4) = 4
def lvS (s : Nat) (E : hF) : hF := if E 0 (8 + 10 * s + 4) = 1 ∧ E 0 (8 + 10 * s + 8) = 0 then fs E 0 (8 + 10 * s + 4) 2 else E
def cmE (n : Nat) : Nat → Nat → hF → hF
  | 0, _, E => E
  | d + 1, s, E => if E 0 (8 + 10 * s + 4) = 0 then (if E 0 0 < metE n E + E 0 (8 + 10 * s + 1) then E else cmE n d (s + 1) (fs (fs E 0 (8 + 10 * s + 4) 1) 0 (8 + 10 * s + 8) (E 0 1))) else cmE n d (s + 1) E
def tkS (s : Nat) (E : hF) : hF := if E 0 (8 + 10 * s + 4) = 1 then fs E 0 (8 + 10 * s + 8) (E 0 (8 + 10 * s + 8) - 1) else E
def lorE (n : Nat) (E : hF) : hF := itN n tkS (cmE n n 0 (itN n lvS E))
def nxS (n : Nat) (E : hF) (k : Nat) (f : Int32) : Int32 := if E 0 6 = 1 then (if E 0 (8 + 10 * k + 4) = 4 ∧ stoE n E (nI k) = 0 then nI k else f) else (if E 0 (8 + 10 * (n - 1 - k) + 4) = 2 ∧ hasB E (n - 1 - k) then nI (n - 1 - k) else f)
def nxE (n : Nat) (E : hF) : Int32 := itN n (nxS n E) (-6)
def taE (E : hF) (c s : Nat) : hF :=
  if E 0 6 = 1 then fs (fs (fs (fs (fs E 0 (208 + 7 * c + 2) (nI s)) 0 (8 + 10 * s + 7) (nI c)) 0 (8 + 10 * s + 4) 5) 0 (8 + 10 * s + 5) ((E 0 (8 + 10 * s + 0) + 1) / 2)) 0 (8 + 10 * s + 6) (-6)
  else fs (fs (fs E 0 (208 + 7 * c + 2) (nI s)) 0 (8 + 10 * s + 7) (nI c)) 0 (8 + 10 * s + 4) 3
def llE (n : Nat) (E : hF) : Nat :=
  if loaE n E (nI (if loaE n E 0 ≤ loaE n E 1 then 0 else 1)) ≤ loaE n E 2 then (if loaE n E 0 ≤ loaE n E 1 then 0 else 1) else 2
def fiA (E : hF) (c s : Nat) : hF := fs (fs E 0 (208 + 7 * c + 2) (-6)) 0 (8 + 10 * s + 7) (-6)
def fiB (n : Nat) (E : hF) (c s : Nat) : Int32 := if E 0 2 < loaE n (fs (fiA E c s) 0 (8 + 10 * s + 4) 4) (nI (llE n (fiA E c s))) + E 0 (8 + 10 * s + 2) then -6 else nI (llE n (fiA E c s))
def fiE (n : Nat) (E : hF) (c s : Nat) : hF :=
  if E 0 (8 + 10 * s + 4) = 3 then
    fs (fs (fs (fiA E c s) 0 (8 + 10 * s + 4) 4) 0 (8 + 10 * s + 6) (fiB n E c s)) 0 (208 + 7 * c + 5) (E 0 (208 + 7 * c + 5) + 1)
  else
    fs (fs (fs (fiA E c s) 0 (8 + 10 * s + 4) 6) 0 (208 + 7 * c + 6) (E 0 (208 + 7 * c + 6) + 1)) 0 7 (E 0 7 + (if (nI s + E 0 3) - (nI s + E 0 3) / 4 * 4 = 0 then 1 else 0))
def woA (E : hF) (c s : Nat) (x : Int32) : hF :=
  fs (fs (fs (fs E 0 (8 + 10 * s + 5) x) 0 (8 + 10 * s + 9) (E 0 (8 + 10 * s + 9) + 1)) 0 (208 + 7 * c + 3) (E 0 (208 + 7 * c + 3) + 1)) 0 (208 + 7 * c + 4) (E 0 (208 + 7 * c + 4) + E 0 (208 + 7 * c + 1))
def woL (E : hF) (c s : Nat) : Int32 := E 0 (8 + 10 * s + 5) - E 0 (208 + 7 * c + 0)
def woE (n : Nat) (E : hF) (c s : Nat) : hF :=
  if woL E c s ≤ 0 then fiE n (woA E c s 0) c s else woA E c s (woL E c s)
def c1S (n : Nat) (c : Nat) (E : hF) : hF := if E 0 (208 + 7 * c + 2) = -6 then (if nxE n E = -6 then E else taE E c (nxE n E).toNatClampNeg) else E
def c2S (n : Nat) (c : Nat) (r : hF × Int32) : hF × Int32 :=
  if r.1 0 (208 + 7 * c + 2) = -6 then r
  else (woE n r.1 c (r.1 0 (208 + 7 * c + 2)).toNatClampNeg, if woL r.1 c (r.1 0 (208 + 7 * c + 2)).toNatClampNeg ≤ 0 then r.2 + 1 else r.2)
def p1E (n c : Nat) (E : hF) : hF × Int32 := itN c (c2S n) (itN c (c1S n) (lorE n E), 0)
def poE (n c : Nat) (E : hF) : hF := fs (p1E n c E).1 0 3 ((p1E n c E).1 0 3 + 1)
def poR (n c : Nat) (E : hF) : Int32 := (p1E n c E).2
def psS (n c : Nat) (_ : Nat) (r : hF × Int32) : hF × Int32 := (poE n c r.1, r.2 + poR n c r.1)
def psE (n c h : Nat) (E : hF) : hF × Int32 := itN h (psS n c) (E, 0)
/-- what keeps the reference from a wrong index -/
def mOk (n c : Nat) (E : hF) : Prop := n ≤ 20 ∧ c ≤ 6 ∧ E 0 4 = nI n ∧ E 0 5 = nI c ∧ (∀ s, s < n → E 0 (8 + 10 * s + 3) = -6 ∨ ∃ b, b < n ∧ E 0 (8 + 10 * s + 3) = nI b) ∧ (∀ s, s < n → E 0 (8 + 10 * s + 7) = -6 ∨ ∃ k, k < c ∧ E 0 (8 + 10 * s + 7) = nI k) ∧ (∀ k, k < c → E 0 (208 + 7 * k + 2) = -6 ∨ ∃ s, s < n ∧ E 0 (208 + 7 * k + 2) = nI s)
section MOK
variable {n c : Nat} {E : hF}
theorem mOk.hn (h : mOk n c E) : n ≤ 20 := h.1
theorem mOk.hc (h : mOk n c E) : c ≤ 6 := h.2.1
theorem mOk.h4 (h : mOk n c E) : E 0 4 = nI n := h.2.2.1
theorem mOk.h5 (h : mOk n c E) : E 0 5 = nI c := h.2.2.2.1
theorem mOk.hb (h : mOk n c E) : ∀ s, s < n → E 0 (8 + 10 * s + 3) = -6 ∨ ∃ b, b < n ∧ E 0 (8 + 10 * s + 3) = nI b := h.2.2.2.2.1
theorem mOk.hy (h : mOk n c E) : ∀ s, s < n → E 0 (8 + 10 * s + 7) = -6 ∨ ∃ k, k < c ∧ E 0 (8 + 10 * s + 7) = nI k := h.2.2.2.2.2.1
theorem mOk.hs (h : mOk n c E) : ∀ k, k < c → E 0 (208 + 7 * k + 2) = -6 ∨ ∃ s, s < n ∧ E 0 (208 + 7 * k + 2) = nI s := h.2.2.2.2.2.2
theorem mOk.part (h : mOk n c E) {s p : Nat} (v : Int32) (hs : s < n) (hp : p < 10) (h3 : p ≠ 3) (h7 : p ≠ 7) : mOk n c (fs E 0 (8 + 10 * s + p) v) := by
  obtain ⟨a1, a2, a3, a4, a5, a6, a7⟩ := h
  refine ⟨a1, a2, ?_, ?_, fun t ht => ?_, fun t ht => ?_, fun t ht => ?_⟩
  · rw [fs_at, if_neg (by omega)]; exact a3
  · rw [fs_at, if_neg (by omega)]; exact a4
  · rw [fs_at, if_neg (by omega)]; exact a5 t ht
  · rw [fs_at, if_neg (by omega)]; exact a6 t ht
  · rw [fs_at, if_neg (by omega)]; exact a7 t ht
theorem mOk.by' (h : mOk n c E) {s : Nat} {v : Int32} (hs : s < n) (hv : v = -6 ∨ ∃ k, k < c ∧ v = nI k) : mOk n c (fs E 0 (8 + 10 * s + 7) v) := by
  obtain ⟨a1, a2, a3, a4, a5, a6, a7⟩ := h
  refine ⟨a1, a2, ?_, ?_, fun t ht => ?_, fun t ht => ?_, fun t ht => ?_⟩
  · rw [fs_at, if_neg (by omega)]; exact a3
  · rw [fs_at, if_neg (by omega)]; exact a4
  · rw [fs_at, if_neg (by omega)]; exact a5 t ht
  · rw [fs_at]
    by_cases e : t = s
    · rw [if_pos (by omega)]; exact hv
    · rw [if_neg (by omega)]; exact a6 t ht
  · rw [fs_at, if_neg (by omega)]; exact a7 t ht
theorem mOk.crew (h : mOk n c E) {k p : Nat} (v : Int32) (hp : p < 7) (h2 : p ≠ 2) : mOk n c (fs E 0 (208 + 7 * k + p) v) := by
  obtain ⟨a1, a2, a3, a4, a5, a6, a7⟩ := h
  refine ⟨a1, a2, ?_, ?_, fun t ht => ?_, fun t ht => ?_, fun t ht => ?_⟩
  · rw [fs_at, if_neg (by omega)]; exact a3
  · rw [fs_at, if_neg (by omega)]; exact a4
  · rw [fs_at, if_neg (by omega)]; exact a5 t ht
  · rw [fs_at, if_neg (by omega)]; exact a6 t ht
  · rw [fs_at, if_neg (by omega)]; exact a7 t ht
theorem mOk.has (h : mOk n c E) {k : Nat} {v : Int32} (hv : v = -6 ∨ ∃ s, s < n ∧ v = nI s) : mOk n c (fs E 0 (208 + 7 * k + 2) v) := by
  obtain ⟨a1, a2, a3, a4, a5, a6, a7⟩ := h
  refine ⟨a1, a2, ?_, ?_, fun t ht => ?_, fun t ht => ?_, fun t ht => ?_⟩
  · rw [fs_at, if_neg (by omega)]; exact a3
  · rw [fs_at, if_neg (by omega)]; exact a4
  · rw [fs_at, if_neg (by omega)]; exact a5 t ht
  · rw [fs_at, if_neg (by omega)]; exact a6 t ht
  · rw [fs_at]
    by_cases e : t = k
    · rw [if_pos (by omega)]; exact hv
    · rw [if_neg (by omega)]; exact a7 t ht
theorem mOk.head (h : mOk n c E) {i : Nat} (v : Int32) (hi : i < 8) (h4 : i ≠ 4) (h5 : i ≠ 5) : mOk n c (fs E 0 i v) := by
  obtain ⟨a1, a2, a3, a4, a5, a6, a7⟩ := h
  refine ⟨a1, a2, ?_, ?_, fun t ht => ?_, fun t ht => ?_, fun t ht => ?_⟩
  · rw [fs_at, if_neg (by omega)]; exact a3
  · rw [fs_at, if_neg (by omega)]; exact a4
  · rw [fs_at, if_neg (by omega)]; exact a5 t ht
  · rw [fs_at, if_neg (by omega)]; exact a6 t ht
  · rw [fs_at, if_neg (by omega)]; exact a7 t ht
theorem mOk.row (h : mOk n c E) {j i : Nat} (v : Int32) (hj : j ≠ 0) : mOk n c (fs E j i v) := by
  unfold mOk
  rw [fs_ne E i v (Ne.symm hj)]
  exact h
theorem mOk.of0 {E' : hF} (h : mOk n c E) (e : E' 0 = E 0) : mOk n c E' := by
  unfold mOk at h ⊢
  rw [e]
  exact h
end MOK
theorem nI_ne6 {k : Nat} (hk : k < 2 ^ 31) : ¬ nI k = -6 := by
  intro h
  have h1 := nI_toInt hk
  rw [h] at h1
  have h2 : (-6 : Int32).toInt = -6 := by decide
  omega
theorem mlvS {n c : Nat} {E : hF} (h : mOk n c E) {s : Nat} (hs : s < n) : mOk n c (lvS s E) := by
  unfold lvS
  split
  · exact h.part _ hs (by decide) (by decide) (by decide)
  · exact h
theorem mtkS {n c : Nat} {E : hF} (h : mOk n c E) {s : Nat} (hs : s < n) : mOk n c (tkS s E) := by
  unfold tkS
  split
  · exact h.part _ hs (by decide) (by decide) (by decide)
  · exact h
theorem itN_P {α : Type} {P : α → Prop} {f : Nat → α → α} {a : α} (h0 : P a) : ∀ n : Nat, (∀ i x, i < n → P x → P (f i x)) → P (itN n f a)
  | 0, _ => h0
  | n + 1, hf => hf n _ (Nat.lt_succ_self n) (itN_P h0 n fun i x hi hx => hf i x (Nat.lt_succ_of_lt hi) hx)
theorem mcmE {n c : Nat} : ∀ (d s : Nat) {E : hF}, mOk n c E → s + d ≤ n → mOk n c (cmE n d s E)
  | 0, _, _, h, _ => h
  | d + 1, s, E, h, hd => by
    unfold cmE
    split
    · split
      · exact h
      · exact mcmE d (s + 1) ((h.part _ (by omega) (by decide) (by decide) (by decide)).part _ (by omega) (by decide) (by decide) (by decide)) (by omega)
    · exact mcmE d (s + 1) h (by omega)
theorem mlorE {n c : Nat} {E : hF} (h : mOk n c E) : mOk n c (lorE n E) :=
  itN_P (mcmE n 0 (itN_P h n fun _ _ hi hx => mlvS hx hi) (by omega)) n fun _ _ hi hx => mtkS hx hi
theorem nxE_of (n : Nat) (E : hF) : ∀ k, k ≤ n → itN k (nxS n E) (-6) = -6 ∨ ∃ s, s < n ∧ itN k (nxS n E) (-6) = nI s
  | 0, _ => Or.inl rfl
  | k + 1, hk => by
    show nxS n E k (itN k (nxS n E) (-6)) = -6 ∨ ∃ s, s < n ∧ nxS n E k (itN k (nxS n E) (-6)) = nI s
    have ih := nxE_of n E k (by omega)
    generalize itN k (nxS n E) (-6) = f at ih ⊢
    unfold nxS
    split
    · split
      · exact Or.inr ⟨k, by omega, rfl⟩
      · exact ih
    · split
      · exact Or.inr ⟨n - 1 - k, by omega, rfl⟩
      · exact ih
theorem mtaE {n c : Nat} {E : hF} (h : mOk n c E) {k s : Nat} (hk : k < c) (hs : s < n) : mOk n c (taE E k s) := by
  unfold taE
  have h1 := (h.has (k := k) (Or.inr ⟨s, hs, rfl⟩)).by' hs (Or.inr ⟨k, hk, rfl⟩)
  split
  · exact ((h1.part _ hs (by decide) (by decide) (by decide)).part _ hs (by decide) (by decide) (by decide)).part _ hs (by decide) (by decide) (by decide)
  · exact h1.part _ hs (by decide) (by decide) (by decide)
theorem mfiA {n c : Nat} {E : hF} (h : mOk n c E) {k s : Nat} (hs : s < n) : mOk n c (fiA E k s) := (h.has (k := k) (Or.inl rfl)).by' hs (Or.inl rfl)
theorem mfiE {n c : Nat} {E : hF} (h : mOk n c E) {k s : Nat} (hs : s < n) : mOk n c (fiE n E k s) := by
  unfold fiE
  have h1 := mfiA h (k := k) hs
  split
  · exact ((h1.part _ hs (by decide) (by decide) (by decide)).part _ hs (by decide) (by decide) (by decide)).crew _ (by decide) (by decide)
  · exact ((h1.part _ hs (by decide) (by decide) (by decide)).crew _ (by decide) (by decide)).head _ (by decide) (by decide) (by decide)
theorem mwoA {n c : Nat} {E : hF} (h : mOk n c E) {k s : Nat} (x : Int32) (hs : s < n) : mOk n c (woA E k s x) :=
  (((h.part _ hs (by decide) (by decide) (by decide)).part _ hs (by decide) (by decide) (by decide)).crew _ (by decide) (by decide)).crew _ (by decide) (by decide)
theorem mwoE {n c : Nat} {E : hF} (h : mOk n c E) {k s : Nat} (hs : s < n) : mOk n c (woE n E k s) := by
  unfold woE
  split
  · exact mfiE (mwoA h _ hs) hs
  · exact mwoA h _ hs
theorem mc1S {n c : Nat} {E : hF} (h : mOk n c E) {k : Nat} (hk : k < c) : mOk n c (c1S n k E) := by
  unfold c1S
  split
  · split
    · exact h
    · rename_i h1 h2
      rcases nxE_of n E n (Nat.le_refl n) with q | ⟨s, hs, q⟩
      · exact absurd q h2
      · have q' : nxE n E = nI s := q
        rw [q', nI_clamp (by have := h.hn; omega)]
        exact mtaE h hk hs
  · exact h
theorem mc2S {n c : Nat} {r : hF × Int32} (h : mOk n c r.1) {k : Nat} (hk : k < c) : mOk n c (c2S n k r).1 := by
  unfold c2S
  split
  · exact h
  · rename_i h1
    rcases h.hs k hk with q | ⟨s, hs, q⟩
    · exact absurd q h1
    · rw [q, nI_clamp (by have := h.hn; omega)]
      exact mwoE h hs
theorem mc1N {n c : Nat} {E : hF} (h : mOk n c E) {k : Nat} (hk : k ≤ c) : mOk n c (itN k (c1S n) E) := itN_P h k fun _ _ hi hx => mc1S hx (by omega)
theorem mc2N {n c : Nat} {r : hF × Int32} (h : mOk n c r.1) {k : Nat} (hk : k ≤ c) : mOk n c (itN k (c2S n) r).1 := itN_P (P := fun r : hF × Int32 => mOk n c r.1) h k fun _ _ hi hx => mc2S hx (by omega)
theorem mp1E {n c : Nat} {E : hF} (h : mOk n c E) : mOk n c (p1E n c E).1 := mc2N (mc1N (mlorE h) (Nat.le_refl c)) (Nat.le_refl c)
theorem mpoE {n c : Nat} {E : hF} (h : mOk n c E) : mOk n c (poE n c E) := (mp1E h).head _ (by decide) (by decide) (by decide)
theorem mpsN {n c : Nat} {E : hF} (h : mOk n c E) (k : Nat) : mOk n c (itN k (psS n c) (E, 0)).1 := itN_P (P := fun r : hF × Int32 => mOk n c r.1) h k fun _ _ _ hx => mpoE hx
theorem i_no {x : Int32} (h1 : ¬ 0 ≤ x) (h2 : ¬ x ≤ 0) : False := by
  rw [Int32.le_iff_toInt_le, Int32.toInt_zero] at h1 h2
  omega
theorem i_eq0 {x : Int32} (h1 : 0 ≤ x) (h2 : x ≤ 0) : x = 0 := by
  rw [Int32.le_iff_toInt_le, Int32.toInt_zero] at h1 h2
  apply Int32.toInt_inj.mp
  rw [Int32.toInt_zero]
  omega
end
section
/-! rows that the walks of the reference's calls stand on -/
theorem sw_cases (x : Int32) (n : Nat) (hn : n < 2 ^ 31) : (x.toInt < 0 ∨ (n : Int) < x.toInt) ∨ ∃ k, k ≤ n ∧ x = nI k := by
  by_cases h0 : x.toInt < 0
  · exact Or.inl (Or.inl h0)
  · by_cases h1 : (n : Int) < x.toInt
    · exact Or.inl (Or.inr h1)
    · refine Or.inr ⟨x.toInt.toNat, by omega, ?_⟩
      apply Int32.toInt_inj.mp
      rw [nI_toInt (by omega)]
      omega
theorem wI_in {n : Nat} {x : Int32} (hn : n < 2 ^ 31) (h : wI x 0 (nI n - 1)) : ∃ j, j < n ∧ x = nI j := by
  obtain ⟨h1, h2⟩ := h
  cases n with
  | zero =>
    rw [nI_0] at h2
    have e : (0 : Int32) - 1 = -1 := by decide
    rw [e, Int32.lt_iff_toInt_lt] at h2
    rw [Int32.lt_iff_toInt_lt, Int32.toInt_zero] at h1
    have e2 : (-1 : Int32).toInt = -1 := by decide
    omega
  | succ n =>
    rw [nI_pred, Int32.lt_iff_toInt_lt, nI_toInt (by omega)] at h2
    rw [Int32.lt_iff_toInt_lt, Int32.toInt_zero] at h1
    refine ⟨x.toInt.toNat, by omega, ?_⟩
    apply Int32.toInt_inj.mp
    rw [nI_toInt (by omega)]
    omega
theorem wI_lit {x : Int32} {a b : Nat} (ha : a < 2 ^ 31) (hb : b < 2 ^ 31) (h : wI x (nI a) (nI b)) : ∃ j, a ≤ j ∧ j ≤ b ∧ x = nI j := by
  obtain ⟨h1, h2⟩ := h
  rw [Int32.lt_iff_toInt_lt, nI_toInt ha] at h1
  rw [Int32.lt_iff_toInt_lt, nI_toInt hb] at h2
  refine ⟨x.toInt.toNat, by omega, by omega, ?_⟩
  apply Int32.toInt_inj.mp
  rw [nI_toInt (by omega)]
  omega
/-- a row set whole -/
def fr (E : hF) (j : Nat) (g : Nat → Int32) : hF := fun j' => if j' = j then g else E j'
theorem fr_same (E : hF) (j : Nat) (g : Nat → Int32) : fr E j g j = g := by simp [fr]
theorem fr_ne (E : hF) {j j' : Nat} (g : Nat → Int32) (h : j' ≠ j) : fr E j g j' = E j' := by simp [fr, h]
def mvN (k : Nat) (f : Nat → Int32) (x : Nat) (g : Nat → Int32) (t : Nat) : Nat → Int32 := fun i => if t ≤ i ∧ i < t + k then f (x + (i - t)) else g i
theorem mv_0 (f : Nat → Int32) (x : Nat) (g : Nat → Int32) (t : Nat) : g = mvN 0 f x g t := by
  funext i
  simp only [mvN]
  rw [if_neg (by omega)]
theorem mv_step (k : Nat) (f : Nat → Int32) (x : Nat) (g : Nat → Int32) (t : Nat) : upd (mvN k f x g t) (t + k) (f (x + k)) = mvN (k + 1) f x g t := by
  funext i
  simp only [mvN, upd]
  by_cases h : i = t + k
  · subst h
    rw [if_pos rfl, if_pos (by omega)]
    congr 1
    omega
  · rw [if_neg h]
    by_cases h2 : t ≤ i ∧ i < t + k
    · rw [if_pos h2, if_pos (by omega)]
    · rw [if_neg h2, if_neg (by omega)]
def shN (k : Nat) (f : Nat → Int32) : Nat → Int32 := fun i => if i < k then f (i + 250) else f i
theorem sh_0 (E : hF) : E = fr E 2 (shN 0 (E 2)) := by
  funext j i
  by_cases h : j = 2
  · subst h; simp [fr, shN]
  · simp [fr, h]
theorem sh_step (E : hF) (k : Nat) : fs (fr E 2 (shN k (E 2))) 2 k ((fr E 2 (shN k (E 2))) 2 (k + 250)) = fr E 2 (shN (k + 1) (E 2)) := by
  funext j i
  rw [fs_at]
  by_cases h : j = 2
  · subst h
    simp only [fr_same, shN]
    by_cases hi : i = k
    · subst hi
      rw [if_pos (by simp), if_neg (by omega), if_pos (by omega)]
    · rw [if_neg (by omega)]
      by_cases h2 : i < k
      · rw [if_pos h2, if_pos (by omega)]
      · rw [if_neg h2, if_neg (by omega)]
  · rw [if_neg (by omega), fr_ne _ _ h, fr_ne _ _ h]
theorem pk1 {α : Type} : ∀ (l : List α) (i : Nat) (h : i < l.length), l.Perm (l[i] :: l.eraseIdx i)
  | [], _, h => absurd h (Nat.not_lt_zero _)
  | a :: l, 0, _ => List.Perm.refl _
  | a :: l, i + 1, h => ((pk1 l i (Nat.lt_of_succ_lt_succ h)).cons a).trans (List.Perm.swap _ _ _)
theorem pk2 {α : Type} (l : List α) (i j : Nat) (h : i < l.length) (h2 : j < (l.eraseIdx i).length) : l.Perm (l[i] :: (l.eraseIdx i)[j] :: (l.eraseIdx i).eraseIdx j) := (pk1 l i h).trans ((pk1 (l.eraseIdx i) j h2).cons _)
/-- one more kept state -/
def recE (E : hF) (r : Nat) : hF :=
  if r = 6 then fs (fr (fs (fr E 2 (shN 1250 (E 2))) 6 0 5) 2 (mvN 250 (E 0) 0 (shN 1250 (E 2)) (5 * 250))) 6 0 6
  else fs (fr E 2 (mvN 250 (E 0) 0 (E 2) (r * 250))) 6 0 (nI r + 1)
theorem recE_ne (E : hF) (r : Nat) {j : Nat} (h2 : j ≠ 2) (h6 : j ≠ 6) : recE E r j = E j := by
  unfold recE
  split
  · rw [fs_ne _ _ _ h6, fr_ne _ _ h2, fs_ne _ _ _ h6, fr_ne _ _ h2]
  · rw [fs_ne _ _ _ h6, fr_ne _ _ h2]
theorem recE_0 (E : hF) (r : Nat) : recE E r 0 = E 0 := recE_ne E r (by decide) (by decide)
theorem recE_6 (E : hF) (r : Nat) {i : Nat} (hi : i ≠ 0) : recE E r 6 i = E 6 i := by
  unfold recE
  split
  · rw [fs_at, if_neg (by omega), fr_ne _ _ (by decide), fs_at, if_neg (by omega), fr_ne _ _ (by decide)]
  · rw [fs_at, if_neg (by omega), fr_ne _ _ (by decide)]
end
section
/-! the calls of the reference, first half: what they answer and leave -/
abbrev isvP (x v : Int32) : Prop := (x = 0 ∧ wI v 1 60) ∨ (x = 1 ∧ wI v 1 9) ∨ (x = 2 ∧ wI v 1 999)
theorem isvP_n {x v : Int32} (h : isvP x v) : ∃ j, j < 3 ∧ x = nI j := by
  rcases h with h | h | h
  · exact ⟨0, by decide, h.1⟩
  · exact ⟨1, by decide, h.1⟩
  · exact ⟨2, by decide, h.1⟩
def setR (E : hF) (x v : Int32) : Int32 := if isvP x v then E 0 x.toNatClampNeg else -2
def setE (E : hF) (r : Nat) (x v : Int32) : hF := if isvP x v then fs (recE E r) 0 x.toNatClampNeg v else E
def whyS (E : hF) (w1 w2 w3 w4 : Int32) : Int32 :=
  if ¬ wI w1 1 99 ∨ ¬ wI w2 1 20 ∨ ¬ wI w3 0 99 then -2
  else if ¬ w4 = -6 ∧ ¬ wI w4 0 (E 0 4 - 1) then -1
  else if E 0 4 = 20 then -4
  else if E 0 6 = 1 ∨ (¬ w4 = -6 ∧ E 0 (8 + 10 * w4.toNatClampNeg + 4) = 6) then -5 else 0
def cmsE (E : hF) (n : Nat) (w1 w2 w3 w4 : Int32) : hF :=
  fs (fs (fs (fs (fs (fs (fs (fs (fs (fs (fs E 0 (8 + 10 * n + 0) w1) 0 (8 + 10 * n + 1) w2) 0 (8 + 10 * n + 2) w3) 0 (8 + 10 * n + 3) w4) 0 (8 + 10 * n + 4) 0) 0 (8 + 10 * n + 5) w1) 0 (8 + 10 * n + 6) (-6)) 0 (8 + 10 * n + 7) (-6)) 0 (8 + 10 * n + 8) 0) 0 (8 + 10 * n + 9) 0) 0 4 (nI n + 1)
end
section
set_option maxHeartbeats 4000000 in
set_option maxRecDepth 100000 in
theorem kX8_within (l : Launch) (G : hG) (v a b : Int32) : hM l G yX8_within wsX8_within ({ frames := 1, cells := 0, slots := 0, locals := 40 }) ([]) [.int v, .int a, .int b] (hR (some (.int (bI (wI v a b)))) ([])) := by
  refine hM_of (cc := cX8_within) (maxL := 3) (ret := (some .boolean)) (by decide) rfl (Nat.le_of_ble_eq_true rfl) ?_
  intro pp ee ss mm aa bb me cd X hin
  refine hiload_n X dX8_within_0 rfl ?_
  refine hiload_n X dX8_within_1 rfl ?_
  refine hicmp_lt (tgt := 14) X dX8_within_2 (by decide) (fun c1 => ?_) (fun c1 => ?_)
  · refine hiconst (v := 0) X dX8_within_14 rfl ?_
    refine hzret X rfl dX8_within_15 ⟨congrArg (fun z => some (Value.int z)) (?_ : 0 = bI (wI v a b)), ?_⟩
    · simp [bI, wI, *]
    rfl
  · refine hiload_n X dX8_within_5 rfl ?_
    refine hiload_n X dX8_within_6 rfl ?_
    refine hicmp_gt (tgt := 14) X dX8_within_7 (by decide) (fun c2 => ?_) (fun c2 => ?_)
    · refine hiconst (v := 0) X dX8_within_14 rfl ?_
      refine hzret X rfl dX8_within_15 ⟨congrArg (fun z => some (Value.int z)) (?_ : 0 = bI (wI v a b)), ?_⟩
      · simp [bI, wI, *]
      rfl
    · refine hiconst (v := 1) X dX8_within_10 rfl ?_
      refine hgoto (tgt := 15) X dX8_within_11 (by decide) ?_
      refine hzret X rfl dX8_within_15 ⟨congrArg (fun z => some (Value.int z)) (?_ : 1 = bI (wI v a b)), ?_⟩
      · simp [bI, wI, *]
      rfl

set_option maxHeartbeats 4000000 in
set_option maxRecDepth 100000 in
theorem kX8_part (l : Launch) (G : hG) (q : Nat → Nat) (E : hF) (s k : Nat) (hs : s < 20) (hk : k < 10) : hM l G yX8_part wsX8_part ({ frames := 1, cells := 0, slots := 0, locals := 40 }) (mW G q E) [.ref (q 0), .int (nI s), .int (nI k)] (hR (some (.int (E 0 (8 + 10 * s + k)))) (mW G q E)) := by
  refine hM_of (cc := cX8_part) (maxL := 3) (ret := (some .int)) (by decide) rfl (Nat.le_of_ble_eq_true rfl) ?_
  intro pp ee ss mm aa bb me cd X hin
  have iX8 : ∀ w ∈ wsX80, w ∈ wsX8_part := by decide +kernel
  refine haload_n X dX8_part_0 rfl ?_
  refine hget1 X (T := TX8) (N := 14) iX8 0 rfl rfl 0 (by decide) (by decide +kernel) rfl dX8_part_1 ?_
  refine hbipush (v := 8) X dX8_part_4 rfl ?_
  refine hbipush (v := 10) X dX8_part_6 rfl ?_
  refine hiload_n X dX8_part_8 rfl ?_
  refine himul X dX8_part_9 ?_
  refine hiadd X dX8_part_10 ?_
  refine hiload_n X dX8_part_11 rfl ?_
  refine hiadd X dX8_part_12 ?_
  refine hiald (n := 250) (f := E 0) X 1 rfl (8 + 10 * s + k) (nadd (nadd rfl (nmul rfl rfl)) rfl) (by omega) (by decide) dX8_part_13 ?_
  refine hiret X dX8_part_14 ⟨rfl, ?_⟩
  rfl

set_option maxHeartbeats 4000000 in
set_option maxRecDepth 100000 in
theorem kX8_setPart (l : Launch) (G : hG) (q : Nat → Nat) (E : hF) (s k : Nat) (v : Int32) (hs : s < 20) (hk : k < 10) : hM l G yX8_setPart wsX8_setPart ({ frames := 1, cells := 0, slots := 0, locals := 40 }) (mW G q E) [.ref (q 0), .int (nI s), .int (nI k), .int v] (hR none (mW G q (fs E 0 (8 + 10 * s + k) v))) := by
  refine hM_of (cc := cX8_setPart) (maxL := 4) (ret := none) (by decide) rfl (Nat.le_of_ble_eq_true rfl) ?_
  intro pp ee ss mm aa bb me cd X hin
  have iX8 : ∀ w ∈ wsX80, w ∈ wsX8_setPart := by decide +kernel
  refine haload_n X dX8_setPart_0 rfl ?_
  refine hget1 X (T := TX8) (N := 14) iX8 0 rfl rfl 0 (by decide) (by decide +kernel) rfl dX8_setPart_1 ?_
  refine hbipush (v := 8) X dX8_setPart_4 rfl ?_
  refine hbipush (v := 10) X dX8_setPart_6 rfl ?_
  refine hiload_n X dX8_setPart_8 rfl ?_
  refine himul X dX8_setPart_9 ?_
  refine hiadd X dX8_setPart_10 ?_
  refine hiload_n X dX8_setPart_11 rfl ?_
  refine hiadd X dX8_setPart_12 ?_
  refine hiload_n X dX8_setPart_13 rfl ?_
  refine hiast (n := 250) (f := E 0) X 1 rfl (8 + 10 * s + k) (nadd (nadd rfl (nmul rfl rfl)) rfl) (by omega) (by decide) dX8_setPart_14 (ws' := mW G q (fs E 0 (8 + 10 * s + k) v)) rfl ?_
  refine hvret X dX8_setPart_15 ⟨rfl, ?_⟩
  rfl

set_option maxHeartbeats 4000000 in
set_option maxRecDepth 100000 in
theorem kX8_ofCrewPart (l : Launch) (G : hG) (q : Nat → Nat) (E : hF) (s k : Nat) (hs : s < 6) (hk : k < 7) : hM l G yX8_ofCrewPart wsX8_ofCrewPart ({ frames := 1, cells := 0, slots := 0, locals := 40 }) (mW G q E) [.ref (q 0), .int (nI s), .int (nI k)] (hR (some (.int (E 0 (208 + 7 * s + k)))) (mW G q E)) := by
  refine hM_of (cc := cX8_ofCrewPart) (maxL := 3) (ret := (some .int)) (by decide) rfl (Nat.le_of_ble_eq_true rfl) ?_
  intro pp ee ss mm aa bb me cd X hin
  have iX8 : ∀ w ∈ wsX80, w ∈ wsX8_ofCrewPart := by decide +kernel
  refine haload_n X dX8_ofCrewPart_0 rfl ?_
  refine hget1 X (T := TX8) (N := 14) iX8 0 rfl rfl 0 (by decide) (by decide +kernel) rfl dX8_ofCrewPart_1 ?_
  refine hsipush (v := 208) X dX8_ofCrewPart_4 rfl ?_
  refine hbipush (v := 7) X dX8_ofCrewPart_7 rfl ?_
  refine hiload_n X dX8_ofCrewPart_9 rfl ?_
  refine himul X dX8_ofCrewPart_10 ?_
  refine hiadd X dX8_ofCrewPart_11 ?_
  refine hiload_n X dX8_ofCrewPart_12 rfl ?_
  refine hiadd X dX8_ofCrewPart_13 ?_
  refine hiald (n := 250) (f := E 0) X 1 rfl (208 + 7 * s + k) (nadd (nadd rfl (nmul rfl rfl)) rfl) (by omega) (by decide) dX8_ofCrewPart_14 ?_
  refine hiret X dX8_ofCrewPart_15 ⟨rfl, ?_⟩
  rfl

set_option maxHeartbeats 4000000 in
set_option maxRecDepth 100000 in
theorem kX8_setCrew (l : Launch) (G : hG) (q : Nat → Nat) (E : hF) (s k : Nat) (v : Int32) (hs : s < 6) (hk : k < 7) : hM l G yX8_setCrew wsX8_setCrew ({ frames := 1, cells := 0, slots := 0, locals := 40 }) (mW G q E) [.ref (q 0), .int (nI s), .int (nI k), .int v] (hR none (mW G q (fs E 0 (208 + 7 * s + k) v))) := by
  refine hM_of (cc := cX8_setCrew) (maxL := 4) (ret := none) (by decide) rfl (Nat.le_of_ble_eq_true rfl) ?_
  intro pp ee ss mm aa bb me cd X hin
  have iX8 : ∀ w ∈ wsX80, w ∈ wsX8_setCrew := by decide +kernel
  refine haload_n X dX8_setCrew_0 rfl ?_
  refine hget1 X (T := TX8) (N := 14) iX8 0 rfl rfl 0 (by decide) (by decide +kernel) rfl dX8_setCrew_1 ?_
  refine hsipush (v := 208) X dX8_setCrew_4 rfl ?_
  refine hbipush (v := 7) X dX8_setCrew_7 rfl ?_
  refine hiload_n X dX8_setCrew_9 rfl ?_
  refine himul X dX8_setCrew_10 ?_
  refine hiadd X dX8_setCrew_11 ?_
  refine hiload_n X dX8_setCrew_12 rfl ?_
  refine hiadd X dX8_setCrew_13 ?_
  refine hiload_n X dX8_setCrew_14 rfl ?_
  refine hiast (n := 250) (f := E 0) X 1 rfl (208 + 7 * s + k) (nadd (nadd rfl (nmul rfl rfl)) rfl) (by omega) (by decide) dX8_setCrew_15 (ws' := mW G q (fs E 0 (208 + 7 * s + k) v)) rfl ?_
  refine hvret X dX8_setCrew_16 ⟨rfl, ?_⟩
  rfl

set_option maxHeartbeats 4000000 in
set_option maxRecDepth 100000 in
theorem kX8_isStand (l : Launch) (G : hG) (q : Nat → Nat) (E : hF) (x : Int32) : hM l G yX8_isStand wsX8_isStand ({ frames := 2, cells := 0, slots := 0, locals := 62 }) (mW G q E) [.ref (q 0), .int x] (hR (some (.int (bI (wI x 0 (E 0 4 - 1))))) (mW G q E)) := by
  refine hM_of (cc := cX8_isStand) (maxL := 2) (ret := (some .boolean)) (by decide) rfl (Nat.le_of_ble_eq_true rfl) ?_
  intro pp ee ss mm aa bb me cd X hin
  have iX8 : ∀ w ∈ wsX80, w ∈ wsX8_isStand := by decide +kernel
  refine hiload_n X dX8_isStand_0 rfl ?_
  refine hiconst (v := 0) X dX8_isStand_1 rfl ?_
  refine haload_n X dX8_isStand_2 rfl ?_
  refine hget1 X (T := TX8) (N := 14) iX8 0 rfl rfl 0 (by decide) (by decide +kernel) rfl dX8_isStand_3 ?_
  refine hiconst (v := 4) X dX8_isStand_6 rfl ?_
  refine hiald (n := 250) (f := E 0) X 1 rfl 4 rfl (by omega) (by decide) dX8_isStand_7 ?_
  refine hiconst (v := 1) X dX8_isStand_8 rfl ?_
  refine hisub X dX8_isStand_9 ?_
  refine hcallSr (wsC := []) (wsR := mW G q E) (As := [.int x, .int 0, .int ((E 0 4) - 1)]) (rest := []) (st' := [.int (bI (wI x 0 ((E 0 4) - 1)))]) (w := []) X (kX8_within l G x 0 ((E 0 4) - 1)) gX8_isStand_X8_within rfl (n := 3) (by decide +kernel) (by decide) rfl rfl (Nat.le_of_ble_eq_true rfl) dX8_isStand_10 rfl rfl (by decide) rfl ?_
  refine hzret X bI_nar dX8_isStand_13 ⟨congrArg (fun z => some (Value.int z)) (?_ : (bI (wI x 0 ((E 0 4) - 1))) = bI (wI x 0 (E 0 4 - 1))), ?_⟩
  · simp [*]
  rfl

set_option maxHeartbeats 4000000 in
set_option maxRecDepth 100000 in
theorem kX8_isCrew (l : Launch) (G : hG) (q : Nat → Nat) (E : hF) (x : Int32) : hM l G yX8_isCrew wsX8_isCrew ({ frames := 2, cells := 0, slots := 0, locals := 62 }) (mW G q E) [.ref (q 0), .int x] (hR (some (.int (bI (wI x 0 (E 0 5 - 1))))) (mW G q E)) := by
  refine hM_of (cc := cX8_isCrew) (maxL := 2) (ret := (some .boolean)) (by decide) rfl (Nat.le_of_ble_eq_true rfl) ?_
  intro pp ee ss mm aa bb me cd X hin
  have iX8 : ∀ w ∈ wsX80, w ∈ wsX8_isCrew := by decide +kernel
  refine hiload_n X dX8_isCrew_0 rfl ?_
  refine hiconst (v := 0) X dX8_isCrew_1 rfl ?_
  refine haload_n X dX8_isCrew_2 rfl ?_
  refine hget1 X (T := TX8) (N := 14) iX8 0 rfl rfl 0 (by decide) (by decide +kernel) rfl dX8_isCrew_3 ?_
  refine hiconst (v := 5) X dX8_isCrew_6 rfl ?_
  refine hiald (n := 250) (f := E 0) X 1 rfl 5 rfl (by omega) (by decide) dX8_isCrew_7 ?_
  refine hiconst (v := 1) X dX8_isCrew_8 rfl ?_
  refine hisub X dX8_isCrew_9 ?_
  refine hcallSr (wsC := []) (wsR := mW G q E) (As := [.int x, .int 0, .int ((E 0 5) - 1)]) (rest := []) (st' := [.int (bI (wI x 0 ((E 0 5) - 1)))]) (w := []) X (kX8_within l G x 0 ((E 0 5) - 1)) gX8_isCrew_X8_within rfl (n := 3) (by decide +kernel) (by decide) rfl rfl (Nat.le_of_ble_eq_true rfl) dX8_isCrew_10 rfl rfl (by decide) rfl ?_
  refine hzret X bI_nar dX8_isCrew_13 ⟨congrArg (fun z => some (Value.int z)) (?_ : (bI (wI x 0 ((E 0 5) - 1))) = bI (wI x 0 (E 0 5 - 1))), ?_⟩
  · simp [*]
  rfl

set_option maxHeartbeats 4000000 in
set_option maxRecDepth 100000 in
theorem kX8_isHow (l : Launch) (G : hG) (q : Nat → Nat) (E : hF) (s : Nat) (w : Int32) (hs : s < 20) : hM l G yX8_isHow wsX8_isHow ({ frames := 2, cells := 0, slots := 0, locals := 62 }) (mW G q E) [.ref (q 0), .int (nI s), .int w] (hR (some (.int (bI (E 0 (8 + 10 * s + 4) = w)))) (mW G q E)) := by
  refine hM_of (cc := cX8_isHow) (maxL := 3) (ret := (some .boolean)) (by decide) rfl (Nat.le_of_ble_eq_true rfl) ?_
  intro pp ee ss mm aa bb me cd X hin
  refine haload_n X dX8_isHow_0 rfl ?_
  refine hiload_n X dX8_isHow_1 rfl ?_
  refine hiconst (v := 4) X dX8_isHow_2 rfl ?_
  refine hcallV0 (C := RX8) (T := TX8) (N := 14) (As := [.int (nI s), .int (nI 4)]) (rest := []) (st' := [.int (E 0 (8 + 10 * s + 4))]) (w := mW G q E) X (q0 := 0) (kX8_part l G q E s 4 (by first | assumption | omega | simp [fs_at, *]) (by first | assumption | omega | simp [fs_at, *])) gX8_isHow_X8_part rfl (n := 2) (by decide +kernel) (by decide) rfl rfl rfl rfl (Nat.le_of_ble_eq_true rfl) dX8_isHow_3 rfl rfl (by decide) rfl ?_
  refine hiload_n X dX8_isHow_6 rfl ?_
  refine hicmp_ne (tgt := 14) X dX8_isHow_7 (by decide) (fun c1 => ?_) (fun c1 => ?_)
  · refine hiconst (v := 0) X dX8_isHow_14 rfl ?_
    refine hzret X rfl dX8_isHow_15 ⟨congrArg (fun z => some (Value.int z)) (?_ : 0 = bI (E 0 (8 + 10 * s + 4) = w)), ?_⟩
    · simp [bI, *]
    rfl
  · refine hiconst (v := 1) X dX8_isHow_10 rfl ?_
    refine hgoto (tgt := 15) X dX8_isHow_11 (by decide) ?_
    refine hzret X rfl dX8_isHow_15 ⟨congrArg (fun z => some (Value.int z)) (?_ : 1 = bI (E 0 (8 + 10 * s + 4) = w)), ?_⟩
    · simp [bI, *]
    rfl

set_option maxHeartbeats 4000000 in
set_option maxRecDepth 100000 in
theorem kX8_withHow (l : Launch) (G : hG) (q : Nat → Nat) (E : hF) (n : Nat) (w : Int32) (hn : n ≤ 20) (h4 : E 0 4 = nI n) : hM l G yX8_withHow wsX8_withHow ({ frames := 3, cells := 0, slots := 0, locals := 84 }) (mW G q E) [.ref (q 0), .int w] (hR (some (.int (cntE n E w))) (mW G q E)) := by
  refine hM_of (cc := cX8_withHow) (maxL := 4) (ret := (some .int)) (by decide) rfl (Nat.le_of_ble_eq_true rfl) ?_
  intro pp ee ss mm aa bb me cd X hin
  have iX8 : ∀ w ∈ wsX80, w ∈ wsX8_withHow := by decide +kernel
  have L : ∀ (d : Nat) (k : Nat), (k ≤ n) → (n - k) < d → hV pp l ee ({ frames := 3, cells := 0, slots := 0, locals := 84 }) ss mm aa bb me cd G (va_A (mW G q E) ss.heap.size) 4 0 0 (MQ bb (hQc G (mW G q E) ss.heap.size (hR (some (.int (cntE n E w))) (mW G q E))) aa ss 0 0 (va_A (mW G q E) ss.heap.size)) (mW G q E) 4 [(3, .int (nI k)), (2, .int (sumN k (fun s => if E 0 (8 + 10 * s + 4) = w then 1 else 0))), (0, .ref (q 0)), (1, .int w)] [] := by
    intro d
    induction d with
    | zero =>
      intro k hk hd0
      exact absurd hd0 (Nat.not_lt_zero _)
    | succ d ih =>
      intro k hk hd0
      refine hiload_n X dX8_withHow_4 rfl ?_
      refine haload_n X dX8_withHow_5 rfl ?_
      refine hget1 X (T := TX8) (N := 14) iX8 0 rfl rfl 0 (by decide) (by decide +kernel) rfl dX8_withHow_6 ?_
      refine hiconst (v := 4) X dX8_withHow_9 rfl ?_
      refine hiald (n := 250) (f := E 0) X 1 rfl 4 rfl (by omega) (by decide) dX8_withHow_10 ?_
      refine hV_st (st' := [.int (nI n), .int (nI k)]) (congrArg (fun z => Value.int z :: [.int (nI k)]) (h4)) ?_
      refine hicmp_ge (tgt := 37) X dX8_withHow_11 (by decide) (fun c1 => ?_) (fun c1 => ?_)
      · have ek := i_ge hk (by omega) c1
        refine hiload_n X dX8_withHow_37 rfl ?_
        refine hiret X dX8_withHow_38 ⟨congrArg (fun z => some (Value.int z)) (?_ : (sumN k (fun s => if E 0 (8 + 10 * s + 4) = w then 1 else 0)) = cntE n E w), ?_⟩
        · simp [cntE, ek]
        rfl
      · have hk1 := i_lt hk (by omega) c1
        refine hiload_n X dX8_withHow_14 rfl ?_
        refine haload_n X dX8_withHow_15 rfl ?_
        refine hiload_n X dX8_withHow_16 rfl ?_
        refine hiload_n X dX8_withHow_17 rfl ?_
        refine hcallV0 (C := RX8) (T := TX8) (N := 14) (As := [.int (nI k), .int w]) (rest := [.int (sumN k (fun s => if E 0 (8 + 10 * s + 4) = w then 1 else 0))]) (st' := [.int (bI (E 0 (8 + 10 * k + 4) = w)), .int (sumN k (fun s => if E 0 (8 + 10 * s + 4) = w then 1 else 0))]) (w := mW G q E) X (q0 := 0) (kX8_isHow l G q E k w (by first | assumption | omega | simp [fs_at, *])) gX8_withHow_X8_isHow rfl (n := 2) (by decide +kernel) (by decide) rfl rfl rfl rfl (Nat.le_of_ble_eq_true rfl) dX8_withHow_18 rfl rfl (by decide) rfl ?_
        refine hif_eqB (tgt := 28) X dX8_withHow_21 (by decide) (fun c2 => ?_) (fun c2 => ?_)
        · refine hiconst (v := 0) X dX8_withHow_28 rfl ?_
          refine hiadd X dX8_withHow_29 ?_
          refine histore_n (lv' := [(2, .int ((sumN k (fun s => if E 0 (8 + 10 * s + 4) = w then 1 else 0)) + 0)), (3, .int (nI k)), (0, .ref (q 0)), (1, .int w)]) X dX8_withHow_30 (by decide) rfl ?_
          refine hiinc (v := nI (k + 1)) (lv' := [(3, .int (nI (k + 1))), (2, .int ((sumN k (fun s => if E 0 (8 + 10 * s + 4) = w then 1 else 0)) + 0)), (0, .ref (q 0)), (1, .int w)]) X dX8_withHow_31 rfl (nI_1 _) (by decide) rfl ?_
          refine hgoto (tgt := 4) X dX8_withHow_34 (by decide) ?_
          have e3 : ((sumN k (fun s => if E 0 (8 + 10 * s + 4) = w then 1 else 0)) + 0 : Int32) = sumN (k + 1) (fun s => if E 0 (8 + 10 * s + 4) = w then 1 else 0) := by
            simp [sumN, *]
          exact hV_to (ws' := mW G q E) (lv' := [(3, .int (nI (k + 1))), (2, .int (sumN (k + 1) (fun s => if E 0 (8 + 10 * s + 4) = w then 1 else 0))), (0, .ref (q 0)), (1, .int w)]) (st' := []) rfl (congrArg (fun z => ([(3, .int (nI (k + 1))), (2, .int z), (0, .ref (q 0)), (1, .int w)] : List (Nat × Value))) e3) rfl (ih (k + 1) (by omega) (by omega))
        · refine hiconst (v := 1) X dX8_withHow_24 rfl ?_
          refine hgoto (tgt := 29) X dX8_withHow_25 (by decide) ?_
          refine hiadd X dX8_withHow_29 ?_
          refine histore_n (lv' := [(2, .int ((sumN k (fun s => if E 0 (8 + 10 * s + 4) = w then 1 else 0)) + 1)), (3, .int (nI k)), (0, .ref (q 0)), (1, .int w)]) X dX8_withHow_30 (by decide) rfl ?_
          refine hiinc (v := nI (k + 1)) (lv' := [(3, .int (nI (k + 1))), (2, .int ((sumN k (fun s => if E 0 (8 + 10 * s + 4) = w then 1 else 0)) + 1)), (0, .ref (q 0)), (1, .int w)]) X dX8_withHow_31 rfl (nI_1 _) (by decide) rfl ?_
          refine hgoto (tgt := 4) X dX8_withHow_34 (by decide) ?_
          have e4 : ((sumN k (fun s => if E 0 (8 + 10 * s + 4) = w then 1 else 0)) + 1 : Int32) = sumN (k + 1) (fun s => if E 0 (8 + 10 * s + 4) = w then 1 else 0) := by
            simp [sumN, *]
          exact hV_to (ws' := mW G q E) (lv' := [(3, .int (nI (k + 1))), (2, .int (sumN (k + 1) (fun s => if E 0 (8 + 10 * s + 4) = w then 1 else 0))), (0, .ref (q 0)), (1, .int w)]) (st' := []) rfl (congrArg (fun z => ([(3, .int (nI (k + 1))), (2, .int z), (0, .ref (q 0)), (1, .int w)] : List (Nat × Value))) e4) rfl (ih (k + 1) (by omega) (by omega))
  refine hiconst (v := 0) X dX8_withHow_0 rfl ?_
  refine histore_n (lv' := [(2, .int 0), (0, .ref (q 0)), (1, .int w)]) X dX8_withHow_1 (by decide) rfl ?_
  refine hiconst (v := 0) X dX8_withHow_2 rfl ?_
  refine histore_n (lv' := [(3, .int 0), (2, .int 0), (0, .ref (q 0)), (1, .int w)]) X dX8_withHow_3 (by decide) rfl ?_
  have e5 : (0 : Int32) = sumN 0 (fun s => if E 0 (8 + 10 * s + 4) = w then 1 else 0) := by
    simp [sumN, *]
  exact hV_to (ws' := mW G q E) (lv' := [(3, .int 0), (2, .int (sumN 0 (fun s => if E 0 (8 + 10 * s + 4) = w then 1 else 0))), (0, .ref (q 0)), (1, .int w)]) (st' := []) rfl (congrArg (fun z => ([(3, .int 0), (2, .int z), (0, .ref (q 0)), (1, .int w)] : List (Nat × Value))) e5) rfl (L _ 0 (by omega) (Nat.lt_succ_self _))

set_option maxHeartbeats 4000000 in
set_option maxRecDepth 100000 in
theorem kX8_standingOn (l : Launch) (G : hG) (q : Nat → Nat) (E : hF) (n : Nat) (x : Int32) (hn : n ≤ 20) (h4 : E 0 4 = nI n) : hM l G yX8_standingOn wsX8_standingOn ({ frames := 3, cells := 0, slots := 0, locals := 84 }) (mW G q E) [.ref (q 0), .int x] (hR (some (.int (stoE n E x))) (mW G q E)) := by
  refine hM_of (cc := cX8_standingOn) (maxL := 4) (ret := (some .int)) (by decide) rfl (Nat.le_of_ble_eq_true rfl) ?_
  intro pp ee ss mm aa bb me cd X hin
  have iX8 : ∀ w ∈ wsX80, w ∈ wsX8_standingOn := by decide +kernel
  have L : ∀ (d : Nat) (k : Nat), (k ≤ n) → (n - k) < d → hV pp l ee ({ frames := 3, cells := 0, slots := 0, locals := 84 }) ss mm aa bb me cd G (va_A (mW G q E) ss.heap.size) 4 0 0 (MQ bb (hQc G (mW G q E) ss.heap.size (hR (some (.int (stoE n E x))) (mW G q E))) aa ss 0 0 (va_A (mW G q E) ss.heap.size)) (mW G q E) 4 [(3, .int (nI k)), (2, .int (orN k (fun s => if E 0 (8 + 10 * s + 3) = x ∧ ¬ E 0 (8 + 10 * s + 4) = 6 then (1 : Int32) <<< (nI s &&& 31) else 0))), (0, .ref (q 0)), (1, .int x)] [] := by
    intro d
    induction d with
    | zero =>
      intro k hk hd0
      exact absurd hd0 (Nat.not_lt_zero _)
    | succ d ih =>
      intro k hk hd0
      refine hiload_n X dX8_standingOn_4 rfl ?_
      refine haload_n X dX8_standingOn_5 rfl ?_
      refine hget1 X (T := TX8) (N := 14) iX8 0 rfl rfl 0 (by decide) (by decide +kernel) rfl dX8_standingOn_6 ?_
      refine hiconst (v := 4) X dX8_standingOn_9 rfl ?_
      refine hiald (n := 250) (f := E 0) X 1 rfl 4 rfl (by omega) (by decide) dX8_standingOn_10 ?_
      refine hV_st (st' := [.int (nI n), .int (nI k)]) (congrArg (fun z => Value.int z :: [.int (nI k)]) (h4)) ?_
      refine hicmp_ge (tgt := 50) X dX8_standingOn_11 (by decide) (fun c1 => ?_) (fun c1 => ?_)
      · have ek := i_ge hk (by omega) c1
        refine hiload_n X dX8_standingOn_50 rfl ?_
        refine hiret X dX8_standingOn_51 ⟨congrArg (fun z => some (Value.int z)) (?_ : (orN k (fun s => if E 0 (8 + 10 * s + 3) = x ∧ ¬ E 0 (8 + 10 * s + 4) = 6 then (1 : Int32) <<< (nI s &&& 31) else 0)) = stoE n E x), ?_⟩
        · simp [stoE, ek]
        rfl
      · have hk1 := i_lt hk (by omega) c1
        refine hiload_n X dX8_standingOn_14 rfl ?_
        refine haload_n X dX8_standingOn_15 rfl ?_
        refine hiload_n X dX8_standingOn_16 rfl ?_
        refine hiconst (v := 3) X dX8_standingOn_17 rfl ?_
        refine hcallV0 (C := RX8) (T := TX8) (N := 14) (As := [.int (nI k), .int (nI 3)]) (rest := [.int (orN k (fun s => if E 0 (8 + 10 * s + 3) = x ∧ ¬ E 0 (8 + 10 * s + 4) = 6 then (1 : Int32) <<< (nI s &&& 31) else 0))]) (st' := [.int (E 0 (8 + 10 * k + 3)), .int (orN k (fun s => if E 0 (8 + 10 * s + 3) = x ∧ ¬ E 0 (8 + 10 * s + 4) = 6 then (1 : Int32) <<< (nI s &&& 31) else 0))]) (w := mW G q E) X (q0 := 0) (kX8_part l G q E k 3 (by first | assumption | omega | simp [fs_at, *]) (by first | assumption | omega | simp [fs_at, *])) gX8_standingOn_X8_part rfl (n := 2) (by decide +kernel) (by decide) rfl rfl rfl rfl (Nat.le_of_ble_eq_true rfl) dX8_standingOn_18 rfl rfl (by decide) rfl ?_
        refine hiload_n X dX8_standingOn_21 rfl ?_
        refine hicmp_ne (tgt := 41) X dX8_standingOn_22 (by decide) (fun c2 => ?_) (fun c2 => ?_)
        · refine hiconst (v := 0) X dX8_standingOn_41 rfl ?_
          refine hior X dX8_standingOn_42 ?_
          refine histore_n (lv' := [(2, .int ((orN k (fun s => if E 0 (8 + 10 * s + 3) = x ∧ ¬ E 0 (8 + 10 * s + 4) = 6 then (1 : Int32) <<< (nI s &&& 31) else 0)) ||| 0)), (3, .int (nI k)), (0, .ref (q 0)), (1, .int x)]) X dX8_standingOn_43 (by decide) rfl ?_
          refine hiinc (v := nI (k + 1)) (lv' := [(3, .int (nI (k + 1))), (2, .int ((orN k (fun s => if E 0 (8 + 10 * s + 3) = x ∧ ¬ E 0 (8 + 10 * s + 4) = 6 then (1 : Int32) <<< (nI s &&& 31) else 0)) ||| 0)), (0, .ref (q 0)), (1, .int x)]) X dX8_standingOn_44 rfl (nI_1 _) (by decide) rfl ?_
          refine hgoto (tgt := 4) X dX8_standingOn_47 (by decide) ?_
          have e3 : ((orN k (fun s => if E 0 (8 + 10 * s + 3) = x ∧ ¬ E 0 (8 + 10 * s + 4) = 6 then (1 : Int32) <<< (nI s &&& 31) else 0)) ||| 0 : Int32) = orN (k + 1) (fun s => if E 0 (8 + 10 * s + 3) = x ∧ ¬ E 0 (8 + 10 * s + 4) = 6 then (1 : Int32) <<< (nI s &&& 31) else 0) := by
            simp [orN, *]
          exact hV_to (ws' := mW G q E) (lv' := [(3, .int (nI (k + 1))), (2, .int (orN (k + 1) (fun s => if E 0 (8 + 10 * s + 3) = x ∧ ¬ E 0 (8 + 10 * s + 4) = 6 then (1 : Int32) <<< (nI s &&& 31) else 0))), (0, .ref (q 0)), (1, .int x)]) (st' := []) rfl (congrArg (fun z => ([(3, .int (nI (k + 1))), (2, .int z), (0, .ref (q 0)), (1, .int x)] : List (Nat × Value))) e3) rfl (ih (k + 1) (by omega) (by omega))
        · refine haload_n X dX8_standingOn_25 rfl ?_
          refine hiload_n X dX8_standingOn_26 rfl ?_
          refine hbipush (v := 6) X dX8_standingOn_27 rfl ?_
          refine hcallV0 (C := RX8) (T := TX8) (N := 14) (As := [.int (nI k), .int 6]) (rest := [.int (orN k (fun s => if E 0 (8 + 10 * s + 3) = x ∧ ¬ E 0 (8 + 10 * s + 4) = 6 then (1 : Int32) <<< (nI s &&& 31) else 0))]) (st' := [.int (bI (E 0 (8 + 10 * k + 4) = 6)), .int (orN k (fun s => if E 0 (8 + 10 * s + 3) = x ∧ ¬ E 0 (8 + 10 * s + 4) = 6 then (1 : Int32) <<< (nI s &&& 31) else 0))]) (w := mW G q E) X (q0 := 0) (kX8_isHow l G q E k 6 (by first | assumption | omega | simp [fs_at, *])) gX8_standingOn_X8_isHow rfl (n := 2) (by decide +kernel) (by decide) rfl rfl rfl rfl (Nat.le_of_ble_eq_true rfl) dX8_standingOn_29 rfl rfl (by decide) rfl ?_
          refine hif_neB (tgt := 41) X dX8_standingOn_32 (by decide) (fun c4 => ?_) (fun c4 => ?_)
          · refine hiconst (v := 0) X dX8_standingOn_41 rfl ?_
            refine hior X dX8_standingOn_42 ?_
            refine histore_n (lv' := [(2, .int ((orN k (fun s => if E 0 (8 + 10 * s + 3) = x ∧ ¬ E 0 (8 + 10 * s + 4) = 6 then (1 : Int32) <<< (nI s &&& 31) else 0)) ||| 0)), (3, .int (nI k)), (0, .ref (q 0)), (1, .int x)]) X dX8_standingOn_43 (by decide) rfl ?_
            refine hiinc (v := nI (k + 1)) (lv' := [(3, .int (nI (k + 1))), (2, .int ((orN k (fun s => if E 0 (8 + 10 * s + 3) = x ∧ ¬ E 0 (8 + 10 * s + 4) = 6 then (1 : Int32) <<< (nI s &&& 31) else 0)) ||| 0)), (0, .ref (q 0)), (1, .int x)]) X dX8_standingOn_44 rfl (nI_1 _) (by decide) rfl ?_
            refine hgoto (tgt := 4) X dX8_standingOn_47 (by decide) ?_
            have e5 : ((orN k (fun s => if E 0 (8 + 10 * s + 3) = x ∧ ¬ E 0 (8 + 10 * s + 4) = 6 then (1 : Int32) <<< (nI s &&& 31) else 0)) ||| 0 : Int32) = orN (k + 1) (fun s => if E 0 (8 + 10 * s + 3) = x ∧ ¬ E 0 (8 + 10 * s + 4) = 6 then (1 : Int32) <<< (nI s &&& 31) else 0) := by
              simp [orN, *]
            exact hV_to (ws' := mW G q E) (lv' := [(3, .int (nI (k + 1))), (2, .int (orN (k + 1) (fun s => if E 0 (8 + 10 * s + 3) = x ∧ ¬ E 0 (8 + 10 * s + 4) = 6 then (1 : Int32) <<< (nI s &&& 31) else 0))), (0, .ref (q 0)), (1, .int x)]) (st' := []) rfl (congrArg (fun z => ([(3, .int (nI (k + 1))), (2, .int z), (0, .ref (q 0)), (1, .int x)] : List (Nat × Value))) e5) rfl (ih (k + 1) (by omega) (by omega))
          · refine hiconst (v := 1) X dX8_standingOn_35 rfl ?_
            refine hiload_n X dX8_standingOn_36 rfl ?_
            refine hishl X dX8_standingOn_37 ?_
            refine hgoto (tgt := 42) X dX8_standingOn_38 (by decide) ?_
            refine hior X dX8_standingOn_42 ?_
            refine histore_n (lv' := [(2, .int ((orN k (fun s => if E 0 (8 + 10 * s + 3) = x ∧ ¬ E 0 (8 + 10 * s + 4) = 6 then (1 : Int32) <<< (nI s &&& 31) else 0)) ||| ((1 : Int32) <<< ((nI k) &&& 31)))), (3, .int (nI k)), (0, .ref (q 0)), (1, .int x)]) X dX8_standingOn_43 (by decide) rfl ?_
            refine hiinc (v := nI (k + 1)) (lv' := [(3, .int (nI (k + 1))), (2, .int ((orN k (fun s => if E 0 (8 + 10 * s + 3) = x ∧ ¬ E 0 (8 + 10 * s + 4) = 6 then (1 : Int32) <<< (nI s &&& 31) else 0)) ||| ((1 : Int32) <<< ((nI k) &&& 31)))), (0, .ref (q 0)), (1, .int x)]) X dX8_standingOn_44 rfl (nI_1 _) (by decide) rfl ?_
            refine hgoto (tgt := 4) X dX8_standingOn_47 (by decide) ?_
            have e6 : ((orN k (fun s => if E 0 (8 + 10 * s + 3) = x ∧ ¬ E 0 (8 + 10 * s + 4) = 6 then (1 : Int32) <<< (nI s &&& 31) else 0)) ||| ((1 : Int32) <<< ((nI k) &&& 31)) : Int32) = orN (k + 1) (fun s => if E 0 (8 + 10 * s + 3) = x ∧ ¬ E 0 (8 + 10 * s + 4) = 6 then (1 : Int32) <<< (nI s &&& 31) else 0) := by
              simp [orN, *]
            exact hV_to (ws' := mW G q E) (lv' := [(3, .int (nI (k + 1))), (2, .int (orN (k + 1) (fun s => if E 0 (8 + 10 * s + 3) = x ∧ ¬ E 0 (8 + 10 * s + 4) = 6 then (1 : Int32) <<< (nI s &&& 31) else 0))), (0, .ref (q 0)), (1, .int x)]) (st' := []) rfl (congrArg (fun z => ([(3, .int (nI (k + 1))), (2, .int z), (0, .ref (q 0)), (1, .int x)] : List (Nat × Value))) e6) rfl (ih (k + 1) (by omega) (by omega))
  refine hiconst (v := 0) X dX8_standingOn_0 rfl ?_
  refine histore_n (lv' := [(2, .int 0), (0, .ref (q 0)), (1, .int x)]) X dX8_standingOn_1 (by decide) rfl ?_
  refine hiconst (v := 0) X dX8_standingOn_2 rfl ?_
  refine histore_n (lv' := [(3, .int 0), (2, .int 0), (0, .ref (q 0)), (1, .int x)]) X dX8_standingOn_3 (by decide) rfl ?_
  have e7 : (0 : Int32) = orN 0 (fun s => if E 0 (8 + 10 * s + 3) = x ∧ ¬ E 0 (8 + 10 * s + 4) = 6 then (1 : Int32) <<< (nI s &&& 31) else 0) := by
    simp [orN, *]
  exact hV_to (ws' := mW G q E) (lv' := [(3, .int 0), (2, .int (orN 0 (fun s => if E 0 (8 + 10 * s + 3) = x ∧ ¬ E 0 (8 + 10 * s + 4) = 6 then (1 : Int32) <<< (nI s &&& 31) else 0))), (0, .ref (q 0)), (1, .int x)]) (st' := []) rfl (congrArg (fun z => ([(3, .int 0), (2, .int z), (0, .ref (q 0)), (1, .int x)] : List (Nat × Value))) e7) rfl (L _ 0 (by omega) (Nat.lt_succ_self _))

set_option maxHeartbeats 4000000 in
set_option maxRecDepth 100000 in
theorem kX8_meters (l : Launch) (G : hG) (q : Nat → Nat) (E : hF) (n : Nat) (hn : n ≤ 20) (h4 : E 0 4 = nI n) : hM l G yX8_meters wsX8_meters ({ frames := 3, cells := 0, slots := 0, locals := 84 }) (mW G q E) [.ref (q 0)] (hR (some (.int (metE n E))) (mW G q E)) := by
  refine hM_of (cc := cX8_meters) (maxL := 3) (ret := (some .int)) (by decide) rfl (Nat.le_of_ble_eq_true rfl) ?_
  intro pp ee ss mm aa bb me cd X hin
  have iX8 : ∀ w ∈ wsX80, w ∈ wsX8_meters := by decide +kernel
  have L : ∀ (d : Nat) (k : Nat), (k ≤ n) → (n - k) < d → hV pp l ee ({ frames := 3, cells := 0, slots := 0, locals := 84 }) ss mm aa bb me cd G (va_A (mW G q E) ss.heap.size) 3 0 0 (MQ bb (hQc G (mW G q E) ss.heap.size (hR (some (.int (metE n E))) (mW G q E))) aa ss 0 0 (va_A (mW G q E) ss.heap.size)) (mW G q E) 4 [(2, .int (nI k)), (1, .int (sumN k (fun s => if E 0 (8 + 10 * s + 4) = 1 then E 0 (8 + 10 * s + 1) else 0))), (0, .ref (q 0))] [] := by
    intro d
    induction d with
    | zero =>
      intro k hk hd0
      exact absurd hd0 (Nat.not_lt_zero _)
    | succ d ih =>
      intro k hk hd0
      refine hiload_n X dX8_meters_4 rfl ?_
      refine haload_n X dX8_meters_5 rfl ?_
      refine hget1 X (T := TX8) (N := 14) iX8 0 rfl rfl 0 (by decide) (by decide +kernel) rfl dX8_meters_6 ?_
      refine hiconst (v := 4) X dX8_meters_9 rfl ?_
      refine hiald (n := 250) (f := E 0) X 1 rfl 4 rfl (by omega) (by decide) dX8_meters_10 ?_
      refine hV_st (st' := [.int (nI n), .int (nI k)]) (congrArg (fun z => Value.int z :: [.int (nI k)]) (h4)) ?_
      refine hicmp_ge (tgt := 42) X dX8_meters_11 (by decide) (fun c1 => ?_) (fun c1 => ?_)
      · have ek := i_ge hk (by omega) c1
        refine hiload_n X dX8_meters_42 rfl ?_
        refine hiret X dX8_meters_43 ⟨congrArg (fun z => some (Value.int z)) (?_ : (sumN k (fun s => if E 0 (8 + 10 * s + 4) = 1 then E 0 (8 + 10 * s + 1) else 0)) = metE n E), ?_⟩
        · simp [metE, ek]
        rfl
      · have hk1 := i_lt hk (by omega) c1
        refine hiload_n X dX8_meters_14 rfl ?_
        refine haload_n X dX8_meters_15 rfl ?_
        refine hiload_n X dX8_meters_16 rfl ?_
        refine hiconst (v := 1) X dX8_meters_17 rfl ?_
        refine hcallV0 (C := RX8) (T := TX8) (N := 14) (As := [.int (nI k), .int 1]) (rest := [.int (sumN k (fun s => if E 0 (8 + 10 * s + 4) = 1 then E 0 (8 + 10 * s + 1) else 0))]) (st' := [.int (bI (E 0 (8 + 10 * k + 4) = 1)), .int (sumN k (fun s => if E 0 (8 + 10 * s + 4) = 1 then E 0 (8 + 10 * s + 1) else 0))]) (w := mW G q E) X (q0 := 0) (kX8_isHow l G q E k 1 (by first | assumption | omega | simp [fs_at, *])) gX8_meters_X8_isHow rfl (n := 2) (by decide +kernel) (by decide) rfl rfl rfl rfl (Nat.le_of_ble_eq_true rfl) dX8_meters_18 rfl rfl (by decide) rfl ?_
        refine hif_eqB (tgt := 33) X dX8_meters_21 (by decide) (fun c2 => ?_) (fun c2 => ?_)
        · refine hiconst (v := 0) X dX8_meters_33 rfl ?_
          refine hiadd X dX8_meters_34 ?_
          refine histore_n (lv' := [(1, .int ((sumN k (fun s => if E 0 (8 + 10 * s + 4) = 1 then E 0 (8 + 10 * s + 1) else 0)) + 0)), (2, .int (nI k)), (0, .ref (q 0))]) X dX8_meters_35 (by decide) rfl ?_
          refine hiinc (v := nI (k + 1)) (lv' := [(2, .int (nI (k + 1))), (1, .int ((sumN k (fun s => if E 0 (8 + 10 * s + 4) = 1 then E 0 (8 + 10 * s + 1) else 0)) + 0)), (0, .ref (q 0))]) X dX8_meters_36 rfl (nI_1 _) (by decide) rfl ?_
          refine hgoto (tgt := 4) X dX8_meters_39 (by decide) ?_
          have e3 : ((sumN k (fun s => if E 0 (8 + 10 * s + 4) = 1 then E 0 (8 + 10 * s + 1) else 0)) + 0 : Int32) = sumN (k + 1) (fun s => if E 0 (8 + 10 * s + 4) = 1 then E 0 (8 + 10 * s + 1) else 0) := by
            simp [sumN, *]
          exact hV_to (ws' := mW G q E) (lv' := [(2, .int (nI (k + 1))), (1, .int (sumN (k + 1) (fun s => if E 0 (8 + 10 * s + 4) = 1 then E 0 (8 + 10 * s + 1) else 0))), (0, .ref (q 0))]) (st' := []) rfl (congrArg (fun z => ([(2, .int (nI (k + 1))), (1, .int z), (0, .ref (q 0))] : List (Nat × Value))) e3) rfl (ih (k + 1) (by omega) (by omega))
        · refine haload_n X dX8_meters_24 rfl ?_
          refine hiload_n X dX8_meters_25 rfl ?_
          refine hiconst (v := 1) X dX8_meters_26 rfl ?_
          refine hcallV0 (C := RX8) (T := TX8) (N := 14) (As := [.int (nI k), .int (nI 1)]) (rest := [.int (sumN k (fun s => if E 0 (8 + 10 * s + 4) = 1 then E 0 (8 + 10 * s + 1) else 0))]) (st' := [.int (E 0 (8 + 10 * k + 1)), .int (sumN k (fun s => if E 0 (8 + 10 * s + 4) = 1 then E 0 (8 + 10 * s + 1) else 0))]) (w := mW G q E) X (q0 := 0) (kX8_part l G q E k 1 (by first | assumption | omega | simp [fs_at, *]) (by first | assumption | omega | simp [fs_at, *])) gX8_meters_X8_part rfl (n := 2) (by decide +kernel) (by decide) rfl rfl rfl rfl (Nat.le_of_ble_eq_true rfl) dX8_meters_27 rfl rfl (by decide) rfl ?_
          refine hgoto (tgt := 34) X dX8_meters_30 (by decide) ?_
          refine hiadd X dX8_meters_34 ?_
          refine histore_n (lv' := [(1, .int ((sumN k (fun s => if E 0 (8 + 10 * s + 4) = 1 then E 0 (8 + 10 * s + 1) else 0)) + (E 0 (8 + 10 * k + 1)))), (2, .int (nI k)), (0, .ref (q 0))]) X dX8_meters_35 (by decide) rfl ?_
          refine hiinc (v := nI (k + 1)) (lv' := [(2, .int (nI (k + 1))), (1, .int ((sumN k (fun s => if E 0 (8 + 10 * s + 4) = 1 then E 0 (8 + 10 * s + 1) else 0)) + (E 0 (8 + 10 * k + 1)))), (0, .ref (q 0))]) X dX8_meters_36 rfl (nI_1 _) (by decide) rfl ?_
          refine hgoto (tgt := 4) X dX8_meters_39 (by decide) ?_
          have e4 : ((sumN k (fun s => if E 0 (8 + 10 * s + 4) = 1 then E 0 (8 + 10 * s + 1) else 0)) + (E 0 (8 + 10 * k + 1)) : Int32) = sumN (k + 1) (fun s => if E 0 (8 + 10 * s + 4) = 1 then E 0 (8 + 10 * s + 1) else 0) := by
            simp [sumN, *]
          exact hV_to (ws' := mW G q E) (lv' := [(2, .int (nI (k + 1))), (1, .int (sumN (k + 1) (fun s => if E 0 (8 + 10 * s + 4) = 1 then E 0 (8 + 10 * s + 1) else 0))), (0, .ref (q 0))]) (st' := []) rfl (congrArg (fun z => ([(2, .int (nI (k + 1))), (1, .int z), (0, .ref (q 0))] : List (Nat × Value))) e4) rfl (ih (k + 1) (by omega) (by omega))
  refine hiconst (v := 0) X dX8_meters_0 rfl ?_
  refine histore_n (lv' := [(1, .int 0), (0, .ref (q 0))]) X dX8_meters_1 (by decide) rfl ?_
  refine hiconst (v := 0) X dX8_meters_2 rfl ?_
  refine histore_n (lv' := [(2, .int 0), (1, .int 0), (0, .ref (q 0))]) X dX8_meters_3 (by decide) rfl ?_
  have e5 : (0 : Int32) = sumN 0 (fun s => if E 0 (8 + 10 * s + 4) = 1 then E 0 (8 + 10 * s + 1) else 0) := by
    simp [sumN, *]
  exact hV_to (ws' := mW G q E) (lv' := [(2, .int 0), (1, .int (sumN 0 (fun s => if E 0 (8 + 10 * s + 4) = 1 then E 0 (8 + 10 * s + 1) else 0))), (0, .ref (q 0))]) (st' := []) rfl (congrArg (fun z => ([(2, .int 0), (1, .int z), (0, .ref (q 0))] : List (Nat × Value))) e5) rfl (L _ 0 (by omega) (Nat.lt_succ_self _))

set_option maxHeartbeats 4000000 in
set_option maxRecDepth 100000 in
theorem kX8_loadOf (l : Launch) (G : hG) (q : Nat → Nat) (E : hF) (n : Nat) (x : Int32) (hn : n ≤ 20) (h4 : E 0 4 = nI n) : hM l G yX8_loadOf wsX8_loadOf ({ frames := 2, cells := 0, slots := 0, locals := 62 }) (mW G q E) [.ref (q 0), .int x] (hR (some (.int (loaE n E x))) (mW G q E)) := by
  refine hM_of (cc := cX8_loadOf) (maxL := 4) (ret := (some .int)) (by decide) rfl (Nat.le_of_ble_eq_true rfl) ?_
  intro pp ee ss mm aa bb me cd X hin
  have iX8 : ∀ w ∈ wsX80, w ∈ wsX8_loadOf := by decide +kernel
  have L : ∀ (d : Nat) (k : Nat), (k ≤ n) → (n - k) < d → hV pp l ee ({ frames := 2, cells := 0, slots := 0, locals := 62 }) ss mm aa bb me cd G (va_A (mW G q E) ss.heap.size) 4 0 0 (MQ bb (hQc G (mW G q E) ss.heap.size (hR (some (.int (loaE n E x))) (mW G q E))) aa ss 0 0 (va_A (mW G q E) ss.heap.size)) (mW G q E) 4 [(3, .int (nI k)), (2, .int (sumN k (fun s => if E 0 (8 + 10 * s + 6) = x then E 0 (8 + 10 * s + 2) else 0))), (0, .ref (q 0)), (1, .int x)] [] := by
    intro d
    induction d with
    | zero =>
      intro k hk hd0
      exact absurd hd0 (Nat.not_lt_zero _)
    | succ d ih =>
      intro k hk hd0
      refine hiload_n X dX8_loadOf_4 rfl ?_
      refine haload_n X dX8_loadOf_5 rfl ?_
      refine hget1 X (T := TX8) (N := 14) iX8 0 rfl rfl 0 (by decide) (by decide +kernel) rfl dX8_loadOf_6 ?_
      refine hiconst (v := 4) X dX8_loadOf_9 rfl ?_
      refine hiald (n := 250) (f := E 0) X 1 rfl 4 rfl (by omega) (by decide) dX8_loadOf_10 ?_
      refine hV_st (st' := [.int (nI n), .int (nI k)]) (congrArg (fun z => Value.int z :: [.int (nI k)]) (h4)) ?_
      refine hicmp_ge (tgt := 44) X dX8_loadOf_11 (by decide) (fun c1 => ?_) (fun c1 => ?_)
      · have ek := i_ge hk (by omega) c1
        refine hiload_n X dX8_loadOf_44 rfl ?_
        refine hiret X dX8_loadOf_45 ⟨congrArg (fun z => some (Value.int z)) (?_ : (sumN k (fun s => if E 0 (8 + 10 * s + 6) = x then E 0 (8 + 10 * s + 2) else 0)) = loaE n E x), ?_⟩
        · simp [loaE, ek]
        rfl
      · have hk1 := i_lt hk (by omega) c1
        refine hiload_n X dX8_loadOf_14 rfl ?_
        refine haload_n X dX8_loadOf_15 rfl ?_
        refine hiload_n X dX8_loadOf_16 rfl ?_
        refine hbipush (v := 6) X dX8_loadOf_17 rfl ?_
        refine hcallV0 (C := RX8) (T := TX8) (N := 14) (As := [.int (nI k), .int (nI 6)]) (rest := [.int (sumN k (fun s => if E 0 (8 + 10 * s + 6) = x then E 0 (8 + 10 * s + 2) else 0))]) (st' := [.int (E 0 (8 + 10 * k + 6)), .int (sumN k (fun s => if E 0 (8 + 10 * s + 6) = x then E 0 (8 + 10 * s + 2) else 0))]) (w := mW G q E) X (q0 := 0) (kX8_part l G q E k 6 (by first | assumption | omega | simp [fs_at, *]) (by first | assumption | omega | simp [fs_at, *])) gX8_loadOf_X8_part rfl (n := 2) (by decide +kernel) (by decide) rfl rfl rfl rfl (Nat.le_of_ble_eq_true rfl) dX8_loadOf_19 rfl rfl (by decide) rfl ?_
        refine hiload_n X dX8_loadOf_22 rfl ?_
        refine hicmp_ne (tgt := 35) X dX8_loadOf_23 (by decide) (fun c2 => ?_) (fun c2 => ?_)
        · refine hiconst (v := 0) X dX8_loadOf_35 rfl ?_
          refine hiadd X dX8_loadOf_36 ?_
          refine histore_n (lv' := [(2, .int ((sumN k (fun s => if E 0 (8 + 10 * s + 6) = x then E 0 (8 + 10 * s + 2) else 0)) + 0)), (3, .int (nI k)), (0, .ref (q 0)), (1, .int x)]) X dX8_loadOf_37 (by decide) rfl ?_
          refine hiinc (v := nI (k + 1)) (lv' := [(3, .int (nI (k + 1))), (2, .int ((sumN k (fun s => if E 0 (8 + 10 * s + 6) = x then E 0 (8 + 10 * s + 2) else 0)) + 0)), (0, .ref (q 0)), (1, .int x)]) X dX8_loadOf_38 rfl (nI_1 _) (by decide) rfl ?_
          refine hgoto (tgt := 4) X dX8_loadOf_41 (by decide) ?_
          have e3 : ((sumN k (fun s => if E 0 (8 + 10 * s + 6) = x then E 0 (8 + 10 * s + 2) else 0)) + 0 : Int32) = sumN (k + 1) (fun s => if E 0 (8 + 10 * s + 6) = x then E 0 (8 + 10 * s + 2) else 0) := by
            simp [sumN, *]
          exact hV_to (ws' := mW G q E) (lv' := [(3, .int (nI (k + 1))), (2, .int (sumN (k + 1) (fun s => if E 0 (8 + 10 * s + 6) = x then E 0 (8 + 10 * s + 2) else 0))), (0, .ref (q 0)), (1, .int x)]) (st' := []) rfl (congrArg (fun z => ([(3, .int (nI (k + 1))), (2, .int z), (0, .ref (q 0)), (1, .int x)] : List (Nat × Value))) e3) rfl (ih (k + 1) (by omega) (by omega))
        · refine haload_n X dX8_loadOf_26 rfl ?_
          refine hiload_n X dX8_loadOf_27 rfl ?_
          refine hiconst (v := 2) X dX8_loadOf_28 rfl ?_
          refine hcallV0 (C := RX8) (T := TX8) (N := 14) (As := [.int (nI k), .int (nI 2)]) (rest := [.int (sumN k (fun s => if E 0 (8 + 10 * s + 6) = x then E 0 (8 + 10 * s + 2) else 0))]) (st' := [.int (E 0 (8 + 10 * k + 2)), .int (sumN k (fun s => if E 0 (8 + 10 * s + 6) = x then E 0 (8 + 10 * s + 2) else 0))]) (w := mW G q E) X (q0 := 0) (kX8_part l G q E k 2 (by first | assumption | omega | simp [fs_at, *]) (by first | assumption | omega | simp [fs_at, *])) gX8_loadOf_X8_part rfl (n := 2) (by decide +kernel) (by decide) rfl rfl rfl rfl (Nat.le_of_ble_eq_true rfl) dX8_loadOf_29 rfl rfl (by decide) rfl ?_
          refine hgoto (tgt := 36) X dX8_loadOf_32 (by decide) ?_
          refine hiadd X dX8_loadOf_36 ?_
          refine histore_n (lv' := [(2, .int ((sumN k (fun s => if E 0 (8 + 10 * s + 6) = x then E 0 (8 + 10 * s + 2) else 0)) + (E 0 (8 + 10 * k + 2)))), (3, .int (nI k)), (0, .ref (q 0)), (1, .int x)]) X dX8_loadOf_37 (by decide) rfl ?_
          refine hiinc (v := nI (k + 1)) (lv' := [(3, .int (nI (k + 1))), (2, .int ((sumN k (fun s => if E 0 (8 + 10 * s + 6) = x then E 0 (8 + 10 * s + 2) else 0)) + (E 0 (8 + 10 * k + 2)))), (0, .ref (q 0)), (1, .int x)]) X dX8_loadOf_38 rfl (nI_1 _) (by decide) rfl ?_
          refine hgoto (tgt := 4) X dX8_loadOf_41 (by decide) ?_
          have e4 : ((sumN k (fun s => if E 0 (8 + 10 * s + 6) = x then E 0 (8 + 10 * s + 2) else 0)) + (E 0 (8 + 10 * k + 2)) : Int32) = sumN (k + 1) (fun s => if E 0 (8 + 10 * s + 6) = x then E 0 (8 + 10 * s + 2) else 0) := by
            simp [sumN, *]
          exact hV_to (ws' := mW G q E) (lv' := [(3, .int (nI (k + 1))), (2, .int (sumN (k + 1) (fun s => if E 0 (8 + 10 * s + 6) = x then E 0 (8 + 10 * s + 2) else 0))), (0, .ref (q 0)), (1, .int x)]) (st' := []) rfl (congrArg (fun z => ([(3, .int (nI (k + 1))), (2, .int z), (0, .ref (q 0)), (1, .int x)] : List (Nat × Value))) e4) rfl (ih (k + 1) (by omega) (by omega))
  refine hiconst (v := 0) X dX8_loadOf_0 rfl ?_
  refine histore_n (lv' := [(2, .int 0), (0, .ref (q 0)), (1, .int x)]) X dX8_loadOf_1 (by decide) rfl ?_
  refine hiconst (v := 0) X dX8_loadOf_2 rfl ?_
  refine histore_n (lv' := [(3, .int 0), (2, .int 0), (0, .ref (q 0)), (1, .int x)]) X dX8_loadOf_3 (by decide) rfl ?_
  have e5 : (0 : Int32) = sumN 0 (fun s => if E 0 (8 + 10 * s + 6) = x then E 0 (8 + 10 * s + 2) else 0) := by
    simp [sumN, *]
  exact hV_to (ws' := mW G q E) (lv' := [(3, .int 0), (2, .int (sumN 0 (fun s => if E 0 (8 + 10 * s + 6) = x then E 0 (8 + 10 * s + 2) else 0))), (0, .ref (q 0)), (1, .int x)]) (st' := []) rfl (congrArg (fun z => ([(3, .int 0), (2, .int z), (0, .ref (q 0)), (1, .int x)] : List (Nat × Value))) e5) rfl (L _ 0 (by omega) (Nat.lt_succ_self _))
end
section
set_option maxHeartbeats 4000000 in
set_option maxRecDepth 100000 in
theorem kX8_hasBase (l : Launch) (G : hG) (q : Nat → Nat) (E : hF) (s n : Nat) (hn : n ≤ 20) (hs : s < n) (hb : E 0 (8 + 10 * s + 3) = -6 ∨ ∃ b, b < n ∧ E 0 (8 + 10 * s + 3) = nI b) : hM l G yX8_hasBase wsX8_hasBase ({ frames := 3, cells := 0, slots := 0, locals := 84 }) (mW G q E) [.ref (q 0), .int (nI s)] (hR (some (.int (bI (hasB E s)))) (mW G q E)) := by
  refine hM_of (cc := cX8_hasBase) (maxL := 2) (ret := (some .boolean)) (by decide) rfl (Nat.le_of_ble_eq_true rfl) ?_
  intro pp ee ss mm aa bb me cd X hin
  refine haload_n X dX8_hasBase_0 rfl ?_
  refine hiload_n X dX8_hasBase_1 rfl ?_
  refine hiconst (v := 3) X dX8_hasBase_2 rfl ?_
  refine hcallV0 (C := RX8) (T := TX8) (N := 14) (As := [.int (nI s), .int (nI 3)]) (rest := []) (st' := [.int (E 0 (8 + 10 * s + 3))]) (w := mW G q E) X (q0 := 0) (kX8_part l G q E s 3 (by first | assumption | omega | simp [fs_at, *]) (by first | assumption | omega | simp [fs_at, *])) gX8_hasBase_X8_part rfl (n := 2) (by decide +kernel) (by decide) rfl rfl rfl rfl (Nat.le_of_ble_eq_true rfl) dX8_hasBase_3 rfl rfl (by decide) rfl ?_
  refine hbipush (v := (-6)) X dX8_hasBase_6 rfl ?_
  refine hicmp_eq (tgt := 25) X dX8_hasBase_8 (by decide) (fun c1 => ?_) (fun c1 => ?_)
  · refine hiconst (v := 1) X dX8_hasBase_25 rfl ?_
    refine hgoto (tgt := 30) X dX8_hasBase_26 (by decide) ?_
    refine hzret X rfl dX8_hasBase_30 ⟨congrArg (fun z => some (Value.int z)) (?_ : 1 = bI (hasB E s)), ?_⟩
    · first | (simp [bI, hasB, c1]; done) | (simp [bI, hasB, hb2, nI_clamp (show b < 2 ^ 31 by omega), nI_ne6 (show b < 2 ^ 31 by omega), c1]; done)
    rfl
  · obtain ⟨b, hb1, hb2⟩ := hb.resolve_left c1
    refine haload_n X dX8_hasBase_11 rfl ?_
    refine haload_n X dX8_hasBase_12 rfl ?_
    refine hiload_n X dX8_hasBase_13 rfl ?_
    refine hiconst (v := 3) X dX8_hasBase_14 rfl ?_
    refine hcallV0 (C := RX8) (T := TX8) (N := 14) (As := [.int (nI s), .int (nI 3)]) (rest := [.ref (q 0)]) (st' := [.int (E 0 (8 + 10 * s + 3)), .ref (q 0)]) (w := mW G q E) X (q0 := 0) (kX8_part l G q E s 3 (by first | assumption | omega | simp [fs_at, *]) (by first | assumption | omega | simp [fs_at, *])) gX8_hasBase_X8_part rfl (n := 2) (by decide +kernel) (by decide) rfl rfl rfl rfl (Nat.le_of_ble_eq_true rfl) dX8_hasBase_15 rfl rfl (by decide) rfl ?_
    refine hV_st (st' := [.int (nI b), .ref (q 0)]) (congrArg (fun z => ([Value.int z, .ref (q 0)] : List Value)) (hb2)) ?_
    refine hiconst (v := 4) X dX8_hasBase_18 rfl ?_
    refine hcallV0 (C := RX8) (T := TX8) (N := 14) (As := [.int (nI b), .int 4]) (rest := []) (st' := [.int (bI (E 0 (8 + 10 * b + 4) = 4))]) (w := mW G q E) X (q0 := 0) (kX8_isHow l G q E b 4 (by first | assumption | omega | simp [fs_at, *])) gX8_hasBase_X8_isHow rfl (n := 2) (by decide +kernel) (by decide) rfl rfl rfl rfl (Nat.le_of_ble_eq_true rfl) dX8_hasBase_19 rfl rfl (by decide) rfl ?_
    refine hif_eqB (tgt := 29) X dX8_hasBase_22 (by decide) (fun c2 => ?_) (fun c2 => ?_)
    · refine hiconst (v := 0) X dX8_hasBase_29 rfl ?_
      refine hzret X rfl dX8_hasBase_30 ⟨congrArg (fun z => some (Value.int z)) (?_ : 0 = bI (hasB E s)), ?_⟩
      · first | (simp [bI, hasB, c1, c2]; done) | (simp [bI, hasB, hb2, nI_clamp (show b < 2 ^ 31 by omega), nI_ne6 (show b < 2 ^ 31 by omega), c1, c2]; done)
      rfl
    · refine hiconst (v := 1) X dX8_hasBase_25 rfl ?_
      refine hgoto (tgt := 30) X dX8_hasBase_26 (by decide) ?_
      refine hzret X rfl dX8_hasBase_30 ⟨congrArg (fun z => some (Value.int z)) (?_ : 1 = bI (hasB E s)), ?_⟩
      · first | (simp [bI, hasB, c1, c2]; done) | (simp [bI, hasB, hb2, nI_clamp (show b < 2 ^ 31 by omega), nI_ne6 (show b < 2 ^ 31 by omega), c1, c2]; done)
      rfl

set_option maxHeartbeats 4000000 in
set_option maxRecDepth 100000 in
theorem kX8_lorries (l : Launch) (G : hG) (q : Nat → Nat) (E : hF) (n c : Nat) (h : mOk n c E) : hM l G yX8_lorries wsX8_lorries ({ frames := 4, cells := 0, slots := 0, locals := 106 }) (mW G q E) [.ref (q 0)] (hR none (mW G q (lorE n E))) := by
  refine hM_of (cc := cX8_lorries) (maxL := 3) (ret := none) (by decide) rfl (Nat.le_of_ble_eq_true rfl) ?_
  intro pp ee ss mm aa bb me cd X hin
  have iX8 : ∀ w ∈ wsX80, w ∈ wsX8_lorries := by decide +kernel
  have hn := h.hn
  have L3 : ∀ (d : Nat) (k : Nat), (k ≤ n) → (n - k) < d → hV pp l ee ({ frames := 4, cells := 0, slots := 0, locals := 106 }) ss mm aa bb me cd G (va_A (mW G q E) ss.heap.size) 3 0 0 (MQ bb (hQc G (mW G q E) ss.heap.size (hR none (mW G q (lorE n E)))) aa ss 0 0 (va_A (mW G q E) ss.heap.size)) (mW G q (itN k tkS (cmE n n 0 (itN n lvS E)))) 129 [(2, .int (nI k)), (0, .ref (q 0))] [] := by
    intro d
    induction d with
    | zero =>
      intro k hk hd0
      exact absurd hd0 (Nat.not_lt_zero _)
    | succ d ih =>
      intro k hk hd0
      have hI : mOk n c (itN k tkS (cmE n n 0 (itN n lvS E))) := itN_P (mcmE n 0 (itN_P h n fun _ _ hi hx => mlvS hx hi) (by omega)) k fun _ _ hi hx => mtkS hx (by omega)
      refine hiload_n X dX8_lorries_129 rfl ?_
      refine haload_n X dX8_lorries_130 rfl ?_
      refine hget1 X (T := TX8) (N := 14) iX8 0 rfl rfl 0 (by decide) (by decide +kernel) rfl dX8_lorries_131 ?_
      refine hiconst (v := 4) X dX8_lorries_134 rfl ?_
      refine hiald (n := 250) (f := (itN k tkS (cmE n n 0 (itN n lvS E))) 0) X 1 rfl 4 rfl (by omega) (by decide) dX8_lorries_135 ?_
      refine hV_st (st' := [.int (nI n), .int (nI k)]) (congrArg (fun z => Value.int z :: [.int (nI k)]) (hI.h4)) ?_
      refine hicmp_ge (tgt := 170) X dX8_lorries_136 (by decide) (fun c1 => ?_) (fun c1 => ?_)
      · have ek := i_ge hk (by omega) c1
        refine hvret X dX8_lorries_170 ⟨rfl, ?_⟩
        refine congrArg (mW G q) (?_ : (itN k tkS (cmE n n 0 (itN n lvS E)) : hF) = lorE n E)
        simp [lorE, ek]
      · have hk1 := i_lt hk (by omega) c1
        refine haload_n X dX8_lorries_139 rfl ?_
        refine hiload_n X dX8_lorries_140 rfl ?_
        refine hiconst (v := 1) X dX8_lorries_141 rfl ?_
        refine hcallV0 (C := RX8) (T := TX8) (N := 14) (As := [.int (nI k), .int 1]) (rest := []) (st' := [.int (bI ((itN k tkS (cmE n n 0 (itN n lvS E))) 0 (8 + 10 * k + 4) = 1))]) (w := mW G q (itN k tkS (cmE n n 0 (itN n lvS E)))) X (q0 := 0) (kX8_isHow l G q (itN k tkS (cmE n n 0 (itN n lvS E))) k 1 (by first | assumption | omega | exact hI.h4)) gX8_lorries_X8_isHow rfl (n := 2) (by decide +kernel) (by decide) rfl rfl rfl rfl (Nat.le_of_ble_eq_true rfl) dX8_lorries_142 rfl rfl (by decide) rfl ?_
        refine hif_eqB (tgt := 164) X dX8_lorries_145 (by decide) (fun c2 => ?_) (fun c2 => ?_)
        · refine hiinc (v := nI (k + 1)) (lv' := [(2, .int (nI (k + 1))), (0, .ref (q 0))]) X dX8_lorries_164 rfl (nI_1 _) (by decide) rfl ?_
          refine hgoto (tgt := 129) X dX8_lorries_167 (by decide) ?_
          have w3 : (itN k tkS (cmE n n 0 (itN n lvS E)) : hF) = itN (k + 1) tkS (cmE n n 0 (itN n lvS E)) := by
            simp [itN, tkS, c1, c2]
          exact hV_to (ws' := mW G q (itN (k + 1) tkS (cmE n n 0 (itN n lvS E)))) (lv' := [(2, .int (nI (k + 1))), (0, .ref (q 0))]) (st' := []) (congrArg (mW G q) w3) rfl rfl (ih (k + 1) (by omega) (by omega))
        · refine haload_n X dX8_lorries_148 rfl ?_
          refine hiload_n X dX8_lorries_149 rfl ?_
          refine hbipush (v := 8) X dX8_lorries_150 rfl ?_
          refine haload_n X dX8_lorries_152 rfl ?_
          refine hiload_n X dX8_lorries_153 rfl ?_
          refine hbipush (v := 8) X dX8_lorries_154 rfl ?_
          refine hcallV0 (C := RX8) (T := TX8) (N := 14) (As := [.int (nI k), .int (nI 8)]) (rest := [.int 8, .int (nI k), .ref (q 0)]) (st' := [.int ((itN k tkS (cmE n n 0 (itN n lvS E))) 0 (8 + 10 * k + 8)), .int 8, .int (nI k), .ref (q 0)]) (w := mW G q (itN k tkS (cmE n n 0 (itN n lvS E)))) X (q0 := 0) (kX8_part l G q (itN k tkS (cmE n n 0 (itN n lvS E))) k 8 (by first | assumption | omega | exact hI.h4) (by first | assumption | omega | exact hI.h4)) gX8_lorries_X8_part rfl (n := 2) (by decide +kernel) (by decide) rfl rfl rfl rfl (Nat.le_of_ble_eq_true rfl) dX8_lorries_156 rfl rfl (by decide) rfl ?_
          refine hiconst (v := 1) X dX8_lorries_159 rfl ?_
          refine hisub X dX8_lorries_160 ?_
          refine hcallV0 (C := RX8) (T := TX8) (N := 14) (As := [.int (nI k), .int (nI 8), .int (((itN k tkS (cmE n n 0 (itN n lvS E))) 0 (8 + 10 * k + 8)) - 1)]) (rest := []) (st' := []) (w := mW G q (fs (itN k tkS (cmE n n 0 (itN n lvS E))) 0 (8 + 10 * k + 8) (((itN k tkS (cmE n n 0 (itN n lvS E))) 0 (8 + 10 * k + 8)) - 1))) X (q0 := 0) (kX8_setPart l G q (itN k tkS (cmE n n 0 (itN n lvS E))) k 8 (((itN k tkS (cmE n n 0 (itN n lvS E))) 0 (8 + 10 * k + 8)) - 1) (by first | assumption | omega | exact hI.h4) (by first | assumption | omega | exact hI.h4)) gX8_lorries_X8_setPart rfl (n := 3) (by decide +kernel) (by decide) rfl rfl rfl rfl (Nat.le_of_ble_eq_true rfl) dX8_lorries_161 rfl rfl (by decide) rfl ?_
          refine hiinc (v := nI (k + 1)) (lv' := [(2, .int (nI (k + 1))), (0, .ref (q 0))]) X dX8_lorries_164 rfl (nI_1 _) (by decide) rfl ?_
          refine hgoto (tgt := 129) X dX8_lorries_167 (by decide) ?_
          have w4 : (fs (itN k tkS (cmE n n 0 (itN n lvS E))) 0 (8 + 10 * k + 8) (((itN k tkS (cmE n n 0 (itN n lvS E))) 0 (8 + 10 * k + 8)) - 1) : hF) = itN (k + 1) tkS (cmE n n 0 (itN n lvS E)) := by
            simp [itN, tkS, c1, c2]
          exact hV_to (ws' := mW G q (itN (k + 1) tkS (cmE n n 0 (itN n lvS E)))) (lv' := [(2, .int (nI (k + 1))), (0, .ref (q 0))]) (st' := []) (congrArg (mW G q) w4) rfl rfl (ih (k + 1) (by omega) (by omega))
  have L2 : ∀ (d : Nat) (k : Nat) (E' : hF), (k ≤ n) → (mOk n c E') → (cmE n (n - k) k E' = cmE n n 0 (itN n lvS E)) → (n - k) < d → hV pp l ee ({ frames := 4, cells := 0, slots := 0, locals := 106 }) ss mm aa bb me cd G (va_A (mW G q E) ss.heap.size) 3 0 0 (MQ bb (hQc G (mW G q E) ss.heap.size (hR none (mW G q (lorE n E)))) aa ss 0 0 (va_A (mW G q E) ss.heap.size)) (mW G q E') 48 [(2, .int (nI k)), (1, .int 1), (0, .ref (q 0))] [] := by
    intro d
    induction d with
    | zero =>
      intro k E' hk hI hE hd0
      exact absurd hd0 (Nat.not_lt_zero _)
    | succ d ih =>
      intro k E' hk hI hE hd0
      refine hiload_n X dX8_lorries_48 rfl ?_
      refine haload_n X dX8_lorries_49 rfl ?_
      refine hget1 X (T := TX8) (N := 14) iX8 0 rfl rfl 0 (by decide) (by decide +kernel) rfl dX8_lorries_50 ?_
      refine hiconst (v := 4) X dX8_lorries_53 rfl ?_
      refine hiald (n := 250) (f := E' 0) X 1 rfl 4 rfl (by omega) (by decide) dX8_lorries_54 ?_
      refine hV_st (st' := [.int (nI n), .int (nI k)]) (congrArg (fun z => Value.int z :: [.int (nI k)]) (hI.h4)) ?_
      refine hicmp_ge (tgt := 127) X dX8_lorries_55 (by decide) (fun c5 => ?_) (fun c5 => ?_)
      · have ek := i_ge hk (by omega) c5
        refine hiconst (v := 0) X dX8_lorries_127 rfl ?_
        refine histore_n (lv' := [(2, .int 0), (1, .int 1), (0, .ref (q 0))]) X dX8_lorries_128 (by decide) rfl ?_
        refine hV_lv (lv' := [(2, .int 0), (0, .ref (q 0))]) [0, 2] rfl ?_
        have w6 : (E' : hF) = itN 0 tkS (cmE n n 0 (itN n lvS E)) := by
          rw [ek, Nat.sub_self] at hE
          exact hE
        exact hV_to (ws' := mW G q (itN 0 tkS (cmE n n 0 (itN n lvS E)))) (lv' := [(2, .int 0), (0, .ref (q 0))]) (st' := []) (congrArg (mW G q) w6) rfl rfl (L3 _ 0 (by omega) (Nat.lt_succ_self _))
      · have hk1 := i_lt hk (by omega) c5
        refine hiload_n X dX8_lorries_58 rfl ?_
        refine hif_eq (tgt := 127) X dX8_lorries_59 (by decide) (fun c7 => ?_) (fun c7 => ?_)
        · exact absurd c7 (by decide)
        refine haload_n X dX8_lorries_62 rfl ?_
        refine hiload_n X dX8_lorries_63 rfl ?_
        refine hiconst (v := 0) X dX8_lorries_64 rfl ?_
        refine hcallV0 (C := RX8) (T := TX8) (N := 14) (As := [.int (nI k), .int 0]) (rest := []) (st' := [.int (bI (E' 0 (8 + 10 * k + 4) = 0))]) (w := mW G q E') X (q0 := 0) (kX8_isHow l G q E' k 0 (by first | assumption | omega | exact hI.h4)) gX8_lorries_X8_isHow rfl (n := 2) (by decide +kernel) (by decide) rfl rfl rfl rfl (Nat.le_of_ble_eq_true rfl) dX8_lorries_65 rfl rfl (by decide) rfl ?_
        refine hif_eqB (tgt := 121) X dX8_lorries_68 (by decide) (fun c8 => ?_) (fun c8 => ?_)
        · refine hiinc (v := nI (k + 1)) (lv' := [(2, .int (nI (k + 1))), (1, .int 1), (0, .ref (q 0))]) X dX8_lorries_121 rfl (nI_1 _) (by decide) rfl ?_
          refine hgoto (tgt := 48) X dX8_lorries_124 (by decide) ?_
          exact hV_to (ws' := mW G q E') (lv' := [(2, .int (nI (k + 1))), (1, .int 1), (0, .ref (q 0))]) (st' := []) rfl rfl rfl (ih (k + 1) E' (by omega) hI (by rw [show n - k = (n - (k + 1)) + 1 by omega] at hE; simpa [cmE, c5, c8] using hE) (by omega))
        · refine haload_n X dX8_lorries_71 rfl ?_
          refine hcallV0 (C := RX8) (T := TX8) (N := 14) (As := []) (rest := []) (st' := [.int (metE n E')]) (w := mW G q E') X (q0 := 0) (kX8_meters l G q E' n (by first | assumption | omega | exact hI.h4) (by first | assumption | omega | exact hI.h4)) gX8_lorries_X8_meters rfl (n := 0) (by decide +kernel) (by decide) rfl rfl rfl rfl (Nat.le_of_ble_eq_true rfl) dX8_lorries_72 rfl rfl (by decide) rfl ?_
          refine haload_n X dX8_lorries_75 rfl ?_
          refine hiload_n X dX8_lorries_76 rfl ?_
          refine hiconst (v := 1) X dX8_lorries_77 rfl ?_
          refine hcallV0 (C := RX8) (T := TX8) (N := 14) (As := [.int (nI k), .int (nI 1)]) (rest := [.int (metE n E')]) (st' := [.int (E' 0 (8 + 10 * k + 1)), .int (metE n E')]) (w := mW G q E') X (q0 := 0) (kX8_part l G q E' k 1 (by first | assumption | omega | exact hI.h4) (by first | assumption | omega | exact hI.h4)) gX8_lorries_X8_part rfl (n := 2) (by decide +kernel) (by decide) rfl rfl rfl rfl (Nat.le_of_ble_eq_true rfl) dX8_lorries_78 rfl rfl (by decide) rfl ?_
          refine hiadd X dX8_lorries_81 ?_
          refine haload_n X dX8_lorries_82 rfl ?_
          refine hget1 X (T := TX8) (N := 14) iX8 0 rfl rfl 0 (by decide) (by decide +kernel) rfl dX8_lorries_83 ?_
          refine hiconst (v := 0) X dX8_lorries_86 rfl ?_
          refine hiald (n := 250) (f := E' 0) X 1 rfl 0 rfl (by omega) (by decide) dX8_lorries_87 ?_
          refine hicmp_gt (tgt := 95) X dX8_lorries_88 (by decide) (fun c9 => ?_) (fun c9 => ?_)
          · refine hiconst (v := 0) X dX8_lorries_95 rfl ?_
            refine histore_n (lv' := [(1, .int 0), (2, .int (nI k)), (0, .ref (q 0))]) X dX8_lorries_96 (by decide) rfl ?_
            refine hiload_n X dX8_lorries_97 rfl ?_
            refine hif_eq (tgt := 121) X dX8_lorries_98 (by decide) (fun c10 => ?_) (fun c10 => ?_)
            rotate_left
            · exact absurd (by decide) c10
            refine hiinc (v := nI (k + 1)) (lv' := [(2, .int (nI (k + 1))), (1, .int 0), (0, .ref (q 0))]) X dX8_lorries_121 rfl (nI_1 _) (by decide) rfl ?_
            refine hgoto (tgt := 48) X dX8_lorries_124 (by decide) ?_
            refine hiload_n X dX8_lorries_48 rfl ?_
            refine haload_n X dX8_lorries_49 rfl ?_
            refine hget1 X (T := TX8) (N := 14) iX8 0 rfl rfl 0 (by decide) (by decide +kernel) rfl dX8_lorries_50 ?_
            refine hiconst (v := 4) X dX8_lorries_53 rfl ?_
            refine hiald (n := 250) (f := E' 0) X 1 rfl 4 rfl (by omega) (by decide) dX8_lorries_54 ?_
            refine hV_st (st' := [.int (nI n), .int (nI (k + 1))]) (congrArg (fun z => Value.int z :: [.int (nI (k + 1))]) (hI.h4)) ?_
            refine hicmp_ge (tgt := 127) X dX8_lorries_55 (by decide) (fun c11 => ?_) (fun c11 => ?_)
            · refine hiconst (v := 0) X dX8_lorries_127 rfl ?_
              refine histore_n (lv' := [(2, .int 0), (1, .int 0), (0, .ref (q 0))]) X dX8_lorries_128 (by decide) rfl ?_
              refine hV_lv (lv' := [(2, .int 0), (0, .ref (q 0))]) [0, 2] rfl ?_
              have w12 : (E' : hF) = itN 0 tkS (cmE n n 0 (itN n lvS E)) := by
                rw [show n - k = (n - (k + 1)) + 1 by omega] at hE
                simpa [cmE, itN, c5, c8, c9, c11] using hE
              exact hV_to (ws' := mW G q (itN 0 tkS (cmE n n 0 (itN n lvS E)))) (lv' := [(2, .int 0), (0, .ref (q 0))]) (st' := []) (congrArg (mW G q) w12) rfl rfl (L3 _ 0 (by omega) (Nat.lt_succ_self _))
            · refine hiload_n X dX8_lorries_58 rfl ?_
              refine hif_eq (tgt := 127) X dX8_lorries_59 (by decide) (fun c13 => ?_) (fun c13 => ?_)
              rotate_left
              · exact absurd (by decide) c13
              refine hiconst (v := 0) X dX8_lorries_127 rfl ?_
              refine histore_n (lv' := [(2, .int 0), (1, .int 0), (0, .ref (q 0))]) X dX8_lorries_128 (by decide) rfl ?_
              refine hV_lv (lv' := [(2, .int 0), (0, .ref (q 0))]) [0, 2] rfl ?_
              have w14 : (E' : hF) = itN 0 tkS (cmE n n 0 (itN n lvS E)) := by
                rw [show n - k = (n - (k + 1)) + 1 by omega] at hE
                simpa [cmE, itN, c5, c8, c9, c11] using hE
              exact hV_to (ws' := mW G q (itN 0 tkS (cmE n n 0 (itN n lvS E)))) (lv' := [(2, .int 0), (0, .ref (q 0))]) (st' := []) (congrArg (mW G q) w14) rfl rfl (L3 _ 0 (by omega) (Nat.lt_succ_self _))
          · refine hiconst (v := 1) X dX8_lorries_91 rfl ?_
            refine hgoto (tgt := 96) X dX8_lorries_92 (by decide) ?_
            refine histore_n (lv' := [(1, .int 1), (2, .int (nI k)), (0, .ref (q 0))]) X dX8_lorries_96 (by decide) rfl ?_
            refine hiload_n X dX8_lorries_97 rfl ?_
            refine hif_eq (tgt := 121) X dX8_lorries_98 (by decide) (fun c15 => ?_) (fun c15 => ?_)
            · exact absurd c15 (by decide)
            refine haload_n X dX8_lorries_101 rfl ?_
            refine hiload_n X dX8_lorries_102 rfl ?_
            refine hiconst (v := 4) X dX8_lorries_103 rfl ?_
            refine hiconst (v := 1) X dX8_lorries_104 rfl ?_
            refine hcallV0 (C := RX8) (T := TX8) (N := 14) (As := [.int (nI k), .int (nI 4), .int 1]) (rest := []) (st' := []) (w := mW G q (fs E' 0 (8 + 10 * k + 4) 1)) X (q0 := 0) (kX8_setPart l G q E' k 4 1 (by first | assumption | omega | exact hI.h4) (by first | assumption | omega | exact hI.h4)) gX8_lorries_X8_setPart rfl (n := 3) (by decide +kernel) (by decide) rfl rfl rfl rfl (Nat.le_of_ble_eq_true rfl) dX8_lorries_105 rfl rfl (by decide) rfl ?_
            refine haload_n X dX8_lorries_108 rfl ?_
            refine hiload_n X dX8_lorries_109 rfl ?_
            refine hbipush (v := 8) X dX8_lorries_110 rfl ?_
            refine haload_n X dX8_lorries_112 rfl ?_
            refine hget1 X (T := TX8) (N := 14) iX8 0 rfl rfl 0 (by decide) (by decide +kernel) rfl dX8_lorries_113 ?_
            refine hiconst (v := 1) X dX8_lorries_116 rfl ?_
            refine hiald (n := 250) (f := (fs E' 0 (8 + 10 * k + 4) 1) 0) X 1 rfl 1 rfl (by omega) (by decide) dX8_lorries_117 ?_
            have r16 : ((fs E' 0 (8 + 10 * k + 4) 1) 0 1 : Int32) = E' 0 1 := by rw [fs_at, if_neg (by omega)]
            refine hV_st (st' := [.int (E' 0 1), .int 8, .int (nI k), .ref (q 0)]) (congrArg (fun z => Value.int z :: [.int 8, .int (nI k), .ref (q 0)]) r16) ?_
            refine hcallV0 (C := RX8) (T := TX8) (N := 14) (As := [.int (nI k), .int (nI 8), .int (E' 0 1)]) (rest := []) (st' := []) (w := mW G q (fs (fs E' 0 (8 + 10 * k + 4) 1) 0 (8 + 10 * k + 8) (E' 0 1))) X (q0 := 0) (kX8_setPart l G q (fs E' 0 (8 + 10 * k + 4) 1) k 8 (E' 0 1) (by first | assumption | omega | exact hI.h4) (by first | assumption | omega | exact hI.h4)) gX8_lorries_X8_setPart rfl (n := 3) (by decide +kernel) (by decide) rfl rfl rfl rfl (Nat.le_of_ble_eq_true rfl) dX8_lorries_118 rfl rfl (by decide) rfl ?_
            refine hiinc (v := nI (k + 1)) (lv' := [(2, .int (nI (k + 1))), (1, .int 1), (0, .ref (q 0))]) X dX8_lorries_121 rfl (nI_1 _) (by decide) rfl ?_
            refine hgoto (tgt := 48) X dX8_lorries_124 (by decide) ?_
            exact hV_to (ws' := mW G q (fs (fs E' 0 (8 + 10 * k + 4) 1) 0 (8 + 10 * k + 8) (E' 0 1))) (lv' := [(2, .int (nI (k + 1))), (1, .int 1), (0, .ref (q 0))]) (st' := []) rfl rfl rfl (ih (k + 1) (fs (fs E' 0 (8 + 10 * k + 4) 1) 0 (8 + 10 * k + 8) (E' 0 1)) (by omega) ((hI.part _ hk1 (by decide) (by decide) (by decide)).part _ hk1 (by decide) (by decide) (by decide)) (by rw [show n - k = (n - (k + 1)) + 1 by omega] at hE; simpa [cmE, c5, c8, c9] using hE) (by omega))
  have L1 : ∀ (d : Nat) (k : Nat), (k ≤ n) → (n - k) < d → hV pp l ee ({ frames := 4, cells := 0, slots := 0, locals := 106 }) ss mm aa bb me cd G (va_A (mW G q E) ss.heap.size) 3 0 0 (MQ bb (hQc G (mW G q E) ss.heap.size (hR none (mW G q (lorE n E)))) aa ss 0 0 (va_A (mW G q E) ss.heap.size)) (mW G q (itN k lvS E)) 2 [(1, .int (nI k)), (0, .ref (q 0))] [] := by
    intro d
    induction d with
    | zero =>
      intro k hk hd0
      exact absurd hd0 (Nat.not_lt_zero _)
    | succ d ih =>
      intro k hk hd0
      have hI : mOk n c (itN k lvS E) := itN_P h k fun _ _ hi hx => mlvS hx (by omega)
      refine hiload_n X dX8_lorries_2 rfl ?_
      refine haload_n X dX8_lorries_3 rfl ?_
      refine hget1 X (T := TX8) (N := 14) iX8 0 rfl rfl 0 (by decide) (by decide +kernel) rfl dX8_lorries_4 ?_
      refine hiconst (v := 4) X dX8_lorries_7 rfl ?_
      refine hiald (n := 250) (f := (itN k lvS E) 0) X 1 rfl 4 rfl (by omega) (by decide) dX8_lorries_8 ?_
      refine hV_st (st' := [.int (nI n), .int (nI k)]) (congrArg (fun z => Value.int z :: [.int (nI k)]) (hI.h4)) ?_
      refine hicmp_ge (tgt := 44) X dX8_lorries_9 (by decide) (fun c17 => ?_) (fun c17 => ?_)
      · have ek := i_ge hk (by omega) c17
        refine hiconst (v := 1) X dX8_lorries_44 rfl ?_
        refine histore_n (lv' := [(1, .int 1), (0, .ref (q 0))]) X dX8_lorries_45 (by decide) rfl ?_
        refine hiconst (v := 0) X dX8_lorries_46 rfl ?_
        refine histore_n (lv' := [(2, .int 0), (1, .int 1), (0, .ref (q 0))]) X dX8_lorries_47 (by decide) rfl ?_
        exact hV_to (ws' := mW G q (itN k lvS E)) (lv' := [(2, .int 0), (1, .int 1), (0, .ref (q 0))]) (st' := []) rfl rfl rfl (L2 _ 0 (itN k lvS E) (Nat.zero_le _) hI (by simp [ek]) (Nat.lt_succ_self _))
      · have hk1 := i_lt hk (by omega) c17
        refine haload_n X dX8_lorries_12 rfl ?_
        refine hiload_n X dX8_lorries_13 rfl ?_
        refine hiconst (v := 1) X dX8_lorries_14 rfl ?_
        refine hcallV0 (C := RX8) (T := TX8) (N := 14) (As := [.int (nI k), .int 1]) (rest := []) (st' := [.int (bI ((itN k lvS E) 0 (8 + 10 * k + 4) = 1))]) (w := mW G q (itN k lvS E)) X (q0 := 0) (kX8_isHow l G q (itN k lvS E) k 1 (by first | assumption | omega | exact hI.h4)) gX8_lorries_X8_isHow rfl (n := 2) (by decide +kernel) (by decide) rfl rfl rfl rfl (Nat.le_of_ble_eq_true rfl) dX8_lorries_15 rfl rfl (by decide) rfl ?_
        refine hif_eqB (tgt := 38) X dX8_lorries_18 (by decide) (fun c18 => ?_) (fun c18 => ?_)
        · refine hiinc (v := nI (k + 1)) (lv' := [(1, .int (nI (k + 1))), (0, .ref (q 0))]) X dX8_lorries_38 rfl (nI_1 _) (by decide) rfl ?_
          refine hgoto (tgt := 2) X dX8_lorries_41 (by decide) ?_
          have w19 : (itN k lvS E : hF) = itN (k + 1) lvS E := by
            simp [itN, lvS, c17, c18]
          exact hV_to (ws' := mW G q (itN (k + 1) lvS E)) (lv' := [(1, .int (nI (k + 1))), (0, .ref (q 0))]) (st' := []) (congrArg (mW G q) w19) rfl rfl (ih (k + 1) (by omega) (by omega))
        · refine haload_n X dX8_lorries_21 rfl ?_
          refine hiload_n X dX8_lorries_22 rfl ?_
          refine hbipush (v := 8) X dX8_lorries_23 rfl ?_
          refine hcallV0 (C := RX8) (T := TX8) (N := 14) (As := [.int (nI k), .int (nI 8)]) (rest := []) (st' := [.int ((itN k lvS E) 0 (8 + 10 * k + 8))]) (w := mW G q (itN k lvS E)) X (q0 := 0) (kX8_part l G q (itN k lvS E) k 8 (by first | assumption | omega | exact hI.h4) (by first | assumption | omega | exact hI.h4)) gX8_lorries_X8_part rfl (n := 2) (by decide +kernel) (by decide) rfl rfl rfl rfl (Nat.le_of_ble_eq_true rfl) dX8_lorries_25 rfl rfl (by decide) rfl ?_
          refine hif_ne (tgt := 38) X dX8_lorries_28 (by decide) (fun c20 => ?_) (fun c20 => ?_)
          · refine hiinc (v := nI (k + 1)) (lv' := [(1, .int (nI (k + 1))), (0, .ref (q 0))]) X dX8_lorries_38 rfl (nI_1 _) (by decide) rfl ?_
            refine hgoto (tgt := 2) X dX8_lorries_41 (by decide) ?_
            have w21 : (itN k lvS E : hF) = itN (k + 1) lvS E := by
              simp [itN, lvS, c17, c18, c20]
            exact hV_to (ws' := mW G q (itN (k + 1) lvS E)) (lv' := [(1, .int (nI (k + 1))), (0, .ref (q 0))]) (st' := []) (congrArg (mW G q) w21) rfl rfl (ih (k + 1) (by omega) (by omega))
          · refine haload_n X dX8_lorries_31 rfl ?_
            refine hiload_n X dX8_lorries_32 rfl ?_
            refine hiconst (v := 4) X dX8_lorries_33 rfl ?_
            refine hiconst (v := 2) X dX8_lorries_34 rfl ?_
            refine hcallV0 (C := RX8) (T := TX8) (N := 14) (As := [.int (nI k), .int (nI 4), .int 2]) (rest := []) (st' := []) (w := mW G q (fs (itN k lvS E) 0 (8 + 10 * k + 4) 2)) X (q0 := 0) (kX8_setPart l G q (itN k lvS E) k 4 2 (by first | assumption | omega | exact hI.h4) (by first | assumption | omega | exact hI.h4)) gX8_lorries_X8_setPart rfl (n := 3) (by decide +kernel) (by decide) rfl rfl rfl rfl (Nat.le_of_ble_eq_true rfl) dX8_lorries_35 rfl rfl (by decide) rfl ?_
            refine hiinc (v := nI (k + 1)) (lv' := [(1, .int (nI (k + 1))), (0, .ref (q 0))]) X dX8_lorries_38 rfl (nI_1 _) (by decide) rfl ?_
            refine hgoto (tgt := 2) X dX8_lorries_41 (by decide) ?_
            have w22 : (fs (itN k lvS E) 0 (8 + 10 * k + 4) 2 : hF) = itN (k + 1) lvS E := by
              simp [itN, lvS, c17, c18, c20]
            exact hV_to (ws' := mW G q (itN (k + 1) lvS E)) (lv' := [(1, .int (nI (k + 1))), (0, .ref (q 0))]) (st' := []) (congrArg (mW G q) w22) rfl rfl (ih (k + 1) (by omega) (by omega))
  refine hiconst (v := 0) X dX8_lorries_0 rfl ?_
  refine histore_n (lv' := [(1, .int 0), (0, .ref (q 0))]) X dX8_lorries_1 (by decide) rfl ?_
  have w23 : (E : hF) = itN 0 lvS E := by
    simp [itN, lvS]
  exact hV_to (ws' := mW G q (itN 0 lvS E)) (lv' := [(1, .int 0), (0, .ref (q 0))]) (st' := []) (congrArg (mW G q) w23) rfl rfl (L1 _ 0 (by omega) (Nat.lt_succ_self _))

set_option maxHeartbeats 4000000 in
set_option maxRecDepth 100000 in
theorem kX8_nextStand (l : Launch) (G : hG) (q : Nat → Nat) (E : hF) (n c : Nat) (h : mOk n c E) : hM l G yX8_nextStand wsX8_nextStand ({ frames := 4, cells := 0, slots := 0, locals := 107 }) (mW G q E) [.ref (q 0)] (hR (some (.int (nxE n E))) (mW G q E)) := by
  refine hM_of (cc := cX8_nextStand) (maxL := 5) (ret := (some .int)) (by decide) rfl (Nat.le_of_ble_eq_true rfl) ?_
  intro pp ee ss mm aa bb me cd X hin
  have iX8 : ∀ w ∈ wsX80, w ∈ wsX8_nextStand := by decide +kernel
  have hn := h.hn
  have L : ∀ (d : Nat) (k : Nat), (k ≤ n) → (n - k) < d → hV pp l ee ({ frames := 4, cells := 0, slots := 0, locals := 107 }) ss mm aa bb me cd G (va_A (mW G q E) ss.heap.size) 5 0 0 (MQ bb (hQc G (mW G q E) ss.heap.size (hR (some (.int (nxE n E))) (mW G q E))) aa ss 0 0 (va_A (mW G q E) ss.heap.size)) (mW G q E) 5 [(2, .int (nI k)), (1, .int (itN k (nxS n E) (-6))), (0, .ref (q 0))] [] := by
    intro d
    induction d with
    | zero =>
      intro k hk hd0
      exact absurd hd0 (Nat.not_lt_zero _)
    | succ d ih =>
      intro k hk hd0
      refine hiload_n X dX8_nextStand_5 rfl ?_
      refine haload_n X dX8_nextStand_6 rfl ?_
      refine hget1 X (T := TX8) (N := 14) iX8 0 rfl rfl 0 (by decide) (by decide +kernel) rfl dX8_nextStand_7 ?_
      refine hiconst (v := 4) X dX8_nextStand_10 rfl ?_
      refine hiald (n := 250) (f := E 0) X 1 rfl 4 rfl (by omega) (by decide) dX8_nextStand_11 ?_
      refine hV_st (st' := [.int (nI n), .int (nI k)]) (congrArg (fun z => Value.int z :: [.int (nI k)]) (h.h4)) ?_
      refine hicmp_ge (tgt := 118) X dX8_nextStand_12 (by decide) (fun c1 => ?_) (fun c1 => ?_)
      · have ek := i_ge hk (by omega) c1
        refine hiload_n X dX8_nextStand_118 rfl ?_
        refine hiret X dX8_nextStand_119 ⟨congrArg (fun z => some (Value.int z)) (?_ : (itN k (nxS n E) (-6)) = nxE n E), ?_⟩
        · simp [nxE, ek]
        rfl
      · have hk1 := i_lt hk (by omega) c1
        refine haload_n X dX8_nextStand_15 rfl ?_
        refine hget1 X (T := TX8) (N := 14) iX8 0 rfl rfl 0 (by decide) (by decide +kernel) rfl dX8_nextStand_16 ?_
        refine hbipush (v := 6) X dX8_nextStand_19 rfl ?_
        refine hiald (n := 250) (f := E 0) X 1 rfl 6 rfl (by omega) (by decide) dX8_nextStand_21 ?_
        refine hiconst (v := 1) X dX8_nextStand_22 rfl ?_
        refine hicmp_ne (tgt := 30) X dX8_nextStand_23 (by decide) (fun c2 => ?_) (fun c2 => ?_)
        · refine haload_n X dX8_nextStand_30 rfl ?_
          refine hget1 X (T := TX8) (N := 14) iX8 0 rfl rfl 0 (by decide) (by decide +kernel) rfl dX8_nextStand_31 ?_
          refine hiconst (v := 4) X dX8_nextStand_34 rfl ?_
          refine hiald (n := 250) (f := E 0) X 1 rfl 4 rfl (by omega) (by decide) dX8_nextStand_35 ?_
          refine hV_st (st' := [.int (nI n)]) (congrArg (fun z => Value.int z :: []) (h.h4)) ?_
          refine hiconst (v := 1) X dX8_nextStand_36 rfl ?_
          refine hisub X dX8_nextStand_37 ?_
          refine hiload_n X dX8_nextStand_38 rfl ?_
          refine hisub X dX8_nextStand_39 ?_
          refine hV_st (st' := [.int (nI (n - 1 - k))]) (congrArg (fun z => ([Value.int z] : List Value)) ((nsub (nsub rfl rfl (by omega)) rfl (by omega)))) ?_
          refine histore_n (lv' := [(3, .int (nI (n - 1 - k))), (2, .int (nI k)), (1, .int (itN k (nxS n E) (-6))), (0, .ref (q 0))]) X dX8_nextStand_40 (by decide) rfl ?_
          refine haload_n X dX8_nextStand_41 rfl ?_
          refine hget1 X (T := TX8) (N := 14) iX8 0 rfl rfl 0 (by decide) (by decide +kernel) rfl dX8_nextStand_42 ?_
          refine hbipush (v := 6) X dX8_nextStand_45 rfl ?_
          refine hiald (n := 250) (f := E 0) X 1 rfl 6 rfl (by omega) (by decide) dX8_nextStand_47 ?_
          refine hiconst (v := 1) X dX8_nextStand_48 rfl ?_
          refine hicmp_ne (tgt := 77) X dX8_nextStand_49 (by decide) (fun c3 => ?_) (fun c3 => ?_)
          rotate_left
          · exact absurd c3 c2
          refine haload_n X dX8_nextStand_77 rfl ?_
          refine hiload_n X dX8_nextStand_78 rfl ?_
          refine hiconst (v := 2) X dX8_nextStand_79 rfl ?_
          refine hcallV0 (C := RX8) (T := TX8) (N := 14) (As := [.int (nI (n - 1 - k)), .int 2]) (rest := []) (st' := [.int (bI (E 0 (8 + 10 * (n - 1 - k) + 4) = 2))]) (w := mW G q E) X (q0 := 0) (kX8_isHow l G q E (n - 1 - k) 2 (by first | assumption | omega | exact h.h4 | exact h.hb _ (by omega))) gX8_nextStand_X8_isHow rfl (n := 2) (by decide +kernel) (by decide) rfl rfl rfl rfl (Nat.le_of_ble_eq_true rfl) dX8_nextStand_80 rfl rfl (by decide) rfl ?_
          refine hif_eqB (tgt := 98) X dX8_nextStand_83 (by decide) (fun c4 => ?_) (fun c4 => ?_)
          · refine hiconst (v := 0) X dX8_nextStand_98 rfl ?_
            refine histore (lv' := [(4, .int 0), (3, .int (nI (n - 1 - k))), (2, .int (nI k)), (1, .int (itN k (nxS n E) (-6))), (0, .ref (q 0))]) X dX8_nextStand_99 (by decide) rfl ?_
            refine hiload X dX8_nextStand_101 rfl ?_
            refine hif_eq (tgt := 110) X dX8_nextStand_103 (by decide) (fun c5 => ?_) (fun c5 => ?_)
            rotate_left
            · exact absurd (by decide) c5
            refine hiload_n X dX8_nextStand_110 rfl ?_
            refine histore_n (lv' := [(1, .int (itN k (nxS n E) (-6))), (4, .int 0), (3, .int (nI (n - 1 - k))), (2, .int (nI k)), (0, .ref (q 0))]) X dX8_nextStand_111 (by decide) rfl ?_
            refine hiinc (v := nI (k + 1)) (lv' := [(2, .int (nI (k + 1))), (1, .int (itN k (nxS n E) (-6))), (4, .int 0), (3, .int (nI (n - 1 - k))), (0, .ref (q 0))]) X dX8_nextStand_112 rfl (nI_1 _) (by decide) rfl ?_
            refine hgoto (tgt := 5) X dX8_nextStand_115 (by decide) ?_
            refine hV_lv (lv' := [(2, .int (nI (k + 1))), (1, .int (itN k (nxS n E) (-6))), (0, .ref (q 0))]) [0, 1, 4] rfl ?_
            have e6 : (itN k (nxS n E) (-6) : Int32) = itN (k + 1) (nxS n E) (-6) := by
              simp [itN, nxS, c1, c2, c4]
            exact hV_to (ws' := mW G q E) (lv' := [(2, .int (nI (k + 1))), (1, .int (itN (k + 1) (nxS n E) (-6))), (0, .ref (q 0))]) (st' := []) rfl (congrArg (fun z => ([(2, .int (nI (k + 1))), (1, .int z), (0, .ref (q 0))] : List (Nat × Value))) e6) rfl (ih (k + 1) (by omega) (by omega))
          · refine haload_n X dX8_nextStand_86 rfl ?_
            refine hiload_n X dX8_nextStand_87 rfl ?_
            refine hcallV0 (C := RX8) (T := TX8) (N := 14) (As := [.int (nI (n - 1 - k))]) (rest := []) (st' := [.int (bI (hasB E (n - 1 - k)))]) (w := mW G q E) X (q0 := 0) (kX8_hasBase l G q E (n - 1 - k) n (by first | assumption | omega | exact h.h4 | exact h.hb _ (by omega)) (by first | assumption | omega | exact h.h4 | exact h.hb _ (by omega)) (by first | assumption | omega | exact h.h4 | exact h.hb _ (by omega))) gX8_nextStand_X8_hasBase rfl (n := 1) (by decide +kernel) (by decide) rfl rfl rfl rfl (Nat.le_of_ble_eq_true rfl) dX8_nextStand_88 rfl rfl (by decide) rfl ?_
            refine hif_eqB (tgt := 98) X dX8_nextStand_91 (by decide) (fun c7 => ?_) (fun c7 => ?_)
            · refine hiconst (v := 0) X dX8_nextStand_98 rfl ?_
              refine histore (lv' := [(4, .int 0), (3, .int (nI (n - 1 - k))), (2, .int (nI k)), (1, .int (itN k (nxS n E) (-6))), (0, .ref (q 0))]) X dX8_nextStand_99 (by decide) rfl ?_
              refine hiload X dX8_nextStand_101 rfl ?_
              refine hif_eq (tgt := 110) X dX8_nextStand_103 (by decide) (fun c8 => ?_) (fun c8 => ?_)
              rotate_left
              · exact absurd (by decide) c8
              refine hiload_n X dX8_nextStand_110 rfl ?_
              refine histore_n (lv' := [(1, .int (itN k (nxS n E) (-6))), (4, .int 0), (3, .int (nI (n - 1 - k))), (2, .int (nI k)), (0, .ref (q 0))]) X dX8_nextStand_111 (by decide) rfl ?_
              refine hiinc (v := nI (k + 1)) (lv' := [(2, .int (nI (k + 1))), (1, .int (itN k (nxS n E) (-6))), (4, .int 0), (3, .int (nI (n - 1 - k))), (0, .ref (q 0))]) X dX8_nextStand_112 rfl (nI_1 _) (by decide) rfl ?_
              refine hgoto (tgt := 5) X dX8_nextStand_115 (by decide) ?_
              refine hV_lv (lv' := [(2, .int (nI (k + 1))), (1, .int (itN k (nxS n E) (-6))), (0, .ref (q 0))]) [0, 1, 4] rfl ?_
              have e9 : (itN k (nxS n E) (-6) : Int32) = itN (k + 1) (nxS n E) (-6) := by
                simp [itN, nxS, c1, c2, c4, c7]
              exact hV_to (ws' := mW G q E) (lv' := [(2, .int (nI (k + 1))), (1, .int (itN (k + 1) (nxS n E) (-6))), (0, .ref (q 0))]) (st' := []) rfl (congrArg (fun z => ([(2, .int (nI (k + 1))), (1, .int z), (0, .ref (q 0))] : List (Nat × Value))) e9) rfl (ih (k + 1) (by omega) (by omega))
            · refine hiconst (v := 1) X dX8_nextStand_94 rfl ?_
              refine hgoto (tgt := 99) X dX8_nextStand_95 (by decide) ?_
              refine histore (lv' := [(4, .int 1), (3, .int (nI (n - 1 - k))), (2, .int (nI k)), (1, .int (itN k (nxS n E) (-6))), (0, .ref (q 0))]) X dX8_nextStand_99 (by decide) rfl ?_
              refine hiload X dX8_nextStand_101 rfl ?_
              refine hif_eq (tgt := 110) X dX8_nextStand_103 (by decide) (fun c10 => ?_) (fun c10 => ?_)
              · exact absurd c10 (by decide)
              refine hiload_n X dX8_nextStand_106 rfl ?_
              refine hgoto (tgt := 111) X dX8_nextStand_107 (by decide) ?_
              refine histore_n (lv' := [(1, .int (nI (n - 1 - k))), (4, .int 1), (3, .int (nI (n - 1 - k))), (2, .int (nI k)), (0, .ref (q 0))]) X dX8_nextStand_111 (by decide) rfl ?_
              refine hiinc (v := nI (k + 1)) (lv' := [(2, .int (nI (k + 1))), (1, .int (nI (n - 1 - k))), (4, .int 1), (3, .int (nI (n - 1 - k))), (0, .ref (q 0))]) X dX8_nextStand_112 rfl (nI_1 _) (by decide) rfl ?_
              refine hgoto (tgt := 5) X dX8_nextStand_115 (by decide) ?_
              refine hV_lv (lv' := [(2, .int (nI (k + 1))), (1, .int (nI (n - 1 - k))), (0, .ref (q 0))]) [0, 1, 4] rfl ?_
              have e11 : (nI (n - 1 - k) : Int32) = itN (k + 1) (nxS n E) (-6) := by
                simp [itN, nxS, c1, c2, c4, c7]
              exact hV_to (ws' := mW G q E) (lv' := [(2, .int (nI (k + 1))), (1, .int (itN (k + 1) (nxS n E) (-6))), (0, .ref (q 0))]) (st' := []) rfl (congrArg (fun z => ([(2, .int (nI (k + 1))), (1, .int z), (0, .ref (q 0))] : List (Nat × Value))) e11) rfl (ih (k + 1) (by omega) (by omega))
        · refine hiload_n X dX8_nextStand_26 rfl ?_
          refine hgoto (tgt := 40) X dX8_nextStand_27 (by decide) ?_
          refine histore_n (lv' := [(3, .int (nI k)), (2, .int (nI k)), (1, .int (itN k (nxS n E) (-6))), (0, .ref (q 0))]) X dX8_nextStand_40 (by decide) rfl ?_
          refine haload_n X dX8_nextStand_41 rfl ?_
          refine hget1 X (T := TX8) (N := 14) iX8 0 rfl rfl 0 (by decide) (by decide +kernel) rfl dX8_nextStand_42 ?_
          refine hbipush (v := 6) X dX8_nextStand_45 rfl ?_
          refine hiald (n := 250) (f := E 0) X 1 rfl 6 rfl (by omega) (by decide) dX8_nextStand_47 ?_
          refine hiconst (v := 1) X dX8_nextStand_48 rfl ?_
          refine hicmp_ne (tgt := 77) X dX8_nextStand_49 (by decide) (fun c12 => ?_) (fun c12 => ?_)
          · exact absurd c2 c12
          refine haload_n X dX8_nextStand_52 rfl ?_
          refine hiload_n X dX8_nextStand_53 rfl ?_
          refine hiconst (v := 4) X dX8_nextStand_54 rfl ?_
          refine hcallV0 (C := RX8) (T := TX8) (N := 14) (As := [.int (nI k), .int 4]) (rest := []) (st' := [.int (bI (E 0 (8 + 10 * k + 4) = 4))]) (w := mW G q E) X (q0 := 0) (kX8_isHow l G q E k 4 (by first | assumption | omega | exact h.h4 | exact h.hb _ (by omega))) gX8_nextStand_X8_isHow rfl (n := 2) (by decide +kernel) (by decide) rfl rfl rfl rfl (Nat.le_of_ble_eq_true rfl) dX8_nextStand_55 rfl rfl (by decide) rfl ?_
          refine hif_eqB (tgt := 73) X dX8_nextStand_58 (by decide) (fun c13 => ?_) (fun c13 => ?_)
          · refine hiconst (v := 0) X dX8_nextStand_73 rfl ?_
            refine hgoto (tgt := 99) X dX8_nextStand_74 (by decide) ?_
            refine histore (lv' := [(4, .int 0), (3, .int (nI k)), (2, .int (nI k)), (1, .int (itN k (nxS n E) (-6))), (0, .ref (q 0))]) X dX8_nextStand_99 (by decide) rfl ?_
            refine hiload X dX8_nextStand_101 rfl ?_
            refine hif_eq (tgt := 110) X dX8_nextStand_103 (by decide) (fun c14 => ?_) (fun c14 => ?_)
            rotate_left
            · exact absurd (by decide) c14
            refine hiload_n X dX8_nextStand_110 rfl ?_
            refine histore_n (lv' := [(1, .int (itN k (nxS n E) (-6))), (4, .int 0), (3, .int (nI k)), (2, .int (nI k)), (0, .ref (q 0))]) X dX8_nextStand_111 (by decide) rfl ?_
            refine hiinc (v := nI (k + 1)) (lv' := [(2, .int (nI (k + 1))), (1, .int (itN k (nxS n E) (-6))), (4, .int 0), (3, .int (nI k)), (0, .ref (q 0))]) X dX8_nextStand_112 rfl (nI_1 _) (by decide) rfl ?_
            refine hgoto (tgt := 5) X dX8_nextStand_115 (by decide) ?_
            refine hV_lv (lv' := [(2, .int (nI (k + 1))), (1, .int (itN k (nxS n E) (-6))), (0, .ref (q 0))]) [0, 1, 4] rfl ?_
            have e15 : (itN k (nxS n E) (-6) : Int32) = itN (k + 1) (nxS n E) (-6) := by
              simp [itN, nxS, c1, c2, c13]
            exact hV_to (ws' := mW G q E) (lv' := [(2, .int (nI (k + 1))), (1, .int (itN (k + 1) (nxS n E) (-6))), (0, .ref (q 0))]) (st' := []) rfl (congrArg (fun z => ([(2, .int (nI (k + 1))), (1, .int z), (0, .ref (q 0))] : List (Nat × Value))) e15) rfl (ih (k + 1) (by omega) (by omega))
          · refine haload_n X dX8_nextStand_61 rfl ?_
            refine hiload_n X dX8_nextStand_62 rfl ?_
            refine hcallV0 (C := RX8) (T := TX8) (N := 14) (As := [.int (nI k)]) (rest := []) (st' := [.int (stoE n E (nI k))]) (w := mW G q E) X (q0 := 0) (kX8_standingOn l G q E n (nI k) (by first | assumption | omega | exact h.h4 | exact h.hb _ (by omega)) (by first | assumption | omega | exact h.h4 | exact h.hb _ (by omega))) gX8_nextStand_X8_standingOn rfl (n := 1) (by decide +kernel) (by decide) rfl rfl rfl rfl (Nat.le_of_ble_eq_true rfl) dX8_nextStand_63 rfl rfl (by decide) rfl ?_
            refine hif_ne (tgt := 73) X dX8_nextStand_66 (by decide) (fun c16 => ?_) (fun c16 => ?_)
            · refine hiconst (v := 0) X dX8_nextStand_73 rfl ?_
              refine hgoto (tgt := 99) X dX8_nextStand_74 (by decide) ?_
              refine histore (lv' := [(4, .int 0), (3, .int (nI k)), (2, .int (nI k)), (1, .int (itN k (nxS n E) (-6))), (0, .ref (q 0))]) X dX8_nextStand_99 (by decide) rfl ?_
              refine hiload X dX8_nextStand_101 rfl ?_
              refine hif_eq (tgt := 110) X dX8_nextStand_103 (by decide) (fun c17 => ?_) (fun c17 => ?_)
              rotate_left
              · exact absurd (by decide) c17
              refine hiload_n X dX8_nextStand_110 rfl ?_
              refine histore_n (lv' := [(1, .int (itN k (nxS n E) (-6))), (4, .int 0), (3, .int (nI k)), (2, .int (nI k)), (0, .ref (q 0))]) X dX8_nextStand_111 (by decide) rfl ?_
              refine hiinc (v := nI (k + 1)) (lv' := [(2, .int (nI (k + 1))), (1, .int (itN k (nxS n E) (-6))), (4, .int 0), (3, .int (nI k)), (0, .ref (q 0))]) X dX8_nextStand_112 rfl (nI_1 _) (by decide) rfl ?_
              refine hgoto (tgt := 5) X dX8_nextStand_115 (by decide) ?_
              refine hV_lv (lv' := [(2, .int (nI (k + 1))), (1, .int (itN k (nxS n E) (-6))), (0, .ref (q 0))]) [0, 1, 4] rfl ?_
              have e18 : (itN k (nxS n E) (-6) : Int32) = itN (k + 1) (nxS n E) (-6) := by
                simp [itN, nxS, c1, c2, c13, c16]
              exact hV_to (ws' := mW G q E) (lv' := [(2, .int (nI (k + 1))), (1, .int (itN (k + 1) (nxS n E) (-6))), (0, .ref (q 0))]) (st' := []) rfl (congrArg (fun z => ([(2, .int (nI (k + 1))), (1, .int z), (0, .ref (q 0))] : List (Nat × Value))) e18) rfl (ih (k + 1) (by omega) (by omega))
            · refine hiconst (v := 1) X dX8_nextStand_69 rfl ?_
              refine hgoto (tgt := 99) X dX8_nextStand_70 (by decide) ?_
              refine histore (lv' := [(4, .int 1), (3, .int (nI k)), (2, .int (nI k)), (1, .int (itN k (nxS n E) (-6))), (0, .ref (q 0))]) X dX8_nextStand_99 (by decide) rfl ?_
              refine hiload X dX8_nextStand_101 rfl ?_
              refine hif_eq (tgt := 110) X dX8_nextStand_103 (by decide) (fun c19 => ?_) (fun c19 => ?_)
              · exact absurd c19 (by decide)
              refine hiload_n X dX8_nextStand_106 rfl ?_
              refine hgoto (tgt := 111) X dX8_nextStand_107 (by decide) ?_
              refine histore_n (lv' := [(1, .int (nI k)), (4, .int 1), (3, .int (nI k)), (2, .int (nI k)), (0, .ref (q 0))]) X dX8_nextStand_111 (by decide) rfl ?_
              refine hiinc (v := nI (k + 1)) (lv' := [(2, .int (nI (k + 1))), (1, .int (nI k)), (4, .int 1), (3, .int (nI k)), (0, .ref (q 0))]) X dX8_nextStand_112 rfl (nI_1 _) (by decide) rfl ?_
              refine hgoto (tgt := 5) X dX8_nextStand_115 (by decide) ?_
              refine hV_lv (lv' := [(2, .int (nI (k + 1))), (1, .int (nI k)), (0, .ref (q 0))]) [0, 1, 4] rfl ?_
              have e20 : (nI k : Int32) = itN (k + 1) (nxS n E) (-6) := by
                simp [itN, nxS, c1, c2, c13, c16]
              exact hV_to (ws' := mW G q E) (lv' := [(2, .int (nI (k + 1))), (1, .int (itN (k + 1) (nxS n E) (-6))), (0, .ref (q 0))]) (st' := []) rfl (congrArg (fun z => ([(2, .int (nI (k + 1))), (1, .int z), (0, .ref (q 0))] : List (Nat × Value))) e20) rfl (ih (k + 1) (by omega) (by omega))
  refine hbipush (v := (-6)) X dX8_nextStand_0 rfl ?_
  refine histore_n (lv' := [(1, .int (-6)), (0, .ref (q 0))]) X dX8_nextStand_2 (by decide) rfl ?_
  refine hiconst (v := 0) X dX8_nextStand_3 rfl ?_
  refine histore_n (lv' := [(2, .int 0), (1, .int (-6)), (0, .ref (q 0))]) X dX8_nextStand_4 (by decide) rfl ?_
  have e21 : ((-6) : Int32) = itN 0 (nxS n E) (-6) := by
    simp [itN, nxS]
  exact hV_to (ws' := mW G q E) (lv' := [(2, .int 0), (1, .int (itN 0 (nxS n E) (-6))), (0, .ref (q 0))]) (st' := []) rfl (congrArg (fun z => ([(2, .int 0), (1, .int z), (0, .ref (q 0))] : List (Nat × Value))) e21) rfl (L _ 0 (by omega) (Nat.lt_succ_self _))

set_option maxHeartbeats 4000000 in
set_option maxRecDepth 100000 in
theorem kX8_takes (l : Launch) (G : hG) (q : Nat → Nat) (E : hF) (j s : Nat) (hj : j < 6) (hs : s < 20) : hM l G yX8_takes wsX8_takes ({ frames := 2, cells := 0, slots := 0, locals := 63 }) (mW G q E) [.ref (q 0), .int (nI j), .int (nI s)] (hR none (mW G q (taE E j s))) := by
  refine hM_of (cc := cX8_takes) (maxL := 4) (ret := none) (by decide) rfl (Nat.le_of_ble_eq_true rfl) ?_
  intro pp ee ss mm aa bb me cd X hin
  have iX8 : ∀ w ∈ wsX80, w ∈ wsX8_takes := by decide +kernel
  refine haload_n X dX8_takes_0 rfl ?_
  refine hget1 X (T := TX8) (N := 14) iX8 0 rfl rfl 0 (by decide) (by decide +kernel) rfl dX8_takes_1 ?_
  refine hbipush (v := 6) X dX8_takes_4 rfl ?_
  refine hiald (n := 250) (f := E 0) X 1 rfl 6 rfl (by omega) (by decide) dX8_takes_6 ?_
  refine hiconst (v := 1) X dX8_takes_7 rfl ?_
  refine hicmp_ne (tgt := 15) X dX8_takes_8 (by decide) (fun c1 => ?_) (fun c1 => ?_)
  · refine hiconst (v := 0) X dX8_takes_15 rfl ?_
    refine histore_n (lv' := [(3, .int 0), (0, .ref (q 0)), (1, .int (nI j)), (2, .int (nI s))]) X dX8_takes_16 (by decide) rfl ?_
    refine haload_n X dX8_takes_17 rfl ?_
    refine hiload_n X dX8_takes_18 rfl ?_
    refine hiconst (v := 2) X dX8_takes_19 rfl ?_
    refine hiload_n X dX8_takes_20 rfl ?_
    refine hcallV0 (C := RX8) (T := TX8) (N := 14) (As := [.int (nI j), .int (nI 2), .int (nI s)]) (rest := []) (st' := []) (w := mW G q (fs E 0 (208 + 7 * j + 2) (nI s))) X (q0 := 0) (kX8_setCrew l G q E j 2 (nI s) (by first | assumption | omega | simp [fs_at, *]) (by first | assumption | omega | simp [fs_at, *])) gX8_takes_X8_setCrew rfl (n := 3) (by decide +kernel) (by decide) rfl rfl rfl rfl (Nat.le_of_ble_eq_true rfl) dX8_takes_21 rfl rfl (by decide) rfl ?_
    refine haload_n X dX8_takes_24 rfl ?_
    refine hiload_n X dX8_takes_25 rfl ?_
    refine hbipush (v := 7) X dX8_takes_26 rfl ?_
    refine hiload_n X dX8_takes_28 rfl ?_
    refine hcallV0 (C := RX8) (T := TX8) (N := 14) (As := [.int (nI s), .int (nI 7), .int (nI j)]) (rest := []) (st' := []) (w := mW G q (fs (fs E 0 (208 + 7 * j + 2) (nI s)) 0 (8 + 10 * s + 7) (nI j))) X (q0 := 0) (kX8_setPart l G q (fs E 0 (208 + 7 * j + 2) (nI s)) s 7 (nI j) (by first | assumption | omega | simp [fs_at, *]) (by first | assumption | omega | simp [fs_at, *])) gX8_takes_X8_setPart rfl (n := 3) (by decide +kernel) (by decide) rfl rfl rfl rfl (Nat.le_of_ble_eq_true rfl) dX8_takes_29 rfl rfl (by decide) rfl ?_
    refine haload_n X dX8_takes_32 rfl ?_
    refine hiload_n X dX8_takes_33 rfl ?_
    refine hiconst (v := 4) X dX8_takes_34 rfl ?_
    refine hiload_n X dX8_takes_35 rfl ?_
    refine hif_eq (tgt := 43) X dX8_takes_36 (by decide) (fun c2 => ?_) (fun c2 => ?_)
    rotate_left
    · exact absurd (by decide) c2
    refine hiconst (v := 3) X dX8_takes_43 rfl ?_
    refine hcallV0 (C := RX8) (T := TX8) (N := 14) (As := [.int (nI s), .int (nI 4), .int 3]) (rest := []) (st' := []) (w := mW G q (fs (fs (fs E 0 (208 + 7 * j + 2) (nI s)) 0 (8 + 10 * s + 7) (nI j)) 0 (8 + 10 * s + 4) 3)) X (q0 := 0) (kX8_setPart l G q (fs (fs E 0 (208 + 7 * j + 2) (nI s)) 0 (8 + 10 * s + 7) (nI j)) s 4 3 (by first | assumption | omega | simp [fs_at, *]) (by first | assumption | omega | simp [fs_at, *])) gX8_takes_X8_setPart rfl (n := 3) (by decide +kernel) (by decide) rfl rfl rfl rfl (Nat.le_of_ble_eq_true rfl) dX8_takes_44 rfl rfl (by decide) rfl ?_
    refine hiload_n X dX8_takes_47 rfl ?_
    refine hif_eq (tgt := 76) X dX8_takes_48 (by decide) (fun c3 => ?_) (fun c3 => ?_)
    rotate_left
    · exact absurd (by decide) c3
    refine hvret X dX8_takes_76 ⟨rfl, ?_⟩
    refine congrArg (mW G q) (?_ : (fs (fs (fs E 0 (208 + 7 * j + 2) (nI s)) 0 (8 + 10 * s + 7) (nI j)) 0 (8 + 10 * s + 4) 3 : hF) = taE E j s)
    simp [taE, c1]
  · refine hiconst (v := 1) X dX8_takes_11 rfl ?_
    refine hgoto (tgt := 16) X dX8_takes_12 (by decide) ?_
    refine histore_n (lv' := [(3, .int 1), (0, .ref (q 0)), (1, .int (nI j)), (2, .int (nI s))]) X dX8_takes_16 (by decide) rfl ?_
    refine haload_n X dX8_takes_17 rfl ?_
    refine hiload_n X dX8_takes_18 rfl ?_
    refine hiconst (v := 2) X dX8_takes_19 rfl ?_
    refine hiload_n X dX8_takes_20 rfl ?_
    refine hcallV0 (C := RX8) (T := TX8) (N := 14) (As := [.int (nI j), .int (nI 2), .int (nI s)]) (rest := []) (st' := []) (w := mW G q (fs E 0 (208 + 7 * j + 2) (nI s))) X (q0 := 0) (kX8_setCrew l G q E j 2 (nI s) (by first | assumption | omega | simp [fs_at, *]) (by first | assumption | omega | simp [fs_at, *])) gX8_takes_X8_setCrew rfl (n := 3) (by decide +kernel) (by decide) rfl rfl rfl rfl (Nat.le_of_ble_eq_true rfl) dX8_takes_21 rfl rfl (by decide) rfl ?_
    refine haload_n X dX8_takes_24 rfl ?_
    refine hiload_n X dX8_takes_25 rfl ?_
    refine hbipush (v := 7) X dX8_takes_26 rfl ?_
    refine hiload_n X dX8_takes_28 rfl ?_
    refine hcallV0 (C := RX8) (T := TX8) (N := 14) (As := [.int (nI s), .int (nI 7), .int (nI j)]) (rest := []) (st' := []) (w := mW G q (fs (fs E 0 (208 + 7 * j + 2) (nI s)) 0 (8 + 10 * s + 7) (nI j))) X (q0 := 0) (kX8_setPart l G q (fs E 0 (208 + 7 * j + 2) (nI s)) s 7 (nI j) (by first | assumption | omega | simp [fs_at, *]) (by first | assumption | omega | simp [fs_at, *])) gX8_takes_X8_setPart rfl (n := 3) (by decide +kernel) (by decide) rfl rfl rfl rfl (Nat.le_of_ble_eq_true rfl) dX8_takes_29 rfl rfl (by decide) rfl ?_
    refine haload_n X dX8_takes_32 rfl ?_
    refine hiload_n X dX8_takes_33 rfl ?_
    refine hiconst (v := 4) X dX8_takes_34 rfl ?_
    refine hiload_n X dX8_takes_35 rfl ?_
    refine hif_eq (tgt := 43) X dX8_takes_36 (by decide) (fun c4 => ?_) (fun c4 => ?_)
    · exact absurd c4 (by decide)
    refine hiconst (v := 5) X dX8_takes_39 rfl ?_
    refine hgoto (tgt := 44) X dX8_takes_40 (by decide) ?_
    refine hcallV0 (C := RX8) (T := TX8) (N := 14) (As := [.int (nI s), .int (nI 4), .int 5]) (rest := []) (st' := []) (w := mW G q (fs (fs (fs E 0 (208 + 7 * j + 2) (nI s)) 0 (8 + 10 * s + 7) (nI j)) 0 (8 + 10 * s + 4) 5)) X (q0 := 0) (kX8_setPart l G q (fs (fs E 0 (208 + 7 * j + 2) (nI s)) 0 (8 + 10 * s + 7) (nI j)) s 4 5 (by first | assumption | omega | simp [fs_at, *]) (by first | assumption | omega | simp [fs_at, *])) gX8_takes_X8_setPart rfl (n := 3) (by decide +kernel) (by decide) rfl rfl rfl rfl (Nat.le_of_ble_eq_true rfl) dX8_takes_44 rfl rfl (by decide) rfl ?_
    refine hiload_n X dX8_takes_47 rfl ?_
    refine hif_eq (tgt := 76) X dX8_takes_48 (by decide) (fun c5 => ?_) (fun c5 => ?_)
    · exact absurd c5 (by decide)
    refine haload_n X dX8_takes_51 rfl ?_
    refine hiload_n X dX8_takes_52 rfl ?_
    refine hiconst (v := 5) X dX8_takes_53 rfl ?_
    refine haload_n X dX8_takes_54 rfl ?_
    refine hiload_n X dX8_takes_55 rfl ?_
    refine hiconst (v := 0) X dX8_takes_56 rfl ?_
    refine hcallV0 (C := RX8) (T := TX8) (N := 14) (As := [.int (nI s), .int (nI 0)]) (rest := [.int 5, .int (nI s), .ref (q 0)]) (st' := [.int ((fs (fs (fs E 0 (208 + 7 * j + 2) (nI s)) 0 (8 + 10 * s + 7) (nI j)) 0 (8 + 10 * s + 4) 5) 0 (8 + 10 * s + 0)), .int 5, .int (nI s), .ref (q 0)]) (w := mW G q (fs (fs (fs E 0 (208 + 7 * j + 2) (nI s)) 0 (8 + 10 * s + 7) (nI j)) 0 (8 + 10 * s + 4) 5)) X (q0 := 0) (kX8_part l G q (fs (fs (fs E 0 (208 + 7 * j + 2) (nI s)) 0 (8 + 10 * s + 7) (nI j)) 0 (8 + 10 * s + 4) 5) s 0 (by first | assumption | omega | simp [fs_at, *]) (by first | assumption | omega | simp [fs_at, *])) gX8_takes_X8_part rfl (n := 2) (by decide +kernel) (by decide) rfl rfl rfl rfl (Nat.le_of_ble_eq_true rfl) dX8_takes_57 rfl rfl (by decide) rfl ?_
    have r6 : ((fs (fs (fs E 0 (208 + 7 * j + 2) (nI s)) 0 (8 + 10 * s + 7) (nI j)) 0 (8 + 10 * s + 4) 5) 0 (8 + 10 * s + 0) : Int32) = E 0 (8 + 10 * s + 0) := by rw [fs_at, if_neg (by omega), fs_at, if_neg (by omega), fs_at, if_neg (by omega)]
    refine hV_st (st' := [.int (E 0 (8 + 10 * s + 0)), .int 5, .int (nI s), .ref (q 0)]) (congrArg (fun z => Value.int z :: [.int 5, .int (nI s), .ref (q 0)]) r6) ?_
    refine hiconst (v := 1) X dX8_takes_60 rfl ?_
    refine hiadd X dX8_takes_61 ?_
    refine hiconst (v := 2) X dX8_takes_62 rfl ?_
    refine hidiv X dX8_takes_63 (by decide) ?_
    refine hcallV0 (C := RX8) (T := TX8) (N := 14) (As := [.int (nI s), .int (nI 5), .int (((E 0 (8 + 10 * s + 0)) + 1) / 2)]) (rest := []) (st' := []) (w := mW G q (fs (fs (fs (fs E 0 (208 + 7 * j + 2) (nI s)) 0 (8 + 10 * s + 7) (nI j)) 0 (8 + 10 * s + 4) 5) 0 (8 + 10 * s + 5) (((E 0 (8 + 10 * s + 0)) + 1) / 2))) X (q0 := 0) (kX8_setPart l G q (fs (fs (fs E 0 (208 + 7 * j + 2) (nI s)) 0 (8 + 10 * s + 7) (nI j)) 0 (8 + 10 * s + 4) 5) s 5 (((E 0 (8 + 10 * s + 0)) + 1) / 2) (by first | assumption | omega | simp [fs_at, *]) (by first | assumption | omega | simp [fs_at, *])) gX8_takes_X8_setPart rfl (n := 3) (by decide +kernel) (by decide) rfl rfl rfl rfl (Nat.le_of_ble_eq_true rfl) dX8_takes_64 rfl rfl (by decide) rfl ?_
    refine haload_n X dX8_takes_67 rfl ?_
    refine hiload_n X dX8_takes_68 rfl ?_
    refine hbipush (v := 6) X dX8_takes_69 rfl ?_
    refine hbipush (v := (-6)) X dX8_takes_71 rfl ?_
    refine hcallV0 (C := RX8) (T := TX8) (N := 14) (As := [.int (nI s), .int (nI 6), .int (-6)]) (rest := []) (st' := []) (w := mW G q (fs (fs (fs (fs (fs E 0 (208 + 7 * j + 2) (nI s)) 0 (8 + 10 * s + 7) (nI j)) 0 (8 + 10 * s + 4) 5) 0 (8 + 10 * s + 5) (((E 0 (8 + 10 * s + 0)) + 1) / 2)) 0 (8 + 10 * s + 6) (-6))) X (q0 := 0) (kX8_setPart l G q (fs (fs (fs (fs E 0 (208 + 7 * j + 2) (nI s)) 0 (8 + 10 * s + 7) (nI j)) 0 (8 + 10 * s + 4) 5) 0 (8 + 10 * s + 5) (((E 0 (8 + 10 * s + 0)) + 1) / 2)) s 6 (-6) (by first | assumption | omega | simp [fs_at, *]) (by first | assumption | omega | simp [fs_at, *])) gX8_takes_X8_setPart rfl (n := 3) (by decide +kernel) (by decide) rfl rfl rfl rfl (Nat.le_of_ble_eq_true rfl) dX8_takes_73 rfl rfl (by decide) rfl ?_
    refine hvret X dX8_takes_76 ⟨rfl, ?_⟩
    refine congrArg (mW G q) (?_ : (fs (fs (fs (fs (fs E 0 (208 + 7 * j + 2) (nI s)) 0 (8 + 10 * s + 7) (nI j)) 0 (8 + 10 * s + 4) 5) 0 (8 + 10 * s + 5) (((E 0 (8 + 10 * s + 0)) + 1) / 2)) 0 (8 + 10 * s + 6) (-6) : hF) = taE E j s)
    simp [taE, c1]
end
section
set_option maxHeartbeats 4000000 in
set_option maxRecDepth 100000 in
theorem kX8_leastLoaded (l : Launch) (G : hG) (q : Nat → Nat) (E : hF) (n : Nat) (hn : n ≤ 20) (h4 : E 0 4 = nI n) : hM l G yX8_leastLoaded wsX8_leastLoaded ({ frames := 3, cells := 0, slots := 0, locals := 85 }) (mW G q E) [.ref (q 0)] (hR (some (.int (nI (llE n E)))) (mW G q E)) := by
  refine hM_of (cc := cX8_leastLoaded) (maxL := 3) (ret := (some .int)) (by decide) rfl (Nat.le_of_ble_eq_true rfl) ?_
  intro pp ee ss mm aa bb me cd X hin
  refine hiconst (v := 0) X dX8_leastLoaded_0 rfl ?_
  refine histore_n (lv' := [(1, .int 0), (0, .ref (q 0))]) X dX8_leastLoaded_1 (by decide) rfl ?_
  refine hiconst (v := 1) X dX8_leastLoaded_2 rfl ?_
  refine histore_n (lv' := [(2, .int 1), (1, .int 0), (0, .ref (q 0))]) X dX8_leastLoaded_3 (by decide) rfl ?_
  refine hiload_n X dX8_leastLoaded_4 rfl ?_
  refine hiconst (v := 3) X dX8_leastLoaded_5 rfl ?_
  refine hicmp_ge (tgt := 34) X dX8_leastLoaded_6 (by decide) (fun c1 => ?_) (fun c1 => ?_)
  · exact absurd c1 (by decide)
  refine haload_n X dX8_leastLoaded_9 rfl ?_
  refine hiload_n X dX8_leastLoaded_10 rfl ?_
  refine hcallV0 (C := RX8) (T := TX8) (N := 14) (As := [.int 1]) (rest := []) (st' := [.int (loaE n E 1)]) (w := mW G q E) X (q0 := 0) (kX8_loadOf l G q E n 1 (by first | assumption | omega | simp [fs_at, *]) (by first | assumption | omega | simp [fs_at, *])) gX8_leastLoaded_X8_loadOf rfl (n := 1) (by decide +kernel) (by decide) rfl rfl rfl rfl (Nat.le_of_ble_eq_true rfl) dX8_leastLoaded_11 rfl rfl (by decide) rfl ?_
  refine haload_n X dX8_leastLoaded_14 rfl ?_
  refine hiload_n X dX8_leastLoaded_15 rfl ?_
  refine hcallV0 (C := RX8) (T := TX8) (N := 14) (As := [.int 0]) (rest := [.int (loaE n E 1)]) (st' := [.int (loaE n E 0), .int (loaE n E 1)]) (w := mW G q E) X (q0 := 0) (kX8_loadOf l G q E n 0 (by first | assumption | omega | simp [fs_at, *]) (by first | assumption | omega | simp [fs_at, *])) gX8_leastLoaded_X8_loadOf rfl (n := 1) (by decide +kernel) (by decide) rfl rfl rfl rfl (Nat.le_of_ble_eq_true rfl) dX8_leastLoaded_16 rfl rfl (by decide) rfl ?_
  refine hicmp_ge (tgt := 26) X dX8_leastLoaded_19 (by decide) (fun c2 => ?_) (fun c2 => ?_)
  · refine hiload_n X dX8_leastLoaded_26 rfl ?_
    refine histore_n (lv' := [(1, .int 0), (2, .int 1), (0, .ref (q 0))]) X dX8_leastLoaded_27 (by decide) rfl ?_
    refine hiinc (v := 2) (lv' := [(2, .int 2), (1, .int 0), (0, .ref (q 0))]) X dX8_leastLoaded_28 rfl rfl (by decide) rfl ?_
    refine hgoto (tgt := 4) X dX8_leastLoaded_31 (by decide) ?_
    refine hiload_n X dX8_leastLoaded_4 rfl ?_
    refine hiconst (v := 3) X dX8_leastLoaded_5 rfl ?_
    refine hicmp_ge (tgt := 34) X dX8_leastLoaded_6 (by decide) (fun c3 => ?_) (fun c3 => ?_)
    · exact absurd c3 (by decide)
    refine haload_n X dX8_leastLoaded_9 rfl ?_
    refine hiload_n X dX8_leastLoaded_10 rfl ?_
    refine hcallV0 (C := RX8) (T := TX8) (N := 14) (As := [.int 2]) (rest := []) (st' := [.int (loaE n E 2)]) (w := mW G q E) X (q0 := 0) (kX8_loadOf l G q E n 2 (by first | assumption | omega | simp [fs_at, *]) (by first | assumption | omega | simp [fs_at, *])) gX8_leastLoaded_X8_loadOf rfl (n := 1) (by decide +kernel) (by decide) rfl rfl rfl rfl (Nat.le_of_ble_eq_true rfl) dX8_leastLoaded_11 rfl rfl (by decide) rfl ?_
    refine haload_n X dX8_leastLoaded_14 rfl ?_
    refine hiload_n X dX8_leastLoaded_15 rfl ?_
    refine hcallV0 (C := RX8) (T := TX8) (N := 14) (As := [.int 0]) (rest := [.int (loaE n E 2)]) (st' := [.int (loaE n E 0), .int (loaE n E 2)]) (w := mW G q E) X (q0 := 0) (kX8_loadOf l G q E n 0 (by first | assumption | omega | simp [fs_at, *]) (by first | assumption | omega | simp [fs_at, *])) gX8_leastLoaded_X8_loadOf rfl (n := 1) (by decide +kernel) (by decide) rfl rfl rfl rfl (Nat.le_of_ble_eq_true rfl) dX8_leastLoaded_16 rfl rfl (by decide) rfl ?_
    refine hicmp_ge (tgt := 26) X dX8_leastLoaded_19 (by decide) (fun c4 => ?_) (fun c4 => ?_)
    · refine hiload_n X dX8_leastLoaded_26 rfl ?_
      refine histore_n (lv' := [(1, .int 0), (2, .int 2), (0, .ref (q 0))]) X dX8_leastLoaded_27 (by decide) rfl ?_
      refine hiinc (v := 3) (lv' := [(2, .int 3), (1, .int 0), (0, .ref (q 0))]) X dX8_leastLoaded_28 rfl rfl (by decide) rfl ?_
      refine hgoto (tgt := 4) X dX8_leastLoaded_31 (by decide) ?_
      refine hiload_n X dX8_leastLoaded_4 rfl ?_
      refine hiconst (v := 3) X dX8_leastLoaded_5 rfl ?_
      refine hicmp_ge (tgt := 34) X dX8_leastLoaded_6 (by decide) (fun c5 => ?_) (fun c5 => ?_)
      rotate_left
      · exact absurd (by decide) c5
      refine hiload_n X dX8_leastLoaded_34 rfl ?_
      refine hiret X dX8_leastLoaded_35 ⟨congrArg (fun z => some (Value.int z)) (?_ : 0 = nI (llE n E)), ?_⟩
      · simp [llE, nI_0, show nI 1 = 1 from rfl, show nI 2 = 2 from rfl, c2, c4]
      rfl
    · refine hiload_n X dX8_leastLoaded_22 rfl ?_
      refine hgoto (tgt := 27) X dX8_leastLoaded_23 (by decide) ?_
      refine histore_n (lv' := [(1, .int 2), (2, .int 2), (0, .ref (q 0))]) X dX8_leastLoaded_27 (by decide) rfl ?_
      refine hiinc (v := 3) (lv' := [(2, .int 3), (1, .int 2), (0, .ref (q 0))]) X dX8_leastLoaded_28 rfl rfl (by decide) rfl ?_
      refine hgoto (tgt := 4) X dX8_leastLoaded_31 (by decide) ?_
      refine hiload_n X dX8_leastLoaded_4 rfl ?_
      refine hiconst (v := 3) X dX8_leastLoaded_5 rfl ?_
      refine hicmp_ge (tgt := 34) X dX8_leastLoaded_6 (by decide) (fun c6 => ?_) (fun c6 => ?_)
      rotate_left
      · exact absurd (by decide) c6
      refine hiload_n X dX8_leastLoaded_34 rfl ?_
      refine hiret X dX8_leastLoaded_35 ⟨congrArg (fun z => some (Value.int z)) (?_ : 2 = nI (llE n E)), ?_⟩
      · simp [llE, nI_0, show nI 1 = 1 from rfl, show nI 2 = 2 from rfl, c2, c4]
      rfl
  · refine hiload_n X dX8_leastLoaded_22 rfl ?_
    refine hgoto (tgt := 27) X dX8_leastLoaded_23 (by decide) ?_
    refine histore_n (lv' := [(1, .int 1), (2, .int 1), (0, .ref (q 0))]) X dX8_leastLoaded_27 (by decide) rfl ?_
    refine hiinc (v := 2) (lv' := [(2, .int 2), (1, .int 1), (0, .ref (q 0))]) X dX8_leastLoaded_28 rfl rfl (by decide) rfl ?_
    refine hgoto (tgt := 4) X dX8_leastLoaded_31 (by decide) ?_
    refine hiload_n X dX8_leastLoaded_4 rfl ?_
    refine hiconst (v := 3) X dX8_leastLoaded_5 rfl ?_
    refine hicmp_ge (tgt := 34) X dX8_leastLoaded_6 (by decide) (fun c7 => ?_) (fun c7 => ?_)
    · exact absurd c7 (by decide)
    refine haload_n X dX8_leastLoaded_9 rfl ?_
    refine hiload_n X dX8_leastLoaded_10 rfl ?_
    refine hcallV0 (C := RX8) (T := TX8) (N := 14) (As := [.int 2]) (rest := []) (st' := [.int (loaE n E 2)]) (w := mW G q E) X (q0 := 0) (kX8_loadOf l G q E n 2 (by first | assumption | omega | simp [fs_at, *]) (by first | assumption | omega | simp [fs_at, *])) gX8_leastLoaded_X8_loadOf rfl (n := 1) (by decide +kernel) (by decide) rfl rfl rfl rfl (Nat.le_of_ble_eq_true rfl) dX8_leastLoaded_11 rfl rfl (by decide) rfl ?_
    refine haload_n X dX8_leastLoaded_14 rfl ?_
    refine hiload_n X dX8_leastLoaded_15 rfl ?_
    refine hcallV0 (C := RX8) (T := TX8) (N := 14) (As := [.int 1]) (rest := [.int (loaE n E 2)]) (st' := [.int (loaE n E 1), .int (loaE n E 2)]) (w := mW G q E) X (q0 := 0) (kX8_loadOf l G q E n 1 (by first | assumption | omega | simp [fs_at, *]) (by first | assumption | omega | simp [fs_at, *])) gX8_leastLoaded_X8_loadOf rfl (n := 1) (by decide +kernel) (by decide) rfl rfl rfl rfl (Nat.le_of_ble_eq_true rfl) dX8_leastLoaded_16 rfl rfl (by decide) rfl ?_
    refine hicmp_ge (tgt := 26) X dX8_leastLoaded_19 (by decide) (fun c8 => ?_) (fun c8 => ?_)
    · refine hiload_n X dX8_leastLoaded_26 rfl ?_
      refine histore_n (lv' := [(1, .int 1), (2, .int 2), (0, .ref (q 0))]) X dX8_leastLoaded_27 (by decide) rfl ?_
      refine hiinc (v := 3) (lv' := [(2, .int 3), (1, .int 1), (0, .ref (q 0))]) X dX8_leastLoaded_28 rfl rfl (by decide) rfl ?_
      refine hgoto (tgt := 4) X dX8_leastLoaded_31 (by decide) ?_
      refine hiload_n X dX8_leastLoaded_4 rfl ?_
      refine hiconst (v := 3) X dX8_leastLoaded_5 rfl ?_
      refine hicmp_ge (tgt := 34) X dX8_leastLoaded_6 (by decide) (fun c9 => ?_) (fun c9 => ?_)
      rotate_left
      · exact absurd (by decide) c9
      refine hiload_n X dX8_leastLoaded_34 rfl ?_
      refine hiret X dX8_leastLoaded_35 ⟨congrArg (fun z => some (Value.int z)) (?_ : 1 = nI (llE n E)), ?_⟩
      · simp [llE, nI_0, show nI 1 = 1 from rfl, show nI 2 = 2 from rfl, c2, c8]
      rfl
    · refine hiload_n X dX8_leastLoaded_22 rfl ?_
      refine hgoto (tgt := 27) X dX8_leastLoaded_23 (by decide) ?_
      refine histore_n (lv' := [(1, .int 2), (2, .int 2), (0, .ref (q 0))]) X dX8_leastLoaded_27 (by decide) rfl ?_
      refine hiinc (v := 3) (lv' := [(2, .int 3), (1, .int 2), (0, .ref (q 0))]) X dX8_leastLoaded_28 rfl rfl (by decide) rfl ?_
      refine hgoto (tgt := 4) X dX8_leastLoaded_31 (by decide) ?_
      refine hiload_n X dX8_leastLoaded_4 rfl ?_
      refine hiconst (v := 3) X dX8_leastLoaded_5 rfl ?_
      refine hicmp_ge (tgt := 34) X dX8_leastLoaded_6 (by decide) (fun c10 => ?_) (fun c10 => ?_)
      rotate_left
      · exact absurd (by decide) c10
      refine hiload_n X dX8_leastLoaded_34 rfl ?_
      refine hiret X dX8_leastLoaded_35 ⟨congrArg (fun z => some (Value.int z)) (?_ : 2 = nI (llE n E)), ?_⟩
      · simp [llE, nI_0, show nI 1 = 1 from rfl, show nI 2 = 2 from rfl, c2, c8]
      rfl

set_option maxHeartbeats 4000000 in
set_option maxRecDepth 100000 in
theorem kX8_finishes (l : Launch) (G : hG) (q : Nat → Nat) (E : hF) (n c j s : Nat) (h : mOk n c E) (hj : j < 6) (hs : s < n) : hM l G yX8_finishes wsX8_finishes ({ frames := 4, cells := 0, slots := 0, locals := 107 }) (mW G q E) [.ref (q 0), .int (nI j), .int (nI s)] (hR none (mW G q (fiE n E j s))) := by
  refine hM_of (cc := cX8_finishes) (maxL := 4) (ret := none) (by decide) rfl (Nat.le_of_ble_eq_true rfl) ?_
  intro pp ee ss mm aa bb me cd X hin
  have iX8 : ∀ w ∈ wsX80, w ∈ wsX8_finishes := by decide +kernel
  have hn := h.hn
  refine haload_n X dX8_finishes_0 rfl ?_
  refine hiload_n X dX8_finishes_1 rfl ?_
  refine hiconst (v := 2) X dX8_finishes_2 rfl ?_
  refine hbipush (v := (-6)) X dX8_finishes_3 rfl ?_
  refine hcallV0 (C := RX8) (T := TX8) (N := 14) (As := [.int (nI j), .int (nI 2), .int (-6)]) (rest := []) (st' := []) (w := mW G q (fs E 0 (208 + 7 * j + 2) (-6))) X (q0 := 0) (kX8_setCrew l G q E j 2 (-6) (by first | assumption | omega | exact h.h4 | exact (mfiA h (k := j) hs).h4 | exact ((mfiA h (k := j) hs).part _ hs (by decide) (by decide) (by decide)).h4) (by first | assumption | omega | exact h.h4 | exact (mfiA h (k := j) hs).h4 | exact ((mfiA h (k := j) hs).part _ hs (by decide) (by decide) (by decide)).h4)) gX8_finishes_X8_setCrew rfl (n := 3) (by decide +kernel) (by decide) rfl rfl rfl rfl (Nat.le_of_ble_eq_true rfl) dX8_finishes_5 rfl rfl (by decide) rfl ?_
  refine haload_n X dX8_finishes_8 rfl ?_
  refine hiload_n X dX8_finishes_9 rfl ?_
  refine hbipush (v := 7) X dX8_finishes_10 rfl ?_
  refine hbipush (v := (-6)) X dX8_finishes_12 rfl ?_
  refine hcallV0 (C := RX8) (T := TX8) (N := 14) (As := [.int (nI s), .int (nI 7), .int (-6)]) (rest := []) (st' := []) (w := mW G q (fs (fs E 0 (208 + 7 * j + 2) (-6)) 0 (8 + 10 * s + 7) (-6))) X (q0 := 0) (kX8_setPart l G q (fs E 0 (208 + 7 * j + 2) (-6)) s 7 (-6) (by first | assumption | omega | exact h.h4 | exact (mfiA h (k := j) hs).h4 | exact ((mfiA h (k := j) hs).part _ hs (by decide) (by decide) (by decide)).h4) (by first | assumption | omega | exact h.h4 | exact (mfiA h (k := j) hs).h4 | exact ((mfiA h (k := j) hs).part _ hs (by decide) (by decide) (by decide)).h4)) gX8_finishes_X8_setPart rfl (n := 3) (by decide +kernel) (by decide) rfl rfl rfl rfl (Nat.le_of_ble_eq_true rfl) dX8_finishes_14 rfl rfl (by decide) rfl ?_
  refine haload_n X dX8_finishes_17 rfl ?_
  refine hiload_n X dX8_finishes_18 rfl ?_
  refine hiconst (v := 3) X dX8_finishes_19 rfl ?_
  refine hcallV0 (C := RX8) (T := TX8) (N := 14) (As := [.int (nI s), .int 3]) (rest := []) (st' := [.int (bI ((fs (fs E 0 (208 + 7 * j + 2) (-6)) 0 (8 + 10 * s + 7) (-6)) 0 (8 + 10 * s + 4) = 3))]) (w := mW G q (fs (fs E 0 (208 + 7 * j + 2) (-6)) 0 (8 + 10 * s + 7) (-6))) X (q0 := 0) (kX8_isHow l G q (fs (fs E 0 (208 + 7 * j + 2) (-6)) 0 (8 + 10 * s + 7) (-6)) s 3 (by first | assumption | omega | exact h.h4 | exact (mfiA h (k := j) hs).h4 | exact ((mfiA h (k := j) hs).part _ hs (by decide) (by decide) (by decide)).h4)) gX8_finishes_X8_isHow rfl (n := 2) (by decide +kernel) (by decide) rfl rfl rfl rfl (Nat.le_of_ble_eq_true rfl) dX8_finishes_20 rfl rfl (by decide) rfl ?_
  have r1 : ((fs (fs E 0 (208 + 7 * j + 2) (-6)) 0 (8 + 10 * s + 7) (-6)) 0 (8 + 10 * s + 4) : Int32) = E 0 (8 + 10 * s + 4) := by rw [fs_at, if_neg (by omega), fs_at, if_neg (by omega)]
  refine hV_st (st' := [.int (bI (E 0 (8 + 10 * s + 4) = 3))]) (by rw [r1]) ?_
  refine hif_eqB (tgt := 89) X dX8_finishes_23 (by decide) (fun c2 => ?_) (fun c2 => ?_)
  · refine haload_n X dX8_finishes_89 rfl ?_
    refine hiload_n X dX8_finishes_90 rfl ?_
    refine hiconst (v := 4) X dX8_finishes_91 rfl ?_
    refine hbipush (v := 6) X dX8_finishes_92 rfl ?_
    refine hcallV0 (C := RX8) (T := TX8) (N := 14) (As := [.int (nI s), .int (nI 4), .int 6]) (rest := []) (st' := []) (w := mW G q (fs (fs (fs E 0 (208 + 7 * j + 2) (-6)) 0 (8 + 10 * s + 7) (-6)) 0 (8 + 10 * s + 4) 6)) X (q0 := 0) (kX8_setPart l G q (fs (fs E 0 (208 + 7 * j + 2) (-6)) 0 (8 + 10 * s + 7) (-6)) s 4 6 (by first | assumption | omega | exact h.h4 | exact (mfiA h (k := j) hs).h4 | exact ((mfiA h (k := j) hs).part _ hs (by decide) (by decide) (by decide)).h4) (by first | assumption | omega | exact h.h4 | exact (mfiA h (k := j) hs).h4 | exact ((mfiA h (k := j) hs).part _ hs (by decide) (by decide) (by decide)).h4)) gX8_finishes_X8_setPart rfl (n := 3) (by decide +kernel) (by decide) rfl rfl rfl rfl (Nat.le_of_ble_eq_true rfl) dX8_finishes_94 rfl rfl (by decide) rfl ?_
    refine haload_n X dX8_finishes_97 rfl ?_
    refine hiload_n X dX8_finishes_98 rfl ?_
    refine hbipush (v := 6) X dX8_finishes_99 rfl ?_
    refine haload_n X dX8_finishes_101 rfl ?_
    refine hiload_n X dX8_finishes_102 rfl ?_
    refine hbipush (v := 6) X dX8_finishes_103 rfl ?_
    refine hcallV0 (C := RX8) (T := TX8) (N := 14) (As := [.int (nI j), .int (nI 6)]) (rest := [.int 6, .int (nI j), .ref (q 0)]) (st' := [.int ((fs (fs (fs E 0 (208 + 7 * j + 2) (-6)) 0 (8 + 10 * s + 7) (-6)) 0 (8 + 10 * s + 4) 6) 0 (208 + 7 * j + 6)), .int 6, .int (nI j), .ref (q 0)]) (w := mW G q (fs (fs (fs E 0 (208 + 7 * j + 2) (-6)) 0 (8 + 10 * s + 7) (-6)) 0 (8 + 10 * s + 4) 6)) X (q0 := 0) (kX8_ofCrewPart l G q (fs (fs (fs E 0 (208 + 7 * j + 2) (-6)) 0 (8 + 10 * s + 7) (-6)) 0 (8 + 10 * s + 4) 6) j 6 (by first | assumption | omega | exact h.h4 | exact (mfiA h (k := j) hs).h4 | exact ((mfiA h (k := j) hs).part _ hs (by decide) (by decide) (by decide)).h4) (by first | assumption | omega | exact h.h4 | exact (mfiA h (k := j) hs).h4 | exact ((mfiA h (k := j) hs).part _ hs (by decide) (by decide) (by decide)).h4)) gX8_finishes_X8_ofCrewPart rfl (n := 2) (by decide +kernel) (by decide) rfl rfl rfl rfl (Nat.le_of_ble_eq_true rfl) dX8_finishes_105 rfl rfl (by decide) rfl ?_
    have r3 : ((fs (fs (fs E 0 (208 + 7 * j + 2) (-6)) 0 (8 + 10 * s + 7) (-6)) 0 (8 + 10 * s + 4) 6) 0 (208 + 7 * j + 6) : Int32) = E 0 (208 + 7 * j + 6) := by rw [fs_at, if_neg (by omega), fs_at, if_neg (by omega), fs_at, if_neg (by omega)]
    refine hV_st (st' := [.int (E 0 (208 + 7 * j + 6)), .int 6, .int (nI j), .ref (q 0)]) (congrArg (fun z => Value.int z :: [.int 6, .int (nI j), .ref (q 0)]) r3) ?_
    refine hiconst (v := 1) X dX8_finishes_108 rfl ?_
    refine hiadd X dX8_finishes_109 ?_
    refine hcallV0 (C := RX8) (T := TX8) (N := 14) (As := [.int (nI j), .int (nI 6), .int ((E 0 (208 + 7 * j + 6)) + 1)]) (rest := []) (st' := []) (w := mW G q (fs (fs (fs (fs E 0 (208 + 7 * j + 2) (-6)) 0 (8 + 10 * s + 7) (-6)) 0 (8 + 10 * s + 4) 6) 0 (208 + 7 * j + 6) ((E 0 (208 + 7 * j + 6)) + 1))) X (q0 := 0) (kX8_setCrew l G q (fs (fs (fs E 0 (208 + 7 * j + 2) (-6)) 0 (8 + 10 * s + 7) (-6)) 0 (8 + 10 * s + 4) 6) j 6 ((E 0 (208 + 7 * j + 6)) + 1) (by first | assumption | omega | exact h.h4 | exact (mfiA h (k := j) hs).h4 | exact ((mfiA h (k := j) hs).part _ hs (by decide) (by decide) (by decide)).h4) (by first | assumption | omega | exact h.h4 | exact (mfiA h (k := j) hs).h4 | exact ((mfiA h (k := j) hs).part _ hs (by decide) (by decide) (by decide)).h4)) gX8_finishes_X8_setCrew rfl (n := 3) (by decide +kernel) (by decide) rfl rfl rfl rfl (Nat.le_of_ble_eq_true rfl) dX8_finishes_110 rfl rfl (by decide) rfl ?_
    refine haload_n X dX8_finishes_113 rfl ?_
    refine hget1 X (T := TX8) (N := 14) iX8 0 rfl rfl 0 (by decide) (by decide +kernel) rfl dX8_finishes_114 ?_
    refine hbipush (v := 7) X dX8_finishes_117 rfl ?_
    refine hdup2 X dX8_finishes_119 rfl rfl ?_
    refine hiald (n := 250) (f := (fs (fs (fs (fs E 0 (208 + 7 * j + 2) (-6)) 0 (8 + 10 * s + 7) (-6)) 0 (8 + 10 * s + 4) 6) 0 (208 + 7 * j + 6) ((E 0 (208 + 7 * j + 6)) + 1)) 0) X 1 rfl 7 rfl (by omega) (by decide) dX8_finishes_120 ?_
    have r4 : ((fs (fs (fs (fs E 0 (208 + 7 * j + 2) (-6)) 0 (8 + 10 * s + 7) (-6)) 0 (8 + 10 * s + 4) 6) 0 (208 + 7 * j + 6) ((E 0 (208 + 7 * j + 6)) + 1)) 0 7 : Int32) = E 0 7 := by rw [fs_at, if_neg (by omega), fs_at, if_neg (by omega), fs_at, if_neg (by omega), fs_at, if_neg (by omega)]
    refine hV_st (st' := [.int (E 0 7), .int 7, .ref (q 1)]) (congrArg (fun z => Value.int z :: [.int 7, .ref (q 1)]) r4) ?_
    refine hiload_n X dX8_finishes_121 rfl ?_
    refine haload_n X dX8_finishes_122 rfl ?_
    refine hget1 X (T := TX8) (N := 14) iX8 0 rfl rfl 0 (by decide) (by decide +kernel) rfl dX8_finishes_123 ?_
    refine hiconst (v := 3) X dX8_finishes_126 rfl ?_
    refine hiald (n := 250) (f := (fs (fs (fs (fs E 0 (208 + 7 * j + 2) (-6)) 0 (8 + 10 * s + 7) (-6)) 0 (8 + 10 * s + 4) 6) 0 (208 + 7 * j + 6) ((E 0 (208 + 7 * j + 6)) + 1)) 0) X 1 rfl 3 rfl (by omega) (by decide) dX8_finishes_127 ?_
    have r5 : ((fs (fs (fs (fs E 0 (208 + 7 * j + 2) (-6)) 0 (8 + 10 * s + 7) (-6)) 0 (8 + 10 * s + 4) 6) 0 (208 + 7 * j + 6) ((E 0 (208 + 7 * j + 6)) + 1)) 0 3 : Int32) = E 0 3 := by rw [fs_at, if_neg (by omega), fs_at, if_neg (by omega), fs_at, if_neg (by omega), fs_at, if_neg (by omega)]
    refine hV_st (st' := [.int (E 0 3), .int (nI s), .int (E 0 7), .int 7, .ref (q 1)]) (congrArg (fun z => Value.int z :: [.int (nI s), .int (E 0 7), .int 7, .ref (q 1)]) r5) ?_
    refine hiadd X dX8_finishes_128 ?_
    refine hiconst (v := 4) X dX8_finishes_129 rfl ?_
    refine hirem X dX8_finishes_130 (by decide) ?_
    refine hif_ne (tgt := 138) X dX8_finishes_131 (by decide) (fun c6 => ?_) (fun c6 => ?_)
    · refine hiconst (v := 0) X dX8_finishes_138 rfl ?_
      refine hiadd X dX8_finishes_139 ?_
      refine hiast (n := 250) (f := (fs (fs (fs (fs E 0 (208 + 7 * j + 2) (-6)) 0 (8 + 10 * s + 7) (-6)) 0 (8 + 10 * s + 4) 6) 0 (208 + 7 * j + 6) ((E 0 (208 + 7 * j + 6)) + 1)) 0) X 1 rfl 7 rfl (by omega) (by decide) dX8_finishes_140 (ws' := mW G q (fs (fs (fs (fs (fs E 0 (208 + 7 * j + 2) (-6)) 0 (8 + 10 * s + 7) (-6)) 0 (8 + 10 * s + 4) 6) 0 (208 + 7 * j + 6) ((E 0 (208 + 7 * j + 6)) + 1)) 0 7 ((E 0 7) + 0))) rfl ?_
      refine hvret X dX8_finishes_141 ⟨rfl, ?_⟩
      refine congrArg (mW G q) (?_ : (fs (fs (fs (fs (fs E 0 (208 + 7 * j + 2) (-6)) 0 (8 + 10 * s + 7) (-6)) 0 (8 + 10 * s + 4) 6) 0 (208 + 7 * j + 6) ((E 0 (208 + 7 * j + 6)) + 1)) 0 7 ((E 0 7) + 0) : hF) = fiE n E j s)
      simp [fiE, fiA, fiB, c2, c6]
    · refine hiconst (v := 1) X dX8_finishes_134 rfl ?_
      refine hgoto (tgt := 139) X dX8_finishes_135 (by decide) ?_
      refine hiadd X dX8_finishes_139 ?_
      refine hiast (n := 250) (f := (fs (fs (fs (fs E 0 (208 + 7 * j + 2) (-6)) 0 (8 + 10 * s + 7) (-6)) 0 (8 + 10 * s + 4) 6) 0 (208 + 7 * j + 6) ((E 0 (208 + 7 * j + 6)) + 1)) 0) X 1 rfl 7 rfl (by omega) (by decide) dX8_finishes_140 (ws' := mW G q (fs (fs (fs (fs (fs E 0 (208 + 7 * j + 2) (-6)) 0 (8 + 10 * s + 7) (-6)) 0 (8 + 10 * s + 4) 6) 0 (208 + 7 * j + 6) ((E 0 (208 + 7 * j + 6)) + 1)) 0 7 ((E 0 7) + 1))) rfl ?_
      refine hvret X dX8_finishes_141 ⟨rfl, ?_⟩
      refine congrArg (mW G q) (?_ : (fs (fs (fs (fs (fs E 0 (208 + 7 * j + 2) (-6)) 0 (8 + 10 * s + 7) (-6)) 0 (8 + 10 * s + 4) 6) 0 (208 + 7 * j + 6) ((E 0 (208 + 7 * j + 6)) + 1)) 0 7 ((E 0 7) + 1) : hF) = fiE n E j s)
      simp [fiE, fiA, fiB, c2, c6]
  · refine haload_n X dX8_finishes_26 rfl ?_
    refine hcallV0 (C := RX8) (T := TX8) (N := 14) (As := []) (rest := []) (st' := [.int (nI (llE n (fs (fs E 0 (208 + 7 * j + 2) (-6)) 0 (8 + 10 * s + 7) (-6))))]) (w := mW G q (fs (fs E 0 (208 + 7 * j + 2) (-6)) 0 (8 + 10 * s + 7) (-6))) X (q0 := 0) (kX8_leastLoaded l G q (fs (fs E 0 (208 + 7 * j + 2) (-6)) 0 (8 + 10 * s + 7) (-6)) n (by first | assumption | omega | exact h.h4 | exact (mfiA h (k := j) hs).h4 | exact ((mfiA h (k := j) hs).part _ hs (by decide) (by decide) (by decide)).h4) (by first | assumption | omega | exact h.h4 | exact (mfiA h (k := j) hs).h4 | exact ((mfiA h (k := j) hs).part _ hs (by decide) (by decide) (by decide)).h4)) gX8_finishes_X8_leastLoaded rfl (n := 0) (by decide +kernel) (by decide) rfl rfl rfl rfl (Nat.le_of_ble_eq_true rfl) dX8_finishes_27 rfl rfl (by decide) rfl ?_
    refine histore_n (lv' := [(3, .int (nI (llE n (fs (fs E 0 (208 + 7 * j + 2) (-6)) 0 (8 + 10 * s + 7) (-6))))), (0, .ref (q 0)), (1, .int (nI j)), (2, .int (nI s))]) X dX8_finishes_30 (by decide) rfl ?_
    refine haload_n X dX8_finishes_31 rfl ?_
    refine hiload_n X dX8_finishes_32 rfl ?_
    refine hiconst (v := 4) X dX8_finishes_33 rfl ?_
    refine hiconst (v := 4) X dX8_finishes_34 rfl ?_
    refine hcallV0 (C := RX8) (T := TX8) (N := 14) (As := [.int (nI s), .int (nI 4), .int 4]) (rest := []) (st' := []) (w := mW G q (fs (fs (fs E 0 (208 + 7 * j + 2) (-6)) 0 (8 + 10 * s + 7) (-6)) 0 (8 + 10 * s + 4) 4)) X (q0 := 0) (kX8_setPart l G q (fs (fs E 0 (208 + 7 * j + 2) (-6)) 0 (8 + 10 * s + 7) (-6)) s 4 4 (by first | assumption | omega | exact h.h4 | exact (mfiA h (k := j) hs).h4 | exact ((mfiA h (k := j) hs).part _ hs (by decide) (by decide) (by decide)).h4) (by first | assumption | omega | exact h.h4 | exact (mfiA h (k := j) hs).h4 | exact ((mfiA h (k := j) hs).part _ hs (by decide) (by decide) (by decide)).h4)) gX8_finishes_X8_setPart rfl (n := 3) (by decide +kernel) (by decide) rfl rfl rfl rfl (Nat.le_of_ble_eq_true rfl) dX8_finishes_35 rfl rfl (by decide) rfl ?_
    refine haload_n X dX8_finishes_38 rfl ?_
    refine hiload_n X dX8_finishes_39 rfl ?_
    refine hbipush (v := 6) X dX8_finishes_40 rfl ?_
    refine haload_n X dX8_finishes_42 rfl ?_
    refine hiload_n X dX8_finishes_43 rfl ?_
    refine hcallV0 (C := RX8) (T := TX8) (N := 14) (As := [.int (nI (llE n (fs (fs E 0 (208 + 7 * j + 2) (-6)) 0 (8 + 10 * s + 7) (-6))))]) (rest := [.int 6, .int (nI s), .ref (q 0)]) (st' := [.int (loaE n (fs (fs (fs E 0 (208 + 7 * j + 2) (-6)) 0 (8 + 10 * s + 7) (-6)) 0 (8 + 10 * s + 4) 4) (nI (llE n (fs (fs E 0 (208 + 7 * j + 2) (-6)) 0 (8 + 10 * s + 7) (-6))))), .int 6, .int (nI s), .ref (q 0)]) (w := mW G q (fs (fs (fs E 0 (208 + 7 * j + 2) (-6)) 0 (8 + 10 * s + 7) (-6)) 0 (8 + 10 * s + 4) 4)) X (q0 := 0) (kX8_loadOf l G q (fs (fs (fs E 0 (208 + 7 * j + 2) (-6)) 0 (8 + 10 * s + 7) (-6)) 0 (8 + 10 * s + 4) 4) n (nI (llE n (fs (fs E 0 (208 + 7 * j + 2) (-6)) 0 (8 + 10 * s + 7) (-6)))) (by first | assumption | omega | exact h.h4 | exact (mfiA h (k := j) hs).h4 | exact ((mfiA h (k := j) hs).part _ hs (by decide) (by decide) (by decide)).h4) (by first | assumption | omega | exact h.h4 | exact (mfiA h (k := j) hs).h4 | exact ((mfiA h (k := j) hs).part _ hs (by decide) (by decide) (by decide)).h4)) gX8_finishes_X8_loadOf rfl (n := 1) (by decide +kernel) (by decide) rfl rfl rfl rfl (Nat.le_of_ble_eq_true rfl) dX8_finishes_44 rfl rfl (by decide) rfl ?_
    refine haload_n X dX8_finishes_47 rfl ?_
    refine hiload_n X dX8_finishes_48 rfl ?_
    refine hiconst (v := 2) X dX8_finishes_49 rfl ?_
    refine hcallV0 (C := RX8) (T := TX8) (N := 14) (As := [.int (nI s), .int (nI 2)]) (rest := [.int (loaE n (fs (fs (fs E 0 (208 + 7 * j + 2) (-6)) 0 (8 + 10 * s + 7) (-6)) 0 (8 + 10 * s + 4) 4) (nI (llE n (fs (fs E 0 (208 + 7 * j + 2) (-6)) 0 (8 + 10 * s + 7) (-6))))), .int 6, .int (nI s), .ref (q 0)]) (st' := [.int ((fs (fs (fs E 0 (208 + 7 * j + 2) (-6)) 0 (8 + 10 * s + 7) (-6)) 0 (8 + 10 * s + 4) 4) 0 (8 + 10 * s + 2)), .int (loaE n (fs (fs (fs E 0 (208 + 7 * j + 2) (-6)) 0 (8 + 10 * s + 7) (-6)) 0 (8 + 10 * s + 4) 4) (nI (llE n (fs (fs E 0 (208 + 7 * j + 2) (-6)) 0 (8 + 10 * s + 7) (-6))))), .int 6, .int (nI s), .ref (q 0)]) (w := mW G q (fs (fs (fs E 0 (208 + 7 * j + 2) (-6)) 0 (8 + 10 * s + 7) (-6)) 0 (8 + 10 * s + 4) 4)) X (q0 := 0) (kX8_part l G q (fs (fs (fs E 0 (208 + 7 * j + 2) (-6)) 0 (8 + 10 * s + 7) (-6)) 0 (8 + 10 * s + 4) 4) s 2 (by first | assumption | omega | exact h.h4 | exact (mfiA h (k := j) hs).h4 | exact ((mfiA h (k := j) hs).part _ hs (by decide) (by decide) (by decide)).h4) (by first | assumption | omega | exact h.h4 | exact (mfiA h (k := j) hs).h4 | exact ((mfiA h (k := j) hs).part _ hs (by decide) (by decide) (by decide)).h4)) gX8_finishes_X8_part rfl (n := 2) (by decide +kernel) (by decide) rfl rfl rfl rfl (Nat.le_of_ble_eq_true rfl) dX8_finishes_50 rfl rfl (by decide) rfl ?_
    have r7 : ((fs (fs (fs E 0 (208 + 7 * j + 2) (-6)) 0 (8 + 10 * s + 7) (-6)) 0 (8 + 10 * s + 4) 4) 0 (8 + 10 * s + 2) : Int32) = E 0 (8 + 10 * s + 2) := by rw [fs_at, if_neg (by omega), fs_at, if_neg (by omega), fs_at, if_neg (by omega)]
    refine hV_st (st' := [.int (E 0 (8 + 10 * s + 2)), .int (loaE n (fs (fs (fs E 0 (208 + 7 * j + 2) (-6)) 0 (8 + 10 * s + 7) (-6)) 0 (8 + 10 * s + 4) 4) (nI (llE n (fs (fs E 0 (208 + 7 * j + 2) (-6)) 0 (8 + 10 * s + 7) (-6))))), .int 6, .int (nI s), .ref (q 0)]) (congrArg (fun z => Value.int z :: [.int (loaE n (fs (fs (fs E 0 (208 + 7 * j + 2) (-6)) 0 (8 + 10 * s + 7) (-6)) 0 (8 + 10 * s + 4) 4) (nI (llE n (fs (fs E 0 (208 + 7 * j + 2) (-6)) 0 (8 + 10 * s + 7) (-6))))), .int 6, .int (nI s), .ref (q 0)]) r7) ?_
    refine hiadd X dX8_finishes_53 ?_
    refine haload_n X dX8_finishes_54 rfl ?_
    refine hget1 X (T := TX8) (N := 14) iX8 0 rfl rfl 0 (by decide) (by decide +kernel) rfl dX8_finishes_55 ?_
    refine hiconst (v := 2) X dX8_finishes_58 rfl ?_
    refine hiald (n := 250) (f := (fs (fs (fs E 0 (208 + 7 * j + 2) (-6)) 0 (8 + 10 * s + 7) (-6)) 0 (8 + 10 * s + 4) 4) 0) X 1 rfl 2 rfl (by omega) (by decide) dX8_finishes_59 ?_
    have r8 : ((fs (fs (fs E 0 (208 + 7 * j + 2) (-6)) 0 (8 + 10 * s + 7) (-6)) 0 (8 + 10 * s + 4) 4) 0 2 : Int32) = E 0 2 := by rw [fs_at, if_neg (by omega), fs_at, if_neg (by omega), fs_at, if_neg (by omega)]
    refine hV_st (st' := [.int (E 0 2), .int ((loaE n (fs (fs (fs E 0 (208 + 7 * j + 2) (-6)) 0 (8 + 10 * s + 7) (-6)) 0 (8 + 10 * s + 4) 4) (nI (llE n (fs (fs E 0 (208 + 7 * j + 2) (-6)) 0 (8 + 10 * s + 7) (-6))))) + (E 0 (8 + 10 * s + 2))), .int 6, .int (nI s), .ref (q 0)]) (congrArg (fun z => Value.int z :: [.int ((loaE n (fs (fs (fs E 0 (208 + 7 * j + 2) (-6)) 0 (8 + 10 * s + 7) (-6)) 0 (8 + 10 * s + 4) 4) (nI (llE n (fs (fs E 0 (208 + 7 * j + 2) (-6)) 0 (8 + 10 * s + 7) (-6))))) + (E 0 (8 + 10 * s + 2))), .int 6, .int (nI s), .ref (q 0)]) r8) ?_
    refine hicmp_gt (tgt := 67) X dX8_finishes_60 (by decide) (fun c9 => ?_) (fun c9 => ?_)
    · refine hbipush (v := (-6)) X dX8_finishes_67 rfl ?_
      refine hcallV0 (C := RX8) (T := TX8) (N := 14) (As := [.int (nI s), .int (nI 6), .int (-6)]) (rest := []) (st' := []) (w := mW G q (fs (fs (fs (fs E 0 (208 + 7 * j + 2) (-6)) 0 (8 + 10 * s + 7) (-6)) 0 (8 + 10 * s + 4) 4) 0 (8 + 10 * s + 6) (-6))) X (q0 := 0) (kX8_setPart l G q (fs (fs (fs E 0 (208 + 7 * j + 2) (-6)) 0 (8 + 10 * s + 7) (-6)) 0 (8 + 10 * s + 4) 4) s 6 (-6) (by first | assumption | omega | exact h.h4 | exact (mfiA h (k := j) hs).h4 | exact ((mfiA h (k := j) hs).part _ hs (by decide) (by decide) (by decide)).h4) (by first | assumption | omega | exact h.h4 | exact (mfiA h (k := j) hs).h4 | exact ((mfiA h (k := j) hs).part _ hs (by decide) (by decide) (by decide)).h4)) gX8_finishes_X8_setPart rfl (n := 3) (by decide +kernel) (by decide) rfl rfl rfl rfl (Nat.le_of_ble_eq_true rfl) dX8_finishes_69 rfl rfl (by decide) rfl ?_
      refine haload_n X dX8_finishes_72 rfl ?_
      refine hiload_n X dX8_finishes_73 rfl ?_
      refine hiconst (v := 5) X dX8_finishes_74 rfl ?_
      refine haload_n X dX8_finishes_75 rfl ?_
      refine hiload_n X dX8_finishes_76 rfl ?_
      refine hiconst (v := 5) X dX8_finishes_77 rfl ?_
      refine hcallV0 (C := RX8) (T := TX8) (N := 14) (As := [.int (nI j), .int (nI 5)]) (rest := [.int 5, .int (nI j), .ref (q 0)]) (st' := [.int ((fs (fs (fs (fs E 0 (208 + 7 * j + 2) (-6)) 0 (8 + 10 * s + 7) (-6)) 0 (8 + 10 * s + 4) 4) 0 (8 + 10 * s + 6) (-6)) 0 (208 + 7 * j + 5)), .int 5, .int (nI j), .ref (q 0)]) (w := mW G q (fs (fs (fs (fs E 0 (208 + 7 * j + 2) (-6)) 0 (8 + 10 * s + 7) (-6)) 0 (8 + 10 * s + 4) 4) 0 (8 + 10 * s + 6) (-6))) X (q0 := 0) (kX8_ofCrewPart l G q (fs (fs (fs (fs E 0 (208 + 7 * j + 2) (-6)) 0 (8 + 10 * s + 7) (-6)) 0 (8 + 10 * s + 4) 4) 0 (8 + 10 * s + 6) (-6)) j 5 (by first | assumption | omega | exact h.h4 | exact (mfiA h (k := j) hs).h4 | exact ((mfiA h (k := j) hs).part _ hs (by decide) (by decide) (by decide)).h4) (by first | assumption | omega | exact h.h4 | exact (mfiA h (k := j) hs).h4 | exact ((mfiA h (k := j) hs).part _ hs (by decide) (by decide) (by decide)).h4)) gX8_finishes_X8_ofCrewPart rfl (n := 2) (by decide +kernel) (by decide) rfl rfl rfl rfl (Nat.le_of_ble_eq_true rfl) dX8_finishes_78 rfl rfl (by decide) rfl ?_
      have r10 : ((fs (fs (fs (fs E 0 (208 + 7 * j + 2) (-6)) 0 (8 + 10 * s + 7) (-6)) 0 (8 + 10 * s + 4) 4) 0 (8 + 10 * s + 6) (-6)) 0 (208 + 7 * j + 5) : Int32) = E 0 (208 + 7 * j + 5) := by rw [fs_at, if_neg (by omega), fs_at, if_neg (by omega), fs_at, if_neg (by omega), fs_at, if_neg (by omega)]
      refine hV_st (st' := [.int (E 0 (208 + 7 * j + 5)), .int 5, .int (nI j), .ref (q 0)]) (congrArg (fun z => Value.int z :: [.int 5, .int (nI j), .ref (q 0)]) r10) ?_
      refine hiconst (v := 1) X dX8_finishes_81 rfl ?_
      refine hiadd X dX8_finishes_82 ?_
      refine hcallV0 (C := RX8) (T := TX8) (N := 14) (As := [.int (nI j), .int (nI 5), .int ((E 0 (208 + 7 * j + 5)) + 1)]) (rest := []) (st' := []) (w := mW G q (fs (fs (fs (fs (fs E 0 (208 + 7 * j + 2) (-6)) 0 (8 + 10 * s + 7) (-6)) 0 (8 + 10 * s + 4) 4) 0 (8 + 10 * s + 6) (-6)) 0 (208 + 7 * j + 5) ((E 0 (208 + 7 * j + 5)) + 1))) X (q0 := 0) (kX8_setCrew l G q (fs (fs (fs (fs E 0 (208 + 7 * j + 2) (-6)) 0 (8 + 10 * s + 7) (-6)) 0 (8 + 10 * s + 4) 4) 0 (8 + 10 * s + 6) (-6)) j 5 ((E 0 (208 + 7 * j + 5)) + 1) (by first | assumption | omega | exact h.h4 | exact (mfiA h (k := j) hs).h4 | exact ((mfiA h (k := j) hs).part _ hs (by decide) (by decide) (by decide)).h4) (by first | assumption | omega | exact h.h4 | exact (mfiA h (k := j) hs).h4 | exact ((mfiA h (k := j) hs).part _ hs (by decide) (by decide) (by decide)).h4)) gX8_finishes_X8_setCrew rfl (n := 3) (by decide +kernel) (by decide) rfl rfl rfl rfl (Nat.le_of_ble_eq_true rfl) dX8_finishes_83 rfl rfl (by decide) rfl ?_
      refine hgoto (tgt := 141) X dX8_finishes_86 (by decide) ?_
      refine hvret X dX8_finishes_141 ⟨rfl, ?_⟩
      refine congrArg (mW G q) (?_ : (fs (fs (fs (fs (fs E 0 (208 + 7 * j + 2) (-6)) 0 (8 + 10 * s + 7) (-6)) 0 (8 + 10 * s + 4) 4) 0 (8 + 10 * s + 6) (-6)) 0 (208 + 7 * j + 5) ((E 0 (208 + 7 * j + 5)) + 1) : hF) = fiE n E j s)
      simp [fiE, fiA, fiB, c2, c9]
    · refine hiload_n X dX8_finishes_63 rfl ?_
      refine hgoto (tgt := 69) X dX8_finishes_64 (by decide) ?_
      refine hcallV0 (C := RX8) (T := TX8) (N := 14) (As := [.int (nI s), .int (nI 6), .int (nI (llE n (fs (fs E 0 (208 + 7 * j + 2) (-6)) 0 (8 + 10 * s + 7) (-6))))]) (rest := []) (st' := []) (w := mW G q (fs (fs (fs (fs E 0 (208 + 7 * j + 2) (-6)) 0 (8 + 10 * s + 7) (-6)) 0 (8 + 10 * s + 4) 4) 0 (8 + 10 * s + 6) (nI (llE n (fs (fs E 0 (208 + 7 * j + 2) (-6)) 0 (8 + 10 * s + 7) (-6)))))) X (q0 := 0) (kX8_setPart l G q (fs (fs (fs E 0 (208 + 7 * j + 2) (-6)) 0 (8 + 10 * s + 7) (-6)) 0 (8 + 10 * s + 4) 4) s 6 (nI (llE n (fs (fs E 0 (208 + 7 * j + 2) (-6)) 0 (8 + 10 * s + 7) (-6)))) (by first | assumption | omega | exact h.h4 | exact (mfiA h (k := j) hs).h4 | exact ((mfiA h (k := j) hs).part _ hs (by decide) (by decide) (by decide)).h4) (by first | assumption | omega | exact h.h4 | exact (mfiA h (k := j) hs).h4 | exact ((mfiA h (k := j) hs).part _ hs (by decide) (by decide) (by decide)).h4)) gX8_finishes_X8_setPart rfl (n := 3) (by decide +kernel) (by decide) rfl rfl rfl rfl (Nat.le_of_ble_eq_true rfl) dX8_finishes_69 rfl rfl (by decide) rfl ?_
      refine haload_n X dX8_finishes_72 rfl ?_
      refine hiload_n X dX8_finishes_73 rfl ?_
      refine hiconst (v := 5) X dX8_finishes_74 rfl ?_
      refine haload_n X dX8_finishes_75 rfl ?_
      refine hiload_n X dX8_finishes_76 rfl ?_
      refine hiconst (v := 5) X dX8_finishes_77 rfl ?_
      refine hcallV0 (C := RX8) (T := TX8) (N := 14) (As := [.int (nI j), .int (nI 5)]) (rest := [.int 5, .int (nI j), .ref (q 0)]) (st' := [.int ((fs (fs (fs (fs E 0 (208 + 7 * j + 2) (-6)) 0 (8 + 10 * s + 7) (-6)) 0 (8 + 10 * s + 4) 4) 0 (8 + 10 * s + 6) (nI (llE n (fs (fs E 0 (208 + 7 * j + 2) (-6)) 0 (8 + 10 * s + 7) (-6))))) 0 (208 + 7 * j + 5)), .int 5, .int (nI j), .ref (q 0)]) (w := mW G q (fs (fs (fs (fs E 0 (208 + 7 * j + 2) (-6)) 0 (8 + 10 * s + 7) (-6)) 0 (8 + 10 * s + 4) 4) 0 (8 + 10 * s + 6) (nI (llE n (fs (fs E 0 (208 + 7 * j + 2) (-6)) 0 (8 + 10 * s + 7) (-6)))))) X (q0 := 0) (kX8_ofCrewPart l G q (fs (fs (fs (fs E 0 (208 + 7 * j + 2) (-6)) 0 (8 + 10 * s + 7) (-6)) 0 (8 + 10 * s + 4) 4) 0 (8 + 10 * s + 6) (nI (llE n (fs (fs E 0 (208 + 7 * j + 2) (-6)) 0 (8 + 10 * s + 7) (-6))))) j 5 (by first | assumption | omega | exact h.h4 | exact (mfiA h (k := j) hs).h4 | exact ((mfiA h (k := j) hs).part _ hs (by decide) (by decide) (by decide)).h4) (by first | assumption | omega | exact h.h4 | exact (mfiA h (k := j) hs).h4 | exact ((mfiA h (k := j) hs).part _ hs (by decide) (by decide) (by decide)).h4)) gX8_finishes_X8_ofCrewPart rfl (n := 2) (by decide +kernel) (by decide) rfl rfl rfl rfl (Nat.le_of_ble_eq_true rfl) dX8_finishes_78 rfl rfl (by decide) rfl ?_
      have r11 : ((fs (fs (fs (fs E 0 (208 + 7 * j + 2) (-6)) 0 (8 + 10 * s + 7) (-6)) 0 (8 + 10 * s + 4) 4) 0 (8 + 10 * s + 6) (nI (llE n (fs (fs E 0 (208 + 7 * j + 2) (-6)) 0 (8 + 10 * s + 7) (-6))))) 0 (208 + 7 * j + 5) : Int32) = E 0 (208 + 7 * j + 5) := by rw [fs_at, if_neg (by omega), fs_at, if_neg (by omega), fs_at, if_neg (by omega), fs_at, if_neg (by omega)]
      refine hV_st (st' := [.int (E 0 (208 + 7 * j + 5)), .int 5, .int (nI j), .ref (q 0)]) (congrArg (fun z => Value.int z :: [.int 5, .int (nI j), .ref (q 0)]) r11) ?_
      refine hiconst (v := 1) X dX8_finishes_81 rfl ?_
      refine hiadd X dX8_finishes_82 ?_
      refine hcallV0 (C := RX8) (T := TX8) (N := 14) (As := [.int (nI j), .int (nI 5), .int ((E 0 (208 + 7 * j + 5)) + 1)]) (rest := []) (st' := []) (w := mW G q (fs (fs (fs (fs (fs E 0 (208 + 7 * j + 2) (-6)) 0 (8 + 10 * s + 7) (-6)) 0 (8 + 10 * s + 4) 4) 0 (8 + 10 * s + 6) (nI (llE n (fs (fs E 0 (208 + 7 * j + 2) (-6)) 0 (8 + 10 * s + 7) (-6))))) 0 (208 + 7 * j + 5) ((E 0 (208 + 7 * j + 5)) + 1))) X (q0 := 0) (kX8_setCrew l G q (fs (fs (fs (fs E 0 (208 + 7 * j + 2) (-6)) 0 (8 + 10 * s + 7) (-6)) 0 (8 + 10 * s + 4) 4) 0 (8 + 10 * s + 6) (nI (llE n (fs (fs E 0 (208 + 7 * j + 2) (-6)) 0 (8 + 10 * s + 7) (-6))))) j 5 ((E 0 (208 + 7 * j + 5)) + 1) (by first | assumption | omega | exact h.h4 | exact (mfiA h (k := j) hs).h4 | exact ((mfiA h (k := j) hs).part _ hs (by decide) (by decide) (by decide)).h4) (by first | assumption | omega | exact h.h4 | exact (mfiA h (k := j) hs).h4 | exact ((mfiA h (k := j) hs).part _ hs (by decide) (by decide) (by decide)).h4)) gX8_finishes_X8_setCrew rfl (n := 3) (by decide +kernel) (by decide) rfl rfl rfl rfl (Nat.le_of_ble_eq_true rfl) dX8_finishes_83 rfl rfl (by decide) rfl ?_
      refine hgoto (tgt := 141) X dX8_finishes_86 (by decide) ?_
      refine hvret X dX8_finishes_141 ⟨rfl, ?_⟩
      refine congrArg (mW G q) (?_ : (fs (fs (fs (fs (fs E 0 (208 + 7 * j + 2) (-6)) 0 (8 + 10 * s + 7) (-6)) 0 (8 + 10 * s + 4) 4) 0 (8 + 10 * s + 6) (nI (llE n (fs (fs E 0 (208 + 7 * j + 2) (-6)) 0 (8 + 10 * s + 7) (-6))))) 0 (208 + 7 * j + 5) ((E 0 (208 + 7 * j + 5)) + 1) : hF) = fiE n E j s)
      simp [fiE, fiA, fiB, c2, c9]

set_option maxHeartbeats 4000000 in
set_option maxRecDepth 100000 in
theorem kX8_works (l : Launch) (G : hG) (q : Nat → Nat) (E : hF) (n c j s : Nat) (h : mOk n c E) (hj : j < c) (hs : s < n) (hh : E 0 (208 + 7 * j + 2) = nI s) : hM l G yX8_works wsX8_works ({ frames := 5, cells := 0, slots := 0, locals := 130 }) (mW G q E) [.ref (q 0), .int (nI j)] (hR (some (.int (bI (woL E j s ≤ 0)))) (mW G q (woE n E j s))) := by
  refine hM_of (cc := cX8_works) (maxL := 4) (ret := (some .boolean)) (by decide) rfl (Nat.le_of_ble_eq_true rfl) ?_
  intro pp ee ss mm aa bb me cd X hin
  have hn := h.hn
  have hc := h.hc
  refine haload_n X dX8_works_0 rfl ?_
  refine hiload_n X dX8_works_1 rfl ?_
  refine hiconst (v := 2) X dX8_works_2 rfl ?_
  refine hcallV0 (C := RX8) (T := TX8) (N := 14) (As := [.int (nI j), .int (nI 2)]) (rest := []) (st' := [.int (E 0 (208 + 7 * j + 2))]) (w := mW G q E) X (q0 := 0) (kX8_ofCrewPart l G q E j 2 (by first | assumption | omega | exact mwoA h _ hs) (by first | assumption | omega | exact mwoA h _ hs)) gX8_works_X8_ofCrewPart rfl (n := 2) (by decide +kernel) (by decide) rfl rfl rfl rfl (Nat.le_of_ble_eq_true rfl) dX8_works_3 rfl rfl (by decide) rfl ?_
  refine hV_st (st' := [.int (nI s)]) (congrArg (fun z => ([Value.int z] : List Value)) (hh)) ?_
  refine histore_n (lv' := [(2, .int (nI s)), (0, .ref (q 0)), (1, .int (nI j))]) X dX8_works_6 (by decide) rfl ?_
  refine haload_n X dX8_works_7 rfl ?_
  refine hiload_n X dX8_works_8 rfl ?_
  refine hiconst (v := 5) X dX8_works_9 rfl ?_
  refine hcallV0 (C := RX8) (T := TX8) (N := 14) (As := [.int (nI s), .int (nI 5)]) (rest := []) (st' := [.int (E 0 (8 + 10 * s + 5))]) (w := mW G q E) X (q0 := 0) (kX8_part l G q E s 5 (by first | assumption | omega | exact mwoA h _ hs) (by first | assumption | omega | exact mwoA h _ hs)) gX8_works_X8_part rfl (n := 2) (by decide +kernel) (by decide) rfl rfl rfl rfl (Nat.le_of_ble_eq_true rfl) dX8_works_10 rfl rfl (by decide) rfl ?_
  refine haload_n X dX8_works_13 rfl ?_
  refine hiload_n X dX8_works_14 rfl ?_
  refine hiconst (v := 0) X dX8_works_15 rfl ?_
  refine hcallV0 (C := RX8) (T := TX8) (N := 14) (As := [.int (nI j), .int (nI 0)]) (rest := [.int (E 0 (8 + 10 * s + 5))]) (st' := [.int (E 0 (208 + 7 * j + 0)), .int (E 0 (8 + 10 * s + 5))]) (w := mW G q E) X (q0 := 0) (kX8_ofCrewPart l G q E j 0 (by first | assumption | omega | exact mwoA h _ hs) (by first | assumption | omega | exact mwoA h _ hs)) gX8_works_X8_ofCrewPart rfl (n := 2) (by decide +kernel) (by decide) rfl rfl rfl rfl (Nat.le_of_ble_eq_true rfl) dX8_works_16 rfl rfl (by decide) rfl ?_
  refine hisub X dX8_works_19 ?_
  refine hV_st (st' := [.int (woL E j s)]) (congrArg (fun z => ([Value.int z] : List Value)) (rfl)) ?_
  refine histore_n (lv' := [(3, .int (woL E j s)), (2, .int (nI s)), (0, .ref (q 0)), (1, .int (nI j))]) X dX8_works_20 (by decide) rfl ?_
  refine haload_n X dX8_works_21 rfl ?_
  refine hiload_n X dX8_works_22 rfl ?_
  refine hiconst (v := 5) X dX8_works_23 rfl ?_
  refine hiload_n X dX8_works_24 rfl ?_
  refine hif_ge (tgt := 32) X dX8_works_25 (by decide) (fun c1 => ?_) (fun c1 => ?_)
  · refine hiload_n X dX8_works_32 rfl ?_
    refine hcallV0 (C := RX8) (T := TX8) (N := 14) (As := [.int (nI s), .int (nI 5), .int (woL E j s)]) (rest := []) (st' := []) (w := mW G q (fs E 0 (8 + 10 * s + 5) (woL E j s))) X (q0 := 0) (kX8_setPart l G q E s 5 (woL E j s) (by first | assumption | omega | exact mwoA h _ hs) (by first | assumption | omega | exact mwoA h _ hs)) gX8_works_X8_setPart rfl (n := 3) (by decide +kernel) (by decide) rfl rfl rfl rfl (Nat.le_of_ble_eq_true rfl) dX8_works_33 rfl rfl (by decide) rfl ?_
    refine haload_n X dX8_works_36 rfl ?_
    refine hiload_n X dX8_works_37 rfl ?_
    refine hbipush (v := 9) X dX8_works_38 rfl ?_
    refine haload_n X dX8_works_40 rfl ?_
    refine hiload_n X dX8_works_41 rfl ?_
    refine hbipush (v := 9) X dX8_works_42 rfl ?_
    refine hcallV0 (C := RX8) (T := TX8) (N := 14) (As := [.int (nI s), .int (nI 9)]) (rest := [.int 9, .int (nI s), .ref (q 0)]) (st' := [.int ((fs E 0 (8 + 10 * s + 5) (woL E j s)) 0 (8 + 10 * s + 9)), .int 9, .int (nI s), .ref (q 0)]) (w := mW G q (fs E 0 (8 + 10 * s + 5) (woL E j s))) X (q0 := 0) (kX8_part l G q (fs E 0 (8 + 10 * s + 5) (woL E j s)) s 9 (by first | assumption | omega | exact mwoA h _ hs) (by first | assumption | omega | exact mwoA h _ hs)) gX8_works_X8_part rfl (n := 2) (by decide +kernel) (by decide) rfl rfl rfl rfl (Nat.le_of_ble_eq_true rfl) dX8_works_44 rfl rfl (by decide) rfl ?_
    have r2 : ((fs E 0 (8 + 10 * s + 5) (woL E j s)) 0 (8 + 10 * s + 9) : Int32) = E 0 (8 + 10 * s + 9) := by rw [fs_at, if_neg (by omega)]
    refine hV_st (st' := [.int (E 0 (8 + 10 * s + 9)), .int 9, .int (nI s), .ref (q 0)]) (congrArg (fun z => Value.int z :: [.int 9, .int (nI s), .ref (q 0)]) r2) ?_
    refine hiconst (v := 1) X dX8_works_47 rfl ?_
    refine hiadd X dX8_works_48 ?_
    refine hcallV0 (C := RX8) (T := TX8) (N := 14) (As := [.int (nI s), .int (nI 9), .int ((E 0 (8 + 10 * s + 9)) + 1)]) (rest := []) (st' := []) (w := mW G q (fs (fs E 0 (8 + 10 * s + 5) (woL E j s)) 0 (8 + 10 * s + 9) ((E 0 (8 + 10 * s + 9)) + 1))) X (q0 := 0) (kX8_setPart l G q (fs E 0 (8 + 10 * s + 5) (woL E j s)) s 9 ((E 0 (8 + 10 * s + 9)) + 1) (by first | assumption | omega | exact mwoA h _ hs) (by first | assumption | omega | exact mwoA h _ hs)) gX8_works_X8_setPart rfl (n := 3) (by decide +kernel) (by decide) rfl rfl rfl rfl (Nat.le_of_ble_eq_true rfl) dX8_works_49 rfl rfl (by decide) rfl ?_
    refine haload_n X dX8_works_52 rfl ?_
    refine hiload_n X dX8_works_53 rfl ?_
    refine hiconst (v := 3) X dX8_works_54 rfl ?_
    refine haload_n X dX8_works_55 rfl ?_
    refine hiload_n X dX8_works_56 rfl ?_
    refine hiconst (v := 3) X dX8_works_57 rfl ?_
    refine hcallV0 (C := RX8) (T := TX8) (N := 14) (As := [.int (nI j), .int (nI 3)]) (rest := [.int 3, .int (nI j), .ref (q 0)]) (st' := [.int ((fs (fs E 0 (8 + 10 * s + 5) (woL E j s)) 0 (8 + 10 * s + 9) ((E 0 (8 + 10 * s + 9)) + 1)) 0 (208 + 7 * j + 3)), .int 3, .int (nI j), .ref (q 0)]) (w := mW G q (fs (fs E 0 (8 + 10 * s + 5) (woL E j s)) 0 (8 + 10 * s + 9) ((E 0 (8 + 10 * s + 9)) + 1))) X (q0 := 0) (kX8_ofCrewPart l G q (fs (fs E 0 (8 + 10 * s + 5) (woL E j s)) 0 (8 + 10 * s + 9) ((E 0 (8 + 10 * s + 9)) + 1)) j 3 (by first | assumption | omega | exact mwoA h _ hs) (by first | assumption | omega | exact mwoA h _ hs)) gX8_works_X8_ofCrewPart rfl (n := 2) (by decide +kernel) (by decide) rfl rfl rfl rfl (Nat.le_of_ble_eq_true rfl) dX8_works_58 rfl rfl (by decide) rfl ?_
    have r3 : ((fs (fs E 0 (8 + 10 * s + 5) (woL E j s)) 0 (8 + 10 * s + 9) ((E 0 (8 + 10 * s + 9)) + 1)) 0 (208 + 7 * j + 3) : Int32) = E 0 (208 + 7 * j + 3) := by rw [fs_at, if_neg (by omega), fs_at, if_neg (by omega)]
    refine hV_st (st' := [.int (E 0 (208 + 7 * j + 3)), .int 3, .int (nI j), .ref (q 0)]) (congrArg (fun z => Value.int z :: [.int 3, .int (nI j), .ref (q 0)]) r3) ?_
    refine hiconst (v := 1) X dX8_works_61 rfl ?_
    refine hiadd X dX8_works_62 ?_
    refine hcallV0 (C := RX8) (T := TX8) (N := 14) (As := [.int (nI j), .int (nI 3), .int ((E 0 (208 + 7 * j + 3)) + 1)]) (rest := []) (st' := []) (w := mW G q (fs (fs (fs E 0 (8 + 10 * s + 5) (woL E j s)) 0 (8 + 10 * s + 9) ((E 0 (8 + 10 * s + 9)) + 1)) 0 (208 + 7 * j + 3) ((E 0 (208 + 7 * j + 3)) + 1))) X (q0 := 0) (kX8_setCrew l G q (fs (fs E 0 (8 + 10 * s + 5) (woL E j s)) 0 (8 + 10 * s + 9) ((E 0 (8 + 10 * s + 9)) + 1)) j 3 ((E 0 (208 + 7 * j + 3)) + 1) (by first | assumption | omega | exact mwoA h _ hs) (by first | assumption | omega | exact mwoA h _ hs)) gX8_works_X8_setCrew rfl (n := 3) (by decide +kernel) (by decide) rfl rfl rfl rfl (Nat.le_of_ble_eq_true rfl) dX8_works_63 rfl rfl (by decide) rfl ?_
    refine haload_n X dX8_works_66 rfl ?_
    refine hiload_n X dX8_works_67 rfl ?_
    refine hiconst (v := 4) X dX8_works_68 rfl ?_
    refine haload_n X dX8_works_69 rfl ?_
    refine hiload_n X dX8_works_70 rfl ?_
    refine hiconst (v := 4) X dX8_works_71 rfl ?_
    refine hcallV0 (C := RX8) (T := TX8) (N := 14) (As := [.int (nI j), .int (nI 4)]) (rest := [.int 4, .int (nI j), .ref (q 0)]) (st' := [.int ((fs (fs (fs E 0 (8 + 10 * s + 5) (woL E j s)) 0 (8 + 10 * s + 9) ((E 0 (8 + 10 * s + 9)) + 1)) 0 (208 + 7 * j + 3) ((E 0 (208 + 7 * j + 3)) + 1)) 0 (208 + 7 * j + 4)), .int 4, .int (nI j), .ref (q 0)]) (w := mW G q (fs (fs (fs E 0 (8 + 10 * s + 5) (woL E j s)) 0 (8 + 10 * s + 9) ((E 0 (8 + 10 * s + 9)) + 1)) 0 (208 + 7 * j + 3) ((E 0 (208 + 7 * j + 3)) + 1))) X (q0 := 0) (kX8_ofCrewPart l G q (fs (fs (fs E 0 (8 + 10 * s + 5) (woL E j s)) 0 (8 + 10 * s + 9) ((E 0 (8 + 10 * s + 9)) + 1)) 0 (208 + 7 * j + 3) ((E 0 (208 + 7 * j + 3)) + 1)) j 4 (by first | assumption | omega | exact mwoA h _ hs) (by first | assumption | omega | exact mwoA h _ hs)) gX8_works_X8_ofCrewPart rfl (n := 2) (by decide +kernel) (by decide) rfl rfl rfl rfl (Nat.le_of_ble_eq_true rfl) dX8_works_72 rfl rfl (by decide) rfl ?_
    have r4 : ((fs (fs (fs E 0 (8 + 10 * s + 5) (woL E j s)) 0 (8 + 10 * s + 9) ((E 0 (8 + 10 * s + 9)) + 1)) 0 (208 + 7 * j + 3) ((E 0 (208 + 7 * j + 3)) + 1)) 0 (208 + 7 * j + 4) : Int32) = E 0 (208 + 7 * j + 4) := by rw [fs_at, if_neg (by omega), fs_at, if_neg (by omega), fs_at, if_neg (by omega)]
    refine hV_st (st' := [.int (E 0 (208 + 7 * j + 4)), .int 4, .int (nI j), .ref (q 0)]) (congrArg (fun z => Value.int z :: [.int 4, .int (nI j), .ref (q 0)]) r4) ?_
    refine haload_n X dX8_works_75 rfl ?_
    refine hiload_n X dX8_works_76 rfl ?_
    refine hiconst (v := 1) X dX8_works_77 rfl ?_
    refine hcallV0 (C := RX8) (T := TX8) (N := 14) (As := [.int (nI j), .int (nI 1)]) (rest := [.int (E 0 (208 + 7 * j + 4)), .int 4, .int (nI j), .ref (q 0)]) (st' := [.int ((fs (fs (fs E 0 (8 + 10 * s + 5) (woL E j s)) 0 (8 + 10 * s + 9) ((E 0 (8 + 10 * s + 9)) + 1)) 0 (208 + 7 * j + 3) ((E 0 (208 + 7 * j + 3)) + 1)) 0 (208 + 7 * j + 1)), .int (E 0 (208 + 7 * j + 4)), .int 4, .int (nI j), .ref (q 0)]) (w := mW G q (fs (fs (fs E 0 (8 + 10 * s + 5) (woL E j s)) 0 (8 + 10 * s + 9) ((E 0 (8 + 10 * s + 9)) + 1)) 0 (208 + 7 * j + 3) ((E 0 (208 + 7 * j + 3)) + 1))) X (q0 := 0) (kX8_ofCrewPart l G q (fs (fs (fs E 0 (8 + 10 * s + 5) (woL E j s)) 0 (8 + 10 * s + 9) ((E 0 (8 + 10 * s + 9)) + 1)) 0 (208 + 7 * j + 3) ((E 0 (208 + 7 * j + 3)) + 1)) j 1 (by first | assumption | omega | exact mwoA h _ hs) (by first | assumption | omega | exact mwoA h _ hs)) gX8_works_X8_ofCrewPart rfl (n := 2) (by decide +kernel) (by decide) rfl rfl rfl rfl (Nat.le_of_ble_eq_true rfl) dX8_works_78 rfl rfl (by decide) rfl ?_
    have r5 : ((fs (fs (fs E 0 (8 + 10 * s + 5) (woL E j s)) 0 (8 + 10 * s + 9) ((E 0 (8 + 10 * s + 9)) + 1)) 0 (208 + 7 * j + 3) ((E 0 (208 + 7 * j + 3)) + 1)) 0 (208 + 7 * j + 1) : Int32) = E 0 (208 + 7 * j + 1) := by rw [fs_at, if_neg (by omega), fs_at, if_neg (by omega), fs_at, if_neg (by omega)]
    refine hV_st (st' := [.int (E 0 (208 + 7 * j + 1)), .int (E 0 (208 + 7 * j + 4)), .int 4, .int (nI j), .ref (q 0)]) (congrArg (fun z => Value.int z :: [.int (E 0 (208 + 7 * j + 4)), .int 4, .int (nI j), .ref (q 0)]) r5) ?_
    refine hiadd X dX8_works_81 ?_
    refine hcallV0 (C := RX8) (T := TX8) (N := 14) (As := [.int (nI j), .int (nI 4), .int ((E 0 (208 + 7 * j + 4)) + (E 0 (208 + 7 * j + 1)))]) (rest := []) (st' := []) (w := mW G q (fs (fs (fs (fs E 0 (8 + 10 * s + 5) (woL E j s)) 0 (8 + 10 * s + 9) ((E 0 (8 + 10 * s + 9)) + 1)) 0 (208 + 7 * j + 3) ((E 0 (208 + 7 * j + 3)) + 1)) 0 (208 + 7 * j + 4) ((E 0 (208 + 7 * j + 4)) + (E 0 (208 + 7 * j + 1))))) X (q0 := 0) (kX8_setCrew l G q (fs (fs (fs E 0 (8 + 10 * s + 5) (woL E j s)) 0 (8 + 10 * s + 9) ((E 0 (8 + 10 * s + 9)) + 1)) 0 (208 + 7 * j + 3) ((E 0 (208 + 7 * j + 3)) + 1)) j 4 ((E 0 (208 + 7 * j + 4)) + (E 0 (208 + 7 * j + 1))) (by first | assumption | omega | exact mwoA h _ hs) (by first | assumption | omega | exact mwoA h _ hs)) gX8_works_X8_setCrew rfl (n := 3) (by decide +kernel) (by decide) rfl rfl rfl rfl (Nat.le_of_ble_eq_true rfl) dX8_works_82 rfl rfl (by decide) rfl ?_
    refine hiload_n X dX8_works_85 rfl ?_
    refine hif_le (tgt := 91) X dX8_works_86 (by decide) (fun c6 => ?_) (fun c6 => ?_)
    · have e0 := i_eq0 c1 c6
      refine haload_n X dX8_works_91 rfl ?_
      refine hiload_n X dX8_works_92 rfl ?_
      refine hiload_n X dX8_works_93 rfl ?_
      refine hcallV0 (C := RX8) (T := TX8) (N := 14) (As := [.int (nI j), .int (nI s)]) (rest := []) (st' := []) (w := mW G q (fiE n (fs (fs (fs (fs E 0 (8 + 10 * s + 5) (woL E j s)) 0 (8 + 10 * s + 9) ((E 0 (8 + 10 * s + 9)) + 1)) 0 (208 + 7 * j + 3) ((E 0 (208 + 7 * j + 3)) + 1)) 0 (208 + 7 * j + 4) ((E 0 (208 + 7 * j + 4)) + (E 0 (208 + 7 * j + 1)))) j s)) X (q0 := 0) (kX8_finishes l G q (fs (fs (fs (fs E 0 (8 + 10 * s + 5) (woL E j s)) 0 (8 + 10 * s + 9) ((E 0 (8 + 10 * s + 9)) + 1)) 0 (208 + 7 * j + 3) ((E 0 (208 + 7 * j + 3)) + 1)) 0 (208 + 7 * j + 4) ((E 0 (208 + 7 * j + 4)) + (E 0 (208 + 7 * j + 1)))) n c j s (by first | assumption | omega | exact mwoA h _ hs) (by first | assumption | omega | exact mwoA h _ hs) (by first | assumption | omega | exact mwoA h _ hs)) gX8_works_X8_finishes rfl (n := 2) (by decide +kernel) (by decide) rfl rfl rfl rfl (Nat.le_of_ble_eq_true rfl) dX8_works_94 rfl rfl (by decide) rfl ?_
      refine hiconst (v := 1) X dX8_works_97 rfl ?_
      refine hzret X rfl dX8_works_98 ⟨congrArg (fun z => some (Value.int z)) (?_ : 1 = bI (woL E j s ≤ 0)), ?_⟩
      · simp [bI, c1, c6]
      refine congrArg (mW G q) (?_ : (fiE n (fs (fs (fs (fs E 0 (8 + 10 * s + 5) (woL E j s)) 0 (8 + 10 * s + 9) ((E 0 (8 + 10 * s + 9)) + 1)) 0 (208 + 7 * j + 3) ((E 0 (208 + 7 * j + 3)) + 1)) 0 (208 + 7 * j + 4) ((E 0 (208 + 7 * j + 4)) + (E 0 (208 + 7 * j + 1)))) j s : hF) = woE n E j s)
      first | (simp [woE, woA, c1, c6]; done) | (simp [woE, woA, e0]; done)
    · refine hiconst (v := 0) X dX8_works_89 rfl ?_
      refine hzret X rfl dX8_works_90 ⟨congrArg (fun z => some (Value.int z)) (?_ : 0 = bI (woL E j s ≤ 0)), ?_⟩
      · simp [bI, c1, c6]
      refine congrArg (mW G q) (?_ : (fs (fs (fs (fs E 0 (8 + 10 * s + 5) (woL E j s)) 0 (8 + 10 * s + 9) ((E 0 (8 + 10 * s + 9)) + 1)) 0 (208 + 7 * j + 3) ((E 0 (208 + 7 * j + 3)) + 1)) 0 (208 + 7 * j + 4) ((E 0 (208 + 7 * j + 4)) + (E 0 (208 + 7 * j + 1))) : hF) = woE n E j s)
      first | (simp [woE, woA, c1, c6]; done) | (simp [woE, woA, e0]; done)
  · refine hiconst (v := 0) X dX8_works_28 rfl ?_
    refine hgoto (tgt := 33) X dX8_works_29 (by decide) ?_
    refine hcallV0 (C := RX8) (T := TX8) (N := 14) (As := [.int (nI s), .int (nI 5), .int 0]) (rest := []) (st' := []) (w := mW G q (fs E 0 (8 + 10 * s + 5) 0)) X (q0 := 0) (kX8_setPart l G q E s 5 0 (by first | assumption | omega | exact mwoA h _ hs) (by first | assumption | omega | exact mwoA h _ hs)) gX8_works_X8_setPart rfl (n := 3) (by decide +kernel) (by decide) rfl rfl rfl rfl (Nat.le_of_ble_eq_true rfl) dX8_works_33 rfl rfl (by decide) rfl ?_
    refine haload_n X dX8_works_36 rfl ?_
    refine hiload_n X dX8_works_37 rfl ?_
    refine hbipush (v := 9) X dX8_works_38 rfl ?_
    refine haload_n X dX8_works_40 rfl ?_
    refine hiload_n X dX8_works_41 rfl ?_
    refine hbipush (v := 9) X dX8_works_42 rfl ?_
    refine hcallV0 (C := RX8) (T := TX8) (N := 14) (As := [.int (nI s), .int (nI 9)]) (rest := [.int 9, .int (nI s), .ref (q 0)]) (st' := [.int ((fs E 0 (8 + 10 * s + 5) 0) 0 (8 + 10 * s + 9)), .int 9, .int (nI s), .ref (q 0)]) (w := mW G q (fs E 0 (8 + 10 * s + 5) 0)) X (q0 := 0) (kX8_part l G q (fs E 0 (8 + 10 * s + 5) 0) s 9 (by first | assumption | omega | exact mwoA h _ hs) (by first | assumption | omega | exact mwoA h _ hs)) gX8_works_X8_part rfl (n := 2) (by decide +kernel) (by decide) rfl rfl rfl rfl (Nat.le_of_ble_eq_true rfl) dX8_works_44 rfl rfl (by decide) rfl ?_
    have r7 : ((fs E 0 (8 + 10 * s + 5) 0) 0 (8 + 10 * s + 9) : Int32) = E 0 (8 + 10 * s + 9) := by rw [fs_at, if_neg (by omega)]
    refine hV_st (st' := [.int (E 0 (8 + 10 * s + 9)), .int 9, .int (nI s), .ref (q 0)]) (congrArg (fun z => Value.int z :: [.int 9, .int (nI s), .ref (q 0)]) r7) ?_
    refine hiconst (v := 1) X dX8_works_47 rfl ?_
    refine hiadd X dX8_works_48 ?_
    refine hcallV0 (C := RX8) (T := TX8) (N := 14) (As := [.int (nI s), .int (nI 9), .int ((E 0 (8 + 10 * s + 9)) + 1)]) (rest := []) (st' := []) (w := mW G q (fs (fs E 0 (8 + 10 * s + 5) 0) 0 (8 + 10 * s + 9) ((E 0 (8 + 10 * s + 9)) + 1))) X (q0 := 0) (kX8_setPart l G q (fs E 0 (8 + 10 * s + 5) 0) s 9 ((E 0 (8 + 10 * s + 9)) + 1) (by first | assumption | omega | exact mwoA h _ hs) (by first | assumption | omega | exact mwoA h _ hs)) gX8_works_X8_setPart rfl (n := 3) (by decide +kernel) (by decide) rfl rfl rfl rfl (Nat.le_of_ble_eq_true rfl) dX8_works_49 rfl rfl (by decide) rfl ?_
    refine haload_n X dX8_works_52 rfl ?_
    refine hiload_n X dX8_works_53 rfl ?_
    refine hiconst (v := 3) X dX8_works_54 rfl ?_
    refine haload_n X dX8_works_55 rfl ?_
    refine hiload_n X dX8_works_56 rfl ?_
    refine hiconst (v := 3) X dX8_works_57 rfl ?_
    refine hcallV0 (C := RX8) (T := TX8) (N := 14) (As := [.int (nI j), .int (nI 3)]) (rest := [.int 3, .int (nI j), .ref (q 0)]) (st' := [.int ((fs (fs E 0 (8 + 10 * s + 5) 0) 0 (8 + 10 * s + 9) ((E 0 (8 + 10 * s + 9)) + 1)) 0 (208 + 7 * j + 3)), .int 3, .int (nI j), .ref (q 0)]) (w := mW G q (fs (fs E 0 (8 + 10 * s + 5) 0) 0 (8 + 10 * s + 9) ((E 0 (8 + 10 * s + 9)) + 1))) X (q0 := 0) (kX8_ofCrewPart l G q (fs (fs E 0 (8 + 10 * s + 5) 0) 0 (8 + 10 * s + 9) ((E 0 (8 + 10 * s + 9)) + 1)) j 3 (by first | assumption | omega | exact mwoA h _ hs) (by first | assumption | omega | exact mwoA h _ hs)) gX8_works_X8_ofCrewPart rfl (n := 2) (by decide +kernel) (by decide) rfl rfl rfl rfl (Nat.le_of_ble_eq_true rfl) dX8_works_58 rfl rfl (by decide) rfl ?_
    have r8 : ((fs (fs E 0 (8 + 10 * s + 5) 0) 0 (8 + 10 * s + 9) ((E 0 (8 + 10 * s + 9)) + 1)) 0 (208 + 7 * j + 3) : Int32) = E 0 (208 + 7 * j + 3) := by rw [fs_at, if_neg (by omega), fs_at, if_neg (by omega)]
    refine hV_st (st' := [.int (E 0 (208 + 7 * j + 3)), .int 3, .int (nI j), .ref (q 0)]) (congrArg (fun z => Value.int z :: [.int 3, .int (nI j), .ref (q 0)]) r8) ?_
    refine hiconst (v := 1) X dX8_works_61 rfl ?_
    refine hiadd X dX8_works_62 ?_
    refine hcallV0 (C := RX8) (T := TX8) (N := 14) (As := [.int (nI j), .int (nI 3), .int ((E 0 (208 + 7 * j + 3)) + 1)]) (rest := []) (st' := []) (w := mW G q (fs (fs (fs E 0 (8 + 10 * s + 5) 0) 0 (8 + 10 * s + 9) ((E 0 (8 + 10 * s + 9)) + 1)) 0 (208 + 7 * j + 3) ((E 0 (208 + 7 * j + 3)) + 1))) X (q0 := 0) (kX8_setCrew l G q (fs (fs E 0 (8 + 10 * s + 5) 0) 0 (8 + 10 * s + 9) ((E 0 (8 + 10 * s + 9)) + 1)) j 3 ((E 0 (208 + 7 * j + 3)) + 1) (by first | assumption | omega | exact mwoA h _ hs) (by first | assumption | omega | exact mwoA h _ hs)) gX8_works_X8_setCrew rfl (n := 3) (by decide +kernel) (by decide) rfl rfl rfl rfl (Nat.le_of_ble_eq_true rfl) dX8_works_63 rfl rfl (by decide) rfl ?_
    refine haload_n X dX8_works_66 rfl ?_
    refine hiload_n X dX8_works_67 rfl ?_
    refine hiconst (v := 4) X dX8_works_68 rfl ?_
    refine haload_n X dX8_works_69 rfl ?_
    refine hiload_n X dX8_works_70 rfl ?_
    refine hiconst (v := 4) X dX8_works_71 rfl ?_
    refine hcallV0 (C := RX8) (T := TX8) (N := 14) (As := [.int (nI j), .int (nI 4)]) (rest := [.int 4, .int (nI j), .ref (q 0)]) (st' := [.int ((fs (fs (fs E 0 (8 + 10 * s + 5) 0) 0 (8 + 10 * s + 9) ((E 0 (8 + 10 * s + 9)) + 1)) 0 (208 + 7 * j + 3) ((E 0 (208 + 7 * j + 3)) + 1)) 0 (208 + 7 * j + 4)), .int 4, .int (nI j), .ref (q 0)]) (w := mW G q (fs (fs (fs E 0 (8 + 10 * s + 5) 0) 0 (8 + 10 * s + 9) ((E 0 (8 + 10 * s + 9)) + 1)) 0 (208 + 7 * j + 3) ((E 0 (208 + 7 * j + 3)) + 1))) X (q0 := 0) (kX8_ofCrewPart l G q (fs (fs (fs E 0 (8 + 10 * s + 5) 0) 0 (8 + 10 * s + 9) ((E 0 (8 + 10 * s + 9)) + 1)) 0 (208 + 7 * j + 3) ((E 0 (208 + 7 * j + 3)) + 1)) j 4 (by first | assumption | omega | exact mwoA h _ hs) (by first | assumption | omega | exact mwoA h _ hs)) gX8_works_X8_ofCrewPart rfl (n := 2) (by decide +kernel) (by decide) rfl rfl rfl rfl (Nat.le_of_ble_eq_true rfl) dX8_works_72 rfl rfl (by decide) rfl ?_
    have r9 : ((fs (fs (fs E 0 (8 + 10 * s + 5) 0) 0 (8 + 10 * s + 9) ((E 0 (8 + 10 * s + 9)) + 1)) 0 (208 + 7 * j + 3) ((E 0 (208 + 7 * j + 3)) + 1)) 0 (208 + 7 * j + 4) : Int32) = E 0 (208 + 7 * j + 4) := by rw [fs_at, if_neg (by omega), fs_at, if_neg (by omega), fs_at, if_neg (by omega)]
    refine hV_st (st' := [.int (E 0 (208 + 7 * j + 4)), .int 4, .int (nI j), .ref (q 0)]) (congrArg (fun z => Value.int z :: [.int 4, .int (nI j), .ref (q 0)]) r9) ?_
    refine haload_n X dX8_works_75 rfl ?_
    refine hiload_n X dX8_works_76 rfl ?_
    refine hiconst (v := 1) X dX8_works_77 rfl ?_
    refine hcallV0 (C := RX8) (T := TX8) (N := 14) (As := [.int (nI j), .int (nI 1)]) (rest := [.int (E 0 (208 + 7 * j + 4)), .int 4, .int (nI j), .ref (q 0)]) (st' := [.int ((fs (fs (fs E 0 (8 + 10 * s + 5) 0) 0 (8 + 10 * s + 9) ((E 0 (8 + 10 * s + 9)) + 1)) 0 (208 + 7 * j + 3) ((E 0 (208 + 7 * j + 3)) + 1)) 0 (208 + 7 * j + 1)), .int (E 0 (208 + 7 * j + 4)), .int 4, .int (nI j), .ref (q 0)]) (w := mW G q (fs (fs (fs E 0 (8 + 10 * s + 5) 0) 0 (8 + 10 * s + 9) ((E 0 (8 + 10 * s + 9)) + 1)) 0 (208 + 7 * j + 3) ((E 0 (208 + 7 * j + 3)) + 1))) X (q0 := 0) (kX8_ofCrewPart l G q (fs (fs (fs E 0 (8 + 10 * s + 5) 0) 0 (8 + 10 * s + 9) ((E 0 (8 + 10 * s + 9)) + 1)) 0 (208 + 7 * j + 3) ((E 0 (208 + 7 * j + 3)) + 1)) j 1 (by first | assumption | omega | exact mwoA h _ hs) (by first | assumption | omega | exact mwoA h _ hs)) gX8_works_X8_ofCrewPart rfl (n := 2) (by decide +kernel) (by decide) rfl rfl rfl rfl (Nat.le_of_ble_eq_true rfl) dX8_works_78 rfl rfl (by decide) rfl ?_
    have r10 : ((fs (fs (fs E 0 (8 + 10 * s + 5) 0) 0 (8 + 10 * s + 9) ((E 0 (8 + 10 * s + 9)) + 1)) 0 (208 + 7 * j + 3) ((E 0 (208 + 7 * j + 3)) + 1)) 0 (208 + 7 * j + 1) : Int32) = E 0 (208 + 7 * j + 1) := by rw [fs_at, if_neg (by omega), fs_at, if_neg (by omega), fs_at, if_neg (by omega)]
    refine hV_st (st' := [.int (E 0 (208 + 7 * j + 1)), .int (E 0 (208 + 7 * j + 4)), .int 4, .int (nI j), .ref (q 0)]) (congrArg (fun z => Value.int z :: [.int (E 0 (208 + 7 * j + 4)), .int 4, .int (nI j), .ref (q 0)]) r10) ?_
    refine hiadd X dX8_works_81 ?_
    refine hcallV0 (C := RX8) (T := TX8) (N := 14) (As := [.int (nI j), .int (nI 4), .int ((E 0 (208 + 7 * j + 4)) + (E 0 (208 + 7 * j + 1)))]) (rest := []) (st' := []) (w := mW G q (fs (fs (fs (fs E 0 (8 + 10 * s + 5) 0) 0 (8 + 10 * s + 9) ((E 0 (8 + 10 * s + 9)) + 1)) 0 (208 + 7 * j + 3) ((E 0 (208 + 7 * j + 3)) + 1)) 0 (208 + 7 * j + 4) ((E 0 (208 + 7 * j + 4)) + (E 0 (208 + 7 * j + 1))))) X (q0 := 0) (kX8_setCrew l G q (fs (fs (fs E 0 (8 + 10 * s + 5) 0) 0 (8 + 10 * s + 9) ((E 0 (8 + 10 * s + 9)) + 1)) 0 (208 + 7 * j + 3) ((E 0 (208 + 7 * j + 3)) + 1)) j 4 ((E 0 (208 + 7 * j + 4)) + (E 0 (208 + 7 * j + 1))) (by first | assumption | omega | exact mwoA h _ hs) (by first | assumption | omega | exact mwoA h _ hs)) gX8_works_X8_setCrew rfl (n := 3) (by decide +kernel) (by decide) rfl rfl rfl rfl (Nat.le_of_ble_eq_true rfl) dX8_works_82 rfl rfl (by decide) rfl ?_
    refine hiload_n X dX8_works_85 rfl ?_
    refine hif_le (tgt := 91) X dX8_works_86 (by decide) (fun c11 => ?_) (fun c11 => ?_)
    · refine haload_n X dX8_works_91 rfl ?_
      refine hiload_n X dX8_works_92 rfl ?_
      refine hiload_n X dX8_works_93 rfl ?_
      refine hcallV0 (C := RX8) (T := TX8) (N := 14) (As := [.int (nI j), .int (nI s)]) (rest := []) (st' := []) (w := mW G q (fiE n (fs (fs (fs (fs E 0 (8 + 10 * s + 5) 0) 0 (8 + 10 * s + 9) ((E 0 (8 + 10 * s + 9)) + 1)) 0 (208 + 7 * j + 3) ((E 0 (208 + 7 * j + 3)) + 1)) 0 (208 + 7 * j + 4) ((E 0 (208 + 7 * j + 4)) + (E 0 (208 + 7 * j + 1)))) j s)) X (q0 := 0) (kX8_finishes l G q (fs (fs (fs (fs E 0 (8 + 10 * s + 5) 0) 0 (8 + 10 * s + 9) ((E 0 (8 + 10 * s + 9)) + 1)) 0 (208 + 7 * j + 3) ((E 0 (208 + 7 * j + 3)) + 1)) 0 (208 + 7 * j + 4) ((E 0 (208 + 7 * j + 4)) + (E 0 (208 + 7 * j + 1)))) n c j s (by first | assumption | omega | exact mwoA h _ hs) (by first | assumption | omega | exact mwoA h _ hs) (by first | assumption | omega | exact mwoA h _ hs)) gX8_works_X8_finishes rfl (n := 2) (by decide +kernel) (by decide) rfl rfl rfl rfl (Nat.le_of_ble_eq_true rfl) dX8_works_94 rfl rfl (by decide) rfl ?_
      refine hiconst (v := 1) X dX8_works_97 rfl ?_
      refine hzret X rfl dX8_works_98 ⟨congrArg (fun z => some (Value.int z)) (?_ : 1 = bI (woL E j s ≤ 0)), ?_⟩
      · simp [bI, c1, c11]
      refine congrArg (mW G q) (?_ : (fiE n (fs (fs (fs (fs E 0 (8 + 10 * s + 5) 0) 0 (8 + 10 * s + 9) ((E 0 (8 + 10 * s + 9)) + 1)) 0 (208 + 7 * j + 3) ((E 0 (208 + 7 * j + 3)) + 1)) 0 (208 + 7 * j + 4) ((E 0 (208 + 7 * j + 4)) + (E 0 (208 + 7 * j + 1)))) j s : hF) = woE n E j s)
      first | (simp [woE, woA, c1, c11]; done) | (simp [woE, woA, e0]; done)
    · exact (i_no c1 c11).elim

set_option maxHeartbeats 4000000 in
set_option maxRecDepth 100000 in
theorem kX8_passesOne (l : Launch) (G : hG) (q : Nat → Nat) (E : hF) (n c : Nat) (h : mOk n c E) : hM l G yX8_passesOne wsX8_passesOne ({ frames := 6, cells := 0, slots := 0, locals := 153 }) (mW G q E) [.ref (q 0)] (hR (some (.int (poR n c E))) (mW G q (poE n c E))) := by
  refine hM_of (cc := cX8_passesOne) (maxL := 4) (ret := (some .int)) (by decide) rfl (Nat.le_of_ble_eq_true rfl) ?_
  intro pp ee ss mm aa bb me cd X hin
  have iX8 : ∀ w ∈ wsX80, w ∈ wsX8_passesOne := by decide +kernel
  have hn := h.hn
  have hc := h.hc
  have L2 : ∀ (d : Nat) (k : Nat), (k ≤ c) → (c - k) < d → hV pp l ee ({ frames := 6, cells := 0, slots := 0, locals := 153 }) ss mm aa bb me cd G (va_A (mW G q E) ss.heap.size) 4 0 0 (MQ bb (hQc G (mW G q E) ss.heap.size (hR (some (.int (poR n c E))) (mW G q (poE n c E)))) aa ss 0 0 (va_A (mW G q E) ss.heap.size)) (mW G q ((itN k (c2S n) (itN c (c1S n) (lorE n E), 0)).1)) 59 [(2, .int (nI k)), (1, .int ((itN k (c2S n) (itN c (c1S n) (lorE n E), 0)).2)), (0, .ref (q 0))] [] := by
    intro d
    induction d with
    | zero =>
      intro k hk hd0
      exact absurd hd0 (Nat.not_lt_zero _)
    | succ d ih =>
      intro k hk hd0
      have hI : mOk n c ((itN k (c2S n) (itN c (c1S n) (lorE n E), 0)).1) := mc2N (mc1N (mlorE h) (Nat.le_refl c)) hk
      refine hiload_n X dX8_passesOne_59 rfl ?_
      refine haload_n X dX8_passesOne_60 rfl ?_
      refine hget1 X (T := TX8) (N := 14) iX8 0 rfl rfl 0 (by decide) (by decide +kernel) rfl dX8_passesOne_61 ?_
      refine hiconst (v := 5) X dX8_passesOne_64 rfl ?_
      refine hiald (n := 250) (f := ((itN k (c2S n) (itN c (c1S n) (lorE n E), 0)).1) 0) X 1 rfl 5 rfl (by omega) (by decide) dX8_passesOne_65 ?_
      refine hV_st (st' := [.int (nI c), .int (nI k)]) (congrArg (fun z => Value.int z :: [.int (nI k)]) (hI.h5)) ?_
      refine hicmp_ge (tgt := 102) X dX8_passesOne_66 (by decide) (fun c1 => ?_) (fun c1 => ?_)
      · have ek := i_ge hk (by omega) c1
        refine haload_n X dX8_passesOne_102 rfl ?_
        refine hget1 X (T := TX8) (N := 14) iX8 0 rfl rfl 0 (by decide) (by decide +kernel) rfl dX8_passesOne_103 ?_
        refine hiconst (v := 3) X dX8_passesOne_106 rfl ?_
        refine hdup2 X dX8_passesOne_107 rfl rfl ?_
        refine hiald (n := 250) (f := ((itN k (c2S n) (itN c (c1S n) (lorE n E), 0)).1) 0) X 1 rfl 3 rfl (by omega) (by decide) dX8_passesOne_108 ?_
        refine hiconst (v := 1) X dX8_passesOne_109 rfl ?_
        refine hiadd X dX8_passesOne_110 ?_
        refine hiast (n := 250) (f := ((itN k (c2S n) (itN c (c1S n) (lorE n E), 0)).1) 0) X 1 rfl 3 rfl (by omega) (by decide) dX8_passesOne_111 (ws' := mW G q (fs ((itN k (c2S n) (itN c (c1S n) (lorE n E), 0)).1) 0 3 ((((itN k (c2S n) (itN c (c1S n) (lorE n E), 0)).1) 0 3) + 1))) rfl ?_
        refine hiload_n X dX8_passesOne_112 rfl ?_
        refine hiret X dX8_passesOne_113 ⟨congrArg (fun z => some (Value.int z)) (?_ : ((itN k (c2S n) (itN c (c1S n) (lorE n E), 0)).2) = poR n c E), ?_⟩
        · simp [poR, p1E, ek]
        refine congrArg (mW G q) (?_ : (fs ((itN k (c2S n) (itN c (c1S n) (lorE n E), 0)).1) 0 3 ((((itN k (c2S n) (itN c (c1S n) (lorE n E), 0)).1) 0 3) + 1) : hF) = poE n c E)
        simp [poE, p1E, ek]
      · have hk1 := i_lt hk (by omega) c1
        refine hiload_n X dX8_passesOne_69 rfl ?_
        refine haload_n X dX8_passesOne_70 rfl ?_
        refine hiload_n X dX8_passesOne_71 rfl ?_
        refine hiconst (v := 2) X dX8_passesOne_72 rfl ?_
        refine hcallV0 (C := RX8) (T := TX8) (N := 14) (As := [.int (nI k), .int (nI 2)]) (rest := [.int ((itN k (c2S n) (itN c (c1S n) (lorE n E), 0)).2)]) (st' := [.int (((itN k (c2S n) (itN c (c1S n) (lorE n E), 0)).1) 0 (208 + 7 * k + 2)), .int ((itN k (c2S n) (itN c (c1S n) (lorE n E), 0)).2)]) (w := mW G q ((itN k (c2S n) (itN c (c1S n) (lorE n E), 0)).1)) X (q0 := 0) (kX8_ofCrewPart l G q ((itN k (c2S n) (itN c (c1S n) (lorE n E), 0)).1) k 2 (by first | assumption | omega) (by first | assumption | omega)) gX8_passesOne_X8_ofCrewPart rfl (n := 2) (by decide +kernel) (by decide) rfl rfl rfl rfl (Nat.le_of_ble_eq_true rfl) dX8_passesOne_73 rfl rfl (by decide) rfl ?_
        refine hbipush (v := (-6)) X dX8_passesOne_76 rfl ?_
        refine hicmp_eq (tgt := 93) X dX8_passesOne_78 (by decide) (fun c2 => ?_) (fun c2 => ?_)
        · refine hiconst (v := 0) X dX8_passesOne_93 rfl ?_
          refine hiadd X dX8_passesOne_94 ?_
          refine histore_n (lv' := [(1, .int (((itN k (c2S n) (itN c (c1S n) (lorE n E), 0)).2) + 0)), (2, .int (nI k)), (0, .ref (q 0))]) X dX8_passesOne_95 (by decide) rfl ?_
          refine hiinc (v := nI (k + 1)) (lv' := [(2, .int (nI (k + 1))), (1, .int (((itN k (c2S n) (itN c (c1S n) (lorE n E), 0)).2) + 0)), (0, .ref (q 0))]) X dX8_passesOne_96 rfl (nI_1 _) (by decide) rfl ?_
          refine hgoto (tgt := 59) X dX8_passesOne_99 (by decide) ?_
          have e3 : (((itN k (c2S n) (itN c (c1S n) (lorE n E), 0)).2) + 0 : Int32) = (itN (k + 1) (c2S n) (itN c (c1S n) (lorE n E), 0)).2 := by
            first | (simp [itN, c2S, c1, c2]; done) | (simp [itN, c2S, hs2, nI_clamp (show s < 2 ^ 31 by omega), nI_ne6 (show s < 2 ^ 31 by omega), c1, c2]; done)
          have w4 : ((itN k (c2S n) (itN c (c1S n) (lorE n E), 0)).1 : hF) = (itN (k + 1) (c2S n) (itN c (c1S n) (lorE n E), 0)).1 := by
            first | (simp [itN, c2S, c1, c2]; done) | (simp [itN, c2S, hs2, nI_clamp (show s < 2 ^ 31 by omega), nI_ne6 (show s < 2 ^ 31 by omega), c1, c2]; done)
          exact hV_to (ws' := mW G q ((itN (k + 1) (c2S n) (itN c (c1S n) (lorE n E), 0)).1)) (lv' := [(2, .int (nI (k + 1))), (1, .int ((itN (k + 1) (c2S n) (itN c (c1S n) (lorE n E), 0)).2)), (0, .ref (q 0))]) (st' := []) (congrArg (mW G q) w4) (congrArg (fun z => ([(2, .int (nI (k + 1))), (1, .int z), (0, .ref (q 0))] : List (Nat × Value))) e3) rfl (ih (k + 1) (by omega) (by omega))
        · obtain ⟨s, hs1, hs2⟩ := (hI.hs k hk1).resolve_left c2
          refine haload_n X dX8_passesOne_81 rfl ?_
          refine hiload_n X dX8_passesOne_82 rfl ?_
          refine hcallV0 (C := RX8) (T := TX8) (N := 14) (As := [.int (nI k)]) (rest := [.int ((itN k (c2S n) (itN c (c1S n) (lorE n E), 0)).2)]) (st' := [.int (bI (woL ((itN k (c2S n) (itN c (c1S n) (lorE n E), 0)).1) k s ≤ 0)), .int ((itN k (c2S n) (itN c (c1S n) (lorE n E), 0)).2)]) (w := mW G q (woE n ((itN k (c2S n) (itN c (c1S n) (lorE n E), 0)).1) k s)) X (q0 := 0) (kX8_works l G q ((itN k (c2S n) (itN c (c1S n) (lorE n E), 0)).1) n c k s (by first | assumption | omega) (by first | assumption | omega) (hs1) (hs2)) gX8_passesOne_X8_works rfl (n := 1) (by decide +kernel) (by decide) rfl rfl rfl rfl (Nat.le_of_ble_eq_true rfl) dX8_passesOne_83 rfl rfl (by decide) rfl ?_
          refine hif_eqB (tgt := 93) X dX8_passesOne_86 (by decide) (fun c5 => ?_) (fun c5 => ?_)
          · refine hiconst (v := 0) X dX8_passesOne_93 rfl ?_
            refine hiadd X dX8_passesOne_94 ?_
            refine histore_n (lv' := [(1, .int (((itN k (c2S n) (itN c (c1S n) (lorE n E), 0)).2) + 0)), (2, .int (nI k)), (0, .ref (q 0))]) X dX8_passesOne_95 (by decide) rfl ?_
            refine hiinc (v := nI (k + 1)) (lv' := [(2, .int (nI (k + 1))), (1, .int (((itN k (c2S n) (itN c (c1S n) (lorE n E), 0)).2) + 0)), (0, .ref (q 0))]) X dX8_passesOne_96 rfl (nI_1 _) (by decide) rfl ?_
            refine hgoto (tgt := 59) X dX8_passesOne_99 (by decide) ?_
            have e6 : (((itN k (c2S n) (itN c (c1S n) (lorE n E), 0)).2) + 0 : Int32) = (itN (k + 1) (c2S n) (itN c (c1S n) (lorE n E), 0)).2 := by
              first | (simp [itN, c2S, c1, c2, c5]; done) | (simp [itN, c2S, hs2, nI_clamp (show s < 2 ^ 31 by omega), nI_ne6 (show s < 2 ^ 31 by omega), c1, c2, c5]; done)
            have w7 : (woE n ((itN k (c2S n) (itN c (c1S n) (lorE n E), 0)).1) k s : hF) = (itN (k + 1) (c2S n) (itN c (c1S n) (lorE n E), 0)).1 := by
              first | (simp [itN, c2S, c1, c2, c5]; done) | (simp [itN, c2S, hs2, nI_clamp (show s < 2 ^ 31 by omega), nI_ne6 (show s < 2 ^ 31 by omega), c1, c2, c5]; done)
            exact hV_to (ws' := mW G q ((itN (k + 1) (c2S n) (itN c (c1S n) (lorE n E), 0)).1)) (lv' := [(2, .int (nI (k + 1))), (1, .int ((itN (k + 1) (c2S n) (itN c (c1S n) (lorE n E), 0)).2)), (0, .ref (q 0))]) (st' := []) (congrArg (mW G q) w7) (congrArg (fun z => ([(2, .int (nI (k + 1))), (1, .int z), (0, .ref (q 0))] : List (Nat × Value))) e6) rfl (ih (k + 1) (by omega) (by omega))
          · refine hiconst (v := 1) X dX8_passesOne_89 rfl ?_
            refine hgoto (tgt := 94) X dX8_passesOne_90 (by decide) ?_
            refine hiadd X dX8_passesOne_94 ?_
            refine histore_n (lv' := [(1, .int (((itN k (c2S n) (itN c (c1S n) (lorE n E), 0)).2) + 1)), (2, .int (nI k)), (0, .ref (q 0))]) X dX8_passesOne_95 (by decide) rfl ?_
            refine hiinc (v := nI (k + 1)) (lv' := [(2, .int (nI (k + 1))), (1, .int (((itN k (c2S n) (itN c (c1S n) (lorE n E), 0)).2) + 1)), (0, .ref (q 0))]) X dX8_passesOne_96 rfl (nI_1 _) (by decide) rfl ?_
            refine hgoto (tgt := 59) X dX8_passesOne_99 (by decide) ?_
            have e8 : (((itN k (c2S n) (itN c (c1S n) (lorE n E), 0)).2) + 1 : Int32) = (itN (k + 1) (c2S n) (itN c (c1S n) (lorE n E), 0)).2 := by
              first | (simp [itN, c2S, c1, c2, c5]; done) | (simp [itN, c2S, hs2, nI_clamp (show s < 2 ^ 31 by omega), nI_ne6 (show s < 2 ^ 31 by omega), c1, c2, c5]; done)
            have w9 : (woE n ((itN k (c2S n) (itN c (c1S n) (lorE n E), 0)).1) k s : hF) = (itN (k + 1) (c2S n) (itN c (c1S n) (lorE n E), 0)).1 := by
              first | (simp [itN, c2S, c1, c2, c5]; done) | (simp [itN, c2S, hs2, nI_clamp (show s < 2 ^ 31 by omega), nI_ne6 (show s < 2 ^ 31 by omega), c1, c2, c5]; done)
            exact hV_to (ws' := mW G q ((itN (k + 1) (c2S n) (itN c (c1S n) (lorE n E), 0)).1)) (lv' := [(2, .int (nI (k + 1))), (1, .int ((itN (k + 1) (c2S n) (itN c (c1S n) (lorE n E), 0)).2)), (0, .ref (q 0))]) (st' := []) (congrArg (mW G q) w9) (congrArg (fun z => ([(2, .int (nI (k + 1))), (1, .int z), (0, .ref (q 0))] : List (Nat × Value))) e8) rfl (ih (k + 1) (by omega) (by omega))
  have L1 : ∀ (d : Nat) (k : Nat), (k ≤ c) → (c - k) < d → hV pp l ee ({ frames := 6, cells := 0, slots := 0, locals := 153 }) ss mm aa bb me cd G (va_A (mW G q E) ss.heap.size) 4 0 0 (MQ bb (hQc G (mW G q E) ss.heap.size (hR (some (.int (poR n c E))) (mW G q (poE n c E)))) aa ss 0 0 (va_A (mW G q E) ss.heap.size)) (mW G q (itN k (c1S n) (lorE n E))) 8 [(2, .int (nI k)), (1, .int 0), (0, .ref (q 0))] [] := by
    intro d
    induction d with
    | zero =>
      intro k hk hd0
      exact absurd hd0 (Nat.not_lt_zero _)
    | succ d ih =>
      intro k hk hd0
      have hI : mOk n c (itN k (c1S n) (lorE n E)) := mc1N (mlorE h) hk
      refine hiload_n X dX8_passesOne_8 rfl ?_
      refine haload_n X dX8_passesOne_9 rfl ?_
      refine hget1 X (T := TX8) (N := 14) iX8 0 rfl rfl 0 (by decide) (by decide +kernel) rfl dX8_passesOne_10 ?_
      refine hiconst (v := 5) X dX8_passesOne_13 rfl ?_
      refine hiald (n := 250) (f := (itN k (c1S n) (lorE n E)) 0) X 1 rfl 5 rfl (by omega) (by decide) dX8_passesOne_14 ?_
      refine hV_st (st' := [.int (nI c), .int (nI k)]) (congrArg (fun z => Value.int z :: [.int (nI k)]) (hI.h5)) ?_
      refine hicmp_ge (tgt := 57) X dX8_passesOne_15 (by decide) (fun c10 => ?_) (fun c10 => ?_)
      · have ek := i_ge hk (by omega) c10
        refine hiconst (v := 0) X dX8_passesOne_57 rfl ?_
        refine histore_n (lv' := [(2, .int 0), (1, .int 0), (0, .ref (q 0))]) X dX8_passesOne_58 (by decide) rfl ?_
        have e11 : (0 : Int32) = (itN 0 (c2S n) (itN c (c1S n) (lorE n E), 0)).2 := by
          first | (simp [itN, c2S, c10]; done) | (simp [itN, c2S, hs2, nI_clamp (show s < 2 ^ 31 by omega), nI_ne6 (show s < 2 ^ 31 by omega), c10]; done)
        have w12 : (itN k (c1S n) (lorE n E) : hF) = (itN 0 (c2S n) (itN c (c1S n) (lorE n E), 0)).1 := by
          rw [ek]
          rfl
        exact hV_to (ws' := mW G q ((itN 0 (c2S n) (itN c (c1S n) (lorE n E), 0)).1)) (lv' := [(2, .int 0), (1, .int ((itN 0 (c2S n) (itN c (c1S n) (lorE n E), 0)).2)), (0, .ref (q 0))]) (st' := []) (congrArg (mW G q) w12) (congrArg (fun z => ([(2, .int 0), (1, .int z), (0, .ref (q 0))] : List (Nat × Value))) e11) rfl (L2 _ 0 (by omega) (Nat.lt_succ_self _))
      · have hk1 := i_lt hk (by omega) c10
        refine haload_n X dX8_passesOne_18 rfl ?_
        refine hiload_n X dX8_passesOne_19 rfl ?_
        refine hiconst (v := 2) X dX8_passesOne_20 rfl ?_
        refine hcallV0 (C := RX8) (T := TX8) (N := 14) (As := [.int (nI k), .int (nI 2)]) (rest := []) (st' := [.int ((itN k (c1S n) (lorE n E)) 0 (208 + 7 * k + 2))]) (w := mW G q (itN k (c1S n) (lorE n E))) X (q0 := 0) (kX8_ofCrewPart l G q (itN k (c1S n) (lorE n E)) k 2 (by first | assumption | omega) (by first | assumption | omega)) gX8_passesOne_X8_ofCrewPart rfl (n := 2) (by decide +kernel) (by decide) rfl rfl rfl rfl (Nat.le_of_ble_eq_true rfl) dX8_passesOne_21 rfl rfl (by decide) rfl ?_
        refine hbipush (v := (-6)) X dX8_passesOne_24 rfl ?_
        refine hicmp_ne (tgt := 36) X dX8_passesOne_26 (by decide) (fun c13 => ?_) (fun c13 => ?_)
        · refine hbipush (v := (-6)) X dX8_passesOne_36 rfl ?_
          refine histore_n (lv' := [(3, .int (-6)), (2, .int (nI k)), (1, .int 0), (0, .ref (q 0))]) X dX8_passesOne_38 (by decide) rfl ?_
          refine hiload_n X dX8_passesOne_39 rfl ?_
          refine hbipush (v := (-6)) X dX8_passesOne_40 rfl ?_
          refine hicmp_eq (tgt := 51) X dX8_passesOne_42 (by decide) (fun c14 => ?_) (fun c14 => ?_)
          rotate_left
          · exact absurd (by decide) c14
          refine hiinc (v := nI (k + 1)) (lv' := [(2, .int (nI (k + 1))), (3, .int (-6)), (1, .int 0), (0, .ref (q 0))]) X dX8_passesOne_51 rfl (nI_1 _) (by decide) rfl ?_
          refine hgoto (tgt := 8) X dX8_passesOne_54 (by decide) ?_
          refine hV_lv (lv' := [(2, .int (nI (k + 1))), (1, .int 0), (0, .ref (q 0))]) [0, 2, 3] rfl ?_
          have w15 : (itN k (c1S n) (lorE n E) : hF) = itN (k + 1) (c1S n) (lorE n E) := by
            first | (simp [itN, c1S, c10, c13]; done) | (simp [itN, c1S, hs3, nI_clamp (show s < 2 ^ 31 by omega), nI_ne6 (show s < 2 ^ 31 by omega), c10, c13]; done)
          exact hV_to (ws' := mW G q (itN (k + 1) (c1S n) (lorE n E))) (lv' := [(2, .int (nI (k + 1))), (1, .int 0), (0, .ref (q 0))]) (st' := []) (congrArg (mW G q) w15) rfl rfl (ih (k + 1) (by omega) (by omega))
        · refine haload_n X dX8_passesOne_29 rfl ?_
          refine hcallV0 (C := RX8) (T := TX8) (N := 14) (As := []) (rest := []) (st' := [.int (nxE n (itN k (c1S n) (lorE n E)))]) (w := mW G q (itN k (c1S n) (lorE n E))) X (q0 := 0) (kX8_nextStand l G q (itN k (c1S n) (lorE n E)) n c (hI)) gX8_passesOne_X8_nextStand rfl (n := 0) (by decide +kernel) (by decide) rfl rfl rfl rfl (Nat.le_of_ble_eq_true rfl) dX8_passesOne_30 rfl rfl (by decide) rfl ?_
          refine hgoto (tgt := 38) X dX8_passesOne_33 (by decide) ?_
          refine histore_n (lv' := [(3, .int (nxE n (itN k (c1S n) (lorE n E)))), (2, .int (nI k)), (1, .int 0), (0, .ref (q 0))]) X dX8_passesOne_38 (by decide) rfl ?_
          refine hiload_n X dX8_passesOne_39 rfl ?_
          refine hbipush (v := (-6)) X dX8_passesOne_40 rfl ?_
          refine hicmp_eq (tgt := 51) X dX8_passesOne_42 (by decide) (fun c16 => ?_) (fun c16 => ?_)
          · refine hiinc (v := nI (k + 1)) (lv' := [(2, .int (nI (k + 1))), (3, .int (nxE n (itN k (c1S n) (lorE n E)))), (1, .int 0), (0, .ref (q 0))]) X dX8_passesOne_51 rfl (nI_1 _) (by decide) rfl ?_
            refine hgoto (tgt := 8) X dX8_passesOne_54 (by decide) ?_
            refine hV_lv (lv' := [(2, .int (nI (k + 1))), (1, .int 0), (0, .ref (q 0))]) [0, 2, 3] rfl ?_
            have w17 : (itN k (c1S n) (lorE n E) : hF) = itN (k + 1) (c1S n) (lorE n E) := by
              first | (simp [itN, c1S, c10, c13, c16]; done) | (simp [itN, c1S, hs3, nI_clamp (show s < 2 ^ 31 by omega), nI_ne6 (show s < 2 ^ 31 by omega), c10, c13, c16]; done)
            exact hV_to (ws' := mW G q (itN (k + 1) (c1S n) (lorE n E))) (lv' := [(2, .int (nI (k + 1))), (1, .int 0), (0, .ref (q 0))]) (st' := []) (congrArg (mW G q) w17) rfl rfl (ih (k + 1) (by omega) (by omega))
          · obtain ⟨s, hs1, hs2⟩ := (nxE_of n (itN k (c1S n) (lorE n E)) n (Nat.le_refl n)).resolve_left c16
            have hs3 : nxE n (itN k (c1S n) (lorE n E)) = nI s := hs2
            refine haload_n X dX8_passesOne_45 rfl ?_
            refine hiload_n X dX8_passesOne_46 rfl ?_
            refine hiload_n X dX8_passesOne_47 rfl ?_
            refine hV_st (st' := [.int (nI s), .int (nI k), .ref (q 0)]) (congrArg (fun z => ([Value.int z, .int (nI k), .ref (q 0)] : List Value)) (hs3)) ?_
            refine hcallV0 (C := RX8) (T := TX8) (N := 14) (As := [.int (nI k), .int (nI s)]) (rest := []) (st' := []) (w := mW G q (taE (itN k (c1S n) (lorE n E)) k s)) X (q0 := 0) (kX8_takes l G q (itN k (c1S n) (lorE n E)) k s (by first | assumption | omega) (by first | assumption | omega)) gX8_passesOne_X8_takes rfl (n := 2) (by decide +kernel) (by decide) rfl rfl rfl rfl (Nat.le_of_ble_eq_true rfl) dX8_passesOne_48 rfl rfl (by decide) rfl ?_
            refine hiinc (v := nI (k + 1)) (lv' := [(2, .int (nI (k + 1))), (3, .int (nxE n (itN k (c1S n) (lorE n E)))), (1, .int 0), (0, .ref (q 0))]) X dX8_passesOne_51 rfl (nI_1 _) (by decide) rfl ?_
            refine hgoto (tgt := 8) X dX8_passesOne_54 (by decide) ?_
            refine hV_lv (lv' := [(2, .int (nI (k + 1))), (1, .int 0), (0, .ref (q 0))]) [0, 2, 3] rfl ?_
            have w18 : (taE (itN k (c1S n) (lorE n E)) k s : hF) = itN (k + 1) (c1S n) (lorE n E) := by
              first | (simp [itN, c1S, c10, c13, c16]; done) | (simp [itN, c1S, hs3, nI_clamp (show s < 2 ^ 31 by omega), nI_ne6 (show s < 2 ^ 31 by omega), c10, c13, c16]; done)
            exact hV_to (ws' := mW G q (itN (k + 1) (c1S n) (lorE n E))) (lv' := [(2, .int (nI (k + 1))), (1, .int 0), (0, .ref (q 0))]) (st' := []) (congrArg (mW G q) w18) rfl rfl (ih (k + 1) (by omega) (by omega))
  refine hiconst (v := 0) X dX8_passesOne_0 rfl ?_
  refine histore_n (lv' := [(1, .int 0), (0, .ref (q 0))]) X dX8_passesOne_1 (by decide) rfl ?_
  refine haload_n X dX8_passesOne_2 rfl ?_
  refine hcallV0 (C := RX8) (T := TX8) (N := 14) (As := []) (rest := []) (st' := []) (w := mW G q (lorE n E)) X (q0 := 0) (kX8_lorries l G q E n c (h)) gX8_passesOne_X8_lorries rfl (n := 0) (by decide +kernel) (by decide) rfl rfl rfl rfl (Nat.le_of_ble_eq_true rfl) dX8_passesOne_3 rfl rfl (by decide) rfl ?_
  refine hiconst (v := 0) X dX8_passesOne_6 rfl ?_
  refine histore_n (lv' := [(2, .int 0), (1, .int 0), (0, .ref (q 0))]) X dX8_passesOne_7 (by decide) rfl ?_
  have w19 : (lorE n E : hF) = itN 0 (c1S n) (lorE n E) := by
    first | (simp [itN, c1S]; done) | (simp [itN, c1S, hs3, nI_clamp (show s < 2 ^ 31 by omega), nI_ne6 (show s < 2 ^ 31 by omega)]; done)
  exact hV_to (ws' := mW G q (itN 0 (c1S n) (lorE n E))) (lv' := [(2, .int 0), (1, .int 0), (0, .ref (q 0))]) (st' := []) (congrArg (mW G q) w19) rfl rfl (L1 _ 0 (by omega) (Nat.lt_succ_self _))

set_option maxHeartbeats 4000000 in
set_option maxRecDepth 100000 in
theorem kX8_passes (l : Launch) (G : hG) (q : Nat → Nat) (E : hF) (n c hh : Nat) (h : mOk n c E) (hb : hh < 2 ^ 31) : hM l G yX8_passes wsX8_passes ({ frames := 7, cells := 0, slots := 0, locals := 176 }) (mW G q E) [.ref (q 0), .int (nI hh)] (hR (some (.int ((psE n c hh E).2))) (mW G q ((psE n c hh E).1))) := by
  refine hM_of (cc := cX8_passes) (maxL := 4) (ret := (some .int)) (by decide) rfl (Nat.le_of_ble_eq_true rfl) ?_
  intro pp ee ss mm aa bb me cd X hin
  have L : ∀ (d : Nat) (k : Nat), (k ≤ hh) → (hh - k) < d → hV pp l ee ({ frames := 7, cells := 0, slots := 0, locals := 176 }) ss mm aa bb me cd G (va_A (mW G q E) ss.heap.size) 4 0 0 (MQ bb (hQc G (mW G q E) ss.heap.size (hR (some (.int ((psE n c hh E).2))) (mW G q ((psE n c hh E).1)))) aa ss 0 0 (va_A (mW G q E) ss.heap.size)) (mW G q ((itN k (psS n c) (E, 0)).1)) 4 [(3, .int (nI k)), (2, .int ((itN k (psS n c) (E, 0)).2)), (0, .ref (q 0)), (1, .int (nI hh))] [] := by
    intro d
    induction d with
    | zero =>
      intro k hk hd0
      exact absurd hd0 (Nat.not_lt_zero _)
    | succ d ih =>
      intro k hk hd0
      have hI : mOk n c ((itN k (psS n c) (E, 0)).1) := mpsN h k
      refine hiload_n X dX8_passes_4 rfl ?_
      refine hiload_n X dX8_passes_5 rfl ?_
      refine hicmp_ge (tgt := 22) X dX8_passes_6 (by decide) (fun c1 => ?_) (fun c1 => ?_)
      · have ek := i_ge hk (by omega) c1
        refine hiload_n X dX8_passes_22 rfl ?_
        refine hiret X dX8_passes_23 ⟨congrArg (fun z => some (Value.int z)) (?_ : ((itN k (psS n c) (E, 0)).2) = (psE n c hh E).2), ?_⟩
        · simp [psE, ek]
        refine congrArg (mW G q) (?_ : ((itN k (psS n c) (E, 0)).1 : hF) = (psE n c hh E).1)
        simp [psE, ek]
      · have hk1 := i_lt hk (by omega) c1
        refine hiload_n X dX8_passes_9 rfl ?_
        refine haload_n X dX8_passes_10 rfl ?_
        refine hcallV0 (C := RX8) (T := TX8) (N := 14) (As := []) (rest := [.int ((itN k (psS n c) (E, 0)).2)]) (st' := [.int (poR n c ((itN k (psS n c) (E, 0)).1)), .int ((itN k (psS n c) (E, 0)).2)]) (w := mW G q (poE n c ((itN k (psS n c) (E, 0)).1))) X (q0 := 0) (kX8_passesOne l G q ((itN k (psS n c) (E, 0)).1) n c (hI)) gX8_passes_X8_passesOne rfl (n := 0) (by decide +kernel) (by decide) rfl rfl rfl rfl (Nat.le_of_ble_eq_true rfl) dX8_passes_11 rfl rfl (by decide) rfl ?_
        refine hiadd X dX8_passes_14 ?_
        refine histore_n (lv' := [(2, .int (((itN k (psS n c) (E, 0)).2) + (poR n c ((itN k (psS n c) (E, 0)).1)))), (3, .int (nI k)), (0, .ref (q 0)), (1, .int (nI hh))]) X dX8_passes_15 (by decide) rfl ?_
        refine hiinc (v := nI (k + 1)) (lv' := [(3, .int (nI (k + 1))), (2, .int (((itN k (psS n c) (E, 0)).2) + (poR n c ((itN k (psS n c) (E, 0)).1)))), (0, .ref (q 0)), (1, .int (nI hh))]) X dX8_passes_16 rfl (nI_1 _) (by decide) rfl ?_
        refine hgoto (tgt := 4) X dX8_passes_19 (by decide) ?_
        have e2 : (((itN k (psS n c) (E, 0)).2) + (poR n c ((itN k (psS n c) (E, 0)).1)) : Int32) = (itN (k + 1) (psS n c) (E, 0)).2 := by
          simp [itN, psS, c1]
        have w3 : (poE n c ((itN k (psS n c) (E, 0)).1) : hF) = (itN (k + 1) (psS n c) (E, 0)).1 := by
          simp [itN, psS, c1]
        exact hV_to (ws' := mW G q ((itN (k + 1) (psS n c) (E, 0)).1)) (lv' := [(3, .int (nI (k + 1))), (2, .int ((itN (k + 1) (psS n c) (E, 0)).2)), (0, .ref (q 0)), (1, .int (nI hh))]) (st' := []) (congrArg (mW G q) w3) (congrArg (fun z => ([(3, .int (nI (k + 1))), (2, .int z), (0, .ref (q 0)), (1, .int (nI hh))] : List (Nat × Value))) e2) rfl (ih (k + 1) (by omega) (by omega))
  refine hiconst (v := 0) X dX8_passes_0 rfl ?_
  refine histore_n (lv' := [(2, .int 0), (0, .ref (q 0)), (1, .int (nI hh))]) X dX8_passes_1 (by decide) rfl ?_
  refine hiconst (v := 0) X dX8_passes_2 rfl ?_
  refine histore_n (lv' := [(3, .int 0), (2, .int 0), (0, .ref (q 0)), (1, .int (nI hh))]) X dX8_passes_3 (by decide) rfl ?_
  have e4 : (0 : Int32) = (itN 0 (psS n c) (E, 0)).2 := by
    simp [itN, psS]
  have w5 : (E : hF) = (itN 0 (psS n c) (E, 0)).1 := by
    simp [itN, psS]
  exact hV_to (ws' := mW G q ((itN 0 (psS n c) (E, 0)).1)) (lv' := [(3, .int 0), (2, .int ((itN 0 (psS n c) (E, 0)).2)), (0, .ref (q 0)), (1, .int (nI hh))]) (st' := []) (congrArg (mW G q) w5) (congrArg (fun z => ([(3, .int 0), (2, .int z), (0, .ref (q 0)), (1, .int (nI hh))] : List (Nat × Value))) e4) rfl (L _ 0 (by omega) (Nat.lt_succ_self _))
end
section
set_option maxHeartbeats 4000000 in
set_option maxRecDepth 100000 in
theorem kX8_moves (l : Launch) (G : hG) (a b : Nat) (n1 n2 x t : Nat) (f g : Nat → Int32) (hx : x + 250 ≤ n1) (ht : t + 250 ≤ n2) (hn1 : n1 < 2 ^ 31) (hn2 : n2 < 2 ^ 31) : hM l G yX8_moves wsX8_moves ({ frames := 1, cells := 0, slots := 0, locals := 40 }) ([(a, .inl (G.2.1 0, n1, .inl f)), (b, .inl (G.2.1 0, n2, .inl g))]) [.ref a, .int (nI x), .ref b, .int (nI t)] (hR none ([(a, .inl (G.2.1 0, n1, .inl f)), (b, .inl (G.2.1 0, n2, .inl (mvN 250 f x g t)))])) := by
  refine hM_of (cc := cX8_moves) (maxL := 5) (ret := none) (by decide) rfl (Nat.le_of_ble_eq_true rfl) ?_
  intro pp ee ss mm aa bb me cd X hin
  have L : ∀ (d : Nat) (k : Nat), (k ≤ 250) → (250 - k) < d → hV pp l ee ({ frames := 1, cells := 0, slots := 0, locals := 40 }) ss mm aa bb me cd G (va_A ([(a, .inl (G.2.1 0, n1, .inl f)), (b, .inl (G.2.1 0, n2, .inl g))]) ss.heap.size) 5 0 0 (MQ bb (hQc G ([(a, .inl (G.2.1 0, n1, .inl f)), (b, .inl (G.2.1 0, n2, .inl g))]) ss.heap.size (hR none ([(a, .inl (G.2.1 0, n1, .inl f)), (b, .inl (G.2.1 0, n2, .inl (mvN 250 f x g t)))]))) aa ss 0 0 (va_A ([(a, .inl (G.2.1 0, n1, .inl f)), (b, .inl (G.2.1 0, n2, .inl g))]) ss.heap.size)) ([(a, .inl (G.2.1 0, n1, .inl f)), (b, .inl (G.2.1 0, n2, .inl (mvN k f x g t)))]) 3 [(4, .int (nI k)), (0, .ref a), (1, .int (nI x)), (2, .ref b), (3, .int (nI t))] [] := by
    intro d
    induction d with
    | zero =>
      intro k hk hd0
      exact absurd hd0 (Nat.not_lt_zero _)
    | succ d ih =>
      intro k hk hd0
      refine hiload X dX8_moves_3 rfl ?_
      refine hsipush (v := 250) X dX8_moves_5 rfl ?_
      refine hicmp_ge (tgt := 29) X dX8_moves_8 (by decide) (fun c1 => ?_) (fun c1 => ?_)
      · have ek := i_ge (n := 250) hk (by decide) c1
        refine hvret X dX8_moves_29 ⟨rfl, ?_⟩
        refine congrArg (fun z => ([(a, .inl (G.2.1 0, n1, .inl f)), (b, .inl (G.2.1 0, n2, .inl z))] : va_W)) (?_ : (mvN k f x g t : Nat → Int32) = mvN 250 f x g t)
        rw [ek]
      · have hk1 := i_lt (n := 250) hk (by decide) c1
        refine haload_n X dX8_moves_11 rfl ?_
        refine hiload_n X dX8_moves_12 rfl ?_
        refine hiload X dX8_moves_13 rfl ?_
        refine hiadd X dX8_moves_15 ?_
        refine haload_n X dX8_moves_16 rfl ?_
        refine hiload_n X dX8_moves_17 rfl ?_
        refine hiload X dX8_moves_18 rfl ?_
        refine hiadd X dX8_moves_20 ?_
        refine hiald (n := n1) (f := f) X 0 rfl (x + k) (nadd rfl rfl) (by omega) (by assumption) dX8_moves_21 ?_
        refine hiast (n := n2) (f := mvN k f x g t) X 1 rfl (t + k) (nadd rfl rfl) (by omega) (by assumption) dX8_moves_22 (ws' := [(a, .inl (G.2.1 0, n1, .inl f)), (b, .inl (G.2.1 0, n2, .inl (upd (mvN k f x g t) (t + k) (f (x + k)))))]) rfl ?_
        refine hiinc (v := nI (k + 1)) (lv' := [(4, .int (nI (k + 1))), (0, .ref a), (1, .int (nI x)), (2, .ref b), (3, .int (nI t))]) X dX8_moves_23 rfl (nI_1 _) (by decide) rfl ?_
        refine hgoto (tgt := 3) X dX8_moves_26 (by decide) ?_
        have w2 : (upd (mvN k f x g t) (t + k) (f (x + k)) : Nat → Int32) = mvN (k + 1) f x g t := by
          exact mv_step k f x g t
        exact hV_to (ws' := [(a, .inl (G.2.1 0, n1, .inl f)), (b, .inl (G.2.1 0, n2, .inl (mvN (k + 1) f x g t)))]) (lv' := [(4, .int (nI (k + 1))), (0, .ref a), (1, .int (nI x)), (2, .ref b), (3, .int (nI t))]) (st' := []) (congrArg (fun z => ([(a, .inl (G.2.1 0, n1, .inl f)), (b, .inl (G.2.1 0, n2, .inl z))] : va_W)) w2) rfl rfl (ih (k + 1) (by omega) (by omega))
  refine hiconst (v := 0) X dX8_moves_0 rfl ?_
  refine histore (lv' := [(4, .int 0), (0, .ref a), (1, .int (nI x)), (2, .ref b), (3, .int (nI t))]) X dX8_moves_1 (by decide) rfl ?_
  have w3 : (g : Nat → Int32) = mvN 0 f x g t := by
    exact mv_0 f x g t
  exact hV_to (ws' := [(a, .inl (G.2.1 0, n1, .inl f)), (b, .inl (G.2.1 0, n2, .inl (mvN 0 f x g t)))]) (lv' := [(4, .int 0), (0, .ref a), (1, .int (nI x)), (2, .ref b), (3, .int (nI t))]) (st' := []) (congrArg (fun z => ([(a, .inl (G.2.1 0, n1, .inl f)), (b, .inl (G.2.1 0, n2, .inl z))] : va_W)) w3) rfl rfl (L _ 0 (by omega) (Nat.lt_succ_self _))

set_option maxHeartbeats 4000000 in
set_option maxRecDepth 100000 in
theorem kX8_record6 (l : Launch) (G : hG) (q : Nat → Nat) (E : hF) (h60 : E 6 0 = 6) : hM l G yX8_record wsX8_record ({ frames := 2, cells := 0, slots := 0, locals := 64 }) (mW G q E) [.ref (q 0)] (hR none (mW G q (recE E 6))) := by
  refine hM_of (cc := cX8_record) (maxL := 2) (ret := none) (by decide) rfl (Nat.le_of_ble_eq_true rfl) ?_
  intro pp ee ss mm aa bb me cd X hin
  have iX8 : ∀ w ∈ wsX80, w ∈ wsX8_record := by decide +kernel
  have L : ∀ (d : Nat) (k : Nat), (k ≤ 1250) → (1250 - k) < d → hV pp l ee ({ frames := 2, cells := 0, slots := 0, locals := 64 }) ss mm aa bb me cd G (va_A (mW G q E) ss.heap.size) 2 0 0 (MQ bb (hQc G (mW G q E) ss.heap.size (hR none (mW G q (recE E 6)))) aa ss 0 0 (va_A (mW G q E) ss.heap.size)) (mW G q (fr E 2 (shN k (E 2)))) 11 [(1, .int (nI k)), (0, .ref (q 0))] [] := by
    intro d
    induction d with
    | zero =>
      intro k hk hd0
      exact absurd hd0 (Nat.not_lt_zero _)
    | succ d ih =>
      intro k hk hd0
      refine hiload_n X dX8_record_11 rfl ?_
      refine hsipush (v := 1250) X dX8_record_12 rfl ?_
      refine hicmp_ge (tgt := 40) X dX8_record_15 (by decide) (fun c1 => ?_) (fun c1 => ?_)
      · have ek := i_ge (n := 1250) hk (by decide) c1
        refine haload_n X dX8_record_40 rfl ?_
        refine hdup X dX8_record_41 rfl ?_
        refine hget1 X (T := TX8) (N := 14) iX8 0 rfl rfl 3 (by decide) (by decide +kernel) rfl dX8_record_42 ?_
        have r2 : ((fr E 2 (shN k (E 2))) 6 0 : Int32) = E 6 0 := by rw [fr_ne _ _ (by decide)]
        refine hV_st (st' := [.int (E 6 0), .ref (q 0)]) (congrArg (fun z => Value.int z :: [.ref (q 0)]) r2) ?_
        refine hV_st (st' := [.int 6, .ref (q 0)]) (congrArg (fun z => ([Value.int z, .ref (q 0)] : List Value)) ((show fr E 2 (shN k (E 2)) 6 0 = 6 from (congrFun (fr_ne E _ (by decide)) 0).trans h60))) ?_
        refine hiconst (v := 1) X dX8_record_45 rfl ?_
        refine hisub X dX8_record_46 ?_
        refine hV_st (st' := [.int 5, .ref (q 0)]) rfl ?_
        refine hput1 X (T := TX8) (N := 14) iX8 tyX8 tyX8_ok nmX8 0 rfl rfl 3 (by decide) (by decide +kernel) (by decide +kernel) rfl rfl (Nat.le_of_ble_eq_true rfl) dX8_record_47 (ws' := mW G q (fs (fr E 2 (shN k (E 2))) 6 0 5)) rfl ?_
        refine haload_n X dX8_record_50 rfl ?_
        refine hget1 X (T := TX8) (N := 14) iX8 0 rfl rfl 0 (by decide) (by decide +kernel) rfl dX8_record_51 ?_
        refine hiconst (v := 0) X dX8_record_54 rfl ?_
        refine haload_n X dX8_record_55 rfl ?_
        refine hget1 X (T := TX8) (N := 14) iX8 0 rfl rfl 2 (by decide) (by decide +kernel) rfl dX8_record_56 ?_
        refine haload_n X dX8_record_59 rfl ?_
        refine hget1 X (T := TX8) (N := 14) iX8 0 rfl rfl 3 (by decide) (by decide +kernel) rfl dX8_record_60 ?_
        have r3 : ((fs (fr E 2 (shN k (E 2))) 6 0 5) 6 0 : Int32) = 5 := by rw [fs_same]
        refine hV_st (st' := [.int 5, .ref (q 3), .int 0, .ref (q 1)]) (congrArg (fun z => Value.int z :: [.ref (q 3), .int 0, .ref (q 1)]) r3) ?_
        refine hsipush (v := 250) X dX8_record_63 rfl ?_
        refine himul X dX8_record_66 ?_
        refine hV_st (st' := [.int 1250, .ref (q 3), .int 0, .ref (q 1)]) rfl ?_
        refine hV_perm (ws' := [(q 1, .inl (G.2.1 0, 250, .inl ((fs (fr E 2 (shN k (E 2))) 6 0 5) 0))), (q 3, .inl (G.2.1 0, 1500, .inl ((fs (fr E 2 (shN k (E 2))) 6 0 5) 2)))] ++ ((mW G q (fs (fr E 2 (shN k (E 2))) 6 0 5)).eraseIdx 1).eraseIdx 2) (pk2 (mW G q (fs (fr E 2 (shN k (E 2))) 6 0 5)) 1 2 (Nat.le_of_ble_eq_true rfl) (Nat.le_of_ble_eq_true rfl)) ?_
        refine hcallSr (wsC := [(q 1, .inl (G.2.1 0, 250, .inl ((fs (fr E 2 (shN k (E 2))) 6 0 5) 0))), (q 3, .inl (G.2.1 0, 1500, .inl ((fs (fr E 2 (shN k (E 2))) 6 0 5) 2)))]) (wsR := ((mW G q (fs (fr E 2 (shN k (E 2))) 6 0 5)).eraseIdx 1).eraseIdx 2) (As := [.ref (q 1), .int (nI 0), .ref (q 3), .int (nI 1250)]) (rest := []) (st' := []) (w := [(q 1, .inl (G.2.1 0, 250, .inl ((fs (fr E 2 (shN k (E 2))) 6 0 5) 0))), (q 3, .inl (G.2.1 0, 1500, .inl (mvN 250 ((fs (fr E 2 (shN k (E 2))) 6 0 5) 0) 0 ((fs (fr E 2 (shN k (E 2))) 6 0 5) 2) 1250)))]) X (kX8_moves l G (q 1) (q 3) 250 1500 0 1250 ((fs (fr E 2 (shN k (E 2))) 6 0 5) 0) ((fs (fr E 2 (shN k (E 2))) 6 0 5) 2) (by omega) (by omega) (by decide) (by decide)) gX8_record_X8_moves rfl (n := 4) (by decide +kernel) (by decide) rfl rfl (Nat.le_of_ble_eq_true rfl) dX8_record_67 rfl rfl (by decide) rfl ?_
        refine hV_perm (ws' := mW G q (fr (fs (fr E 2 (shN k (E 2))) 6 0 5) 2 (mvN 250 ((fs (fr E 2 (shN k (E 2))) 6 0 5) 0) 0 ((fs (fr E 2 (shN k (E 2))) 6 0 5) 2) 1250))) (pk2 (mW G q (fr (fs (fr E 2 (shN k (E 2))) 6 0 5) 2 (mvN 250 ((fs (fr E 2 (shN k (E 2))) 6 0 5) 0) 0 ((fs (fr E 2 (shN k (E 2))) 6 0 5) 2) 1250))) 1 2 (Nat.le_of_ble_eq_true rfl) (Nat.le_of_ble_eq_true rfl)).symm ?_
        refine haload_n X dX8_record_70 rfl ?_
        refine hdup X dX8_record_71 rfl ?_
        refine hget1 X (T := TX8) (N := 14) iX8 0 rfl rfl 3 (by decide) (by decide +kernel) rfl dX8_record_72 ?_
        have r4 : ((fr (fs (fr E 2 (shN k (E 2))) 6 0 5) 2 (mvN 250 ((fs (fr E 2 (shN k (E 2))) 6 0 5) 0) 0 ((fs (fr E 2 (shN k (E 2))) 6 0 5) 2) 1250)) 6 0 : Int32) = 5 := by rw [fr_ne _ _ (by decide), fs_same]
        refine hV_st (st' := [.int 5, .ref (q 0)]) (congrArg (fun z => Value.int z :: [.ref (q 0)]) r4) ?_
        refine hiconst (v := 1) X dX8_record_75 rfl ?_
        refine hiadd X dX8_record_76 ?_
        refine hV_st (st' := [.int 6, .ref (q 0)]) rfl ?_
        refine hput1 X (T := TX8) (N := 14) iX8 tyX8 tyX8_ok nmX8 0 rfl rfl 3 (by decide) (by decide +kernel) (by decide +kernel) rfl rfl (Nat.le_of_ble_eq_true rfl) dX8_record_77 (ws' := mW G q (fs (fr (fs (fr E 2 (shN k (E 2))) 6 0 5) 2 (mvN 250 ((fs (fr E 2 (shN k (E 2))) 6 0 5) 0) 0 ((fs (fr E 2 (shN k (E 2))) 6 0 5) 2) 1250)) 6 0 6)) rfl ?_
        refine hvret X dX8_record_80 ⟨rfl, ?_⟩
        refine congrArg (mW G q) (?_ : (fs (fr (fs (fr E 2 (shN k (E 2))) 6 0 5) 2 (mvN 250 ((fs (fr E 2 (shN k (E 2))) 6 0 5) 0) 0 ((fs (fr E 2 (shN k (E 2))) 6 0 5) 2) 1250)) 6 0 6 : hF) = recE E 6)
        subst ek
        simp only [recE, if_pos]
        rfl
      · have hk1 := i_lt (n := 1250) hk (by decide) c1
        refine haload_n X dX8_record_18 rfl ?_
        refine hget1 X (T := TX8) (N := 14) iX8 0 rfl rfl 2 (by decide) (by decide +kernel) rfl dX8_record_19 ?_
        refine hiload_n X dX8_record_22 rfl ?_
        refine haload_n X dX8_record_23 rfl ?_
        refine hget1 X (T := TX8) (N := 14) iX8 0 rfl rfl 2 (by decide) (by decide +kernel) rfl dX8_record_24 ?_
        refine hiload_n X dX8_record_27 rfl ?_
        refine hsipush (v := 250) X dX8_record_28 rfl ?_
        refine hiadd X dX8_record_31 ?_
        refine hiald (n := 1500) (f := (fr E 2 (shN k (E 2))) 2) X 3 rfl (k + 250) (nadd rfl rfl) (by omega) (by decide) dX8_record_32 ?_
        refine hiast (n := 1500) (f := (fr E 2 (shN k (E 2))) 2) X 3 rfl k rfl (by omega) (by decide) dX8_record_33 (ws' := mW G q (fs (fr E 2 (shN k (E 2))) 2 k ((fr E 2 (shN k (E 2))) 2 (k + 250)))) rfl ?_
        refine hiinc (v := nI (k + 1)) (lv' := [(1, .int (nI (k + 1))), (0, .ref (q 0))]) X dX8_record_34 rfl (nI_1 _) (by decide) rfl ?_
        refine hgoto (tgt := 11) X dX8_record_37 (by decide) ?_
        have w5 : (fs (fr E 2 (shN k (E 2))) 2 k ((fr E 2 (shN k (E 2))) 2 (k + 250)) : hF) = fr E 2 (shN (k + 1) (E 2)) := by
          exact sh_step E k
        exact hV_to (ws' := mW G q (fr E 2 (shN (k + 1) (E 2)))) (lv' := [(1, .int (nI (k + 1))), (0, .ref (q 0))]) (st' := []) (congrArg (mW G q) w5) rfl rfl (ih (k + 1) (by omega) (by omega))
  refine haload_n X dX8_record_0 rfl ?_
  refine hget1 X (T := TX8) (N := 14) iX8 0 rfl rfl 3 (by decide) (by decide +kernel) rfl dX8_record_1 ?_
  refine hV_st (st' := [.int 6]) (congrArg (fun z => ([Value.int z] : List Value)) (h60)) ?_
  refine hbipush (v := 6) X dX8_record_4 rfl ?_
  refine hicmp_ne (tgt := 50) X dX8_record_6 (by decide) (fun c6 => ?_) (fun c6 => ?_)
  · exact absurd (by decide) c6
  refine hiconst (v := 0) X dX8_record_9 rfl ?_
  refine histore_n (lv' := [(1, .int 0), (0, .ref (q 0))]) X dX8_record_10 (by decide) rfl ?_
  have w7 : (E : hF) = fr E 2 (shN 0 (E 2)) := by
    exact sh_0 E
  exact hV_to (ws' := mW G q (fr E 2 (shN 0 (E 2)))) (lv' := [(1, .int 0), (0, .ref (q 0))]) (st' := []) (congrArg (mW G q) w7) rfl rfl (L _ 0 (by omega) (Nat.lt_succ_self _))

set_option maxHeartbeats 4000000 in
set_option maxRecDepth 100000 in
theorem kX8_recordL (l : Launch) (G : hG) (q : Nat → Nat) (E : hF) (r : Nat) (hr : r < 6) (h60 : E 6 0 = nI r) : hM l G yX8_record wsX8_record ({ frames := 2, cells := 0, slots := 0, locals := 64 }) (mW G q E) [.ref (q 0)] (hR none (mW G q (recE E r))) := by
  refine hM_of (cc := cX8_record) (maxL := 2) (ret := none) (by decide) rfl (Nat.le_of_ble_eq_true rfl) ?_
  intro pp ee ss mm aa bb me cd X hin
  have iX8 : ∀ w ∈ wsX80, w ∈ wsX8_record := by decide +kernel
  refine haload_n X dX8_record_0 rfl ?_
  refine hget1 X (T := TX8) (N := 14) iX8 0 rfl rfl 3 (by decide) (by decide +kernel) rfl dX8_record_1 ?_
  refine hV_st (st' := [.int (nI r)]) (congrArg (fun z => ([Value.int z] : List Value)) (h60)) ?_
  refine hbipush (v := 6) X dX8_record_4 rfl ?_
  refine hicmp_ne (tgt := 50) X dX8_record_6 (by decide) (fun c1 => ?_) (fun c1 => ?_)
  · refine haload_n X dX8_record_50 rfl ?_
    refine hget1 X (T := TX8) (N := 14) iX8 0 rfl rfl 0 (by decide) (by decide +kernel) rfl dX8_record_51 ?_
    refine hiconst (v := 0) X dX8_record_54 rfl ?_
    refine haload_n X dX8_record_55 rfl ?_
    refine hget1 X (T := TX8) (N := 14) iX8 0 rfl rfl 2 (by decide) (by decide +kernel) rfl dX8_record_56 ?_
    refine haload_n X dX8_record_59 rfl ?_
    refine hget1 X (T := TX8) (N := 14) iX8 0 rfl rfl 3 (by decide) (by decide +kernel) rfl dX8_record_60 ?_
    refine hV_st (st' := [.int (nI r), .ref (q 3), .int 0, .ref (q 1)]) (congrArg (fun z => ([Value.int z, .ref (q 3), .int 0, .ref (q 1)] : List Value)) (h60)) ?_
    refine hsipush (v := 250) X dX8_record_63 rfl ?_
    refine himul X dX8_record_66 ?_
    refine hV_st (st' := [.int (nI (r * 250)), .ref (q 3), .int 0, .ref (q 1)]) (congrArg (fun z => ([Value.int z, .ref (q 3), .int 0, .ref (q 1)] : List Value)) ((nmul rfl rfl))) ?_
    refine hV_perm (ws' := [(q 1, .inl (G.2.1 0, 250, .inl (E 0))), (q 3, .inl (G.2.1 0, 1500, .inl (E 2)))] ++ ((mW G q E).eraseIdx 1).eraseIdx 2) (pk2 (mW G q E) 1 2 (Nat.le_of_ble_eq_true rfl) (Nat.le_of_ble_eq_true rfl)) ?_
    refine hcallSr (wsC := [(q 1, .inl (G.2.1 0, 250, .inl (E 0))), (q 3, .inl (G.2.1 0, 1500, .inl (E 2)))]) (wsR := ((mW G q E).eraseIdx 1).eraseIdx 2) (As := [.ref (q 1), .int (nI 0), .ref (q 3), .int (nI (r * 250))]) (rest := []) (st' := []) (w := [(q 1, .inl (G.2.1 0, 250, .inl (E 0))), (q 3, .inl (G.2.1 0, 1500, .inl (mvN 250 (E 0) 0 (E 2) (r * 250))))]) X (kX8_moves l G (q 1) (q 3) 250 1500 0 (r * 250) (E 0) (E 2) (by omega) (by omega) (by decide) (by decide)) gX8_record_X8_moves rfl (n := 4) (by decide +kernel) (by decide) rfl rfl (Nat.le_of_ble_eq_true rfl) dX8_record_67 rfl rfl (by decide) rfl ?_
    refine hV_perm (ws' := mW G q (fr E 2 (mvN 250 (E 0) 0 (E 2) (r * 250)))) (pk2 (mW G q (fr E 2 (mvN 250 (E 0) 0 (E 2) (r * 250)))) 1 2 (Nat.le_of_ble_eq_true rfl) (Nat.le_of_ble_eq_true rfl)).symm ?_
    refine haload_n X dX8_record_70 rfl ?_
    refine hdup X dX8_record_71 rfl ?_
    refine hget1 X (T := TX8) (N := 14) iX8 0 rfl rfl 3 (by decide) (by decide +kernel) rfl dX8_record_72 ?_
    have r2 : ((fr E 2 (mvN 250 (E 0) 0 (E 2) (r * 250))) 6 0 : Int32) = E 6 0 := by rw [fr_ne _ _ (by decide)]
    refine hV_st (st' := [.int (E 6 0), .ref (q 0)]) (congrArg (fun z => Value.int z :: [.ref (q 0)]) r2) ?_
    refine hV_st (st' := [.int (nI r), .ref (q 0)]) (congrArg (fun z => ([Value.int z, .ref (q 0)] : List Value)) (h60)) ?_
    refine hiconst (v := 1) X dX8_record_75 rfl ?_
    refine hiadd X dX8_record_76 ?_
    refine hput1 X (T := TX8) (N := 14) iX8 tyX8 tyX8_ok nmX8 0 rfl rfl 3 (by decide) (by decide +kernel) (by decide +kernel) rfl rfl (Nat.le_of_ble_eq_true rfl) dX8_record_77 (ws' := mW G q (fs (fr E 2 (mvN 250 (E 0) 0 (E 2) (r * 250))) 6 0 ((nI r) + 1))) rfl ?_
    refine hvret X dX8_record_80 ⟨rfl, ?_⟩
    refine congrArg (mW G q) (?_ : (fs (fr E 2 (mvN 250 (E 0) 0 (E 2) (r * 250))) 6 0 ((nI r) + 1) : hF) = recE E r)
    simp [recE, show ¬ r = 6 by omega]
  · exact ((by have q9 := (nI_eq (a := r) (b := 6) (by omega) (by decide)).mp c1; omega : False)).elim

theorem kX8_record (l : Launch) (G : hG) (q : Nat → Nat) (E : hF) (r : Nat) (hr : r ≤ 6) (h60 : E 6 0 = nI r) : hM l G yX8_record wsX8_record ({ frames := 2, cells := 0, slots := 0, locals := 64 }) (mW G q E) [.ref (q 0)] (hR none (mW G q (recE E r))) := by
  by_cases h : r = 6
  · subst h
    exact kX8_record6 l G q E h60
  · exact kX8_recordL l G q E r (by omega) h60

set_option maxHeartbeats 4000000 in
set_option maxRecDepth 100000 in
theorem kX8_isValue (l : Launch) (G : hG) (x v : Int32) : hM l G yX8_isValue wsX8_isValue ({ frames := 2, cells := 0, slots := 0, locals := 62 }) ([]) [.int x, .int v] (hR (some (.int (bI (isvP x v)))) ([])) := by
  refine hM_of (cc := cX8_isValue) (maxL := 2) (ret := (some .boolean)) (by decide) rfl (Nat.le_of_ble_eq_true rfl) ?_
  intro pp ee ss mm aa bb me cd X hin
  refine hiload_n X dX8_isValue_0 rfl ?_
  refine hif_ne (tgt := 14) X dX8_isValue_1 (by decide) (fun c1 => ?_) (fun c1 => ?_)
  · refine hiload_n X dX8_isValue_14 rfl ?_
    refine hiconst (v := 1) X dX8_isValue_15 rfl ?_
    refine hicmp_ne (tgt := 29) X dX8_isValue_16 (by decide) (fun c2 => ?_) (fun c2 => ?_)
    · refine hiload_n X dX8_isValue_29 rfl ?_
      refine hiconst (v := 2) X dX8_isValue_30 rfl ?_
      refine hicmp_ne (tgt := 49) X dX8_isValue_31 (by decide) (fun c3 => ?_) (fun c3 => ?_)
      · refine hiconst (v := 0) X dX8_isValue_49 rfl ?_
        refine hzret X rfl dX8_isValue_50 ⟨congrArg (fun z => some (Value.int z)) (?_ : 0 = bI (isvP x v)), ?_⟩
        · simp [bI, isvP, c1, c2, c3]
        rfl
      · refine hiload_n X dX8_isValue_34 rfl ?_
        refine hiconst (v := 1) X dX8_isValue_35 rfl ?_
        refine hsipush (v := 999) X dX8_isValue_36 rfl ?_
        refine hcallSr (wsC := []) (wsR := []) (As := [.int v, .int 1, .int 999]) (rest := []) (st' := [.int (bI (wI v 1 999))]) (w := []) X (kX8_within l G v 1 999) gX8_isValue_X8_within rfl (n := 3) (by decide +kernel) (by decide) rfl rfl (Nat.le_of_ble_eq_true rfl) dX8_isValue_39 rfl rfl (by decide) rfl ?_
        refine hif_eqB (tgt := 49) X dX8_isValue_42 (by decide) (fun c4 => ?_) (fun c4 => ?_)
        · refine hiconst (v := 0) X dX8_isValue_49 rfl ?_
          refine hzret X rfl dX8_isValue_50 ⟨congrArg (fun z => some (Value.int z)) (?_ : 0 = bI (isvP x v)), ?_⟩
          · simp [bI, isvP, c1, c2, c3, c4]
          rfl
        · refine hiconst (v := 1) X dX8_isValue_45 rfl ?_
          refine hgoto (tgt := 50) X dX8_isValue_46 (by decide) ?_
          refine hzret X rfl dX8_isValue_50 ⟨congrArg (fun z => some (Value.int z)) (?_ : 1 = bI (isvP x v)), ?_⟩
          · simp [bI, isvP, c1, c2, c3, c4]
          rfl
    · refine hiload_n X dX8_isValue_19 rfl ?_
      refine hiconst (v := 1) X dX8_isValue_20 rfl ?_
      refine hbipush (v := 9) X dX8_isValue_21 rfl ?_
      refine hcallSr (wsC := []) (wsR := []) (As := [.int v, .int 1, .int 9]) (rest := []) (st' := [.int (bI (wI v 1 9))]) (w := []) X (kX8_within l G v 1 9) gX8_isValue_X8_within rfl (n := 3) (by decide +kernel) (by decide) rfl rfl (Nat.le_of_ble_eq_true rfl) dX8_isValue_23 rfl rfl (by decide) rfl ?_
      refine hgoto (tgt := 50) X dX8_isValue_26 (by decide) ?_
      refine hzret X bI_nar dX8_isValue_50 ⟨congrArg (fun z => some (Value.int z)) (?_ : (bI (wI v 1 9)) = bI (isvP x v)), ?_⟩
      · simp [bI, isvP, c1, c2]
      rfl
  · refine hiload_n X dX8_isValue_4 rfl ?_
    refine hiconst (v := 1) X dX8_isValue_5 rfl ?_
    refine hbipush (v := 60) X dX8_isValue_6 rfl ?_
    refine hcallSr (wsC := []) (wsR := []) (As := [.int v, .int 1, .int 60]) (rest := []) (st' := [.int (bI (wI v 1 60))]) (w := []) X (kX8_within l G v 1 60) gX8_isValue_X8_within rfl (n := 3) (by decide +kernel) (by decide) rfl rfl (Nat.le_of_ble_eq_true rfl) dX8_isValue_8 rfl rfl (by decide) rfl ?_
    refine hgoto (tgt := 50) X dX8_isValue_11 (by decide) ?_
    refine hzret X bI_nar dX8_isValue_50 ⟨congrArg (fun z => some (Value.int z)) (?_ : (bI (wI v 1 60)) = bI (isvP x v)), ?_⟩
    · simp [bI, isvP, c1]
    rfl

set_option maxHeartbeats 4000000 in
set_option maxRecDepth 100000 in
theorem kX8_set (l : Launch) (G : hG) (q : Nat → Nat) (E : hF) (r : Nat) (hr : r ≤ 6) (h60 : E 6 0 = nI r) (x v : Int32) : hM l G yX8_set wsX8_set ({ frames := 3, cells := 0, slots := 0, locals := 85 }) (mW G q E) [.ref (q 0), .int x, .int v] (hR (some (.int (setR E x v))) (mW G q (setE E r x v))) := by
  refine hM_of (cc := cX8_set) (maxL := 4) (ret := (some .int)) (by decide) rfl (Nat.le_of_ble_eq_true rfl) ?_
  intro pp ee ss mm aa bb me cd X hin
  have iX8 : ∀ w ∈ wsX80, w ∈ wsX8_set := by decide +kernel
  refine hiload_n X dX8_set_0 rfl ?_
  refine hiload_n X dX8_set_1 rfl ?_
  refine hcallSr (wsC := []) (wsR := mW G q E) (As := [.int x, .int v]) (rest := []) (st' := [.int (bI (isvP x v))]) (w := []) X (kX8_isValue l G x v) gX8_set_X8_isValue rfl (n := 2) (by decide +kernel) (by decide) rfl rfl (Nat.le_of_ble_eq_true rfl) dX8_set_2 rfl rfl (by decide) rfl ?_
  refine hif_neB (tgt := 11) X dX8_set_5 (by decide) (fun c1 => ?_) (fun c1 => ?_)
  · obtain ⟨j, hj, hx⟩ := isvP_n c1
    refine haload_n X dX8_set_11 rfl ?_
    refine hcallV0 (C := RX8) (T := TX8) (N := 14) (As := []) (rest := []) (st' := []) (w := mW G q (recE E r)) X (q0 := 0) (kX8_record l G q E r (hr) (h60)) gX8_set_X8_record rfl (n := 0) (by decide +kernel) (by decide) rfl rfl rfl rfl (Nat.le_of_ble_eq_true rfl) dX8_set_12 rfl rfl (by decide) rfl ?_
    refine haload_n X dX8_set_15 rfl ?_
    refine hget1 X (T := TX8) (N := 14) iX8 0 rfl rfl 0 (by decide) (by decide +kernel) rfl dX8_set_16 ?_
    refine hiload_n X dX8_set_19 rfl ?_
    refine hV_st (st' := [.int (nI j), .ref (q 1)]) (congrArg (fun z => ([Value.int z, .ref (q 1)] : List Value)) (hx)) ?_
    refine hiald (n := 250) (f := (recE E r) 0) X 1 rfl j rfl (by omega) (by decide) dX8_set_20 ?_
    refine histore_n (lv' := [(3, .int ((recE E r) 0 j)), (0, .ref (q 0)), (1, .int x), (2, .int v)]) X dX8_set_21 (by decide) rfl ?_
    refine haload_n X dX8_set_22 rfl ?_
    refine hget1 X (T := TX8) (N := 14) iX8 0 rfl rfl 0 (by decide) (by decide +kernel) rfl dX8_set_23 ?_
    refine hiload_n X dX8_set_26 rfl ?_
    refine hiload_n X dX8_set_27 rfl ?_
    refine hV_st (st' := [.int v, .int (nI j), .ref (q 1)]) (congrArg (fun z => ([.int v, Value.int z, .ref (q 1)] : List Value)) (hx)) ?_
    refine hiast (n := 250) (f := (recE E r) 0) X 1 rfl j rfl (by omega) (by decide) dX8_set_28 (ws' := mW G q (fs (recE E r) 0 j v)) rfl ?_
    refine hiload_n X dX8_set_29 rfl ?_
    refine hiret X dX8_set_30 ⟨congrArg (fun z => some (Value.int z)) (?_ : ((recE E r) 0 j) = setR E x v), ?_⟩
    · first | (simp [setR, c1]; done) | (simp [setR, hx, nI_clamp (show j < 2 ^ 31 by omega), recE_0, c1]; done) | (subst hx; simp [setR, nI_clamp (show j < 2 ^ 31 by omega), recE_0, c1]; done)
    refine congrArg (mW G q) (?_ : (fs (recE E r) 0 j v : hF) = setE E r x v)
    first | (simp [setE, c1]; done) | (subst hx; simp [setE, nI_clamp (show j < 2 ^ 31 by omega), c1]; done)
  · refine hbipush (v := (-2)) X dX8_set_8 rfl ?_
    refine hiret X dX8_set_10 ⟨congrArg (fun z => some (Value.int z)) (?_ : (-2) = setR E x v), ?_⟩
    · first | (simp [setR, c1]; done) | (simp [setR, hx, nI_clamp (show j < 2 ^ 31 by omega), recE_0, c1]; done) | (subst hx; simp [setR, nI_clamp (show j < 2 ^ 31 by omega), recE_0, c1]; done)
    refine congrArg (mW G q) (?_ : (E : hF) = setE E r x v)
    first | (simp [setE, c1]; done) | (subst hx; simp [setE, nI_clamp (show j < 2 ^ 31 by omega), c1]; done)

set_option maxHeartbeats 4000000 in
set_option maxRecDepth 100000 in
theorem kX8_whyNoStand (l : Launch) (G : hG) (q : Nat → Nat) (E : hF) (n c : Nat) (h : mOk n c E) (w1 w2 w3 w4 : Int32) : hM l G yX8_whyNoStand wsX8_whyNoStand ({ frames := 3, cells := 0, slots := 0, locals := 84 }) (mW G q E) [.ref (q 0), .int w1, .int w2, .int w3, .int w4] (hR (some (.int (whyS E w1 w2 w3 w4))) (mW G q E)) := by
  refine hM_of (cc := cX8_whyNoStand) (maxL := 5) (ret := (some .int)) (by decide) rfl (Nat.le_of_ble_eq_true rfl) ?_
  intro pp ee ss mm aa bb me cd X hin
  have iX8 : ∀ w ∈ wsX80, w ∈ wsX8_whyNoStand := by decide +kernel
  have hn := h.hn
  refine hiload_n X dX8_whyNoStand_0 rfl ?_
  refine hiconst (v := 1) X dX8_whyNoStand_1 rfl ?_
  refine hbipush (v := 99) X dX8_whyNoStand_2 rfl ?_
  refine hcallSr (wsC := []) (wsR := mW G q E) (As := [.int w1, .int 1, .int 99]) (rest := []) (st' := [.int (bI (wI w1 1 99))]) (w := []) X (kX8_within l G w1 1 99) gX8_whyNoStand_X8_within rfl (n := 3) (by decide +kernel) (by decide) rfl rfl (Nat.le_of_ble_eq_true rfl) dX8_whyNoStand_4 rfl rfl (by decide) rfl ?_
  refine hif_eqB (tgt := 30) X dX8_whyNoStand_7 (by decide) (fun c1 => ?_) (fun c1 => ?_)
  · refine hbipush (v := (-2)) X dX8_whyNoStand_30 rfl ?_
    refine hiret X dX8_whyNoStand_32 ⟨congrArg (fun z => some (Value.int z)) (?_ : (-2) = whyS E w1 w2 w3 w4), ?_⟩
    · first | (simp [whyS, c1]; done) | (simp [whyS, hx, nI_clamp (show j < 2 ^ 31 by omega), c1]; done) | (subst hx; simp [whyS, nI_clamp (show j < 2 ^ 31 by omega), c1]; done)
    rfl
  · refine hiload_n X dX8_whyNoStand_10 rfl ?_
    refine hiconst (v := 1) X dX8_whyNoStand_11 rfl ?_
    refine hbipush (v := 20) X dX8_whyNoStand_12 rfl ?_
    refine hcallSr (wsC := []) (wsR := mW G q E) (As := [.int w2, .int 1, .int 20]) (rest := []) (st' := [.int (bI (wI w2 1 20))]) (w := []) X (kX8_within l G w2 1 20) gX8_whyNoStand_X8_within rfl (n := 3) (by decide +kernel) (by decide) rfl rfl (Nat.le_of_ble_eq_true rfl) dX8_whyNoStand_14 rfl rfl (by decide) rfl ?_
    refine hif_eqB (tgt := 30) X dX8_whyNoStand_17 (by decide) (fun c2 => ?_) (fun c2 => ?_)
    · refine hbipush (v := (-2)) X dX8_whyNoStand_30 rfl ?_
      refine hiret X dX8_whyNoStand_32 ⟨congrArg (fun z => some (Value.int z)) (?_ : (-2) = whyS E w1 w2 w3 w4), ?_⟩
      · first | (simp [whyS, c1, c2]; done) | (simp [whyS, hx, nI_clamp (show j < 2 ^ 31 by omega), c1, c2]; done) | (subst hx; simp [whyS, nI_clamp (show j < 2 ^ 31 by omega), c1, c2]; done)
      rfl
    · refine hiload_n X dX8_whyNoStand_20 rfl ?_
      refine hiconst (v := 0) X dX8_whyNoStand_21 rfl ?_
      refine hbipush (v := 99) X dX8_whyNoStand_22 rfl ?_
      refine hcallSr (wsC := []) (wsR := mW G q E) (As := [.int w3, .int 0, .int 99]) (rest := []) (st' := [.int (bI (wI w3 0 99))]) (w := []) X (kX8_within l G w3 0 99) gX8_whyNoStand_X8_within rfl (n := 3) (by decide +kernel) (by decide) rfl rfl (Nat.le_of_ble_eq_true rfl) dX8_whyNoStand_24 rfl rfl (by decide) rfl ?_
      refine hif_neB (tgt := 33) X dX8_whyNoStand_27 (by decide) (fun c3 => ?_) (fun c3 => ?_)
      · refine hiload X dX8_whyNoStand_33 rfl ?_
        refine hbipush (v := (-6)) X dX8_whyNoStand_35 rfl ?_
        refine hicmp_eq (tgt := 51) X dX8_whyNoStand_37 (by decide) (fun c4 => ?_) (fun c4 => ?_)
        · refine haload_n X dX8_whyNoStand_51 rfl ?_
          refine hget1 X (T := TX8) (N := 14) iX8 0 rfl rfl 0 (by decide) (by decide +kernel) rfl dX8_whyNoStand_52 ?_
          refine hiconst (v := 4) X dX8_whyNoStand_55 rfl ?_
          refine hiald (n := 250) (f := E 0) X 1 rfl 4 rfl (by omega) (by decide) dX8_whyNoStand_56 ?_
          refine hbipush (v := 20) X dX8_whyNoStand_57 rfl ?_
          refine hicmp_ne (tgt := 65) X dX8_whyNoStand_59 (by decide) (fun c5 => ?_) (fun c5 => ?_)
          · refine haload_n X dX8_whyNoStand_65 rfl ?_
            refine hget1 X (T := TX8) (N := 14) iX8 0 rfl rfl 0 (by decide) (by decide +kernel) rfl dX8_whyNoStand_66 ?_
            refine hbipush (v := 6) X dX8_whyNoStand_69 rfl ?_
            refine hiald (n := 250) (f := E 0) X 1 rfl 6 rfl (by omega) (by decide) dX8_whyNoStand_71 ?_
            refine hiconst (v := 1) X dX8_whyNoStand_72 rfl ?_
            refine hicmp_eq (tgt := 94) X dX8_whyNoStand_73 (by decide) (fun c6 => ?_) (fun c6 => ?_)
            · refine hbipush (v := (-5)) X dX8_whyNoStand_94 rfl ?_
              refine hgoto (tgt := 100) X dX8_whyNoStand_96 (by decide) ?_
              refine hiret X dX8_whyNoStand_100 ⟨congrArg (fun z => some (Value.int z)) (?_ : (-5) = whyS E w1 w2 w3 w4), ?_⟩
              · first | (simp [whyS, c1, c2, c3, c4, c5, c6]; done) | (simp [whyS, hx, nI_clamp (show j < 2 ^ 31 by omega), c1, c2, c3, c4, c5, c6]; done) | (subst hx; simp [whyS, nI_clamp (show j < 2 ^ 31 by omega), c1, c2, c3, c4, c5, c6]; done)
              rfl
            · refine hiload X dX8_whyNoStand_76 rfl ?_
              refine hbipush (v := (-6)) X dX8_whyNoStand_78 rfl ?_
              refine hicmp_eq (tgt := 99) X dX8_whyNoStand_80 (by decide) (fun c7 => ?_) (fun c7 => ?_)
              rotate_left
              · exact absurd c4 c7
              refine hiconst (v := 0) X dX8_whyNoStand_99 rfl ?_
              refine hiret X dX8_whyNoStand_100 ⟨congrArg (fun z => some (Value.int z)) (?_ : 0 = whyS E w1 w2 w3 w4), ?_⟩
              · first | (simp [whyS, c1, c2, c3, c4, c5, c6]; done) | (simp [whyS, hx, nI_clamp (show j < 2 ^ 31 by omega), c1, c2, c3, c4, c5, c6]; done) | (subst hx; simp [whyS, nI_clamp (show j < 2 ^ 31 by omega), c1, c2, c3, c4, c5, c6]; done)
              rfl
          · refine hbipush (v := (-4)) X dX8_whyNoStand_62 rfl ?_
            refine hiret X dX8_whyNoStand_64 ⟨congrArg (fun z => some (Value.int z)) (?_ : (-4) = whyS E w1 w2 w3 w4), ?_⟩
            · unfold whyS
              rw [if_neg (by simp [c1, c2, c3]), if_neg (fun q => q.1 c4), if_pos c5]
            rfl
        · refine haload_n X dX8_whyNoStand_40 rfl ?_
          refine hiload X dX8_whyNoStand_41 rfl ?_
          refine hcallV0 (C := RX8) (T := TX8) (N := 14) (As := [.int w4]) (rest := []) (st' := [.int (bI (wI w4 0 (E 0 4 - 1)))]) (w := mW G q E) X (q0 := 0) (kX8_isStand l G q E w4) gX8_whyNoStand_X8_isStand rfl (n := 1) (by decide +kernel) (by decide) rfl rfl rfl rfl (Nat.le_of_ble_eq_true rfl) dX8_whyNoStand_43 rfl rfl (by decide) rfl ?_
          refine hif_neB (tgt := 51) X dX8_whyNoStand_46 (by decide) (fun c8 => ?_) (fun c8 => ?_)
          · obtain ⟨j, hj, hx⟩ := wI_in (n := n) (by omega) (h.h4 ▸ c8)
            refine haload_n X dX8_whyNoStand_51 rfl ?_
            refine hget1 X (T := TX8) (N := 14) iX8 0 rfl rfl 0 (by decide) (by decide +kernel) rfl dX8_whyNoStand_52 ?_
            refine hiconst (v := 4) X dX8_whyNoStand_55 rfl ?_
            refine hiald (n := 250) (f := E 0) X 1 rfl 4 rfl (by omega) (by decide) dX8_whyNoStand_56 ?_
            refine hbipush (v := 20) X dX8_whyNoStand_57 rfl ?_
            refine hicmp_ne (tgt := 65) X dX8_whyNoStand_59 (by decide) (fun c9 => ?_) (fun c9 => ?_)
            · refine haload_n X dX8_whyNoStand_65 rfl ?_
              refine hget1 X (T := TX8) (N := 14) iX8 0 rfl rfl 0 (by decide) (by decide +kernel) rfl dX8_whyNoStand_66 ?_
              refine hbipush (v := 6) X dX8_whyNoStand_69 rfl ?_
              refine hiald (n := 250) (f := E 0) X 1 rfl 6 rfl (by omega) (by decide) dX8_whyNoStand_71 ?_
              refine hiconst (v := 1) X dX8_whyNoStand_72 rfl ?_
              refine hicmp_eq (tgt := 94) X dX8_whyNoStand_73 (by decide) (fun c10 => ?_) (fun c10 => ?_)
              · refine hbipush (v := (-5)) X dX8_whyNoStand_94 rfl ?_
                refine hgoto (tgt := 100) X dX8_whyNoStand_96 (by decide) ?_
                refine hiret X dX8_whyNoStand_100 ⟨congrArg (fun z => some (Value.int z)) (?_ : (-5) = whyS E w1 w2 w3 w4), ?_⟩
                · first | (simp [whyS, c1, c2, c3, c4, c8, c9, c10]; done) | (simp [whyS, hx, nI_clamp (show j < 2 ^ 31 by omega), c1, c2, c3, c4, c8, c9, c10]; done) | (subst hx; simp [whyS, nI_clamp (show j < 2 ^ 31 by omega), c1, c2, c3, c4, c8, c9, c10]; done)
                rfl
              · refine hiload X dX8_whyNoStand_76 rfl ?_
                refine hbipush (v := (-6)) X dX8_whyNoStand_78 rfl ?_
                refine hicmp_eq (tgt := 99) X dX8_whyNoStand_80 (by decide) (fun c11 => ?_) (fun c11 => ?_)
                · exact absurd c11 c4
                refine haload_n X dX8_whyNoStand_83 rfl ?_
                refine hiload X dX8_whyNoStand_84 rfl ?_
                refine hbipush (v := 6) X dX8_whyNoStand_86 rfl ?_
                refine hV_st (st' := [.int 6, .int (nI j), .ref (q 0)]) (congrArg (fun z => ([.int 6, Value.int z, .ref (q 0)] : List Value)) (hx)) ?_
                refine hcallV0 (C := RX8) (T := TX8) (N := 14) (As := [.int (nI j), .int 6]) (rest := []) (st' := [.int (bI (E 0 (8 + 10 * j + 4) = 6))]) (w := mW G q E) X (q0 := 0) (kX8_isHow l G q E j 6 (by first | assumption | omega | simp [fs_at, *])) gX8_whyNoStand_X8_isHow rfl (n := 2) (by decide +kernel) (by decide) rfl rfl rfl rfl (Nat.le_of_ble_eq_true rfl) dX8_whyNoStand_88 rfl rfl (by decide) rfl ?_
                refine hif_eqB (tgt := 99) X dX8_whyNoStand_91 (by decide) (fun c12 => ?_) (fun c12 => ?_)
                · refine hiconst (v := 0) X dX8_whyNoStand_99 rfl ?_
                  refine hiret X dX8_whyNoStand_100 ⟨congrArg (fun z => some (Value.int z)) (?_ : 0 = whyS E w1 w2 w3 w4), ?_⟩
                  · first | (simp [whyS, c1, c2, c3, c4, c8, c9, c10, c12]; done) | (simp [whyS, hx, nI_clamp (show j < 2 ^ 31 by omega), c1, c2, c3, c4, c8, c9, c10, c12]; done) | (subst hx; simp [whyS, nI_clamp (show j < 2 ^ 31 by omega), c1, c2, c3, c4, c8, c9, c10, c12]; done)
                  rfl
                · refine hbipush (v := (-5)) X dX8_whyNoStand_94 rfl ?_
                  refine hgoto (tgt := 100) X dX8_whyNoStand_96 (by decide) ?_
                  refine hiret X dX8_whyNoStand_100 ⟨congrArg (fun z => some (Value.int z)) (?_ : (-5) = whyS E w1 w2 w3 w4), ?_⟩
                  · first | (simp [whyS, c1, c2, c3, c4, c8, c9, c10, c12]; done) | (simp [whyS, hx, nI_clamp (show j < 2 ^ 31 by omega), c1, c2, c3, c4, c8, c9, c10, c12]; done) | (subst hx; simp [whyS, nI_clamp (show j < 2 ^ 31 by omega), c1, c2, c3, c4, c8, c9, c10, c12]; done)
                  rfl
            · refine hbipush (v := (-4)) X dX8_whyNoStand_62 rfl ?_
              refine hiret X dX8_whyNoStand_64 ⟨congrArg (fun z => some (Value.int z)) (?_ : (-4) = whyS E w1 w2 w3 w4), ?_⟩
              · unfold whyS
                rw [if_neg (by simp [c1, c2, c3]), if_neg (fun q => q.2 c8), if_pos c9]
              rfl
          · refine hiconst (v := (-1)) X dX8_whyNoStand_49 rfl ?_
            refine hiret X dX8_whyNoStand_50 ⟨congrArg (fun z => some (Value.int z)) (?_ : (-1) = whyS E w1 w2 w3 w4), ?_⟩
            · first | (simp [whyS, c1, c2, c3, c4, c8]; done) | (simp [whyS, hx, nI_clamp (show j < 2 ^ 31 by omega), c1, c2, c3, c4, c8]; done) | (subst hx; simp [whyS, nI_clamp (show j < 2 ^ 31 by omega), c1, c2, c3, c4, c8]; done)
            rfl
      · refine hbipush (v := (-2)) X dX8_whyNoStand_30 rfl ?_
        refine hiret X dX8_whyNoStand_32 ⟨congrArg (fun z => some (Value.int z)) (?_ : (-2) = whyS E w1 w2 w3 w4), ?_⟩
        · first | (simp [whyS, c1, c2, c3]; done) | (simp [whyS, hx, nI_clamp (show j < 2 ^ 31 by omega), c1, c2, c3]; done) | (subst hx; simp [whyS, nI_clamp (show j < 2 ^ 31 by omega), c1, c2, c3]; done)
        rfl

set_option maxHeartbeats 4000000 in
set_option maxRecDepth 100000 in
theorem kX8_comes (l : Launch) (G : hG) (q : Nat → Nat) (E : hF) (n c : Nat) (h : mOk n c E) (hn : n < 20) (w1 w2 w3 w4 : Int32) : hM l G yX8_comes wsX8_comes ({ frames := 2, cells := 0, slots := 0, locals := 63 }) (mW G q E) [.ref (q 0), .int w1, .int w2, .int w3, .int w4] (hR (some (.int (nI n))) (mW G q (cmsE E n w1 w2 w3 w4))) := by
  refine hM_of (cc := cX8_comes) (maxL := 6) (ret := (some .int)) (by decide) rfl (Nat.le_of_ble_eq_true rfl) ?_
  intro pp ee ss mm aa bb me cd X hin
  have iX8 : ∀ w ∈ wsX80, w ∈ wsX8_comes := by decide +kernel
  refine haload_n X dX8_comes_0 rfl ?_
  refine hget1 X (T := TX8) (N := 14) iX8 0 rfl rfl 0 (by decide) (by decide +kernel) rfl dX8_comes_1 ?_
  refine hiconst (v := 4) X dX8_comes_4 rfl ?_
  refine hiald (n := 250) (f := E 0) X 1 rfl 4 rfl (by omega) (by decide) dX8_comes_5 ?_
  refine hV_st (st' := [.int (nI n)]) (congrArg (fun z => Value.int z :: []) (h.h4)) ?_
  refine histore (lv' := [(5, .int (nI n)), (0, .ref (q 0)), (1, .int w1), (2, .int w2), (3, .int w3), (4, .int w4)]) X dX8_comes_6 (by decide) rfl ?_
  refine haload_n X dX8_comes_8 rfl ?_
  refine hiload X dX8_comes_9 rfl ?_
  refine hiconst (v := 0) X dX8_comes_11 rfl ?_
  refine hiload_n X dX8_comes_12 rfl ?_
  refine hcallV0 (C := RX8) (T := TX8) (N := 14) (As := [.int (nI n), .int (nI 0), .int w1]) (rest := []) (st' := []) (w := mW G q (fs E 0 (8 + 10 * n + 0) w1)) X (q0 := 0) (kX8_setPart l G q E n 0 w1 (by first | assumption | omega | simp [fs_at, *]) (by first | assumption | omega | simp [fs_at, *])) gX8_comes_X8_setPart rfl (n := 3) (by decide +kernel) (by decide) rfl rfl rfl rfl (Nat.le_of_ble_eq_true rfl) dX8_comes_13 rfl rfl (by decide) rfl ?_
  refine haload_n X dX8_comes_16 rfl ?_
  refine hiload X dX8_comes_17 rfl ?_
  refine hiconst (v := 1) X dX8_comes_19 rfl ?_
  refine hiload_n X dX8_comes_20 rfl ?_
  refine hcallV0 (C := RX8) (T := TX8) (N := 14) (As := [.int (nI n), .int (nI 1), .int w2]) (rest := []) (st' := []) (w := mW G q (fs (fs E 0 (8 + 10 * n + 0) w1) 0 (8 + 10 * n + 1) w2)) X (q0 := 0) (kX8_setPart l G q (fs E 0 (8 + 10 * n + 0) w1) n 1 w2 (by first | assumption | omega | simp [fs_at, *]) (by first | assumption | omega | simp [fs_at, *])) gX8_comes_X8_setPart rfl (n := 3) (by decide +kernel) (by decide) rfl rfl rfl rfl (Nat.le_of_ble_eq_true rfl) dX8_comes_21 rfl rfl (by decide) rfl ?_
  refine haload_n X dX8_comes_24 rfl ?_
  refine hiload X dX8_comes_25 rfl ?_
  refine hiconst (v := 2) X dX8_comes_27 rfl ?_
  refine hiload_n X dX8_comes_28 rfl ?_
  refine hcallV0 (C := RX8) (T := TX8) (N := 14) (As := [.int (nI n), .int (nI 2), .int w3]) (rest := []) (st' := []) (w := mW G q (fs (fs (fs E 0 (8 + 10 * n + 0) w1) 0 (8 + 10 * n + 1) w2) 0 (8 + 10 * n + 2) w3)) X (q0 := 0) (kX8_setPart l G q (fs (fs E 0 (8 + 10 * n + 0) w1) 0 (8 + 10 * n + 1) w2) n 2 w3 (by first | assumption | omega | simp [fs_at, *]) (by first | assumption | omega | simp [fs_at, *])) gX8_comes_X8_setPart rfl (n := 3) (by decide +kernel) (by decide) rfl rfl rfl rfl (Nat.le_of_ble_eq_true rfl) dX8_comes_29 rfl rfl (by decide) rfl ?_
  refine haload_n X dX8_comes_32 rfl ?_
  refine hiload X dX8_comes_33 rfl ?_
  refine hiconst (v := 3) X dX8_comes_35 rfl ?_
  refine hiload X dX8_comes_36 rfl ?_
  refine hcallV0 (C := RX8) (T := TX8) (N := 14) (As := [.int (nI n), .int (nI 3), .int w4]) (rest := []) (st' := []) (w := mW G q (fs (fs (fs (fs E 0 (8 + 10 * n + 0) w1) 0 (8 + 10 * n + 1) w2) 0 (8 + 10 * n + 2) w3) 0 (8 + 10 * n + 3) w4)) X (q0 := 0) (kX8_setPart l G q (fs (fs (fs E 0 (8 + 10 * n + 0) w1) 0 (8 + 10 * n + 1) w2) 0 (8 + 10 * n + 2) w3) n 3 w4 (by first | assumption | omega | simp [fs_at, *]) (by first | assumption | omega | simp [fs_at, *])) gX8_comes_X8_setPart rfl (n := 3) (by decide +kernel) (by decide) rfl rfl rfl rfl (Nat.le_of_ble_eq_true rfl) dX8_comes_38 rfl rfl (by decide) rfl ?_
  refine haload_n X dX8_comes_41 rfl ?_
  refine hiload X dX8_comes_42 rfl ?_
  refine hiconst (v := 4) X dX8_comes_44 rfl ?_
  refine hiconst (v := 0) X dX8_comes_45 rfl ?_
  refine hcallV0 (C := RX8) (T := TX8) (N := 14) (As := [.int (nI n), .int (nI 4), .int 0]) (rest := []) (st' := []) (w := mW G q (fs (fs (fs (fs (fs E 0 (8 + 10 * n + 0) w1) 0 (8 + 10 * n + 1) w2) 0 (8 + 10 * n + 2) w3) 0 (8 + 10 * n + 3) w4) 0 (8 + 10 * n + 4) 0)) X (q0 := 0) (kX8_setPart l G q (fs (fs (fs (fs E 0 (8 + 10 * n + 0) w1) 0 (8 + 10 * n + 1) w2) 0 (8 + 10 * n + 2) w3) 0 (8 + 10 * n + 3) w4) n 4 0 (by first | assumption | omega | simp [fs_at, *]) (by first | assumption | omega | simp [fs_at, *])) gX8_comes_X8_setPart rfl (n := 3) (by decide +kernel) (by decide) rfl rfl rfl rfl (Nat.le_of_ble_eq_true rfl) dX8_comes_46 rfl rfl (by decide) rfl ?_
  refine haload_n X dX8_comes_49 rfl ?_
  refine hiload X dX8_comes_50 rfl ?_
  refine hiconst (v := 5) X dX8_comes_52 rfl ?_
  refine hiload_n X dX8_comes_53 rfl ?_
  refine hcallV0 (C := RX8) (T := TX8) (N := 14) (As := [.int (nI n), .int (nI 5), .int w1]) (rest := []) (st' := []) (w := mW G q (fs (fs (fs (fs (fs (fs E 0 (8 + 10 * n + 0) w1) 0 (8 + 10 * n + 1) w2) 0 (8 + 10 * n + 2) w3) 0 (8 + 10 * n + 3) w4) 0 (8 + 10 * n + 4) 0) 0 (8 + 10 * n + 5) w1)) X (q0 := 0) (kX8_setPart l G q (fs (fs (fs (fs (fs E 0 (8 + 10 * n + 0) w1) 0 (8 + 10 * n + 1) w2) 0 (8 + 10 * n + 2) w3) 0 (8 + 10 * n + 3) w4) 0 (8 + 10 * n + 4) 0) n 5 w1 (by first | assumption | omega | simp [fs_at, *]) (by first | assumption | omega | simp [fs_at, *])) gX8_comes_X8_setPart rfl (n := 3) (by decide +kernel) (by decide) rfl rfl rfl rfl (Nat.le_of_ble_eq_true rfl) dX8_comes_54 rfl rfl (by decide) rfl ?_
  refine haload_n X dX8_comes_57 rfl ?_
  refine hiload X dX8_comes_58 rfl ?_
  refine hbipush (v := 6) X dX8_comes_60 rfl ?_
  refine hbipush (v := (-6)) X dX8_comes_62 rfl ?_
  refine hcallV0 (C := RX8) (T := TX8) (N := 14) (As := [.int (nI n), .int (nI 6), .int (-6)]) (rest := []) (st' := []) (w := mW G q (fs (fs (fs (fs (fs (fs (fs E 0 (8 + 10 * n + 0) w1) 0 (8 + 10 * n + 1) w2) 0 (8 + 10 * n + 2) w3) 0 (8 + 10 * n + 3) w4) 0 (8 + 10 * n + 4) 0) 0 (8 + 10 * n + 5) w1) 0 (8 + 10 * n + 6) (-6))) X (q0 := 0) (kX8_setPart l G q (fs (fs (fs (fs (fs (fs E 0 (8 + 10 * n + 0) w1) 0 (8 + 10 * n + 1) w2) 0 (8 + 10 * n + 2) w3) 0 (8 + 10 * n + 3) w4) 0 (8 + 10 * n + 4) 0) 0 (8 + 10 * n + 5) w1) n 6 (-6) (by first | assumption | omega | simp [fs_at, *]) (by first | assumption | omega | simp [fs_at, *])) gX8_comes_X8_setPart rfl (n := 3) (by decide +kernel) (by decide) rfl rfl rfl rfl (Nat.le_of_ble_eq_true rfl) dX8_comes_64 rfl rfl (by decide) rfl ?_
  refine haload_n X dX8_comes_67 rfl ?_
  refine hiload X dX8_comes_68 rfl ?_
  refine hbipush (v := 7) X dX8_comes_70 rfl ?_
  refine hbipush (v := (-6)) X dX8_comes_72 rfl ?_
  refine hcallV0 (C := RX8) (T := TX8) (N := 14) (As := [.int (nI n), .int (nI 7), .int (-6)]) (rest := []) (st' := []) (w := mW G q (fs (fs (fs (fs (fs (fs (fs (fs E 0 (8 + 10 * n + 0) w1) 0 (8 + 10 * n + 1) w2) 0 (8 + 10 * n + 2) w3) 0 (8 + 10 * n + 3) w4) 0 (8 + 10 * n + 4) 0) 0 (8 + 10 * n + 5) w1) 0 (8 + 10 * n + 6) (-6)) 0 (8 + 10 * n + 7) (-6))) X (q0 := 0) (kX8_setPart l G q (fs (fs (fs (fs (fs (fs (fs E 0 (8 + 10 * n + 0) w1) 0 (8 + 10 * n + 1) w2) 0 (8 + 10 * n + 2) w3) 0 (8 + 10 * n + 3) w4) 0 (8 + 10 * n + 4) 0) 0 (8 + 10 * n + 5) w1) 0 (8 + 10 * n + 6) (-6)) n 7 (-6) (by first | assumption | omega | simp [fs_at, *]) (by first | assumption | omega | simp [fs_at, *])) gX8_comes_X8_setPart rfl (n := 3) (by decide +kernel) (by decide) rfl rfl rfl rfl (Nat.le_of_ble_eq_true rfl) dX8_comes_74 rfl rfl (by decide) rfl ?_
  refine haload_n X dX8_comes_77 rfl ?_
  refine hiload X dX8_comes_78 rfl ?_
  refine hbipush (v := 8) X dX8_comes_80 rfl ?_
  refine hiconst (v := 0) X dX8_comes_82 rfl ?_
  refine hcallV0 (C := RX8) (T := TX8) (N := 14) (As := [.int (nI n), .int (nI 8), .int 0]) (rest := []) (st' := []) (w := mW G q (fs (fs (fs (fs (fs (fs (fs (fs (fs E 0 (8 + 10 * n + 0) w1) 0 (8 + 10 * n + 1) w2) 0 (8 + 10 * n + 2) w3) 0 (8 + 10 * n + 3) w4) 0 (8 + 10 * n + 4) 0) 0 (8 + 10 * n + 5) w1) 0 (8 + 10 * n + 6) (-6)) 0 (8 + 10 * n + 7) (-6)) 0 (8 + 10 * n + 8) 0)) X (q0 := 0) (kX8_setPart l G q (fs (fs (fs (fs (fs (fs (fs (fs E 0 (8 + 10 * n + 0) w1) 0 (8 + 10 * n + 1) w2) 0 (8 + 10 * n + 2) w3) 0 (8 + 10 * n + 3) w4) 0 (8 + 10 * n + 4) 0) 0 (8 + 10 * n + 5) w1) 0 (8 + 10 * n + 6) (-6)) 0 (8 + 10 * n + 7) (-6)) n 8 0 (by first | assumption | omega | simp [fs_at, *]) (by first | assumption | omega | simp [fs_at, *])) gX8_comes_X8_setPart rfl (n := 3) (by decide +kernel) (by decide) rfl rfl rfl rfl (Nat.le_of_ble_eq_true rfl) dX8_comes_83 rfl rfl (by decide) rfl ?_
  refine haload_n X dX8_comes_86 rfl ?_
  refine hiload X dX8_comes_87 rfl ?_
  refine hbipush (v := 9) X dX8_comes_89 rfl ?_
  refine hiconst (v := 0) X dX8_comes_91 rfl ?_
  refine hcallV0 (C := RX8) (T := TX8) (N := 14) (As := [.int (nI n), .int (nI 9), .int 0]) (rest := []) (st' := []) (w := mW G q (fs (fs (fs (fs (fs (fs (fs (fs (fs (fs E 0 (8 + 10 * n + 0) w1) 0 (8 + 10 * n + 1) w2) 0 (8 + 10 * n + 2) w3) 0 (8 + 10 * n + 3) w4) 0 (8 + 10 * n + 4) 0) 0 (8 + 10 * n + 5) w1) 0 (8 + 10 * n + 6) (-6)) 0 (8 + 10 * n + 7) (-6)) 0 (8 + 10 * n + 8) 0) 0 (8 + 10 * n + 9) 0)) X (q0 := 0) (kX8_setPart l G q (fs (fs (fs (fs (fs (fs (fs (fs (fs E 0 (8 + 10 * n + 0) w1) 0 (8 + 10 * n + 1) w2) 0 (8 + 10 * n + 2) w3) 0 (8 + 10 * n + 3) w4) 0 (8 + 10 * n + 4) 0) 0 (8 + 10 * n + 5) w1) 0 (8 + 10 * n + 6) (-6)) 0 (8 + 10 * n + 7) (-6)) 0 (8 + 10 * n + 8) 0) n 9 0 (by first | assumption | omega | simp [fs_at, *]) (by first | assumption | omega | simp [fs_at, *])) gX8_comes_X8_setPart rfl (n := 3) (by decide +kernel) (by decide) rfl rfl rfl rfl (Nat.le_of_ble_eq_true rfl) dX8_comes_92 rfl rfl (by decide) rfl ?_
  refine haload_n X dX8_comes_95 rfl ?_
  refine hget1 X (T := TX8) (N := 14) iX8 0 rfl rfl 0 (by decide) (by decide +kernel) rfl dX8_comes_96 ?_
  refine hiconst (v := 4) X dX8_comes_99 rfl ?_
  refine hdup2 X dX8_comes_100 rfl rfl ?_
  refine hiald (n := 250) (f := (fs (fs (fs (fs (fs (fs (fs (fs (fs (fs E 0 (8 + 10 * n + 0) w1) 0 (8 + 10 * n + 1) w2) 0 (8 + 10 * n + 2) w3) 0 (8 + 10 * n + 3) w4) 0 (8 + 10 * n + 4) 0) 0 (8 + 10 * n + 5) w1) 0 (8 + 10 * n + 6) (-6)) 0 (8 + 10 * n + 7) (-6)) 0 (8 + 10 * n + 8) 0) 0 (8 + 10 * n + 9) 0) 0) X 1 rfl 4 rfl (by omega) (by decide) dX8_comes_101 ?_
  have r1 : ((fs (fs (fs (fs (fs (fs (fs (fs (fs (fs E 0 (8 + 10 * n + 0) w1) 0 (8 + 10 * n + 1) w2) 0 (8 + 10 * n + 2) w3) 0 (8 + 10 * n + 3) w4) 0 (8 + 10 * n + 4) 0) 0 (8 + 10 * n + 5) w1) 0 (8 + 10 * n + 6) (-6)) 0 (8 + 10 * n + 7) (-6)) 0 (8 + 10 * n + 8) 0) 0 (8 + 10 * n + 9) 0) 0 4 : Int32) = E 0 4 := by rw [fs_at, if_neg (by omega), fs_at, if_neg (by omega), fs_at, if_neg (by omega), fs_at, if_neg (by omega), fs_at, if_neg (by omega), fs_at, if_neg (by omega), fs_at, if_neg (by omega), fs_at, if_neg (by omega), fs_at, if_neg (by omega), fs_at, if_neg (by omega)]
  refine hV_st (st' := [.int (E 0 4), .int 4, .ref (q 1)]) (congrArg (fun z => Value.int z :: [.int 4, .ref (q 1)]) r1) ?_
  refine hV_st (st' := [.int (nI n), .int 4, .ref (q 1)]) (congrArg (fun z => Value.int z :: [.int 4, .ref (q 1)]) (h.h4)) ?_
  refine hiconst (v := 1) X dX8_comes_102 rfl ?_
  refine hiadd X dX8_comes_103 ?_
  refine hiast (n := 250) (f := (fs (fs (fs (fs (fs (fs (fs (fs (fs (fs E 0 (8 + 10 * n + 0) w1) 0 (8 + 10 * n + 1) w2) 0 (8 + 10 * n + 2) w3) 0 (8 + 10 * n + 3) w4) 0 (8 + 10 * n + 4) 0) 0 (8 + 10 * n + 5) w1) 0 (8 + 10 * n + 6) (-6)) 0 (8 + 10 * n + 7) (-6)) 0 (8 + 10 * n + 8) 0) 0 (8 + 10 * n + 9) 0) 0) X 1 rfl 4 rfl (by omega) (by decide) dX8_comes_104 (ws' := mW G q (fs (fs (fs (fs (fs (fs (fs (fs (fs (fs (fs E 0 (8 + 10 * n + 0) w1) 0 (8 + 10 * n + 1) w2) 0 (8 + 10 * n + 2) w3) 0 (8 + 10 * n + 3) w4) 0 (8 + 10 * n + 4) 0) 0 (8 + 10 * n + 5) w1) 0 (8 + 10 * n + 6) (-6)) 0 (8 + 10 * n + 7) (-6)) 0 (8 + 10 * n + 8) 0) 0 (8 + 10 * n + 9) 0) 0 4 ((nI n) + 1))) rfl ?_
  refine hiload X dX8_comes_105 rfl ?_
  refine hiret X dX8_comes_107 ⟨rfl, ?_⟩
  refine congrArg (mW G q) (?_ : (fs (fs (fs (fs (fs (fs (fs (fs (fs (fs (fs E 0 (8 + 10 * n + 0) w1) 0 (8 + 10 * n + 1) w2) 0 (8 + 10 * n + 2) w3) 0 (8 + 10 * n + 3) w4) 0 (8 + 10 * n + 4) 0) 0 (8 + 10 * n + 5) w1) 0 (8 + 10 * n + 6) (-6)) 0 (8 + 10 * n + 7) (-6)) 0 (8 + 10 * n + 8) 0) 0 (8 + 10 * n + 9) 0) 0 4 ((nI n) + 1) : hF) = cmsE E n w1 w2 w3 w4)
  simp [cmsE]
end

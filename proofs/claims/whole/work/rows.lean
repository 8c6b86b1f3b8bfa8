section
-- ===== PART A: goes FIRST, ahead of the names: the tables' words, and 'selects' of the private methods out of them =====
/-- a private method of a class that the tables say can be made, by its rows of tables_1 -/
def lw_okq (q : MethodName × Nat) : Prop := (q.1.cls ≠ "java/lang/invoke/MethodHandle" ∧ q.1.cls ≠ "java/lang/invoke/VarHandle") ∧ Cond.instantiable q.1.cls q.2 ∈ tables_1 ∧ Cond.privateMethod q.1 ∈ tables_1 ∧ Cond.instanceMethod q.1 ∈ tables_1
theorem lw_p0 : lw_okq (⟨"CostChecker", "methodAt", "(I)LCostChecker$Method;"⟩, 4) := ⟨⟨by decide +kernel, by decide +kernel⟩, List.mem_of_getElem? (i := 16) (by decide +kernel), List.mem_of_getElem? (i := 335) (by decide +kernel), List.mem_of_getElem? (i := 336) (by decide +kernel)⟩
theorem lw_p1 : lw_okq (⟨"CostChecker", "noteChange", "(IZ)Z"⟩, 4) := ⟨⟨by decide +kernel, by decide +kernel⟩, List.mem_of_getElem? (i := 16) (by decide +kernel), List.mem_of_getElem? (i := 346) (by decide +kernel), List.mem_of_getElem? (i := 347) (by decide +kernel)⟩
theorem lw_p2 : lw_okq (⟨"CostChecker", "cutAt", "(II)LCostChecker$Cut;"⟩, 4) := ⟨⟨by decide +kernel, by decide +kernel⟩, List.mem_of_getElem? (i := 16) (by decide +kernel), List.mem_of_getElem? (i := 383) (by decide +kernel), List.mem_of_getElem? (i := 384) (by decide +kernel)⟩
theorem lw_p3 : lw_okq (⟨"CostChecker$Checker", "reasonAtCut", "(LCostChecker$Cut;)I"⟩, 5) := ⟨⟨by decide +kernel, by decide +kernel⟩, List.mem_of_getElem? (i := 208) (by decide +kernel), List.mem_of_getElem? (i := 418) (by decide +kernel), List.mem_of_getElem? (i := 419) (by decide +kernel)⟩
theorem lw_p4 : lw_okq (⟨"CostChecker$Checker", "reasonFrom", "(I)I"⟩, 5) := ⟨⟨by decide +kernel, by decide +kernel⟩, List.mem_of_getElem? (i := 208) (by decide +kernel), List.mem_of_getElem? (i := 467) (by decide +kernel), List.mem_of_getElem? (i := 468) (by decide +kernel)⟩
theorem lw_p5 : lw_okq (⟨"CostChecker$Checker", "reasonAtEnd", "(LCostChecker$Path;LCostChecker$Cut;)I"⟩, 5) := ⟨⟨by decide +kernel, by decide +kernel⟩, List.mem_of_getElem? (i := 208) (by decide +kernel), List.mem_of_getElem? (i := 476) (by decide +kernel), List.mem_of_getElem? (i := 477) (by decide +kernel)⟩
theorem lw_p6 : lw_okq (⟨"CostChecker$Checker", "reasonBehind", "(IZ)I"⟩, 5) := ⟨⟨by decide +kernel, by decide +kernel⟩, List.mem_of_getElem? (i := 208) (by decide +kernel), List.mem_of_getElem? (i := 506) (by decide +kernel), List.mem_of_getElem? (i := 507) (by decide +kernel)⟩
theorem lw_p7 : lw_okq (⟨"CostChecker$Checker", "reasonOfNew", "(LCostChecker$Path;)I"⟩, 5) := ⟨⟨by decide +kernel, by decide +kernel⟩, List.mem_of_getElem? (i := 208) (by decide +kernel), List.mem_of_getElem? (i := 544) (by decide +kernel), List.mem_of_getElem? (i := 545) (by decide +kernel)⟩
theorem lw_p8 : lw_okq (⟨"CostChecker$Checker", "reasonOfCall", "(LCostChecker$Path;LCostChecker$Method;)I"⟩, 5) := ⟨⟨by decide +kernel, by decide +kernel⟩, List.mem_of_getElem? (i := 208) (by decide +kernel), List.mem_of_getElem? (i := 558) (by decide +kernel), List.mem_of_getElem? (i := 559) (by decide +kernel)⟩
theorem lw_p9 : lw_okq (⟨"CostChecker$Path", "pushSum", "(II)V"⟩, 8) := ⟨⟨by decide +kernel, by decide +kernel⟩, List.mem_of_getElem? (i := 236) (by decide +kernel), List.mem_of_getElem? (i := 575) (by decide +kernel), List.mem_of_getElem? (i := 576) (by decide +kernel)⟩
theorem lw_p10 : lw_okq (⟨"CostChecker$Path", "pushDifference", "(II)V"⟩, 8) := ⟨⟨by decide +kernel, by decide +kernel⟩, List.mem_of_getElem? (i := 236) (by decide +kernel), List.mem_of_getElem? (i := 579) (by decide +kernel), List.mem_of_getElem? (i := 580) (by decide +kernel)⟩
theorem lw_p11 : lw_okq (⟨"CostChecker", "measureDepth", "(LCostChecker$Method;)V"⟩, 4) := ⟨⟨by decide +kernel, by decide +kernel⟩, List.mem_of_getElem? (i := 16) (by decide +kernel), List.mem_of_getElem? (i := 612) (by decide +kernel), List.mem_of_getElem? (i := 613) (by decide +kernel)⟩
theorem lw_p12 : lw_okq (⟨"CostChecker$Machine", "step", "()I"⟩, 10) := ⟨⟨by decide +kernel, by decide +kernel⟩, List.mem_of_getElem? (i := 140) (by decide +kernel), List.mem_of_getElem? (i := 637) (by decide +kernel), List.mem_of_getElem? (i := 638) (by decide +kernel)⟩
theorem lw_p13 : lw_okq (⟨"CostChecker$Machine", "perform", "(LCostChecker$Frame;II)I"⟩, 10) := ⟨⟨by decide +kernel, by decide +kernel⟩, List.mem_of_getElem? (i := 140) (by decide +kernel), List.mem_of_getElem? (i := 642) (by decide +kernel), List.mem_of_getElem? (i := 643) (by decide +kernel)⟩
theorem lw_p14 : lw_okq (⟨"CostChecker$Machine", "takeWords", "(I)I"⟩, 10) := ⟨⟨by decide +kernel, by decide +kernel⟩, List.mem_of_getElem? (i := 140) (by decide +kernel), List.mem_of_getElem? (i := 664) (by decide +kernel), List.mem_of_getElem? (i := 665) (by decide +kernel)⟩
theorem lw_p15 : lw_okq (⟨"CostChecker$Machine", "enterCalled", "(LCostChecker$Frame;I)V"⟩, 10) := ⟨⟨by decide +kernel, by decide +kernel⟩, List.mem_of_getElem? (i := 140) (by decide +kernel), List.mem_of_getElem? (i := 669) (by decide +kernel), List.mem_of_getElem? (i := 670) (by decide +kernel)⟩
def lw_privs_1 : List (MethodName × Nat) := [(⟨"CostChecker", "methodAt", "(I)LCostChecker$Method;"⟩, 4), (⟨"CostChecker", "noteChange", "(IZ)Z"⟩, 4), (⟨"CostChecker", "cutAt", "(II)LCostChecker$Cut;"⟩, 4), (⟨"CostChecker$Checker", "reasonAtCut", "(LCostChecker$Cut;)I"⟩, 5), (⟨"CostChecker$Checker", "reasonFrom", "(I)I"⟩, 5), (⟨"CostChecker$Checker", "reasonAtEnd", "(LCostChecker$Path;LCostChecker$Cut;)I"⟩, 5), (⟨"CostChecker$Checker", "reasonBehind", "(IZ)I"⟩, 5), (⟨"CostChecker$Checker", "reasonOfNew", "(LCostChecker$Path;)I"⟩, 5), (⟨"CostChecker$Checker", "reasonOfCall", "(LCostChecker$Path;LCostChecker$Method;)I"⟩, 5), (⟨"CostChecker$Path", "pushSum", "(II)V"⟩, 8), (⟨"CostChecker$Path", "pushDifference", "(II)V"⟩, 8), (⟨"CostChecker", "measureDepth", "(LCostChecker$Method;)V"⟩, 4), (⟨"CostChecker$Machine", "step", "()I"⟩, 10), (⟨"CostChecker$Machine", "perform", "(LCostChecker$Frame;II)I"⟩, 10), (⟨"CostChecker$Machine", "takeWords", "(I)I"⟩, 10), (⟨"CostChecker$Machine", "enterCalled", "(LCostChecker$Frame;I)V"⟩, 10)]
theorem lw_r1 : ∀ q ∈ lw_privs_1, lw_okq q := List.forall_mem_cons.mpr ⟨lw_p0, List.forall_mem_cons.mpr ⟨lw_p1, List.forall_mem_cons.mpr ⟨lw_p2, List.forall_mem_cons.mpr ⟨lw_p3, List.forall_mem_cons.mpr ⟨lw_p4, List.forall_mem_cons.mpr ⟨lw_p5, List.forall_mem_cons.mpr ⟨lw_p6, List.forall_mem_cons.mpr ⟨lw_p7, List.forall_mem_cons.mpr ⟨lw_p8, List.forall_mem_cons.mpr ⟨lw_p9, List.forall_mem_cons.mpr ⟨lw_p10, List.forall_mem_cons.mpr ⟨lw_p11, List.forall_mem_cons.mpr ⟨lw_p12, List.forall_mem_cons.mpr ⟨lw_p13, List.forall_mem_cons.mpr ⟨lw_p14, List.forall_mem_cons.mpr ⟨lw_p15, fun _ h => absurd h List.not_mem_nil⟩⟩⟩⟩⟩⟩⟩⟩⟩⟩⟩⟩⟩⟩⟩⟩
theorem lw_p16 : lw_okq (⟨"CostChecker$Machine", "leave", "(I)I"⟩, 10) := ⟨⟨by decide +kernel, by decide +kernel⟩, List.mem_of_getElem? (i := 140) (by decide +kernel), List.mem_of_getElem? (i := 674) (by decide +kernel), List.mem_of_getElem? (i := 675) (by decide +kernel)⟩
theorem lw_p17 : lw_okq (⟨"CostChecker$Machine", "nextInput", "()I"⟩, 10) := ⟨⟨by decide +kernel, by decide +kernel⟩, List.mem_of_getElem? (i := 140) (by decide +kernel), List.mem_of_getElem? (i := 678) (by decide +kernel), List.mem_of_getElem? (i := 679) (by decide +kernel)⟩
theorem lw_p18 : lw_okq (⟨"CostCheckerModel", "changed", "(I)V"⟩, 33) := ⟨⟨by decide +kernel, by decide +kernel⟩, List.mem_of_getElem? (i := 687) (by decide +kernel), List.mem_of_getElem? (i := 805) (by decide +kernel), List.mem_of_getElem? (i := 806) (by decide +kernel)⟩
theorem lw_p19 : lw_okq (⟨"CostCheckerModel", "plain", "(II)V"⟩, 33) := ⟨⟨by decide +kernel, by decide +kernel⟩, List.mem_of_getElem? (i := 687) (by decide +kernel), List.mem_of_getElem? (i := 813) (by decide +kernel), List.mem_of_getElem? (i := 814) (by decide +kernel)⟩
theorem lw_p20 : lw_okq (⟨"CostCheckerModel", "cutAt", "(II)I"⟩, 33) := ⟨⟨by decide +kernel, by decide +kernel⟩, List.mem_of_getElem? (i := 687) (by decide +kernel), List.mem_of_getElem? (i := 822) (by decide +kernel), List.mem_of_getElem? (i := 823) (by decide +kernel)⟩
theorem lw_p21 : lw_okq (⟨"CostCheckerModel", "checkCut", "(II)I"⟩, 33) := ⟨⟨by decide +kernel, by decide +kernel⟩, List.mem_of_getElem? (i := 687) (by decide +kernel), List.mem_of_getElem? (i := 847) (by decide +kernel), List.mem_of_getElem? (i := 848) (by decide +kernel)⟩
theorem lw_p22 : lw_okq (⟨"CostCheckerModel", "begin", "(I)V"⟩, 33) := ⟨⟨by decide +kernel, by decide +kernel⟩, List.mem_of_getElem? (i := 687) (by decide +kernel), List.mem_of_getElem? (i := 851) (by decide +kernel), List.mem_of_getElem? (i := 852) (by decide +kernel)⟩
theorem lw_p23 : lw_okq (⟨"CostCheckerModel", "know", "(IJJJ)V"⟩, 33) := ⟨⟨by decide +kernel, by decide +kernel⟩, List.mem_of_getElem? (i := 687) (by decide +kernel), List.mem_of_getElem? (i := 856) (by decide +kernel), List.mem_of_getElem? (i := 857) (by decide +kernel)⟩
theorem lw_p24 : lw_okq (⟨"CostCheckerModel", "addTerm", "(IIJJJJJ)V"⟩, 33) := ⟨⟨by decide +kernel, by decide +kernel⟩, List.mem_of_getElem? (i := 687) (by decide +kernel), List.mem_of_getElem? (i := 863) (by decide +kernel), List.mem_of_getElem? (i := 864) (by decide +kernel)⟩
theorem lw_p25 : lw_okq (⟨"CostCheckerModel", "findBounds", "(I)Z"⟩, 33) := ⟨⟨by decide +kernel, by decide +kernel⟩, List.mem_of_getElem? (i := 687) (by decide +kernel), List.mem_of_getElem? (i := 868) (by decide +kernel), List.mem_of_getElem? (i := 869) (by decide +kernel)⟩
theorem lw_p26 : lw_okq (⟨"CostCheckerModel", "negative", "(I)Z"⟩, 33) := ⟨⟨by decide +kernel, by decide +kernel⟩, List.mem_of_getElem? (i := 687) (by decide +kernel), List.mem_of_getElem? (i := 872) (by decide +kernel), List.mem_of_getElem? (i := 873) (by decide +kernel)⟩
theorem lw_p27 : lw_okq (⟨"CostCheckerModel", "advance", "(II)I"⟩, 33) := ⟨⟨by decide +kernel, by decide +kernel⟩, List.mem_of_getElem? (i := 687) (by decide +kernel), List.mem_of_getElem? (i := 876) (by decide +kernel), List.mem_of_getElem? (i := 877) (by decide +kernel)⟩
theorem lw_p28 : lw_okq (⟨"CostCheckerModel", "end", "(II)I"⟩, 33) := ⟨⟨by decide +kernel, by decide +kernel⟩, List.mem_of_getElem? (i := 687) (by decide +kernel), List.mem_of_getElem? (i := 880) (by decide +kernel), List.mem_of_getElem? (i := 881) (by decide +kernel)⟩
theorem lw_p29 : lw_okq (⟨"CostCheckerModel", "localSide", "(II)J"⟩, 33) := ⟨⟨by decide +kernel, by decide +kernel⟩, List.mem_of_getElem? (i := 687) (by decide +kernel), List.mem_of_getElem? (i := 884) (by decide +kernel), List.mem_of_getElem? (i := 885) (by decide +kernel)⟩
theorem lw_p30 : lw_okq (⟨"CostCheckerModel", "localNumber", "(II)J"⟩, 33) := ⟨⟨by decide +kernel, by decide +kernel⟩, List.mem_of_getElem? (i := 687) (by decide +kernel), List.mem_of_getElem? (i := 888) (by decide +kernel), List.mem_of_getElem? (i := 889) (by decide +kernel)⟩
theorem lw_p31 : lw_okq (⟨"CostCheckerModel", "follows", "(JJJJJ)Z"⟩, 33) := ⟨⟨by decide +kernel, by decide +kernel⟩, List.mem_of_getElem? (i := 687) (by decide +kernel), List.mem_of_getElem? (i := 892) (by decide +kernel), List.mem_of_getElem? (i := 893) (by decide +kernel)⟩
def lw_privs_2 : List (MethodName × Nat) := [(⟨"CostChecker$Machine", "leave", "(I)I"⟩, 10), (⟨"CostChecker$Machine", "nextInput", "()I"⟩, 10), (⟨"CostCheckerModel", "changed", "(I)V"⟩, 33), (⟨"CostCheckerModel", "plain", "(II)V"⟩, 33), (⟨"CostCheckerModel", "cutAt", "(II)I"⟩, 33), (⟨"CostCheckerModel", "checkCut", "(II)I"⟩, 33), (⟨"CostCheckerModel", "begin", "(I)V"⟩, 33), (⟨"CostCheckerModel", "know", "(IJJJ)V"⟩, 33), (⟨"CostCheckerModel", "addTerm", "(IIJJJJJ)V"⟩, 33), (⟨"CostCheckerModel", "findBounds", "(I)Z"⟩, 33), (⟨"CostCheckerModel", "negative", "(I)Z"⟩, 33), (⟨"CostCheckerModel", "advance", "(II)I"⟩, 33), (⟨"CostCheckerModel", "end", "(II)I"⟩, 33), (⟨"CostCheckerModel", "localSide", "(II)J"⟩, 33), (⟨"CostCheckerModel", "localNumber", "(II)J"⟩, 33), (⟨"CostCheckerModel", "follows", "(JJJJJ)Z"⟩, 33)]
theorem lw_r2 : ∀ q ∈ lw_privs_2, lw_okq q := List.forall_mem_cons.mpr ⟨lw_p16, List.forall_mem_cons.mpr ⟨lw_p17, List.forall_mem_cons.mpr ⟨lw_p18, List.forall_mem_cons.mpr ⟨lw_p19, List.forall_mem_cons.mpr ⟨lw_p20, List.forall_mem_cons.mpr ⟨lw_p21, List.forall_mem_cons.mpr ⟨lw_p22, List.forall_mem_cons.mpr ⟨lw_p23, List.forall_mem_cons.mpr ⟨lw_p24, List.forall_mem_cons.mpr ⟨lw_p25, List.forall_mem_cons.mpr ⟨lw_p26, List.forall_mem_cons.mpr ⟨lw_p27, List.forall_mem_cons.mpr ⟨lw_p28, List.forall_mem_cons.mpr ⟨lw_p29, List.forall_mem_cons.mpr ⟨lw_p30, List.forall_mem_cons.mpr ⟨lw_p31, fun _ h => absurd h List.not_mem_nil⟩⟩⟩⟩⟩⟩⟩⟩⟩⟩⟩⟩⟩⟩⟩⟩
theorem lw_p32 : lw_okq (⟨"CostCheckerModel", "shown", "(II)Z"⟩, 33) := ⟨⟨by decide +kernel, by decide +kernel⟩, List.mem_of_getElem? (i := 687) (by decide +kernel), List.mem_of_getElem? (i := 896) (by decide +kernel), List.mem_of_getElem? (i := 897) (by decide +kernel)⟩
theorem lw_p33 : lw_okq (⟨"CostCheckerModel", "part", "(IZI)I"⟩, 33) := ⟨⟨by decide +kernel, by decide +kernel⟩, List.mem_of_getElem? (i := 687) (by decide +kernel), List.mem_of_getElem? (i := 903) (by decide +kernel), List.mem_of_getElem? (i := 904) (by decide +kernel)⟩
theorem lw_p34 : lw_okq (⟨"CostCheckerModel", "pop", "(I)I"⟩, 33) := ⟨⟨by decide +kernel, by decide +kernel⟩, List.mem_of_getElem? (i := 687) (by decide +kernel), List.mem_of_getElem? (i := 907) (by decide +kernel), List.mem_of_getElem? (i := 908) (by decide +kernel)⟩
theorem lw_p35 : lw_okq (⟨"CostCheckerModel", "learn", "(IZJJJ)V"⟩, 33) := ⟨⟨by decide +kernel, by decide +kernel⟩, List.mem_of_getElem? (i := 687) (by decide +kernel), List.mem_of_getElem? (i := 911) (by decide +kernel), List.mem_of_getElem? (i := 912) (by decide +kernel)⟩
theorem lw_p36 : lw_okq (⟨"CostCheckerModel", "memory", "(I)I"⟩, 33) := ⟨⟨by decide +kernel, by decide +kernel⟩, List.mem_of_getElem? (i := 687) (by decide +kernel), List.mem_of_getElem? (i := 915) (by decide +kernel), List.mem_of_getElem? (i := 916) (by decide +kernel)⟩
theorem lw_p37 : lw_okq (⟨"CostCheckerModel", "called", "(II)I"⟩, 33) := ⟨⟨by decide +kernel, by decide +kernel⟩, List.mem_of_getElem? (i := 687) (by decide +kernel), List.mem_of_getElem? (i := 920) (by decide +kernel), List.mem_of_getElem? (i := 921) (by decide +kernel)⟩
theorem lw_p38 : lw_okq (⟨"CostCheckerModel", "side", "(III)J"⟩, 33) := ⟨⟨by decide +kernel, by decide +kernel⟩, List.mem_of_getElem? (i := 687) (by decide +kernel), List.mem_of_getElem? (i := 924) (by decide +kernel), List.mem_of_getElem? (i := 925) (by decide +kernel)⟩
theorem lw_p39 : lw_okq (⟨"CostCheckerModel", "extra", "(III)J"⟩, 33) := ⟨⟨by decide +kernel, by decide +kernel⟩, List.mem_of_getElem? (i := 687) (by decide +kernel), List.mem_of_getElem? (i := 928) (by decide +kernel), List.mem_of_getElem? (i := 929) (by decide +kernel)⟩
theorem lw_p40 : lw_okq (⟨"CostCheckerModel", "push", "(IJJ)V"⟩, 33) := ⟨⟨by decide +kernel, by decide +kernel⟩, List.mem_of_getElem? (i := 687) (by decide +kernel), List.mem_of_getElem? (i := 932) (by decide +kernel), List.mem_of_getElem? (i := 933) (by decide +kernel)⟩
theorem lw_p41 : lw_okq (⟨"CostCheckerModel", "simple", "(III)V"⟩, 33) := ⟨⟨by decide +kernel, by decide +kernel⟩, List.mem_of_getElem? (i := 687) (by decide +kernel), List.mem_of_getElem? (i := 936) (by decide +kernel), List.mem_of_getElem? (i := 937) (by decide +kernel)⟩
theorem lw_p42 : lw_okq (⟨"CostCheckerModel", "combine", "(IZJJJJ)V"⟩, 33) := ⟨⟨by decide +kernel, by decide +kernel⟩, List.mem_of_getElem? (i := 687) (by decide +kernel), List.mem_of_getElem? (i := 940) (by decide +kernel), List.mem_of_getElem? (i := 941) (by decide +kernel)⟩
theorem lw_p43 : lw_okq (⟨"CostCheckerModel", "calls", "(II)Z"⟩, 33) := ⟨⟨by decide +kernel, by decide +kernel⟩, List.mem_of_getElem? (i := 687) (by decide +kernel), List.mem_of_getElem? (i := 962) (by decide +kernel), List.mem_of_getElem? (i := 963) (by decide +kernel)⟩
theorem lw_p44 : lw_okq (⟨"CostCheckerModel", "enter", "(IIII)V"⟩, 33) := ⟨⟨by decide +kernel, by decide +kernel⟩, List.mem_of_getElem? (i := 687) (by decide +kernel), List.mem_of_getElem? (i := 977) (by decide +kernel), List.mem_of_getElem? (i := 978) (by decide +kernel)⟩
theorem lw_p45 : lw_okq (⟨"CostCheckerModel", "makeStep", "()I"⟩, 33) := ⟨⟨by decide +kernel, by decide +kernel⟩, List.mem_of_getElem? (i := 687) (by decide +kernel), List.mem_of_getElem? (i := 981) (by decide +kernel), List.mem_of_getElem? (i := 982) (by decide +kernel)⟩
theorem lw_p46 : lw_okq (⟨"CostCheckerModel", "take", "(I)I"⟩, 33) := ⟨⟨by decide +kernel, by decide +kernel⟩, List.mem_of_getElem? (i := 687) (by decide +kernel), List.mem_of_getElem? (i := 985) (by decide +kernel), List.mem_of_getElem? (i := 986) (by decide +kernel)⟩
theorem lw_p47 : lw_okq (⟨"CostCheckerModel", "leave", "(I)I"⟩, 33) := ⟨⟨by decide +kernel, by decide +kernel⟩, List.mem_of_getElem? (i := 687) (by decide +kernel), List.mem_of_getElem? (i := 989) (by decide +kernel), List.mem_of_getElem? (i := 990) (by decide +kernel)⟩
def lw_privs_3 : List (MethodName × Nat) := [(⟨"CostCheckerModel", "shown", "(II)Z"⟩, 33), (⟨"CostCheckerModel", "part", "(IZI)I"⟩, 33), (⟨"CostCheckerModel", "pop", "(I)I"⟩, 33), (⟨"CostCheckerModel", "learn", "(IZJJJ)V"⟩, 33), (⟨"CostCheckerModel", "memory", "(I)I"⟩, 33), (⟨"CostCheckerModel", "called", "(II)I"⟩, 33), (⟨"CostCheckerModel", "side", "(III)J"⟩, 33), (⟨"CostCheckerModel", "extra", "(III)J"⟩, 33), (⟨"CostCheckerModel", "push", "(IJJ)V"⟩, 33), (⟨"CostCheckerModel", "simple", "(III)V"⟩, 33), (⟨"CostCheckerModel", "combine", "(IZJJJJ)V"⟩, 33), (⟨"CostCheckerModel", "calls", "(II)Z"⟩, 33), (⟨"CostCheckerModel", "enter", "(IIII)V"⟩, 33), (⟨"CostCheckerModel", "makeStep", "()I"⟩, 33), (⟨"CostCheckerModel", "take", "(I)I"⟩, 33), (⟨"CostCheckerModel", "leave", "(I)I"⟩, 33)]
theorem lw_r3 : ∀ q ∈ lw_privs_3, lw_okq q := List.forall_mem_cons.mpr ⟨lw_p32, List.forall_mem_cons.mpr ⟨lw_p33, List.forall_mem_cons.mpr ⟨lw_p34, List.forall_mem_cons.mpr ⟨lw_p35, List.forall_mem_cons.mpr ⟨lw_p36, List.forall_mem_cons.mpr ⟨lw_p37, List.forall_mem_cons.mpr ⟨lw_p38, List.forall_mem_cons.mpr ⟨lw_p39, List.forall_mem_cons.mpr ⟨lw_p40, List.forall_mem_cons.mpr ⟨lw_p41, List.forall_mem_cons.mpr ⟨lw_p42, List.forall_mem_cons.mpr ⟨lw_p43, List.forall_mem_cons.mpr ⟨lw_p44, List.forall_mem_cons.mpr ⟨lw_p45, List.forall_mem_cons.mpr ⟨lw_p46, List.forall_mem_cons.mpr ⟨lw_p47, fun _ h => absurd h List.not_mem_nil⟩⟩⟩⟩⟩⟩⟩⟩⟩⟩⟩⟩⟩⟩⟩⟩
theorem lw_p48 : lw_okq (⟨"CostCheckerModel", "give", "(II)V"⟩, 33) := ⟨⟨by decide +kernel, by decide +kernel⟩, List.mem_of_getElem? (i := 687) (by decide +kernel), List.mem_of_getElem? (i := 993) (by decide +kernel), List.mem_of_getElem? (i := 994) (by decide +kernel)⟩
theorem lw_p49 : lw_okq (⟨"CostCheckerModel", "choose", "(IZI)I"⟩, 33) := ⟨⟨by decide +kernel, by decide +kernel⟩, List.mem_of_getElem? (i := 687) (by decide +kernel), List.mem_of_getElem? (i := 997) (by decide +kernel), List.mem_of_getElem? (i := 998) (by decide +kernel)⟩
theorem lw_p50 : lw_okq (⟨"CostCheckerModel", "work", "(III)Z"⟩, 33) := ⟨⟨by decide +kernel, by decide +kernel⟩, List.mem_of_getElem? (i := 687) (by decide +kernel), List.mem_of_getElem? (i := 1001) (by decide +kernel), List.mem_of_getElem? (i := 1002) (by decide +kernel)⟩
def lw_privs_4 : List (MethodName × Nat) := [(⟨"CostCheckerModel", "give", "(II)V"⟩, 33), (⟨"CostCheckerModel", "choose", "(IZI)I"⟩, 33), (⟨"CostCheckerModel", "work", "(III)Z"⟩, 33)]
theorem lw_r4 : ∀ q ∈ lw_privs_4, lw_okq q := List.forall_mem_cons.mpr ⟨lw_p48, List.forall_mem_cons.mpr ⟨lw_p49, List.forall_mem_cons.mpr ⟨lw_p50, fun _ h => absurd h List.not_mem_nil⟩⟩⟩
def lw_privs : List (MethodName × Nat) := lw_privs_1 ++ (lw_privs_2 ++ (lw_privs_3 ++ (lw_privs_4)))
def lw_tbl : List Cond := k2_sels lw_privs ++ tables_1
theorem lw_privs_ok : ∀ q ∈ lw_privs, lw_okq q := by
  show ∀ q ∈ lw_privs_1 ++ (lw_privs_2 ++ (lw_privs_3 ++ (lw_privs_4))), lw_okq q
  exact List.forall_mem_append.mpr ⟨lw_r1, List.forall_mem_append.mpr ⟨lw_r2, List.forall_mem_append.mpr ⟨lw_r3, lw_r4⟩⟩⟩
end
section
/-! names, written by wip/whole/prog/mknames.py -/
def gw_TCC : u_T := fun k => match k with
  | 0 => ("CostChecker", "methods", "[LCostChecker$Method;", true)
  | 1 => ("CostChecker", "machine", "LCostChecker$Machine;", true)
  | 2 => ("CostChecker", "checker", "LCostChecker$Checker;", true)
  | _ => ("CostChecker", "arguments", "[I", true)
def gw_yCC : Nat → FieldType := fun k => match k with
  | 0 => .array (.object "CostChecker$Method")
  | 1 => .object "CostChecker$Machine"
  | 2 => .object "CostChecker$Checker"
  | _ => .array .int
def gw_TMe : u_T := fun k => match k with
  | 0 => ("CostChecker$Method", "number", "I", true)
  | 1 => ("CostChecker$Method", "kinds", "[I", true)
  | 2 => ("CostChecker$Method", "numbers", "[I", true)
  | 3 => ("CostChecker$Method", "length", "I", false)
  | 4 => ("CostChecker$Method", "cuts", "[LCostChecker$Cut;", true)
  | 5 => ("CostChecker$Method", "cutCount", "I", false)
  | 6 => ("CostChecker$Method", "isAccepted", "Z", false)
  | _ => ("CostChecker$Method", "deepest", "I", false)
def gw_yMe : Nat → FieldType := fun k => match k with
  | 0 => .int
  | 1 => .array .int
  | 2 => .array .int
  | 3 => .int
  | 4 => .array (.object "CostChecker$Cut")
  | 5 => .int
  | 6 => .boolean
  | _ => .int
def gw_TCu : u_T := fun k => match k with
  | 0 => ("CostChecker$Cut", "place", "I", false)
  | 1 => ("CostChecker$Cut", "claimCount", "I", false)
  | 2 => ("CostChecker$Cut", "claimA", "[I", true)
  | 3 => ("CostChecker$Cut", "claimB", "[I", true)
  | 4 => ("CostChecker$Cut", "claimC", "[I", true)
  | _ => ("CostChecker$Cut", "potentials", "[LCostChecker$Potential;", true)
def gw_yCu : Nat → FieldType := fun k => match k with
  | 0 => .int
  | 1 => .int
  | 2 => .array .int
  | 3 => .array .int
  | 4 => .array .int
  | _ => .array (.object "CostChecker$Potential")
def gw_TPo : u_T := fun k => match k with
  | 0 => ("CostChecker$Potential", "base", "I", false)
  | 1 => ("CostChecker$Potential", "termCount", "I", false)
  | 2 => ("CostChecker$Potential", "factors", "[I", true)
  | 3 => ("CostChecker$Potential", "termA", "[I", true)
  | _ => ("CostChecker$Potential", "termB", "[I", true)
def gw_yPo : Nat → FieldType := fun k => match k with
  | 0 => .int
  | 1 => .int
  | 2 => .array .int
  | 3 => .array .int
  | _ => .array .int
def gw_TMa : u_T := fun k => match k with
  | 0 => ("CostChecker$Machine", "methods", "[LCostChecker$Method;", true)
  | 1 => ("CostChecker$Machine", "frames", "[LCostChecker$Frame;", true)
  | 2 => ("CostChecker$Machine", "top", "I", false)
  | 3 => ("CostChecker$Machine", "inputs", "[I", true)
  | 4 => ("CostChecker$Machine", "inputCount", "I", false)
  | 5 => ("CostChecker$Machine", "inputsRead", "I", false)
  | 6 => ("CostChecker$Machine", "steps", "I", false)
  | 7 => ("CostChecker$Machine", "words", "I", false)
  | 8 => ("CostChecker$Machine", "mostRunning", "I", false)
  | _ => ("CostChecker$Machine", "returned", "I", false)
def gw_yMa : Nat → FieldType := fun k => match k with
  | 0 => .array (.object "CostChecker$Method")
  | 1 => .array (.object "CostChecker$Frame")
  | 2 => .int
  | 3 => .array .int
  | 4 => .int
  | 5 => .int
  | 6 => .int
  | 7 => .int
  | 8 => .int
  | _ => .int
def gw_TFr : u_T := fun k => match k with
  | 0 => ("CostChecker$Frame", "locals", "[I", true)
  | 1 => ("CostChecker$Frame", "stack", "[I", true)
  | 2 => ("CostChecker$Frame", "size", "I", false)
  | 3 => ("CostChecker$Frame", "method", "I", false)
  | _ => ("CostChecker$Frame", "place", "I", false)
def gw_yFr : Nat → FieldType := fun k => match k with
  | 0 => .array .int
  | 1 => .array .int
  | 2 => .int
  | 3 => .int
  | _ => .int
def gw_TCh : u_T := fun k => match k with
  | 0 => ("CostChecker$Checker", "methods", "[LCostChecker$Method;", true)
  | 1 => ("CostChecker$Checker", "method", "LCostChecker$Method;", false)
  | 2 => ("CostChecker$Checker", "paths", "[LCostChecker$Path;", true)
  | 3 => ("CostChecker$Checker", "called", "LCostChecker$Symbols;", true)
  | _ => ("CostChecker$Checker", "ended", "I", false)
def gw_yCh : Nat → FieldType := fun k => match k with
  | 0 => .array (.object "CostChecker$Method")
  | 1 => .object "CostChecker$Method"
  | 2 => .array (.object "CostChecker$Path")
  | 3 => .object "CostChecker$Symbols"
  | _ => .int
def gw_TPa : u_T := fun k => match k with
  | 0 => ("CostChecker$Path", "locals", "LCostChecker$Symbols;", true)
  | 1 => ("CostChecker$Path", "stackSides", "[I", true)
  | 2 => ("CostChecker$Path", "stackNumbers", "[J", true)
  | 3 => ("CostChecker$Path", "size", "I", false)
  | 4 => ("CostChecker$Path", "place", "I", false)
  | 5 => ("CostChecker$Path", "made", "I", false)
  | 6 => ("CostChecker$Path", "known", "LCostChecker$Known;", true)
  | _ => ("CostChecker$Path", "balances", "[LCostChecker$Balance;", true)
def gw_yPa : Nat → FieldType := fun k => match k with
  | 0 => .object "CostChecker$Symbols"
  | 1 => .array .int
  | 2 => .array .long
  | 3 => .int
  | 4 => .int
  | 5 => .int
  | 6 => .object "CostChecker$Known"
  | _ => .array (.object "CostChecker$Balance")
def gw_TSy : u_T := fun k => match k with
  | 0 => ("CostChecker$Symbols", "sides", "[I", true)
  | _ => ("CostChecker$Symbols", "numbers", "[J", true)
def gw_ySy : Nat → FieldType := fun k => match k with
  | 0 => .array .int
  | _ => .array .long
def gw_TKn : u_T := fun k => match k with
  | _ => ("CostChecker$Known", "bounds", "[J", true)
def gw_yKn : Nat → FieldType := fun k => match k with
  | _ => .array .long
def gw_TBa : u_T := fun k => match k with
  | 0 => ("CostChecker$Balance", "factors", "[J", true)
  | _ => ("CostChecker$Balance", "number", "J", false)
def gw_yBa : Nat → FieldType := fun k => match k with
  | 0 => .array .long
  | _ => .long
def gw_TMo : u_T := fun k => match k with
  | 0 => ("CostCheckerModel", "size", "[I", true)
  | 1 => ("CostCheckerModel", "kind", "[I", true)
  | 2 => ("CostCheckerModel", "number", "[I", true)
  | 3 => ("CostCheckerModel", "accepted", "[Z", true)
  | 4 => ("CostCheckerModel", "cuts", "[I", true)
  | 5 => ("CostCheckerModel", "cutPlace", "[I", true)
  | 6 => ("CostCheckerModel", "claims", "[I", true)
  | 7 => ("CostCheckerModel", "claimA", "[I", true)
  | 8 => ("CostCheckerModel", "claimB", "[I", true)
  | 9 => ("CostCheckerModel", "claimC", "[I", true)
  | 10 => ("CostCheckerModel", "base", "[I", true)
  | 11 => ("CostCheckerModel", "terms", "[I", true)
  | 12 => ("CostCheckerModel", "termK", "[I", true)
  | 13 => ("CostCheckerModel", "termA", "[I", true)
  | 14 => ("CostCheckerModel", "termB", "[I", true)
  | 15 => ("CostCheckerModel", "rows", "[J", true)
  | 16 => ("CostCheckerModel", "waiting", "I", false)
  | 17 => ("CostCheckerModel", "ended", "I", false)
  | 18 => ("CostCheckerModel", "bounds", "[J", true)
  | 19 => ("CostCheckerModel", "longer", "[J", true)
  | 20 => ("CostCheckerModel", "inputs", "[I", true)
  | 21 => ("CostCheckerModel", "fed", "I", false)
  | 22 => ("CostCheckerModel", "frameMethod", "[I", true)
  | 23 => ("CostCheckerModel", "framePlace", "[I", true)
  | 24 => ("CostCheckerModel", "frameSize", "[I", true)
  | 25 => ("CostCheckerModel", "locals", "[I", true)
  | 26 => ("CostCheckerModel", "stack", "[I", true)
  | 27 => ("CostCheckerModel", "frames", "I", false)
  | 28 => ("CostCheckerModel", "used", "I", false)
  | 29 => ("CostCheckerModel", "steps", "I", false)
  | 30 => ("CostCheckerModel", "words", "I", false)
  | 31 => ("CostCheckerModel", "deepest", "I", false)
  | _ => ("CostCheckerModel", "returned", "I", false)
def gw_yMo : Nat → FieldType := fun k => match k with
  | 0 => .array .int
  | 1 => .array .int
  | 2 => .array .int
  | 3 => .array .boolean
  | 4 => .array .int
  | 5 => .array .int
  | 6 => .array .int
  | 7 => .array .int
  | 8 => .array .int
  | 9 => .array .int
  | 10 => .array .int
  | 11 => .array .int
  | 12 => .array .int
  | 13 => .array .int
  | 14 => .array .int
  | 15 => .array .long
  | 16 => .int
  | 17 => .int
  | 18 => .array .long
  | 19 => .array .long
  | 20 => .array .int
  | 21 => .int
  | 22 => .array .int
  | 23 => .array .int
  | 24 => .array .int
  | 25 => .array .int
  | 26 => .array .int
  | 27 => .int
  | 28 => .int
  | 29 => .int
  | 30 => .int
  | 31 => .int
  | _ => .int
abbrev gw_cl : List vw_C := [("CostChecker", gw_TCC, 4), ("CostChecker$Method", gw_TMe, 8), ("CostChecker$Cut", gw_TCu, 6), ("CostChecker$Potential", gw_TPo, 5), ("CostChecker$Machine", gw_TMa, 10), ("CostChecker$Frame", gw_TFr, 5), ("CostChecker$Checker", gw_TCh, 5), ("CostChecker$Path", gw_TPa, 8), ("CostChecker$Symbols", gw_TSy, 2), ("CostChecker$Known", gw_TKn, 1), ("CostChecker$Balance", gw_TBa, 2), ("CostCheckerModel", gw_TMo, 33)]
def gw_N (ci : Nat) : Nat := match ci with
  | 0 => 4
  | 1 => 8
  | 2 => 6
  | 3 => 5
  | 4 => 10
  | 5 => 5
  | 6 => 5
  | 7 => 8
  | 8 => 2
  | 9 => 1
  | 10 => 2
  | 11 => 33
  | _ => 0
def gw_ty (ci : Nat) : Nat → FieldType := match ci with
  | 0 => gw_yCC
  | 1 => gw_yMe
  | 2 => gw_yCu
  | 3 => gw_yPo
  | 4 => gw_yMa
  | 5 => gw_yFr
  | 6 => gw_yCh
  | 7 => gw_yPa
  | 8 => gw_ySy
  | 9 => gw_yKn
  | 10 => gw_yBa
  | 11 => gw_yMo
  | _ => fun _ => .int
def gw_NK : Nat := 10
def gw_kt (k : Nat) : FieldType := match k with
  | 1 => .int
  | 2 => .long
  | 3 => .boolean
  | 4 => .object "CostChecker$Method"
  | 5 => .object "CostChecker$Cut"
  | 6 => .object "CostChecker$Potential"
  | 7 => .object "CostChecker$Frame"
  | 8 => .object "CostChecker$Path"
  | 9 => .object "CostChecker$Balance"
  | _ => .int
theorem gw_kt_obj (t : Nat) (h : t + 4 < gw_NK) : ∃ C, gw_kt (t + 4) = .object C := by
  have h' : t < 6 := by unfold gw_NK at h; omega
  match t, h' with
  | 0, _ => exact ⟨_, rfl⟩
  | 1, _ => exact ⟨_, rfl⟩
  | 2, _ => exact ⟨_, rfl⟩
  | 3, _ => exact ⟨_, rfl⟩
  | 4, _ => exact ⟨_, rfl⟩
  | 5, _ => exact ⟨_, rfl⟩
def gw_tk (j : Nat) : Int32 := match j with
  | 0 => 0
  | 1 => 0
  | 2 => 1
  | 3 => 2
  | 4 => 2
  | 5 => 0
  | 6 => 0
  | 7 => 0
  | 8 => 2
  | 9 => 2
  | 10 => 1
  | 11 => 3
  | 12 => 1
  | 13 => 0
  | 14 => 1
  | _ => 0
def gw_pt (j : Nat) : Int32 := match j with
  | 0 => 1
  | 1 => 1
  | 2 => 0
  | 3 => 1
  | 4 => 1
  | 5 => 0
  | 6 => 0
  | 7 => 0
  | 8 => 0
  | 9 => 0
  | 10 => 0
  | 11 => 1
  | 12 => 0
  | 13 => 1
  | 14 => 0
  | _ => 0
def gw_tC : String := "CostChecker"
def gw_tN : String := "TAKES"
def gw_pN : String := "PUTS"
abbrev n_CC_init : MethodName := ⟨"CostChecker", "<init>", "()V"⟩
abbrev n_Me_init : MethodName := ⟨"CostChecker$Method", "<init>", "(I)V"⟩
abbrev n_Cu_init : MethodName := ⟨"CostChecker$Cut", "<init>", "()V"⟩
abbrev n_Po_init : MethodName := ⟨"CostChecker$Potential", "<init>", "()V"⟩
abbrev n_Ma_init : MethodName := ⟨"CostChecker$Machine", "<init>", "([LCostChecker$Method;)V"⟩
abbrev n_Fr_init : MethodName := ⟨"CostChecker$Frame", "<init>", "()V"⟩
abbrev n_Ch_init : MethodName := ⟨"CostChecker$Checker", "<init>", "([LCostChecker$Method;)V"⟩
abbrev n_Sy_init : MethodName := ⟨"CostChecker$Symbols", "<init>", "()V"⟩
abbrev n_Pa_init : MethodName := ⟨"CostChecker$Path", "<init>", "()V"⟩
abbrev n_Kn_init : MethodName := ⟨"CostChecker$Known", "<init>", "()V"⟩
abbrev n_Ba_init : MethodName := ⟨"CostChecker$Balance", "<init>", "()V"⟩
abbrev n_CC_put : MethodName := ⟨"CostChecker", "put", "(III)I"⟩
abbrev n_CC_methodAt : MethodName := ⟨"CostChecker", "methodAt", "(I)LCostChecker$Method;"⟩
abbrev n_CC_isBetween : MethodName := ⟨"CostChecker", "isBetween", "(III)Z"⟩
abbrev n_Me_append : MethodName := ⟨"CostChecker$Method", "append", "(II)Z"⟩
abbrev n_CC_noteChange : MethodName := ⟨"CostChecker", "noteChange", "(IZ)Z"⟩
abbrev n_CC_clear : MethodName := ⟨"CostChecker", "clear", "(I)Z"⟩
abbrev n_Me_reset : MethodName := ⟨"CostChecker$Method", "reset", "()V"⟩
abbrev n_Cu_reset : MethodName := ⟨"CostChecker$Cut", "reset", "(I)V"⟩
abbrev n_Po_reset : MethodName := ⟨"CostChecker$Potential", "reset", "()V"⟩
abbrev n_CC_cut : MethodName := ⟨"CostChecker", "cut", "(II)Z"⟩
abbrev n_Me_addCut : MethodName := ⟨"CostChecker$Method", "addCut", "(I)Z"⟩
abbrev n_Me_findCut : MethodName := ⟨"CostChecker$Method", "findCut", "(I)LCostChecker$Cut;"⟩
abbrev n_CC_claim : MethodName := ⟨"CostChecker", "claim", "(IIIII)Z"⟩
abbrev n_CC_cutAt : MethodName := ⟨"CostChecker", "cutAt", "(II)LCostChecker$Cut;"⟩
abbrev n_CC_areTwoSides : MethodName := ⟨"CostChecker", "areTwoSides", "(II)Z"⟩
abbrev n_Cu_addClaim : MethodName := ⟨"CostChecker$Cut", "addClaim", "(III)Z"⟩
abbrev n_CC_base : MethodName := ⟨"CostChecker", "base", "(IIII)Z"⟩
abbrev n_CC_isPotential : MethodName := ⟨"CostChecker", "isPotential", "(I)Z"⟩
abbrev n_CC_term : MethodName := ⟨"CostChecker", "term", "(IIIII)Z"⟩
abbrev n_Po_addTerm : MethodName := ⟨"CostChecker$Potential", "addTerm", "(III)Z"⟩
abbrev n_CC_check : MethodName := ⟨"CostChecker", "check", "(I)I"⟩
abbrev n_Ch_answerFor : MethodName := ⟨"CostChecker$Checker", "answerFor", "(LCostChecker$Method;)I"⟩
abbrev n_Ch_reasonAtCut : MethodName := ⟨"CostChecker$Checker", "reasonAtCut", "(LCostChecker$Cut;)I"⟩
abbrev n_Pa_beginAt : MethodName := ⟨"CostChecker$Path", "beginAt", "(LCostChecker$Cut;)Z"⟩
abbrev n_Sy_standForThemselves : MethodName := ⟨"CostChecker$Symbols", "standForThemselves", "()V"⟩
abbrev n_Sy_set : MethodName := ⟨"CostChecker$Symbols", "set", "(IIJ)V"⟩
abbrev n_Ba_reset : MethodName := ⟨"CostChecker$Balance", "reset", "()V"⟩
abbrev n_Ba_addPotential : MethodName := ⟨"CostChecker$Balance", "addPotential", "(ILCostChecker$Potential;LCostChecker$Symbols;)V"⟩
abbrev n_Ba_addDifference : MethodName := ⟨"CostChecker$Balance", "addDifference", "(JII)V"⟩
abbrev n_Kn_forgetAll : MethodName := ⟨"CostChecker$Known", "forgetAll", "()V"⟩
abbrev n_Kn_learnClaims : MethodName := ⟨"CostChecker$Known", "learnClaims", "(LCostChecker$Cut;)Z"⟩
abbrev n_Kn_learn : MethodName := ⟨"CostChecker$Known", "learn", "(IIJ)Z"⟩
abbrev n_Kn_boundOf : MethodName := ⟨"CostChecker$Known", "boundOf", "(II)J"⟩
abbrev n_Kn_allowsNegative : MethodName := ⟨"CostChecker$Known", "allowsNegative", "(LCostChecker$Potential;)Z"⟩
abbrev n_Ch_reasonFrom : MethodName := ⟨"CostChecker$Checker", "reasonFrom", "(I)I"⟩
abbrev n_Me_hasPlace : MethodName := ⟨"CostChecker$Method", "hasPlace", "(I)Z"⟩
abbrev n_Ch_reasonAtEnd : MethodName := ⟨"CostChecker$Checker", "reasonAtEnd", "(LCostChecker$Path;LCostChecker$Cut;)I"⟩
abbrev n_Kn_showsClaims : MethodName := ⟨"CostChecker$Known", "showsClaims", "(LCostChecker$Cut;LCostChecker$Symbols;)Z"⟩
abbrev n_Po_speaksOfNothing : MethodName := ⟨"CostChecker$Potential", "speaksOfNothing", "(LCostChecker$Symbols;)Z"⟩
abbrev n_Ba_isShownNotNegative : MethodName := ⟨"CostChecker$Balance", "isShownNotNegative", "(LCostChecker$Known;)Z"⟩
abbrev n_CC_isCramped : MethodName := ⟨"CostChecker", "isCramped", "([LCostChecker$Method;LCostChecker$Method;II)Z"⟩
abbrev n_Pa_countInstruction : MethodName := ⟨"CostChecker$Path", "countInstruction", "()V"⟩
abbrev n_Ch_reasonBehind : MethodName := ⟨"CostChecker$Checker", "reasonBehind", "(IZ)I"⟩
abbrev n_Pa_drop : MethodName := ⟨"CostChecker$Path", "drop", "(I)V"⟩
abbrev n_Pa_copyFrom : MethodName := ⟨"CostChecker$Path", "copyFrom", "(LCostChecker$Path;)V"⟩
abbrev n_Sy_copyFrom : MethodName := ⟨"CostChecker$Symbols", "copyFrom", "(LCostChecker$Symbols;)V"⟩
abbrev n_Kn_copyFrom : MethodName := ⟨"CostChecker$Known", "copyFrom", "(LCostChecker$Known;)V"⟩
abbrev n_Ba_copyFrom : MethodName := ⟨"CostChecker$Balance", "copyFrom", "(LCostChecker$Balance;)V"⟩
abbrev n_Pa_learnLess : MethodName := ⟨"CostChecker$Path", "learnLess", "(Z)Z"⟩
abbrev n_Ch_reasonOfNew : MethodName := ⟨"CostChecker$Checker", "reasonOfNew", "(LCostChecker$Path;)I"⟩
abbrev n_Kn_showsNotNegative : MethodName := ⟨"CostChecker$Known", "showsNotNegative", "(IJ)Z"⟩
abbrev n_Ba_payWords : MethodName := ⟨"CostChecker$Balance", "payWords", "(IJ)V"⟩
abbrev n_Ch_reasonOfCall : MethodName := ⟨"CostChecker$Checker", "reasonOfCall", "(LCostChecker$Path;LCostChecker$Method;)I"⟩
abbrev n_Pa_push : MethodName := ⟨"CostChecker$Path", "push", "(IJ)V"⟩
abbrev n_Pa_performPlain : MethodName := ⟨"CostChecker$Path", "performPlain", "(II)V"⟩
abbrev n_Pa_pushSum : MethodName := ⟨"CostChecker$Path", "pushSum", "(II)V"⟩
abbrev n_Pa_pushDifference : MethodName := ⟨"CostChecker$Path", "pushDifference", "(II)V"⟩
abbrev n_CC_accepted : MethodName := ⟨"CostChecker", "accepted", "(I)Z"⟩
abbrev n_CC_bound : MethodName := ⟨"CostChecker", "bound", "(IIIII)J"⟩
abbrev n_CC_areValues : MethodName := ⟨"CostChecker", "areValues", "(III)Z"⟩
abbrev n_CC_isValue : MethodName := ⟨"CostChecker", "isValue", "(I)Z"⟩
abbrev n_Cu_holdsFor : MethodName := ⟨"CostChecker$Cut", "holdsFor", "([I)Z"⟩
abbrev n_Po_valueFor : MethodName := ⟨"CostChecker$Potential", "valueFor", "([I)J"⟩
abbrev n_CC_depth : MethodName := ⟨"CostChecker", "depth", "(I)I"⟩
abbrev n_CC_measureDepth : MethodName := ⟨"CostChecker", "measureDepth", "(LCostChecker$Method;)V"⟩
abbrev n_CC_feed : MethodName := ⟨"CostChecker", "feed", "(I)Z"⟩
abbrev n_Ma_addInput : MethodName := ⟨"CostChecker$Machine", "addInput", "(I)Z"⟩
abbrev n_CC_run : MethodName := ⟨"CostChecker", "run", "(IIII)I"⟩
abbrev n_Ma_runToEnd : MethodName := ⟨"CostChecker$Machine", "runToEnd", "(IIII)I"⟩
abbrev n_Fr_enter : MethodName := ⟨"CostChecker$Frame", "enter", "(IIII)V"⟩
abbrev n_Ma_step : MethodName := ⟨"CostChecker$Machine", "step", "()I"⟩
abbrev n_Ma_perform : MethodName := ⟨"CostChecker$Machine", "perform", "(LCostChecker$Frame;II)I"⟩
abbrev n_Fr_push : MethodName := ⟨"CostChecker$Frame", "push", "(I)V"⟩
abbrev n_Fr_pop : MethodName := ⟨"CostChecker$Frame", "pop", "()I"⟩
abbrev n_Ma_pushSum : MethodName := ⟨"CostChecker$Machine", "pushSum", "(LCostChecker$Frame;II)I"⟩
abbrev n_Ma_growLocal : MethodName := ⟨"CostChecker$Machine", "growLocal", "(LCostChecker$Frame;II)I"⟩
abbrev n_Ma_goIf : MethodName := ⟨"CostChecker$Machine", "goIf", "(LCostChecker$Frame;ZI)V"⟩
abbrev n_Ma_takeWords : MethodName := ⟨"CostChecker$Machine", "takeWords", "(I)I"⟩
abbrev n_Ma_enterCalled : MethodName := ⟨"CostChecker$Machine", "enterCalled", "(LCostChecker$Frame;I)V"⟩
abbrev n_Ma_leave : MethodName := ⟨"CostChecker$Machine", "leave", "(I)I"⟩
abbrev n_Ma_nextInput : MethodName := ⟨"CostChecker$Machine", "nextInput", "()I"⟩
abbrev n_CC_ran : MethodName := ⟨"CostChecker", "ran", "(I)I"⟩
abbrev n_Mo_init : MethodName := ⟨"CostCheckerModel", "<init>", "()V"⟩
abbrev n_Mo_put : MethodName := ⟨"CostCheckerModel", "put", "(III)I"⟩
abbrev n_Mo_in : MethodName := ⟨"CostCheckerModel", "in", "(JJJ)Z"⟩
abbrev n_Mo_changed : MethodName := ⟨"CostCheckerModel", "changed", "(I)V"⟩
abbrev n_Mo_clear : MethodName := ⟨"CostCheckerModel", "clear", "(I)Z"⟩
abbrev n_Mo_plain : MethodName := ⟨"CostCheckerModel", "plain", "(II)V"⟩
abbrev n_Mo_cut : MethodName := ⟨"CostCheckerModel", "cut", "(II)Z"⟩
abbrev n_Mo_cutAt : MethodName := ⟨"CostCheckerModel", "cutAt", "(II)I"⟩
abbrev n_Mo_claim : MethodName := ⟨"CostCheckerModel", "claim", "(IIIII)Z"⟩
abbrev n_Mo_base : MethodName := ⟨"CostCheckerModel", "base", "(IIII)Z"⟩
abbrev n_Mo_term : MethodName := ⟨"CostCheckerModel", "term", "(IIIII)Z"⟩
abbrev n_Mo_check : MethodName := ⟨"CostCheckerModel", "check", "(I)I"⟩
abbrev n_Mo_checkCut : MethodName := ⟨"CostCheckerModel", "checkCut", "(II)I"⟩
abbrev n_Mo_begin : MethodName := ⟨"CostCheckerModel", "begin", "(I)V"⟩
abbrev n_Mo_know : MethodName := ⟨"CostCheckerModel", "know", "(IJJJ)V"⟩
abbrev n_Mo_least : MethodName := ⟨"CostCheckerModel", "least", "(JJ)J"⟩
abbrev n_Mo_addTerm : MethodName := ⟨"CostCheckerModel", "addTerm", "(IIJJJJJ)V"⟩
abbrev n_Mo_findBounds : MethodName := ⟨"CostCheckerModel", "findBounds", "(I)Z"⟩
abbrev n_Mo_negative : MethodName := ⟨"CostCheckerModel", "negative", "(I)Z"⟩
abbrev n_Mo_advance : MethodName := ⟨"CostCheckerModel", "advance", "(II)I"⟩
abbrev n_Mo_end : MethodName := ⟨"CostCheckerModel", "end", "(II)I"⟩
abbrev n_Mo_localSide : MethodName := ⟨"CostCheckerModel", "localSide", "(II)J"⟩
abbrev n_Mo_localNumber : MethodName := ⟨"CostCheckerModel", "localNumber", "(II)J"⟩
abbrev n_Mo_follows : MethodName := ⟨"CostCheckerModel", "follows", "(JJJJJ)Z"⟩
abbrev n_Mo_shown : MethodName := ⟨"CostCheckerModel", "shown", "(II)Z"⟩
abbrev n_Mo_part : MethodName := ⟨"CostCheckerModel", "part", "(IZI)I"⟩
abbrev n_Mo_pop : MethodName := ⟨"CostCheckerModel", "pop", "(I)I"⟩
abbrev n_Mo_learn : MethodName := ⟨"CostCheckerModel", "learn", "(IZJJJ)V"⟩
abbrev n_Mo_memory : MethodName := ⟨"CostCheckerModel", "memory", "(I)I"⟩
abbrev n_Mo_called : MethodName := ⟨"CostCheckerModel", "called", "(II)I"⟩
abbrev n_Mo_side : MethodName := ⟨"CostCheckerModel", "side", "(III)J"⟩
abbrev n_Mo_extra : MethodName := ⟨"CostCheckerModel", "extra", "(III)J"⟩
abbrev n_Mo_push : MethodName := ⟨"CostCheckerModel", "push", "(IJJ)V"⟩
abbrev n_Mo_simple : MethodName := ⟨"CostCheckerModel", "simple", "(III)V"⟩
abbrev n_Mo_combine : MethodName := ⟨"CostCheckerModel", "combine", "(IZJJJJ)V"⟩
abbrev n_Mo_accepted : MethodName := ⟨"CostCheckerModel", "accepted", "(I)Z"⟩
abbrev n_Mo_bound : MethodName := ⟨"CostCheckerModel", "bound", "(IIIII)J"⟩
abbrev n_Mo_argument : MethodName := ⟨"CostCheckerModel", "argument", "(IIII)J"⟩
abbrev n_Mo_depth : MethodName := ⟨"CostCheckerModel", "depth", "(I)I"⟩
abbrev n_Mo_calls : MethodName := ⟨"CostCheckerModel", "calls", "(II)Z"⟩
abbrev n_Mo_greatest : MethodName := ⟨"CostCheckerModel", "greatest", "(II)I"⟩
abbrev n_Mo_feed : MethodName := ⟨"CostCheckerModel", "feed", "(I)Z"⟩
abbrev n_Mo_run : MethodName := ⟨"CostCheckerModel", "run", "(IIII)I"⟩
abbrev n_Mo_enter : MethodName := ⟨"CostCheckerModel", "enter", "(IIII)V"⟩
abbrev n_Mo_makeStep : MethodName := ⟨"CostCheckerModel", "makeStep", "()I"⟩
abbrev n_Mo_take : MethodName := ⟨"CostCheckerModel", "take", "(I)I"⟩
abbrev n_Mo_leave : MethodName := ⟨"CostCheckerModel", "leave", "(I)I"⟩
abbrev n_Mo_give : MethodName := ⟨"CostCheckerModel", "give", "(II)V"⟩
abbrev n_Mo_choose : MethodName := ⟨"CostCheckerModel", "choose", "(IZI)I"⟩
abbrev n_Mo_work : MethodName := ⟨"CostCheckerModel", "work", "(III)Z"⟩
abbrev n_Mo_fits : MethodName := ⟨"CostCheckerModel", "fits", "(J)Z"⟩
abbrev n_Mo_ran : MethodName := ⟨"CostCheckerModel", "ran", "(I)I"⟩
end
section
/-! THE PURE MACHINE, laid over the kit's W: a memory by functions, values whose references are numbers of cells, locals by a list. gw_Go: from here a return is reached; gw_Call: a method's contract. -/
/-- how many cells; the shapes (0: object of class; 1, 2, 3: array of int, long, boolean; 4 + j: array of references to class gw_rc j), the script (length, values), references, ints, longs -/
abbrev gw_Mem : Type := Nat × (Nat → Nat × Nat) × (Nat × (Nat → Int32)) × (Nat → Nat → Option Nat) × (Nat → Nat → Int32) × (Nat → Nat → Int64)
/-- what is fixed of a run: the first address, the classes' ids and slots, the array classes' ids, the addresses of the script and of the two tables -/
abbrev gw_K : Type := Nat × va_G × (Nat → ClassId) × Nat × Nat × Nat
def gw_ad (K : gw_K) (i : Nat) : Nat := if i < 1048576 then K.1 + i else if i = 1048576 then K.2.2.2.1 else if i = 1048577 then K.2.2.2.2.1 else K.2.2.2.2.2
def gw_mv (K : gw_K) : Value → Value
  | .ref i => .ref (gw_ad K i)
  | .int v => .int v
  | .long v => .long v
  | .float v => .float v
  | .double v => .double v
  | .null => .null
  | .retAddr q => .retAddr q
theorem gw_mv_cat (K : gw_K) (v : Value) : (gw_mv K v).category = v.category := by cases v <;> rfl
theorem gw_mv_sum (K : gw_K) (st : List Value) : ((st.map (gw_mv K)).map fun v => v.category).sum = (st.map fun v => v.category).sum := by
  rw [List.map_map]
  congr 1
  apply List.map_congr_left
  intro v _
  exact gw_mv_cat K v
def gw_rv : Option Nat → Value
  | none => .null
  | some o => .ref o
theorem gw_mv_rv (K : gw_K) (r : Option Nat) : gw_mv K (gw_rv r) = va_rf (r.map (gw_ad K)) := by cases r <;> rfl
def gw_fv (K : gw_K) (t : FieldType) (r : Option Nat) (x : Int32) (z : Int64) : Value := match t with
  | .long => .long z
  | .object _ => va_rf (r.map (gw_ad K))
  | .array _ => va_rf (r.map (gw_ad K))
  | _ => .int x
def gw_fs (K : gw_K) (ci : Nat) (r : Nat → Option Nat) (f : Nat → Int32) (g : Nat → Int64) : List Value := (List.range (gw_N ci)).map (fun k => gw_fv K (gw_ty ci k) (r k) (f k) (g k))
def gw_cell (K : gw_K) (q : Nat × Nat) (r : Nat → Option Nat) (f : Nat → Int32) (g : Nat → Int64) : va_E := match q.1 with
  | 0 => .inr (q.2, gw_fs K q.2 r f g)
  | 1 => .inl (K.2.2.1 1, q.2, .inl f)
  | 2 => .inl (K.2.2.1 2, q.2, .inr (.inl g))
  | 3 => .inl (K.2.2.1 3, q.2, .inl f)
  | k + 4 => .inl (K.2.2.1 (k + 4), q.2, .inr (.inr (.inr (.inr (fun j => (r j).map (gw_ad K))))))
def gw_at (K : gw_K) (M : gw_Mem) (i : Nat) : va_E := gw_cell K (M.2.1 i) (M.2.2.2.1 i) (M.2.2.2.2.1 i) (M.2.2.2.2.2 i)
def gw_ws (K : gw_K) (M : gw_Mem) : va_W := (List.range M.1).map (fun i => (K.1 + i, gw_at K M i))
theorem gw_ws_at {K : gw_K} {M : gw_Mem} {i : Nat} (h : i < M.1) : (gw_ws K M)[i]? = some (K.1 + i, gw_at K M i) := by
  unfold gw_ws
  rw [List.getElem?_map, List.getElem?_range h]
  rfl
theorem gw_ws_of {K : gw_K} {M : gw_Mem} {i : Nat} {q : Nat × va_E} (h : (gw_ws K M)[i]? = some q) : i < M.1 ∧ q = (K.1 + i, gw_at K M i) := by
  have hl : i < M.1 := by
    have := (List.getElem?_eq_some_iff.mp h).1
    simpa [gw_ws] using this
  rw [gw_ws_at hl] at h
  exact ⟨hl, (Option.some.inj h).symm⟩
theorem gw_ws_upd {K : gw_K} {M M' : gw_Mem} {i : Nat} {c : va_E} (hn : M'.1 = M.1) (hi : i < M.1) (hc : gw_at K M' i = c) (ho : ∀ j, j ≠ i → gw_at K M' j = gw_at K M j) : (gw_ws K M).set i (K.1 + i, c) = gw_ws K M' := by
  apply List.ext_getElem?
  intro j
  by_cases hj : j = i
  · subst hj
    rw [List.getElem?_set_self (by simpa [gw_ws] using hi), gw_ws_at (by rw [hn]; exact hi), hc]
  · rw [List.getElem?_set_ne (Ne.symm hj)]
    by_cases hl : j < M.1
    · rw [gw_ws_at hl, gw_ws_at (by rw [hn]; exact hl), ho j hj]
    · rw [List.getElem?_eq_none (by simpa [gw_ws] using hl), List.getElem?_eq_none (by simp [gw_ws, hn]; omega)]
theorem gw_ws_push {K : gw_K} {M M' : gw_Mem} {c : va_E} (hn : M'.1 = M.1 + 1) (hc : gw_at K M' M.1 = c) (ho : ∀ j, j < M.1 → gw_at K M' j = gw_at K M j) : gw_ws K M ++ [(K.1 + M.1, c)] = gw_ws K M' := by
  unfold gw_ws
  rw [hn, List.range_succ, List.map_append]
  congr 1
  · apply List.map_congr_left
    intro j hj
    rw [ho j (List.mem_range.mp hj)]
  · rw [List.map_singleton, hc]
/-- numbers of cells are small; beyond the last no shape -/
def gw_V (M : gw_Mem) : Prop := M.1 ≤ 1048576 ∧ ∀ o : Nat, M.1 ≤ o → (M.2.1 o).1 = 999
theorem gw_V.lt {M : gw_Mem} (h : gw_V M) {o a b : Nat} (ho : M.2.1 o = (a, b)) (ha : a ≠ 999 := by decide) : o < M.1 := by
  by_cases hl : o < M.1
  · exact hl
  · have := h.2 o (by omega)
    rw [ho] at this
    exact absurd this ha
def gw_A (K : gw_K) : Nat → Prop := fun q => K.1 ≤ q
theorem gw_apart {K : gw_K} {M : gw_Mem} : va_D (gw_A K) (gw_ws K M) := by
  refine ⟨fun i j p q hi hj h => ?_, fun k q hk => ?_⟩
  · obtain ⟨-, rfl⟩ := gw_ws_of hi
    obtain ⟨-, rfl⟩ := gw_ws_of hj
    dsimp only at h
    omega
  · obtain ⟨-, rfl⟩ := gw_ws_of hk
    exact Nat.le_add_right _ _
/-- the array classes: kinds 0 (not used) to 9 -/
def gw_tys (K : gw_K) : List (ClassId × FieldType) := (List.range gw_NK).map (fun k => (K.2.2.1 k, gw_kt k))
theorem gw_tys_at {K : gw_K} {k : Nat} (h : k < gw_NK) : (gw_tys K)[k]? = some (K.2.2.1 k, gw_kt k) := by
  unfold gw_tys
  rw [List.getElem?_map, List.getElem?_range h]
  rfl
/-- the words that hold at every state of the run -/
def gw_all : List Cond := lw_tbl.filter goodWord
theorem gw_all_good {w : Cond} (h : w ∈ gw_all) : (w.onTables && w.keeps) = true ∨ ∃ ty, w = .arrayClass ty := good_of_word (List.mem_filter.mp h).2
/-- a method: name, code, how many locals, what it returns -/
abbrev gw_Y : Type := MethodName × ByteArray × Nat × Option FieldType
def gw_wd (y : gw_Y) : List Cond := .code y.1 y.2.1 y.2.2.1 y.2.2.2 :: gw_all
/-- what the tables say at a state -/
def gw_S (K : gw_K) (U : State) : Prop := va_K K.2.1 gw_cl (gw_tys K) U ∧ (∀ (o : String) (i : Nat) (y : MethodName) (h : String), Cond.methodLinkNest o i y h ∈ lw_tbl → va_Nw (.methodLinkNest o i y h) U) ∧ ∀ C : String, Cond.arrayOver (.object C) ∈ lw_tbl → va_AO C U
/-- the script and the two tables of the class -/
def gw_E (K : gw_K) (X : Nat × (Nat → Int32)) (U : State) (H : Heap) : Prop := va_X K.2.2.2.1 X.1 X.2 U H ∧ K.2.2.2.1 < K.1 ∧ K.1 ≤ H.size ∧ va_T .int K.2.2.2.2.1 15 (fun j => .int (gw_tk j)) (gw_A K) U H ∧ va_T .int K.2.2.2.2.2 15 (fun j => .int (gw_pt j)) (gw_A K) U H ∧ va_Z gw_tC gw_tN "[I" (.ref K.2.2.2.2.1) (gw_A K) U H ∧ va_Z gw_tC gw_pN "[I" (.ref K.2.2.2.2.2) (gw_A K) U H
theorem gw_S.moved {K : gw_K} {s U : State} (hW : s.WarmedH U.vm) (h : gw_S K s) : gw_S K U := ⟨va_K.moved hW.alike h.1, fun o i y h' hm => va_Nw.warmM hW (h.2.1 o i y h' hm), fun C hC => va_AO.moved hW.alike (h.2.2 C hC)⟩
theorem gw_S.same {K : gw_K} {s U : State} (hv : s.vm = U.vm) (h : gw_S K s) : gw_S K U := ⟨va_K.moved (hv ▸ Vm.Alike.refl s.vm) h.1, fun o i y h' hm => va_Nw.same rfl hv (h.2.1 o i y h' hm), fun C hC => va_AO.moved (hv ▸ Vm.Alike.refl s.vm) (h.2.2 C hC)⟩
theorem gw_E.moved {K : gw_K} {X : Nat × (Nat → Int32)} {u U : State} {H : Heap} (hvm : u.vm.Alike U.vm) (h : gw_E K X u H) : gw_E K X U H := ⟨va_X.moved hvm h.1, h.2.1, h.2.2.1, va_T.moved hvm h.2.2.2.1, va_T.moved hvm h.2.2.2.2.1, va_Z.moved hvm h.2.2.2.2.2.1, va_Z.moved hvm h.2.2.2.2.2.2⟩
theorem gw_E.kept {K : gw_K} {X : Nat × (Nat → Int32)} {U : State} {H H1 : Heap} (h : gw_E K X U H) (hz : H.size ≤ H1.size) (hq : ∀ a : Nat, a < H.size → ¬ gw_A K a → H1[a]? = H[a]?) : gw_E K X U H1 := by
  obtain ⟨h1, h2, h3, h4, h5, h6, h7⟩ := h
  exact ⟨h1.kept (hq _ (Nat.lt_of_lt_of_le h2 h3) (Nat.not_le.mpr h2)), h2, Nat.le_trans h3 hz, h4.kept hq, h5.kept hq, h6.kept hq, h7.kept hq⟩
/-- a state of the run -/
def gw_W (K : gw_K) (M : gw_Mem) (U : State) : Prop := gw_S K U ∧ gw_E K M.2.2.1 U U.heap ∧ va_P K.2.1 gw_cl (gw_ws K M) U.heap ∧ U.heap.size = K.1 + M.1 ∧ gw_V M
def gw_Pc (K : gw_K) (as : List Value) (M : gw_Mem) : Array Value → State → Prop := fun v U => v = (as.map (gw_mv K)).toArray ∧ gw_W K M U
def gw_Qc (K : gw_K) (X : Nat × (Nat → Int32)) (mc : Nat) (Q : Option Value → gw_Mem → Prop) : Array Value → State → Outcome → State → Prop := fun _ st oc t => (∃ (r : Option Value) (M' : gw_Mem), oc = .returned (r.map (gw_mv K)) ∧ gw_W K M' t ∧ M'.2.2.1 = X ∧ t.heap.size = st.heap.size + mc ∧ Q r M') ∧ va_F (gw_A K) st t
def gw_rm (d mc ms : Nat) : Room := { frames := d, cells := mc, slots := ms, locals := 40 * d }
/-- a method's contract: called with as on M it returns, with Q -/
def gw_Call (y : gw_Y) (d mc ms : Nat) (as : List Value) (M : gw_Mem) (Q : Option Value → gw_Mem → Prop) : Prop := ∀ (K : gw_K) (l : Launch), Met l y.1 (gw_wd y) (gw_rm d mc ms) (gw_Pc K as M) (gw_Qc K M.2.2.1 mc Q) mc ms (gw_A K)
/-! locals -/
def gw_get : List (Option Value) → Nat → Option Value
  | [], _ => none
  | a :: _, 0 => a
  | _ :: l, n + 1 => gw_get l n
def gw_set : List (Option Value) → Nat → Option Value → List (Option Value)
  | [], _, _ => []
  | _ :: l, 0, v => v :: l
  | a :: l, n + 1, v => a :: gw_set l n v
def gw_big : Option Value → Bool
  | some (.long _) => true
  | some (.double _) => true
  | _ => false
def gw_cl1 (lv : List (Option Value)) : Nat → List (Option Value)
  | 0 => lv
  | j + 1 => if gw_big (gw_get lv j) then gw_set lv j none else lv
def gw_st1 (lv : List (Option Value)) (i : Nat) (v : Value) : List (Option Value) := gw_set (gw_cl1 lv i) i (some v)
def gw_st2 (lv : List (Option Value)) (i : Nat) (v : Value) : List (Option Value) := gw_set (gw_set (gw_cl1 lv i) (i + 1) none) i (some v)
theorem gw_get_ne : ∀ (l : List (Option Value)) (i j : Nat) (v : Option Value), j ≠ i → gw_get (gw_set l i v) j = gw_get l j
  | [], _, _, _, _ => rfl
  | _ :: _, 0, 0, _, h => absurd rfl h
  | _ :: _, 0, _ + 1, _, _ => rfl
  | _ :: _, _ + 1, 0, _, _ => rfl
  | _ :: l, i + 1, j + 1, v, h => gw_get_ne l i j v (fun e => h (by rw [e]))
theorem gw_get_eq : ∀ (l : List (Option Value)) (i : Nat) (v : Option Value) (w : Value), gw_get (gw_set l i v) i = some w → v = some w
  | [], _, _, _, h => by cases h
  | _ :: _, 0, _, _, h => h
  | _ :: l, i + 1, v, w, h => gw_get_eq l i v w h
def gw_as (K : gw_K) (lv : List (Option Value)) : List (Nat × Value) := (List.range lv.length).filterMap (fun i => (gw_get lv i).map (fun v => (i, gw_mv K v)))
theorem gw_get_lt : ∀ (l : List (Option Value)) (i : Nat) (w : Value), gw_get l i = some w → i < l.length
  | [], _, _, h => by cases h
  | _ :: _, 0, _, _ => Nat.succ_pos _
  | _ :: l, i + 1, w, h => Nat.succ_lt_succ (gw_get_lt l i w h)
theorem gw_as_mem {K : gw_K} {lv : List (Option Value)} {i : Nat} {v : Value} (h : gw_get lv i = some v) : (i, gw_mv K v) ∈ gw_as K lv :=
  List.mem_filterMap.mpr ⟨i, List.mem_range.mpr (gw_get_lt lv i v h), by rw [h]; rfl⟩
theorem gw_as_of {K : gw_K} {lv : List (Option Value)} {q : Nat × Value} (h : q ∈ gw_as K lv) : ∃ v, gw_get lv q.1 = some v ∧ q.2 = gw_mv K v := by
  obtain ⟨i, -, hi⟩ := List.mem_filterMap.mp h
  cases hv : gw_get lv i with
  | none => rw [hv] at hi; cases hi
  | some v =>
    rw [hv] at hi
    cases hi
    exact ⟨v, hv, rfl⟩
def gw_L (K : gw_K) (ls : Array Slot) (n : Nat) (lv : List (Option Value)) : Prop := lv_has ls n (gw_as K lv)
theorem gw_L.at {K : gw_K} {ls : Array Slot} {n : Nat} {lv : List (Option Value)} (h : gw_L K ls n lv) {i : Nat} {v : Value} (hv : gw_get lv i = some v) : ls[i]? = some (.val (gw_mv K v)) := h.2.2 (i, gw_mv K v) (gw_as_mem hv)
theorem gw_L.of {K : gw_K} {ls : Array Slot} {n : Nat} {lv : List (Option Value)} {l : List (Nat × Value)} (h : lv_has ls n l) (hs : ∀ q ∈ gw_as K lv, q ∈ l) : gw_L K ls n lv := ⟨h.1, h.2.1, fun q hq => h.2.2 q (hs q hq)⟩
theorem gw_cl1_get {lv : List (Option Value)} {i j : Nat} {u : Value} (h : gw_get (gw_cl1 lv i) j = some u) : gw_get lv j = some u ∧ ¬ (j + 1 = i ∧ u.category = 2) := by
  cases i with
  | zero => exact ⟨h, fun z => by omega⟩
  | succ i =>
    replace h : gw_get (if gw_big (gw_get lv i) then gw_set lv i none else lv) j = some u := h
    by_cases hb : gw_big (gw_get lv i) = true
    · rw [if_pos hb] at h
      by_cases hj : j = i
      · subst hj
        exact absurd (gw_get_eq _ _ _ _ h) (by simp)
      · rw [gw_get_ne _ _ _ _ hj] at h
        exact ⟨h, fun z => hj (by omega)⟩
    · rw [if_neg hb] at h
      refine ⟨h, fun z => ?_⟩
      have hj : j = i := by omega
      subst hj
      rw [h] at hb
      cases u <;> first | exact absurd rfl hb | exact absurd z.2 (by simp [Value.category])
theorem gw_st1_sub {K : gw_K} {lv : List (Option Value)} {i : Nat} {v : Value} : ∀ q ∈ gw_as K (gw_st1 lv i v), q ∈ (i, gw_mv K v) :: (gw_as K lv).filter (fun q => !(q.1 == i) && !(q.1 + 1 == i && q.2.category == 2)) := by
  intro q hq
  obtain ⟨u, hu, hw⟩ := gw_as_of hq
  obtain ⟨j, w⟩ := q
  dsimp only at hu hw
  subst hw
  by_cases hj : j = i
  · subst hj
    have := gw_get_eq _ _ _ _ hu
    cases this
    exact List.mem_cons_self
  · unfold gw_st1 at hu
    rw [gw_get_ne _ _ _ _ hj] at hu
    obtain ⟨h1, h2⟩ := gw_cl1_get hu
    refine List.mem_cons_of_mem _ (List.mem_filter.mpr ⟨gw_as_mem h1, ?_⟩)
    rw [gw_mv_cat]
    simp only [Bool.and_eq_true, Bool.not_eq_true', beq_eq_false_iff_ne, ne_eq, Bool.and_eq_false_iff]
    refine ⟨hj, ?_⟩
    by_cases h3 : j + 1 = i
    · exact Or.inr fun z => h2 ⟨h3, z⟩
    · exact Or.inl h3
theorem gw_st2_sub {K : gw_K} {lv : List (Option Value)} {i : Nat} {v : Value} : ∀ q ∈ gw_as K (gw_st2 lv i v), q ∈ (i, gw_mv K v) :: (gw_as K lv).filter (fun q => !(q.1 == i) && (!(q.1 == i + 1) && !(q.1 + 1 == i && q.2.category == 2))) := by
  intro q hq
  obtain ⟨u, hu, hw⟩ := gw_as_of hq
  obtain ⟨j, w⟩ := q
  dsimp only at hu hw
  subst hw
  by_cases hj : j = i
  · subst hj
    have := gw_get_eq _ _ _ _ hu
    cases this
    exact List.mem_cons_self
  · unfold gw_st2 at hu
    rw [gw_get_ne _ _ _ _ hj] at hu
    by_cases hj2 : j = i + 1
    · subst hj2
      exact absurd (gw_get_eq _ _ _ _ hu) (by simp)
    · rw [gw_get_ne _ _ _ _ hj2] at hu
      obtain ⟨h1, h2⟩ := gw_cl1_get hu
      refine List.mem_cons_of_mem _ (List.mem_filter.mpr ⟨gw_as_mem h1, ?_⟩)
      rw [gw_mv_cat]
      simp only [Bool.and_eq_true, Bool.not_eq_true', beq_eq_false_iff_ne, ne_eq, Bool.and_eq_false_iff]
      refine ⟨hj, hj2, ?_⟩
      by_cases h3 : j + 1 = i
      · exact Or.inr fun z => h2 ⟨h3, z⟩
      · exact Or.inl h3
/-! the judgement -/
/-- how a method ends at pc with r -/
def gw_end (y : gw_Y) (pc : Nat) : Option Value → Prop
  | none => decode y.2.1 pc = .ok (.return_, 1) ∧ y.2.2.2 = none
  | some (.int v) => decode y.2.1 pc = .ok (.ireturn, 1) ∧ ∃ ty, y.2.2.2 = some ty ∧ narrow ty (.int v) = .int v
  | some (.long _) => decode y.2.1 pc = .ok (.lreturn, 1) ∧ y.2.2.2 = some .long
  | some (.ref _) => decode y.2.1 pc = .ok (.areturn, 1) ∧ ∃ rt, y.2.2.2 = some rt ∧ ((∃ n, rt = .object n) ∨ ∃ t, rt = .array t)
  | some .null => decode y.2.1 pc = .ok (.areturn, 1) ∧ ∃ rt, y.2.2.2 = some rt ∧ ((∃ n, rt = .object n) ∨ ∃ t, rt = .array t)
  | _ => False
def gw_C (y : gw_Y) (d : Nat) (K : gw_K) (p : Program) (R : Room) (s : State) (m : MethodId) (args : Array Value) (meth : Method) (c : Code) (X : Nat × (Nat → Int32)) : Prop :=
  p.tables.exec = Jvm.exec ∧ c.code = y.2.1 ∧ c.maxLocals = y.2.2.1 ∧ s.vm.findClass y.1.cls = some m.cls ∧ (∀ w ∈ gw_all, w.before args s = true) ∧ meth.name = y.1.name ∧ gw_S K s ∧ gw_E K X s s.heap ∧ d ≤ R.frames ∧ 40 * d ≤ R.locals
def gw_D (K : gw_K) (M : gw_Mem) (s : State) (H : Heap) (locs : List Loc) (cells : Nat) : Prop := va_P K.2.1 gw_cl (gw_ws K M) H ∧ va_S (gw_A K) s.heap H locs ∧ s.heap.size + cells = K.1 + M.1 ∧ gw_V M
def gw_Go (y : gw_Y) (d bc bs pc : Nat) (lv : List (Option Value)) (st : List Value) (M : gw_Mem) (Q : Option Value → gw_Mem → Prop) : Prop :=
  ∀ (K : gw_K) (p : Program) (l : Launch) (e : Env) (R : Room) (s : State) (m : MethodId) (args : Array Value) (below : List Frame) (meth : Method) (c : Code) (H : Heap) (locs : List Loc) (cells slots : Nat) (Z : State → Prop) (ls : Array Slot),
    gw_C y d K p R s m args meth c M.2.2.1 → gw_D K M s H locs cells → cells + bc ≤ R.cells → slots + bs ≤ R.slots → gw_L K ls y.2.2.1 lv →
    (∀ (r : Option Value) (M' : gw_Mem) (H' : Heap) (locs' : List Loc) (slots' pc' : Nat) (ls' : Array Slot), gw_end y pc' r → Q r M' → M'.2.2.1 = M.2.2.1 → gw_D K M' s H' locs' (cells + bc) → slots' ≤ slots + bs → H'.size = K.1 + M'.1 →
      W p l e R s m args below meth c H' locs' (cells + bc) slots' Z (F0 m pc' ls' (r.toList.map (gw_mv K)))) →
    W p l e R s m args below meth c H locs cells slots Z (F0 m pc ls (st.map (gw_mv K)))
theorem gw_size {p : Program} {l : Launch} {e : Env} {R : Room} {s : State} {m : MethodId} {args : Array Value} {below : List Frame} {meth : Method} {c : Code} {H : Heap} {locs : List Loc} {cells slots : Nat} {Z : State → Prop} {g : JFrame}
    (k : H.size ≤ s.heap.size + cells → W p l e R s m args below meth c H locs cells slots Z g) : W p l e R s m args below meth c H locs cells slots Z g :=
  fun T hT X => k (by rw [← hT]; exact X.same.2.2.1) T hT X
theorem gw_D.ge {K : gw_K} {M : gw_Mem} {s : State} {H : Heap} {locs : List Loc} {cells : Nat} (h : gw_D K M s H locs cells) (h0 : K.1 ≤ s.heap.size) : K.1 + M.1 ≤ H.size := by
  cases hM : M.1 with
  | zero => have := h.2.1.1; omega
  | succ n =>
    have h1 := (h.1 n _ (gw_ws_at (by omega))).lt
    dsimp only at h1
    omega
end
section
/-! one rule an instruction: those that leave the memory alone (written by wip/whole/prog/mkrules.py) -/
theorem go_iconst {y : gw_Y} {d bc bs pc : Nat} {lv : List (Option Value)} {st : List Value} {M : gw_Mem} {Q : Option Value → gw_Mem → Prop} {z : Int} {v : Int32} (hd : decode y.2.1 pc = .ok (.iconst z, 1)) (hv : Int32.ofInt z = v) (k : gw_Go y d bc bs (pc + 1) lv (.int v :: st) M Q) : gw_Go y d bc bs pc lv st M Q := by
  intro K p l e R s m args below meth c H locs cells slots Z ls hC hD h1 h2 hL hF
  exact lv_iconst hC.1 hC.2.1 hd hv (k K p l e R s m args below meth c H locs cells slots Z ls hC hD h1 h2 hL hF)
theorem go_bipush {y : gw_Y} {d bc bs pc : Nat} {lv : List (Option Value)} {st : List Value} {M : gw_Mem} {Q : Option Value → gw_Mem → Prop} {z : Int} {v : Int32} (hd : decode y.2.1 pc = .ok (.bipush z, 2)) (hv : (Int8.ofInt z).toInt32 = v) (k : gw_Go y d bc bs (pc + 2) lv (.int v :: st) M Q) : gw_Go y d bc bs pc lv st M Q := by
  intro K p l e R s m args below meth c H locs cells slots Z ls hC hD h1 h2 hL hF
  exact lv_bipush hC.1 hC.2.1 hd hv (k K p l e R s m args below meth c H locs cells slots Z ls hC hD h1 h2 hL hF)
theorem go_sipush {y : gw_Y} {d bc bs pc : Nat} {lv : List (Option Value)} {st : List Value} {M : gw_Mem} {Q : Option Value → gw_Mem → Prop} {z : Int} {v : Int32} (hd : decode y.2.1 pc = .ok (.sipush z, 3)) (hv : (Int16.ofInt z).toInt32 = v) (k : gw_Go y d bc bs (pc + 3) lv (.int v :: st) M Q) : gw_Go y d bc bs pc lv st M Q := by
  intro K p l e R s m args below meth c H locs cells slots Z ls hC hD h1 h2 hL hF
  exact lv_sipush hC.1 hC.2.1 hd hv (k K p l e R s m args below meth c H locs cells slots Z ls hC hD h1 h2 hL hF)
theorem go_lconst {y : gw_Y} {d bc bs pc : Nat} {lv : List (Option Value)} {st : List Value} {M : gw_Mem} {Q : Option Value → gw_Mem → Prop} {z : Fin 2} {v : Int64} (hd : decode y.2.1 pc = .ok (.lconst z, 1)) (hv : Int64.ofNat (z : Nat) = v) (k : gw_Go y d bc bs (pc + 1) lv (.long v :: st) M Q) : gw_Go y d bc bs pc lv st M Q := by
  intro K p l e R s m args below meth c H locs cells slots Z ls hC hD h1 h2 hL hF
  exact lv_lconst hC.1 hC.2.1 hd hv (k K p l e R s m args below meth c H locs cells slots Z ls hC hD h1 h2 hL hF)
theorem go_null {y : gw_Y} {d bc bs pc : Nat} {lv : List (Option Value)} {st : List Value} {M : gw_Mem} {Q : Option Value → gw_Mem → Prop}  (hd : decode y.2.1 pc = .ok (.aconst_null, 1))  (k : gw_Go y d bc bs (pc + 1) lv (.null :: st) M Q) : gw_Go y d bc bs pc lv st M Q := by
  intro K p l e R s m args below meth c H locs cells slots Z ls hC hD h1 h2 hL hF
  exact lv_null hC.1 hC.2.1 hd  (k K p l e R s m args below meth c H locs cells slots Z ls hC hD h1 h2 hL hF)
theorem go_ldc {y : gw_Y} {d bc bs pc : Nat} {lv : List (Option Value)} {st : List Value} {M : gw_Mem} {Q : Option Value → gw_Mem → Prop} {idx : Nat} {v : Int32} (hd : decode y.2.1 pc = .ok (.ldc idx, 2)) (hw : Cond.constant y.1.cls idx v ∈ gw_all) (k : gw_Go y d bc bs (pc + 2) lv (.int v :: st) M Q) : gw_Go y d bc bs pc lv st M Q := by
  intro K p l e R s m args below meth c H locs cells slots Z ls hC hD h1 h2 hL hF
  exact lv_ldc hC.1 hC.2.1 hC.2.2.2.1 (hC.2.2.2.2.1 _ hw) hd (k K p l e R s m args below meth c H locs cells slots Z ls hC hD h1 h2 hL hF)
theorem go_ldcw {y : gw_Y} {d bc bs pc : Nat} {lv : List (Option Value)} {st : List Value} {M : gw_Mem} {Q : Option Value → gw_Mem → Prop} {idx : Nat} {v : Int32} (hd : decode y.2.1 pc = .ok (.ldc_w idx, 3)) (hw : Cond.constant y.1.cls idx v ∈ gw_all) (k : gw_Go y d bc bs (pc + 3) lv (.int v :: st) M Q) : gw_Go y d bc bs pc lv st M Q := by
  intro K p l e R s m args below meth c H locs cells slots Z ls hC hD h1 h2 hL hF
  exact lv_ldcw hC.1 hC.2.1 hC.2.2.2.1 (hC.2.2.2.2.1 _ hw) hd (k K p l e R s m args below meth c H locs cells slots Z ls hC hD h1 h2 hL hF)
theorem go_ldc2 {y : gw_Y} {d bc bs pc : Nat} {lv : List (Option Value)} {st : List Value} {M : gw_Mem} {Q : Option Value → gw_Mem → Prop} {idx : Nat} {v : Int64} (hd : decode y.2.1 pc = .ok (.ldc2_w idx, 3)) (hw : Cond.constantLong y.1.cls idx v ∈ gw_all) (k : gw_Go y d bc bs (pc + 3) lv (.long v :: st) M Q) : gw_Go y d bc bs pc lv st M Q := by
  intro K p l e R s m args below meth c H locs cells slots Z ls hC hD h1 h2 hL hF
  exact lv_ldc2 hC.1 hC.2.1 hC.2.2.2.1 (hC.2.2.2.2.1 _ hw) hd (k K p l e R s m args below meth c H locs cells slots Z ls hC hD h1 h2 hL hF)
theorem go_iload_n {y : gw_Y} {d bc bs pc : Nat} {lv : List (Option Value)} {st : List Value} {M : gw_Mem} {Q : Option Value → gw_Mem → Prop} {j : Fin 4} {x : Int32} (i : Nat) (hd : decode y.2.1 pc = .ok (.iload_n j, 1)) (hi : (j : Nat) = i) (hv : gw_get lv i = some (.int x)) (k : gw_Go y d bc bs (pc + 1) lv (.int x :: st) M Q) : gw_Go y d bc bs pc lv st M Q := by
  intro K p l e R s m args below meth c H locs cells slots Z ls hC hD h1 h2 hL hF
  exact lv_iload_n hC.1 hC.2.1 hd hi (hL.at hv) (k K p l e R s m args below meth c H locs cells slots Z ls hC hD h1 h2 hL hF)
theorem go_iload {y : gw_Y} {d bc bs pc : Nat} {lv : List (Option Value)} {st : List Value} {M : gw_Mem} {Q : Option Value → gw_Mem → Prop} {i : Nat} {x : Int32} (hd : decode y.2.1 pc = .ok (.iload i, 2)) (hv : gw_get lv i = some (.int x)) (k : gw_Go y d bc bs (pc + 2) lv (.int x :: st) M Q) : gw_Go y d bc bs pc lv st M Q := by
  intro K p l e R s m args below meth c H locs cells slots Z ls hC hD h1 h2 hL hF
  exact lv_iload hC.1 hC.2.1 hd (hL.at hv) (k K p l e R s m args below meth c H locs cells slots Z ls hC hD h1 h2 hL hF)
theorem go_lload_n {y : gw_Y} {d bc bs pc : Nat} {lv : List (Option Value)} {st : List Value} {M : gw_Mem} {Q : Option Value → gw_Mem → Prop} {j : Fin 4} {x : Int64} (i : Nat) (hd : decode y.2.1 pc = .ok (.lload_n j, 1)) (hi : (j : Nat) = i) (hv : gw_get lv i = some (.long x)) (k : gw_Go y d bc bs (pc + 1) lv (.long x :: st) M Q) : gw_Go y d bc bs pc lv st M Q := by
  intro K p l e R s m args below meth c H locs cells slots Z ls hC hD h1 h2 hL hF
  exact lv_lload_n hC.1 hC.2.1 hd hi (hL.at hv) (k K p l e R s m args below meth c H locs cells slots Z ls hC hD h1 h2 hL hF)
theorem go_lload {y : gw_Y} {d bc bs pc : Nat} {lv : List (Option Value)} {st : List Value} {M : gw_Mem} {Q : Option Value → gw_Mem → Prop} {i : Nat} {x : Int64} (hd : decode y.2.1 pc = .ok (.lload i, 2)) (hv : gw_get lv i = some (.long x)) (k : gw_Go y d bc bs (pc + 2) lv (.long x :: st) M Q) : gw_Go y d bc bs pc lv st M Q := by
  intro K p l e R s m args below meth c H locs cells slots Z ls hC hD h1 h2 hL hF
  exact lv_lload hC.1 hC.2.1 hd (hL.at hv) (k K p l e R s m args below meth c H locs cells slots Z ls hC hD h1 h2 hL hF)
theorem go_aload_n {y : gw_Y} {d bc bs pc : Nat} {lv : List (Option Value)} {st : List Value} {M : gw_Mem} {Q : Option Value → gw_Mem → Prop} {j : Fin 4} {x : Nat} (i : Nat) (hd : decode y.2.1 pc = .ok (.aload_n j, 1)) (hi : (j : Nat) = i) (hv : gw_get lv i = some (.ref x)) (k : gw_Go y d bc bs (pc + 1) lv (.ref x :: st) M Q) : gw_Go y d bc bs pc lv st M Q := by
  intro K p l e R s m args below meth c H locs cells slots Z ls hC hD h1 h2 hL hF
  exact lv_aload_n hC.1 hC.2.1 hd hi (hL.at hv) (k K p l e R s m args below meth c H locs cells slots Z ls hC hD h1 h2 hL hF)
theorem go_aload {y : gw_Y} {d bc bs pc : Nat} {lv : List (Option Value)} {st : List Value} {M : gw_Mem} {Q : Option Value → gw_Mem → Prop} {i : Nat} {x : Nat} (hd : decode y.2.1 pc = .ok (.aload i, 2)) (hv : gw_get lv i = some (.ref x)) (k : gw_Go y d bc bs (pc + 2) lv (.ref x :: st) M Q) : gw_Go y d bc bs pc lv st M Q := by
  intro K p l e R s m args below meth c H locs cells slots Z ls hC hD h1 h2 hL hF
  exact lv_aload hC.1 hC.2.1 hd (hL.at hv) (k K p l e R s m args below meth c H locs cells slots Z ls hC hD h1 h2 hL hF)
theorem go_aload_nN {y : gw_Y} {d bc bs pc : Nat} {lv : List (Option Value)} {st : List Value} {M : gw_Mem} {Q : Option Value → gw_Mem → Prop} {j : Fin 4} (i : Nat) (hd : decode y.2.1 pc = .ok (.aload_n j, 1)) (hi : (j : Nat) = i) (hv : gw_get lv i = some .null) (k : gw_Go y d bc bs (pc + 1) lv (.null :: st) M Q) : gw_Go y d bc bs pc lv st M Q := by
  intro K p l e R s m args below meth c H locs cells slots Z ls hC hD h1 h2 hL hF
  exact lv_aload_nN hC.1 hC.2.1 hd hi (hL.at hv) (k K p l e R s m args below meth c H locs cells slots Z ls hC hD h1 h2 hL hF)
theorem go_aloadN {y : gw_Y} {d bc bs pc : Nat} {lv : List (Option Value)} {st : List Value} {M : gw_Mem} {Q : Option Value → gw_Mem → Prop} {i : Nat} (hd : decode y.2.1 pc = .ok (.aload i, 2)) (hv : gw_get lv i = some .null) (k : gw_Go y d bc bs (pc + 2) lv (.null :: st) M Q) : gw_Go y d bc bs pc lv st M Q := by
  intro K p l e R s m args below meth c H locs cells slots Z ls hC hD h1 h2 hL hF
  exact lv_aloadN hC.1 hC.2.1 hd (hL.at hv) (k K p l e R s m args below meth c H locs cells slots Z ls hC hD h1 h2 hL hF)
theorem go_istore_n {y : gw_Y} {d bc bs pc : Nat} {lv : List (Option Value)} {st : List Value} {M : gw_Mem} {Q : Option Value → gw_Mem → Prop} {j : Fin 4} {x : Int32} (i : Nat) (hd : decode y.2.1 pc = .ok (.istore_n j, 1)) (hi : (j : Nat) = i) (hn : i < y.2.2.1) (k : gw_Go y d bc bs (pc + 1) (gw_st1 lv i (.int x)) st M Q) : gw_Go y d bc bs pc lv (.int x :: st) M Q := by
  intro K p l e R s m args below meth c H locs cells slots Z ls hC hD h1 h2 hL hF
  exact lv_istore_n hC.1 hC.2.1 hd hi hL hn rfl (fun ls' hl => k K p l e R s m args below meth c H locs cells slots Z ls' hC hD h1 h2 (gw_L.of hl gw_st1_sub) hF)
theorem go_istore {y : gw_Y} {d bc bs pc : Nat} {lv : List (Option Value)} {st : List Value} {M : gw_Mem} {Q : Option Value → gw_Mem → Prop} {i : Nat} {x : Int32} (hd : decode y.2.1 pc = .ok (.istore i, 2)) (hn : i < y.2.2.1) (k : gw_Go y d bc bs (pc + 2) (gw_st1 lv i (.int x)) st M Q) : gw_Go y d bc bs pc lv (.int x :: st) M Q := by
  intro K p l e R s m args below meth c H locs cells slots Z ls hC hD h1 h2 hL hF
  exact lv_istore hC.1 hC.2.1 hd hL hn rfl (fun ls' hl => k K p l e R s m args below meth c H locs cells slots Z ls' hC hD h1 h2 (gw_L.of hl gw_st1_sub) hF)
theorem go_lstore_n {y : gw_Y} {d bc bs pc : Nat} {lv : List (Option Value)} {st : List Value} {M : gw_Mem} {Q : Option Value → gw_Mem → Prop} {j : Fin 4} {x : Int64} (i : Nat) (hd : decode y.2.1 pc = .ok (.lstore_n j, 1)) (hi : (j : Nat) = i) (hn : i + 1 < y.2.2.1) (k : gw_Go y d bc bs (pc + 1) (gw_st2 lv i (.long x)) st M Q) : gw_Go y d bc bs pc lv (.long x :: st) M Q := by
  intro K p l e R s m args below meth c H locs cells slots Z ls hC hD h1 h2 hL hF
  exact lv_lstore_n hC.1 hC.2.1 hd hi hL hn rfl (fun ls' hl => k K p l e R s m args below meth c H locs cells slots Z ls' hC hD h1 h2 (gw_L.of hl gw_st2_sub) hF)
theorem go_lstore {y : gw_Y} {d bc bs pc : Nat} {lv : List (Option Value)} {st : List Value} {M : gw_Mem} {Q : Option Value → gw_Mem → Prop} {i : Nat} {x : Int64} (hd : decode y.2.1 pc = .ok (.lstore i, 2)) (hn : i + 1 < y.2.2.1) (k : gw_Go y d bc bs (pc + 2) (gw_st2 lv i (.long x)) st M Q) : gw_Go y d bc bs pc lv (.long x :: st) M Q := by
  intro K p l e R s m args below meth c H locs cells slots Z ls hC hD h1 h2 hL hF
  exact lv_lstore hC.1 hC.2.1 hd hL hn rfl (fun ls' hl => k K p l e R s m args below meth c H locs cells slots Z ls' hC hD h1 h2 (gw_L.of hl gw_st2_sub) hF)
theorem go_astore_n {y : gw_Y} {d bc bs pc : Nat} {lv : List (Option Value)} {st : List Value} {M : gw_Mem} {Q : Option Value → gw_Mem → Prop} {j : Fin 4} {x : Nat} (i : Nat) (hd : decode y.2.1 pc = .ok (.astore_n j, 1)) (hi : (j : Nat) = i) (hn : i < y.2.2.1) (k : gw_Go y d bc bs (pc + 1) (gw_st1 lv i (.ref x)) st M Q) : gw_Go y d bc bs pc lv (.ref x :: st) M Q := by
  intro K p l e R s m args below meth c H locs cells slots Z ls hC hD h1 h2 hL hF
  exact lv_astore_n hC.1 hC.2.1 hd hi hL hn rfl (fun ls' hl => k K p l e R s m args below meth c H locs cells slots Z ls' hC hD h1 h2 (gw_L.of hl gw_st1_sub) hF)
theorem go_astore {y : gw_Y} {d bc bs pc : Nat} {lv : List (Option Value)} {st : List Value} {M : gw_Mem} {Q : Option Value → gw_Mem → Prop} {i : Nat} {x : Nat} (hd : decode y.2.1 pc = .ok (.astore i, 2)) (hn : i < y.2.2.1) (k : gw_Go y d bc bs (pc + 2) (gw_st1 lv i (.ref x)) st M Q) : gw_Go y d bc bs pc lv (.ref x :: st) M Q := by
  intro K p l e R s m args below meth c H locs cells slots Z ls hC hD h1 h2 hL hF
  exact lv_astore hC.1 hC.2.1 hd hL hn rfl (fun ls' hl => k K p l e R s m args below meth c H locs cells slots Z ls' hC hD h1 h2 (gw_L.of hl gw_st1_sub) hF)
theorem go_astore_nN {y : gw_Y} {d bc bs pc : Nat} {lv : List (Option Value)} {st : List Value} {M : gw_Mem} {Q : Option Value → gw_Mem → Prop} {j : Fin 4}  (i : Nat) (hd : decode y.2.1 pc = .ok (.astore_n j, 1)) (hi : (j : Nat) = i) (hn : i < y.2.2.1) (k : gw_Go y d bc bs (pc + 1) (gw_st1 lv i (.null)) st M Q) : gw_Go y d bc bs pc lv (.null :: st) M Q := by
  intro K p l e R s m args below meth c H locs cells slots Z ls hC hD h1 h2 hL hF
  exact lv_astore_nN hC.1 hC.2.1 hd hi hL hn rfl (fun ls' hl => k K p l e R s m args below meth c H locs cells slots Z ls' hC hD h1 h2 (gw_L.of hl gw_st1_sub) hF)
theorem go_astoreN {y : gw_Y} {d bc bs pc : Nat} {lv : List (Option Value)} {st : List Value} {M : gw_Mem} {Q : Option Value → gw_Mem → Prop} {i : Nat}  (hd : decode y.2.1 pc = .ok (.astore i, 2)) (hn : i < y.2.2.1) (k : gw_Go y d bc bs (pc + 2) (gw_st1 lv i (.null)) st M Q) : gw_Go y d bc bs pc lv (.null :: st) M Q := by
  intro K p l e R s m args below meth c H locs cells slots Z ls hC hD h1 h2 hL hF
  exact lv_astoreN hC.1 hC.2.1 hd hL hn rfl (fun ls' hl => k K p l e R s m args below meth c H locs cells slots Z ls' hC hD h1 h2 (gw_L.of hl gw_st1_sub) hF)
theorem go_iinc {y : gw_Y} {d bc bs pc : Nat} {lv : List (Option Value)} {st : List Value} {M : gw_Mem} {Q : Option Value → gw_Mem → Prop} {i : Nat} {z : Int} {x v : Int32} (hd : decode y.2.1 pc = .ok (.iinc i z, 3)) (hx : gw_get lv i = some (.int x)) (hv : x + Int32.ofInt z = v) (hn : i < y.2.2.1) (k : gw_Go y d bc bs (pc + 3) (gw_st1 lv i (.int v)) st M Q) : gw_Go y d bc bs pc lv st M Q := by
  intro K p l e R s m args below meth c H locs cells slots Z ls hC hD h1 h2 hL hF
  obtain ⟨q, hq⟩ := List.getElem?_of_mem (gw_as_mem (K := K) hx)
  exact lv_iinc hC.1 hC.2.1 hd hL hq hv hn rfl (fun ls' hl => k K p l e R s m args below meth c H locs cells slots Z ls' hC hD h1 h2 (gw_L.of hl gw_st1_sub) hF)
theorem go_iadd {y : gw_Y} {d bc bs pc : Nat} {lv : List (Option Value)} {st : List Value} {M : gw_Mem} {Q : Option Value → gw_Mem → Prop} {x z : Int32} (hd : decode y.2.1 pc = .ok (.iadd, 1))  (k : gw_Go y d bc bs (pc + 1) lv (.int (x + z) :: st) M Q) : gw_Go y d bc bs pc lv (.int z :: .int x :: st) M Q := by
  intro K p l e R s m args below meth c H locs cells slots Z ls hC hD h1 h2 hL hF
  exact lv_iadd hC.1 hC.2.1 hd  (k K p l e R s m args below meth c H locs cells slots Z ls hC hD h1 h2 hL hF)
theorem go_isub {y : gw_Y} {d bc bs pc : Nat} {lv : List (Option Value)} {st : List Value} {M : gw_Mem} {Q : Option Value → gw_Mem → Prop} {x z : Int32} (hd : decode y.2.1 pc = .ok (.isub, 1))  (k : gw_Go y d bc bs (pc + 1) lv (.int (x - z) :: st) M Q) : gw_Go y d bc bs pc lv (.int z :: .int x :: st) M Q := by
  intro K p l e R s m args below meth c H locs cells slots Z ls hC hD h1 h2 hL hF
  exact lv_isub hC.1 hC.2.1 hd  (k K p l e R s m args below meth c H locs cells slots Z ls hC hD h1 h2 hL hF)
theorem go_imul {y : gw_Y} {d bc bs pc : Nat} {lv : List (Option Value)} {st : List Value} {M : gw_Mem} {Q : Option Value → gw_Mem → Prop} {x z : Int32} (hd : decode y.2.1 pc = .ok (.imul, 1))  (k : gw_Go y d bc bs (pc + 1) lv (.int (x * z) :: st) M Q) : gw_Go y d bc bs pc lv (.int z :: .int x :: st) M Q := by
  intro K p l e R s m args below meth c H locs cells slots Z ls hC hD h1 h2 hL hF
  exact lv_imul hC.1 hC.2.1 hd  (k K p l e R s m args below meth c H locs cells slots Z ls hC hD h1 h2 hL hF)
theorem go_iand {y : gw_Y} {d bc bs pc : Nat} {lv : List (Option Value)} {st : List Value} {M : gw_Mem} {Q : Option Value → gw_Mem → Prop} {x z : Int32} (hd : decode y.2.1 pc = .ok (.iand, 1))  (k : gw_Go y d bc bs (pc + 1) lv (.int (x &&& z) :: st) M Q) : gw_Go y d bc bs pc lv (.int z :: .int x :: st) M Q := by
  intro K p l e R s m args below meth c H locs cells slots Z ls hC hD h1 h2 hL hF
  exact lv_iand hC.1 hC.2.1 hd  (k K p l e R s m args below meth c H locs cells slots Z ls hC hD h1 h2 hL hF)
theorem go_idiv {y : gw_Y} {d bc bs pc : Nat} {lv : List (Option Value)} {st : List Value} {M : gw_Mem} {Q : Option Value → gw_Mem → Prop} {x z : Int32} (hd : decode y.2.1 pc = .ok (.idiv, 1)) (hne : ¬ z = 0) (k : gw_Go y d bc bs (pc + 1) lv (.int (x / z) :: st) M Q) : gw_Go y d bc bs pc lv (.int z :: .int x :: st) M Q := by
  intro K p l e R s m args below meth c H locs cells slots Z ls hC hD h1 h2 hL hF
  exact lv_idiv hC.1 hC.2.1 hd hne (k K p l e R s m args below meth c H locs cells slots Z ls hC hD h1 h2 hL hF)
theorem go_irem {y : gw_Y} {d bc bs pc : Nat} {lv : List (Option Value)} {st : List Value} {M : gw_Mem} {Q : Option Value → gw_Mem → Prop} {x z : Int32} (hd : decode y.2.1 pc = .ok (.irem, 1)) (hne : ¬ z = 0) (k : gw_Go y d bc bs (pc + 1) lv (.int (x - x / z * z) :: st) M Q) : gw_Go y d bc bs pc lv (.int z :: .int x :: st) M Q := by
  intro K p l e R s m args below meth c H locs cells slots Z ls hC hD h1 h2 hL hF
  exact lv_irem hC.1 hC.2.1 hd hne (k K p l e R s m args below meth c H locs cells slots Z ls hC hD h1 h2 hL hF)
theorem go_ineg {y : gw_Y} {d bc bs pc : Nat} {lv : List (Option Value)} {st : List Value} {M : gw_Mem} {Q : Option Value → gw_Mem → Prop} {x : Int32} (hd : decode y.2.1 pc = .ok (.ineg, 1))  (k : gw_Go y d bc bs (pc + 1) lv (.int (-x) :: st) M Q) : gw_Go y d bc bs pc lv (.int x :: st) M Q := by
  intro K p l e R s m args below meth c H locs cells slots Z ls hC hD h1 h2 hL hF
  exact lv_ineg hC.1 hC.2.1 hd  (k K p l e R s m args below meth c H locs cells slots Z ls hC hD h1 h2 hL hF)
theorem go_ladd {y : gw_Y} {d bc bs pc : Nat} {lv : List (Option Value)} {st : List Value} {M : gw_Mem} {Q : Option Value → gw_Mem → Prop} {x z : Int64} (hd : decode y.2.1 pc = .ok (.ladd, 1))  (k : gw_Go y d bc bs (pc + 1) lv (.long (x + z) :: st) M Q) : gw_Go y d bc bs pc lv (.long z :: .long x :: st) M Q := by
  intro K p l e R s m args below meth c H locs cells slots Z ls hC hD h1 h2 hL hF
  exact lv_ladd hC.1 hC.2.1 hd  (k K p l e R s m args below meth c H locs cells slots Z ls hC hD h1 h2 hL hF)
theorem go_lsub {y : gw_Y} {d bc bs pc : Nat} {lv : List (Option Value)} {st : List Value} {M : gw_Mem} {Q : Option Value → gw_Mem → Prop} {x z : Int64} (hd : decode y.2.1 pc = .ok (.lsub, 1))  (k : gw_Go y d bc bs (pc + 1) lv (.long (x - z) :: st) M Q) : gw_Go y d bc bs pc lv (.long z :: .long x :: st) M Q := by
  intro K p l e R s m args below meth c H locs cells slots Z ls hC hD h1 h2 hL hF
  exact lv_lsub hC.1 hC.2.1 hd  (k K p l e R s m args below meth c H locs cells slots Z ls hC hD h1 h2 hL hF)
theorem go_lmul {y : gw_Y} {d bc bs pc : Nat} {lv : List (Option Value)} {st : List Value} {M : gw_Mem} {Q : Option Value → gw_Mem → Prop} {x z : Int64} (hd : decode y.2.1 pc = .ok (.lmul, 1))  (k : gw_Go y d bc bs (pc + 1) lv (.long (x * z) :: st) M Q) : gw_Go y d bc bs pc lv (.long z :: .long x :: st) M Q := by
  intro K p l e R s m args below meth c H locs cells slots Z ls hC hD h1 h2 hL hF
  exact lv_lmul hC.1 hC.2.1 hd  (k K p l e R s m args below meth c H locs cells slots Z ls hC hD h1 h2 hL hF)
theorem go_lneg {y : gw_Y} {d bc bs pc : Nat} {lv : List (Option Value)} {st : List Value} {M : gw_Mem} {Q : Option Value → gw_Mem → Prop} {x : Int64} (hd : decode y.2.1 pc = .ok (.lneg, 1))  (k : gw_Go y d bc bs (pc + 1) lv (.long (-x) :: st) M Q) : gw_Go y d bc bs pc lv (.long x :: st) M Q := by
  intro K p l e R s m args below meth c H locs cells slots Z ls hC hD h1 h2 hL hF
  exact lv_lneg hC.1 hC.2.1 hd  (k K p l e R s m args below meth c H locs cells slots Z ls hC hD h1 h2 hL hF)
theorem go_i2l {y : gw_Y} {d bc bs pc : Nat} {lv : List (Option Value)} {st : List Value} {M : gw_Mem} {Q : Option Value → gw_Mem → Prop} {x : Int32} {v : Int64} (hd : decode y.2.1 pc = .ok (.i2l, 1)) (hv : x.toInt64 = v) (k : gw_Go y d bc bs (pc + 1) lv (.long v :: st) M Q) : gw_Go y d bc bs pc lv (.int x :: st) M Q := by
  intro K p l e R s m args below meth c H locs cells slots Z ls hC hD h1 h2 hL hF
  exact lv_i2l hC.1 hC.2.1 hd hv (k K p l e R s m args below meth c H locs cells slots Z ls hC hD h1 h2 hL hF)
theorem go_l2i {y : gw_Y} {d bc bs pc : Nat} {lv : List (Option Value)} {st : List Value} {M : gw_Mem} {Q : Option Value → gw_Mem → Prop} {x : Int64} {v : Int32} (hd : decode y.2.1 pc = .ok (.l2i, 1)) (hv : x.toInt32 = v) (k : gw_Go y d bc bs (pc + 1) lv (.int v :: st) M Q) : gw_Go y d bc bs pc lv (.long x :: st) M Q := by
  intro K p l e R s m args below meth c H locs cells slots Z ls hC hD h1 h2 hL hF
  exact lv_l2i hC.1 hC.2.1 hd hv (k K p l e R s m args below meth c H locs cells slots Z ls hC hD h1 h2 hL hF)
theorem go_dup {y : gw_Y} {d bc bs pc : Nat} {lv : List (Option Value)} {st : List Value} {M : gw_Mem} {Q : Option Value → gw_Mem → Prop} {va : Value} (hd : decode y.2.1 pc = .ok (.dup, 1)) (hva : va.category = 1) (k : gw_Go y d bc bs (pc + 1) lv (va :: va :: st) M Q) : gw_Go y d bc bs pc lv (va :: st) M Q := by
  intro K p l e R s m args below meth c H locs cells slots Z ls hC hD h1 h2 hL hF
  exact lv_dup hC.1 hC.2.1 hd ((gw_mv_cat K va).trans hva) (k K p l e R s m args below meth c H locs cells slots Z ls hC hD h1 h2 hL hF)
theorem go_pop {y : gw_Y} {d bc bs pc : Nat} {lv : List (Option Value)} {st : List Value} {M : gw_Mem} {Q : Option Value → gw_Mem → Prop} {va : Value} (hd : decode y.2.1 pc = .ok (.pop, 1)) (hva : va.category = 1) (k : gw_Go y d bc bs (pc + 1) lv st M Q) : gw_Go y d bc bs pc lv (va :: st) M Q := by
  intro K p l e R s m args below meth c H locs cells slots Z ls hC hD h1 h2 hL hF
  exact lv_pop hC.1 hC.2.1 hd ((gw_mv_cat K va).trans hva) (k K p l e R s m args below meth c H locs cells slots Z ls hC hD h1 h2 hL hF)
theorem go_dup_x1 {y : gw_Y} {d bc bs pc : Nat} {lv : List (Option Value)} {st : List Value} {M : gw_Mem} {Q : Option Value → gw_Mem → Prop} {va vb : Value} (hd : decode y.2.1 pc = .ok (.dup_x1, 1)) (hva : va.category = 1) (hvb : vb.category = 1) (k : gw_Go y d bc bs (pc + 1) lv (va :: vb :: va :: st) M Q) : gw_Go y d bc bs pc lv (va :: vb :: st) M Q := by
  intro K p l e R s m args below meth c H locs cells slots Z ls hC hD h1 h2 hL hF
  exact lv_dup_x1 hC.1 hC.2.1 hd ((gw_mv_cat K va).trans hva) ((gw_mv_cat K vb).trans hvb) (k K p l e R s m args below meth c H locs cells slots Z ls hC hD h1 h2 hL hF)
theorem go_dup_x2 {y : gw_Y} {d bc bs pc : Nat} {lv : List (Option Value)} {st : List Value} {M : gw_Mem} {Q : Option Value → gw_Mem → Prop} {va vb vd : Value} (hd : decode y.2.1 pc = .ok (.dup_x2, 1)) (hva : va.category = 1) (hvb : vb.category = 1) (hvd : vd.category = 1) (k : gw_Go y d bc bs (pc + 1) lv (va :: vb :: vd :: va :: st) M Q) : gw_Go y d bc bs pc lv (va :: vb :: vd :: st) M Q := by
  intro K p l e R s m args below meth c H locs cells slots Z ls hC hD h1 h2 hL hF
  exact lv_dup_x2 hC.1 hC.2.1 hd ((gw_mv_cat K va).trans hva) ((gw_mv_cat K vb).trans hvb) ((gw_mv_cat K vd).trans hvd) (k K p l e R s m args below meth c H locs cells slots Z ls hC hD h1 h2 hL hF)
theorem go_dup2 {y : gw_Y} {d bc bs pc : Nat} {lv : List (Option Value)} {st : List Value} {M : gw_Mem} {Q : Option Value → gw_Mem → Prop} {va vb : Value} (hd : decode y.2.1 pc = .ok (.dup2, 1)) (hva : va.category = 1) (hvb : vb.category = 1) (k : gw_Go y d bc bs (pc + 1) lv (va :: vb :: va :: vb :: st) M Q) : gw_Go y d bc bs pc lv (va :: vb :: st) M Q := by
  intro K p l e R s m args below meth c H locs cells slots Z ls hC hD h1 h2 hL hF
  exact lv_dup2_11 hC.1 hC.2.1 hd ((gw_mv_cat K va).trans hva) ((gw_mv_cat K vb).trans hvb) (k K p l e R s m args below meth c H locs cells slots Z ls hC hD h1 h2 hL hF)
theorem go_dup2w {y : gw_Y} {d bc bs pc : Nat} {lv : List (Option Value)} {st : List Value} {M : gw_Mem} {Q : Option Value → gw_Mem → Prop} {va : Value} (hd : decode y.2.1 pc = .ok (.dup2, 1)) (hva : va.category = 2) (k : gw_Go y d bc bs (pc + 1) lv (va :: va :: st) M Q) : gw_Go y d bc bs pc lv (va :: st) M Q := by
  intro K p l e R s m args below meth c H locs cells slots Z ls hC hD h1 h2 hL hF
  exact lv_dup2_2 hC.1 hC.2.1 hd ((gw_mv_cat K va).trans hva) (k K p l e R s m args below meth c H locs cells slots Z ls hC hD h1 h2 hL hF)
theorem go_pop2w {y : gw_Y} {d bc bs pc : Nat} {lv : List (Option Value)} {st : List Value} {M : gw_Mem} {Q : Option Value → gw_Mem → Prop} {va : Value} (hd : decode y.2.1 pc = .ok (.pop2, 1)) (hva : va.category = 2) (k : gw_Go y d bc bs (pc + 1) lv st M Q) : gw_Go y d bc bs pc lv (va :: st) M Q := by
  intro K p l e R s m args below meth c H locs cells slots Z ls hC hD h1 h2 hL hF
  exact lv_pop2_2 hC.1 hC.2.1 hd ((gw_mv_cat K va).trans hva) (k K p l e R s m args below meth c H locs cells slots Z ls hC hD h1 h2 hL hF)
theorem go_pop2 {y : gw_Y} {d bc bs pc : Nat} {lv : List (Option Value)} {st : List Value} {M : gw_Mem} {Q : Option Value → gw_Mem → Prop} {va vb : Value} (hd : decode y.2.1 pc = .ok (.pop2, 1)) (hva : va.category = 1) (hvb : vb.category = 1) (k : gw_Go y d bc bs (pc + 1) lv st M Q) : gw_Go y d bc bs pc lv (va :: vb :: st) M Q := by
  intro K p l e R s m args below meth c H locs cells slots Z ls hC hD h1 h2 hL hF
  exact lv_pop2_11 hC.1 hC.2.1 hd ((gw_mv_cat K va).trans hva) ((gw_mv_cat K vb).trans hvb) (k K p l e R s m args below meth c H locs cells slots Z ls hC hD h1 h2 hL hF)
theorem go_dup2_x1w {y : gw_Y} {d bc bs pc : Nat} {lv : List (Option Value)} {st : List Value} {M : gw_Mem} {Q : Option Value → gw_Mem → Prop} {va vb : Value} (hd : decode y.2.1 pc = .ok (.dup2_x1, 1)) (hva : va.category = 2) (hvb : vb.category = 1) (k : gw_Go y d bc bs (pc + 1) lv (va :: vb :: va :: st) M Q) : gw_Go y d bc bs pc lv (va :: vb :: st) M Q := by
  intro K p l e R s m args below meth c H locs cells slots Z ls hC hD h1 h2 hL hF
  exact lv_dup2_x1_2 hC.1 hC.2.1 hd ((gw_mv_cat K va).trans hva) ((gw_mv_cat K vb).trans hvb) (k K p l e R s m args below meth c H locs cells slots Z ls hC hD h1 h2 hL hF)
theorem go_dup2_x2w {y : gw_Y} {d bc bs pc : Nat} {lv : List (Option Value)} {st : List Value} {M : gw_Mem} {Q : Option Value → gw_Mem → Prop} {va vb vd : Value} (hd : decode y.2.1 pc = .ok (.dup2_x2, 1)) (hva : va.category = 2) (hvb : vb.category = 1) (hvd : vd.category = 1) (k : gw_Go y d bc bs (pc + 1) lv (va :: vb :: vd :: va :: st) M Q) : gw_Go y d bc bs pc lv (va :: vb :: vd :: st) M Q := by
  intro K p l e R s m args below meth c H locs cells slots Z ls hC hD h1 h2 hL hF
  exact lv_dup2_x2_2 hC.1 hC.2.1 hd ((gw_mv_cat K va).trans hva) ((gw_mv_cat K vb).trans hvb) ((gw_mv_cat K vd).trans hvd) (k K p l e R s m args below meth c H locs cells slots Z ls hC hD h1 h2 hL hF)
theorem go_if_eq {y : gw_Y} {d bc bs pc : Nat} {lv : List (Option Value)} {st : List Value} {M : gw_Mem} {Q : Option Value → gw_Mem → Prop} {x : Int32} {off : Int} (tgt : Nat) (hd : decode y.2.1 pc = .ok (.ifCond .eq off, 3)) (ht : (pc : Int) + off = (tgt : Int)) (kt : x = 0 → gw_Go y d bc bs tgt lv st M Q) (kf : ¬ x = 0 → gw_Go y d bc bs (pc + 3) lv st M Q) : gw_Go y d bc bs pc lv (.int x :: st) M Q := by
  intro K p l e R s m args below meth c H locs cells slots Z ls hC hD h1 h2 hL hF
  exact lv_if_eq hC.1 hC.2.1 hd ht (fun q => kt q K p l e R s m args below meth c H locs cells slots Z ls hC hD h1 h2 hL hF) (fun q => kf q K p l e R s m args below meth c H locs cells slots Z ls hC hD h1 h2 hL hF)
theorem go_icmp_eq {y : gw_Y} {d bc bs pc : Nat} {lv : List (Option Value)} {st : List Value} {M : gw_Mem} {Q : Option Value → gw_Mem → Prop} {x z : Int32} {off : Int} (tgt : Nat) (hd : decode y.2.1 pc = .ok (.if_icmp .eq off, 3)) (ht : (pc : Int) + off = (tgt : Int)) (kt : x = z → gw_Go y d bc bs tgt lv st M Q) (kf : ¬ x = z → gw_Go y d bc bs (pc + 3) lv st M Q) : gw_Go y d bc bs pc lv (.int z :: .int x :: st) M Q := by
  intro K p l e R s m args below meth c H locs cells slots Z ls hC hD h1 h2 hL hF
  exact lv_icmp_eq hC.1 hC.2.1 hd ht (fun q => kt q K p l e R s m args below meth c H locs cells slots Z ls hC hD h1 h2 hL hF) (fun q => kf q K p l e R s m args below meth c H locs cells slots Z ls hC hD h1 h2 hL hF)
theorem go_if_ne {y : gw_Y} {d bc bs pc : Nat} {lv : List (Option Value)} {st : List Value} {M : gw_Mem} {Q : Option Value → gw_Mem → Prop} {x : Int32} {off : Int} (tgt : Nat) (hd : decode y.2.1 pc = .ok (.ifCond .ne off, 3)) (ht : (pc : Int) + off = (tgt : Int)) (kt : ¬ x = 0 → gw_Go y d bc bs tgt lv st M Q) (kf : x = 0 → gw_Go y d bc bs (pc + 3) lv st M Q) : gw_Go y d bc bs pc lv (.int x :: st) M Q := by
  intro K p l e R s m args below meth c H locs cells slots Z ls hC hD h1 h2 hL hF
  exact lv_if_ne hC.1 hC.2.1 hd ht (fun q => kt q K p l e R s m args below meth c H locs cells slots Z ls hC hD h1 h2 hL hF) (fun q => kf q K p l e R s m args below meth c H locs cells slots Z ls hC hD h1 h2 hL hF)
theorem go_icmp_ne {y : gw_Y} {d bc bs pc : Nat} {lv : List (Option Value)} {st : List Value} {M : gw_Mem} {Q : Option Value → gw_Mem → Prop} {x z : Int32} {off : Int} (tgt : Nat) (hd : decode y.2.1 pc = .ok (.if_icmp .ne off, 3)) (ht : (pc : Int) + off = (tgt : Int)) (kt : ¬ x = z → gw_Go y d bc bs tgt lv st M Q) (kf : x = z → gw_Go y d bc bs (pc + 3) lv st M Q) : gw_Go y d bc bs pc lv (.int z :: .int x :: st) M Q := by
  intro K p l e R s m args below meth c H locs cells slots Z ls hC hD h1 h2 hL hF
  exact lv_icmp_ne hC.1 hC.2.1 hd ht (fun q => kt q K p l e R s m args below meth c H locs cells slots Z ls hC hD h1 h2 hL hF) (fun q => kf q K p l e R s m args below meth c H locs cells slots Z ls hC hD h1 h2 hL hF)
theorem go_if_lt {y : gw_Y} {d bc bs pc : Nat} {lv : List (Option Value)} {st : List Value} {M : gw_Mem} {Q : Option Value → gw_Mem → Prop} {x : Int32} {off : Int} (tgt : Nat) (hd : decode y.2.1 pc = .ok (.ifCond .lt off, 3)) (ht : (pc : Int) + off = (tgt : Int)) (kt : x < 0 → gw_Go y d bc bs tgt lv st M Q) (kf : ¬ x < 0 → gw_Go y d bc bs (pc + 3) lv st M Q) : gw_Go y d bc bs pc lv (.int x :: st) M Q := by
  intro K p l e R s m args below meth c H locs cells slots Z ls hC hD h1 h2 hL hF
  exact lv_if_lt hC.1 hC.2.1 hd ht (fun q => kt q K p l e R s m args below meth c H locs cells slots Z ls hC hD h1 h2 hL hF) (fun q => kf q K p l e R s m args below meth c H locs cells slots Z ls hC hD h1 h2 hL hF)
theorem go_icmp_lt {y : gw_Y} {d bc bs pc : Nat} {lv : List (Option Value)} {st : List Value} {M : gw_Mem} {Q : Option Value → gw_Mem → Prop} {x z : Int32} {off : Int} (tgt : Nat) (hd : decode y.2.1 pc = .ok (.if_icmp .lt off, 3)) (ht : (pc : Int) + off = (tgt : Int)) (kt : x < z → gw_Go y d bc bs tgt lv st M Q) (kf : ¬ x < z → gw_Go y d bc bs (pc + 3) lv st M Q) : gw_Go y d bc bs pc lv (.int z :: .int x :: st) M Q := by
  intro K p l e R s m args below meth c H locs cells slots Z ls hC hD h1 h2 hL hF
  exact lv_icmp_lt hC.1 hC.2.1 hd ht (fun q => kt q K p l e R s m args below meth c H locs cells slots Z ls hC hD h1 h2 hL hF) (fun q => kf q K p l e R s m args below meth c H locs cells slots Z ls hC hD h1 h2 hL hF)
theorem go_if_ge {y : gw_Y} {d bc bs pc : Nat} {lv : List (Option Value)} {st : List Value} {M : gw_Mem} {Q : Option Value → gw_Mem → Prop} {x : Int32} {off : Int} (tgt : Nat) (hd : decode y.2.1 pc = .ok (.ifCond .ge off, 3)) (ht : (pc : Int) + off = (tgt : Int)) (kt : 0 ≤ x → gw_Go y d bc bs tgt lv st M Q) (kf : ¬ 0 ≤ x → gw_Go y d bc bs (pc + 3) lv st M Q) : gw_Go y d bc bs pc lv (.int x :: st) M Q := by
  intro K p l e R s m args below meth c H locs cells slots Z ls hC hD h1 h2 hL hF
  exact lv_if_ge hC.1 hC.2.1 hd ht (fun q => kt q K p l e R s m args below meth c H locs cells slots Z ls hC hD h1 h2 hL hF) (fun q => kf q K p l e R s m args below meth c H locs cells slots Z ls hC hD h1 h2 hL hF)
theorem go_icmp_ge {y : gw_Y} {d bc bs pc : Nat} {lv : List (Option Value)} {st : List Value} {M : gw_Mem} {Q : Option Value → gw_Mem → Prop} {x z : Int32} {off : Int} (tgt : Nat) (hd : decode y.2.1 pc = .ok (.if_icmp .ge off, 3)) (ht : (pc : Int) + off = (tgt : Int)) (kt : z ≤ x → gw_Go y d bc bs tgt lv st M Q) (kf : ¬ z ≤ x → gw_Go y d bc bs (pc + 3) lv st M Q) : gw_Go y d bc bs pc lv (.int z :: .int x :: st) M Q := by
  intro K p l e R s m args below meth c H locs cells slots Z ls hC hD h1 h2 hL hF
  exact lv_icmp_ge hC.1 hC.2.1 hd ht (fun q => kt q K p l e R s m args below meth c H locs cells slots Z ls hC hD h1 h2 hL hF) (fun q => kf q K p l e R s m args below meth c H locs cells slots Z ls hC hD h1 h2 hL hF)
theorem go_if_gt {y : gw_Y} {d bc bs pc : Nat} {lv : List (Option Value)} {st : List Value} {M : gw_Mem} {Q : Option Value → gw_Mem → Prop} {x : Int32} {off : Int} (tgt : Nat) (hd : decode y.2.1 pc = .ok (.ifCond .gt off, 3)) (ht : (pc : Int) + off = (tgt : Int)) (kt : 0 < x → gw_Go y d bc bs tgt lv st M Q) (kf : ¬ 0 < x → gw_Go y d bc bs (pc + 3) lv st M Q) : gw_Go y d bc bs pc lv (.int x :: st) M Q := by
  intro K p l e R s m args below meth c H locs cells slots Z ls hC hD h1 h2 hL hF
  exact lv_if_gt hC.1 hC.2.1 hd ht (fun q => kt q K p l e R s m args below meth c H locs cells slots Z ls hC hD h1 h2 hL hF) (fun q => kf q K p l e R s m args below meth c H locs cells slots Z ls hC hD h1 h2 hL hF)
theorem go_icmp_gt {y : gw_Y} {d bc bs pc : Nat} {lv : List (Option Value)} {st : List Value} {M : gw_Mem} {Q : Option Value → gw_Mem → Prop} {x z : Int32} {off : Int} (tgt : Nat) (hd : decode y.2.1 pc = .ok (.if_icmp .gt off, 3)) (ht : (pc : Int) + off = (tgt : Int)) (kt : z < x → gw_Go y d bc bs tgt lv st M Q) (kf : ¬ z < x → gw_Go y d bc bs (pc + 3) lv st M Q) : gw_Go y d bc bs pc lv (.int z :: .int x :: st) M Q := by
  intro K p l e R s m args below meth c H locs cells slots Z ls hC hD h1 h2 hL hF
  exact lv_icmp_gt hC.1 hC.2.1 hd ht (fun q => kt q K p l e R s m args below meth c H locs cells slots Z ls hC hD h1 h2 hL hF) (fun q => kf q K p l e R s m args below meth c H locs cells slots Z ls hC hD h1 h2 hL hF)
theorem go_if_le {y : gw_Y} {d bc bs pc : Nat} {lv : List (Option Value)} {st : List Value} {M : gw_Mem} {Q : Option Value → gw_Mem → Prop} {x : Int32} {off : Int} (tgt : Nat) (hd : decode y.2.1 pc = .ok (.ifCond .le off, 3)) (ht : (pc : Int) + off = (tgt : Int)) (kt : x ≤ 0 → gw_Go y d bc bs tgt lv st M Q) (kf : ¬ x ≤ 0 → gw_Go y d bc bs (pc + 3) lv st M Q) : gw_Go y d bc bs pc lv (.int x :: st) M Q := by
  intro K p l e R s m args below meth c H locs cells slots Z ls hC hD h1 h2 hL hF
  exact lv_if_le hC.1 hC.2.1 hd ht (fun q => kt q K p l e R s m args below meth c H locs cells slots Z ls hC hD h1 h2 hL hF) (fun q => kf q K p l e R s m args below meth c H locs cells slots Z ls hC hD h1 h2 hL hF)
theorem go_icmp_le {y : gw_Y} {d bc bs pc : Nat} {lv : List (Option Value)} {st : List Value} {M : gw_Mem} {Q : Option Value → gw_Mem → Prop} {x z : Int32} {off : Int} (tgt : Nat) (hd : decode y.2.1 pc = .ok (.if_icmp .le off, 3)) (ht : (pc : Int) + off = (tgt : Int)) (kt : x ≤ z → gw_Go y d bc bs tgt lv st M Q) (kf : ¬ x ≤ z → gw_Go y d bc bs (pc + 3) lv st M Q) : gw_Go y d bc bs pc lv (.int z :: .int x :: st) M Q := by
  intro K p l e R s m args below meth c H locs cells slots Z ls hC hD h1 h2 hL hF
  exact lv_icmp_le hC.1 hC.2.1 hd ht (fun q => kt q K p l e R s m args below meth c H locs cells slots Z ls hC hD h1 h2 hL hF) (fun q => kf q K p l e R s m args below meth c H locs cells slots Z ls hC hD h1 h2 hL hF)
theorem go_lcmp_eq {y : gw_Y} {d bc bs pc : Nat} {lv : List (Option Value)} {st : List Value} {M : gw_Mem} {Q : Option Value → gw_Mem → Prop} {x z : Int64} {off : Int} (tgt : Nat) (hd : decode y.2.1 pc = .ok (.lcmp, 1)) (hd2 : decode y.2.1 (pc + 1) = .ok (.ifCond .eq off, 3)) (ht : ((pc + 1 : Nat) : Int) + off = (tgt : Int)) (kt : x = z → gw_Go y d bc bs tgt lv st M Q) (kf : ¬ x = z → gw_Go y d bc bs (pc + 4) lv st M Q) : gw_Go y d bc bs pc lv (.long z :: .long x :: st) M Q := by
  intro K p l e R s m args below meth c H locs cells slots Z ls hC hD h1 h2 hL hF
  refine W.lcmp hC.1 hC.2.1 hd ?_
  exact lv_if_eq hC.1 hC.2.1 hd2 ht (fun q => kt (by have e1 := lg_cmp_eq x z; have e2 := lg_cmp_lt x z; have e3 := lg_cmp_gt x z; have e4 := lg_cmp_ge x z; have e5 := lg_cmp_le x z; first | exact e1.mp q | exact e2.mp q | exact e3.mp q | exact fun h => q (e1.mpr h) | exact fun h => q (e2.mpr h) | exact fun h => q (e3.mpr h) | exact Int64.not_lt.mpr (e4.mp q) | exact Int64.not_lt.mpr (e5.mp q) | exact Int64.not_le.mp (fun h => q (e4.mpr h)) | exact Int64.not_le.mp (fun h => q (e5.mpr h))) K p l e R s m args below meth c H locs cells slots Z ls hC hD h1 h2 hL hF) (fun q => kf (by have e1 := lg_cmp_eq x z; have e2 := lg_cmp_lt x z; have e3 := lg_cmp_gt x z; have e4 := lg_cmp_ge x z; have e5 := lg_cmp_le x z; first | exact e1.mp q | exact e2.mp q | exact e3.mp q | exact fun h => q (e1.mpr h) | exact fun h => q (e2.mpr h) | exact fun h => q (e3.mpr h) | exact Int64.not_lt.mpr (e4.mp q) | exact Int64.not_lt.mpr (e5.mp q) | exact Int64.not_le.mp (fun h => q (e4.mpr h)) | exact Int64.not_le.mp (fun h => q (e5.mpr h))) K p l e R s m args below meth c H locs cells slots Z ls hC hD h1 h2 hL hF)
theorem go_lcmp_ne {y : gw_Y} {d bc bs pc : Nat} {lv : List (Option Value)} {st : List Value} {M : gw_Mem} {Q : Option Value → gw_Mem → Prop} {x z : Int64} {off : Int} (tgt : Nat) (hd : decode y.2.1 pc = .ok (.lcmp, 1)) (hd2 : decode y.2.1 (pc + 1) = .ok (.ifCond .ne off, 3)) (ht : ((pc + 1 : Nat) : Int) + off = (tgt : Int)) (kt : ¬ x = z → gw_Go y d bc bs tgt lv st M Q) (kf : x = z → gw_Go y d bc bs (pc + 4) lv st M Q) : gw_Go y d bc bs pc lv (.long z :: .long x :: st) M Q := by
  intro K p l e R s m args below meth c H locs cells slots Z ls hC hD h1 h2 hL hF
  refine W.lcmp hC.1 hC.2.1 hd ?_
  exact lv_if_ne hC.1 hC.2.1 hd2 ht (fun q => kt (by have e1 := lg_cmp_eq x z; have e2 := lg_cmp_lt x z; have e3 := lg_cmp_gt x z; have e4 := lg_cmp_ge x z; have e5 := lg_cmp_le x z; first | exact e1.mp q | exact e2.mp q | exact e3.mp q | exact fun h => q (e1.mpr h) | exact fun h => q (e2.mpr h) | exact fun h => q (e3.mpr h) | exact Int64.not_lt.mpr (e4.mp q) | exact Int64.not_lt.mpr (e5.mp q) | exact Int64.not_le.mp (fun h => q (e4.mpr h)) | exact Int64.not_le.mp (fun h => q (e5.mpr h))) K p l e R s m args below meth c H locs cells slots Z ls hC hD h1 h2 hL hF) (fun q => kf (by have e1 := lg_cmp_eq x z; have e2 := lg_cmp_lt x z; have e3 := lg_cmp_gt x z; have e4 := lg_cmp_ge x z; have e5 := lg_cmp_le x z; first | exact e1.mp q | exact e2.mp q | exact e3.mp q | exact fun h => q (e1.mpr h) | exact fun h => q (e2.mpr h) | exact fun h => q (e3.mpr h) | exact Int64.not_lt.mpr (e4.mp q) | exact Int64.not_lt.mpr (e5.mp q) | exact Int64.not_le.mp (fun h => q (e4.mpr h)) | exact Int64.not_le.mp (fun h => q (e5.mpr h))) K p l e R s m args below meth c H locs cells slots Z ls hC hD h1 h2 hL hF)
theorem go_lcmp_lt {y : gw_Y} {d bc bs pc : Nat} {lv : List (Option Value)} {st : List Value} {M : gw_Mem} {Q : Option Value → gw_Mem → Prop} {x z : Int64} {off : Int} (tgt : Nat) (hd : decode y.2.1 pc = .ok (.lcmp, 1)) (hd2 : decode y.2.1 (pc + 1) = .ok (.ifCond .lt off, 3)) (ht : ((pc + 1 : Nat) : Int) + off = (tgt : Int)) (kt : x < z → gw_Go y d bc bs tgt lv st M Q) (kf : ¬ x < z → gw_Go y d bc bs (pc + 4) lv st M Q) : gw_Go y d bc bs pc lv (.long z :: .long x :: st) M Q := by
  intro K p l e R s m args below meth c H locs cells slots Z ls hC hD h1 h2 hL hF
  refine W.lcmp hC.1 hC.2.1 hd ?_
  exact lv_if_lt hC.1 hC.2.1 hd2 ht (fun q => kt (by have e1 := lg_cmp_eq x z; have e2 := lg_cmp_lt x z; have e3 := lg_cmp_gt x z; have e4 := lg_cmp_ge x z; have e5 := lg_cmp_le x z; first | exact e1.mp q | exact e2.mp q | exact e3.mp q | exact fun h => q (e1.mpr h) | exact fun h => q (e2.mpr h) | exact fun h => q (e3.mpr h) | exact Int64.not_lt.mpr (e4.mp q) | exact Int64.not_lt.mpr (e5.mp q) | exact Int64.not_le.mp (fun h => q (e4.mpr h)) | exact Int64.not_le.mp (fun h => q (e5.mpr h))) K p l e R s m args below meth c H locs cells slots Z ls hC hD h1 h2 hL hF) (fun q => kf (by have e1 := lg_cmp_eq x z; have e2 := lg_cmp_lt x z; have e3 := lg_cmp_gt x z; have e4 := lg_cmp_ge x z; have e5 := lg_cmp_le x z; first | exact e1.mp q | exact e2.mp q | exact e3.mp q | exact fun h => q (e1.mpr h) | exact fun h => q (e2.mpr h) | exact fun h => q (e3.mpr h) | exact Int64.not_lt.mpr (e4.mp q) | exact Int64.not_lt.mpr (e5.mp q) | exact Int64.not_le.mp (fun h => q (e4.mpr h)) | exact Int64.not_le.mp (fun h => q (e5.mpr h))) K p l e R s m args below meth c H locs cells slots Z ls hC hD h1 h2 hL hF)
theorem go_lcmp_ge {y : gw_Y} {d bc bs pc : Nat} {lv : List (Option Value)} {st : List Value} {M : gw_Mem} {Q : Option Value → gw_Mem → Prop} {x z : Int64} {off : Int} (tgt : Nat) (hd : decode y.2.1 pc = .ok (.lcmp, 1)) (hd2 : decode y.2.1 (pc + 1) = .ok (.ifCond .ge off, 3)) (ht : ((pc + 1 : Nat) : Int) + off = (tgt : Int)) (kt : ¬ x < z → gw_Go y d bc bs tgt lv st M Q) (kf : x < z → gw_Go y d bc bs (pc + 4) lv st M Q) : gw_Go y d bc bs pc lv (.long z :: .long x :: st) M Q := by
  intro K p l e R s m args below meth c H locs cells slots Z ls hC hD h1 h2 hL hF
  refine W.lcmp hC.1 hC.2.1 hd ?_
  exact lv_if_ge hC.1 hC.2.1 hd2 ht (fun q => kt (by have e1 := lg_cmp_eq x z; have e2 := lg_cmp_lt x z; have e3 := lg_cmp_gt x z; have e4 := lg_cmp_ge x z; have e5 := lg_cmp_le x z; first | exact e1.mp q | exact e2.mp q | exact e3.mp q | exact fun h => q (e1.mpr h) | exact fun h => q (e2.mpr h) | exact fun h => q (e3.mpr h) | exact Int64.not_lt.mpr (e4.mp q) | exact Int64.not_lt.mpr (e5.mp q) | exact Int64.not_le.mp (fun h => q (e4.mpr h)) | exact Int64.not_le.mp (fun h => q (e5.mpr h))) K p l e R s m args below meth c H locs cells slots Z ls hC hD h1 h2 hL hF) (fun q => kf (by have e1 := lg_cmp_eq x z; have e2 := lg_cmp_lt x z; have e3 := lg_cmp_gt x z; have e4 := lg_cmp_ge x z; have e5 := lg_cmp_le x z; first | exact e1.mp q | exact e2.mp q | exact e3.mp q | exact fun h => q (e1.mpr h) | exact fun h => q (e2.mpr h) | exact fun h => q (e3.mpr h) | exact Int64.not_lt.mpr (e4.mp q) | exact Int64.not_lt.mpr (e5.mp q) | exact Int64.not_le.mp (fun h => q (e4.mpr h)) | exact Int64.not_le.mp (fun h => q (e5.mpr h))) K p l e R s m args below meth c H locs cells slots Z ls hC hD h1 h2 hL hF)
theorem go_lcmp_gt {y : gw_Y} {d bc bs pc : Nat} {lv : List (Option Value)} {st : List Value} {M : gw_Mem} {Q : Option Value → gw_Mem → Prop} {x z : Int64} {off : Int} (tgt : Nat) (hd : decode y.2.1 pc = .ok (.lcmp, 1)) (hd2 : decode y.2.1 (pc + 1) = .ok (.ifCond .gt off, 3)) (ht : ((pc + 1 : Nat) : Int) + off = (tgt : Int)) (kt : z < x → gw_Go y d bc bs tgt lv st M Q) (kf : ¬ z < x → gw_Go y d bc bs (pc + 4) lv st M Q) : gw_Go y d bc bs pc lv (.long z :: .long x :: st) M Q := by
  intro K p l e R s m args below meth c H locs cells slots Z ls hC hD h1 h2 hL hF
  refine W.lcmp hC.1 hC.2.1 hd ?_
  exact lv_if_gt hC.1 hC.2.1 hd2 ht (fun q => kt (by have e1 := lg_cmp_eq x z; have e2 := lg_cmp_lt x z; have e3 := lg_cmp_gt x z; have e4 := lg_cmp_ge x z; have e5 := lg_cmp_le x z; first | exact e1.mp q | exact e2.mp q | exact e3.mp q | exact fun h => q (e1.mpr h) | exact fun h => q (e2.mpr h) | exact fun h => q (e3.mpr h) | exact Int64.not_lt.mpr (e4.mp q) | exact Int64.not_lt.mpr (e5.mp q) | exact Int64.not_le.mp (fun h => q (e4.mpr h)) | exact Int64.not_le.mp (fun h => q (e5.mpr h))) K p l e R s m args below meth c H locs cells slots Z ls hC hD h1 h2 hL hF) (fun q => kf (by have e1 := lg_cmp_eq x z; have e2 := lg_cmp_lt x z; have e3 := lg_cmp_gt x z; have e4 := lg_cmp_ge x z; have e5 := lg_cmp_le x z; first | exact e1.mp q | exact e2.mp q | exact e3.mp q | exact fun h => q (e1.mpr h) | exact fun h => q (e2.mpr h) | exact fun h => q (e3.mpr h) | exact Int64.not_lt.mpr (e4.mp q) | exact Int64.not_lt.mpr (e5.mp q) | exact Int64.not_le.mp (fun h => q (e4.mpr h)) | exact Int64.not_le.mp (fun h => q (e5.mpr h))) K p l e R s m args below meth c H locs cells slots Z ls hC hD h1 h2 hL hF)
theorem go_lcmp_le {y : gw_Y} {d bc bs pc : Nat} {lv : List (Option Value)} {st : List Value} {M : gw_Mem} {Q : Option Value → gw_Mem → Prop} {x z : Int64} {off : Int} (tgt : Nat) (hd : decode y.2.1 pc = .ok (.lcmp, 1)) (hd2 : decode y.2.1 (pc + 1) = .ok (.ifCond .le off, 3)) (ht : ((pc + 1 : Nat) : Int) + off = (tgt : Int)) (kt : ¬ z < x → gw_Go y d bc bs tgt lv st M Q) (kf : z < x → gw_Go y d bc bs (pc + 4) lv st M Q) : gw_Go y d bc bs pc lv (.long z :: .long x :: st) M Q := by
  intro K p l e R s m args below meth c H locs cells slots Z ls hC hD h1 h2 hL hF
  refine W.lcmp hC.1 hC.2.1 hd ?_
  exact lv_if_le hC.1 hC.2.1 hd2 ht (fun q => kt (by have e1 := lg_cmp_eq x z; have e2 := lg_cmp_lt x z; have e3 := lg_cmp_gt x z; have e4 := lg_cmp_ge x z; have e5 := lg_cmp_le x z; first | exact e1.mp q | exact e2.mp q | exact e3.mp q | exact fun h => q (e1.mpr h) | exact fun h => q (e2.mpr h) | exact fun h => q (e3.mpr h) | exact Int64.not_lt.mpr (e4.mp q) | exact Int64.not_lt.mpr (e5.mp q) | exact Int64.not_le.mp (fun h => q (e4.mpr h)) | exact Int64.not_le.mp (fun h => q (e5.mpr h))) K p l e R s m args below meth c H locs cells slots Z ls hC hD h1 h2 hL hF) (fun q => kf (by have e1 := lg_cmp_eq x z; have e2 := lg_cmp_lt x z; have e3 := lg_cmp_gt x z; have e4 := lg_cmp_ge x z; have e5 := lg_cmp_le x z; first | exact e1.mp q | exact e2.mp q | exact e3.mp q | exact fun h => q (e1.mpr h) | exact fun h => q (e2.mpr h) | exact fun h => q (e3.mpr h) | exact Int64.not_lt.mpr (e4.mp q) | exact Int64.not_lt.mpr (e5.mp q) | exact Int64.not_le.mp (fun h => q (e4.mpr h)) | exact Int64.not_le.mp (fun h => q (e5.mpr h))) K p l e R s m args below meth c H locs cells slots Z ls hC hD h1 h2 hL hF)
theorem go_goto {y : gw_Y} {d bc bs pc : Nat} {lv : List (Option Value)} {st : List Value} {M : gw_Mem} {Q : Option Value → gw_Mem → Prop} {off : Int} (tgt : Nat) (hd : decode y.2.1 pc = .ok (.goto off, 3)) (ht : (pc : Int) + off = (tgt : Int)) (k : gw_Go y d bc bs tgt lv st M Q) : gw_Go y d bc bs pc lv st M Q := by
  intro K p l e R s m args below meth c H locs cells slots Z ls hC hD h1 h2 hL hF
  exact lv_goto hC.1 hC.2.1 hd ht (k K p l e R s m args below meth c H locs cells slots Z ls hC hD h1 h2 hL hF)
theorem go_ifnonnull {y : gw_Y} {d bc bs pc : Nat} {lv : List (Option Value)} {st : List Value} {M : gw_Mem} {Q : Option Value → gw_Mem → Prop} {x : Nat} {off : Int} (tgt : Nat) (hd : decode y.2.1 pc = .ok (.ifnonnull off, 3)) (ht : (pc : Int) + off = (tgt : Int)) (k : gw_Go y d bc bs tgt lv st M Q) : gw_Go y d bc bs pc lv (.ref x :: st) M Q := by
  intro K p l e R s m args below meth c H locs cells slots Z ls hC hD h1 h2 hL hF
  exact lv_ifnonnull hC.1 hC.2.1 hd ht (k K p l e R s m args below meth c H locs cells slots Z ls hC hD h1 h2 hL hF)
theorem go_ifnull {y : gw_Y} {d bc bs pc : Nat} {lv : List (Option Value)} {st : List Value} {M : gw_Mem} {Q : Option Value → gw_Mem → Prop} {x : Nat} {off : Int} (hd : decode y.2.1 pc = .ok (.ifnull off, 3)) (k : gw_Go y d bc bs (pc + 3) lv st M Q) : gw_Go y d bc bs pc lv (.ref x :: st) M Q := by
  intro K p l e R s m args below meth c H locs cells slots Z ls hC hD h1 h2 hL hF
  exact lv_ifnull hC.1 hC.2.1 hd (k K p l e R s m args below meth c H locs cells slots Z ls hC hD h1 h2 hL hF)
theorem go_ifnullN {y : gw_Y} {d bc bs pc : Nat} {lv : List (Option Value)} {st : List Value} {M : gw_Mem} {Q : Option Value → gw_Mem → Prop}  {off : Int} (tgt : Nat) (hd : decode y.2.1 pc = .ok (.ifnull off, 3)) (ht : (pc : Int) + off = (tgt : Int)) (k : gw_Go y d bc bs tgt lv st M Q) : gw_Go y d bc bs pc lv (.null :: st) M Q := by
  intro K p l e R s m args below meth c H locs cells slots Z ls hC hD h1 h2 hL hF
  exact lv_ifnullN hC.1 hC.2.1 hd ht (k K p l e R s m args below meth c H locs cells slots Z ls hC hD h1 h2 hL hF)
theorem go_ifnonnullN {y : gw_Y} {d bc bs pc : Nat} {lv : List (Option Value)} {st : List Value} {M : gw_Mem} {Q : Option Value → gw_Mem → Prop}  {off : Int} (hd : decode y.2.1 pc = .ok (.ifnonnull off, 3)) (k : gw_Go y d bc bs (pc + 3) lv st M Q) : gw_Go y d bc bs pc lv (.null :: st) M Q := by
  intro K p l e R s m args below meth c H locs cells slots Z ls hC hD h1 h2 hL hF
  exact lv_ifnonnullN hC.1 hC.2.1 hd (k K p l e R s m args below meth c H locs cells slots Z ls hC hD h1 h2 hL hF)
theorem go_tableIn {y : gw_Y} {d bc bs pc : Nat} {lv : List (Option Value)} {st : List Value} {M : gw_Mem} {Q : Option Value → gw_Mem → Prop} {dflt lo hi : Int} {offs : Array Int} {len : Nat} {x : Int32} {off : Int} (tgt : Nat) (hd : decode y.2.1 pc = .ok (.tableswitch dflt lo hi offs, len)) (a1 : ¬ x.toInt < lo) (a2 : ¬ hi < x.toInt) (ho : offs[(x.toInt - lo).toNat]? = some off) (ht : (pc : Int) + off = (tgt : Int)) (k : gw_Go y d bc bs tgt lv st M Q) : gw_Go y d bc bs pc lv (.int x :: st) M Q := by
  intro K p l e R s m args below meth c H locs cells slots Z ls hC hD h1 h2 hL hF
  exact lv_tableIn hC.1 hC.2.1 hd a1 a2 ho ht (k K p l e R s m args below meth c H locs cells slots Z ls hC hD h1 h2 hL hF)
theorem go_tableOut {y : gw_Y} {d bc bs pc : Nat} {lv : List (Option Value)} {st : List Value} {M : gw_Mem} {Q : Option Value → gw_Mem → Prop} {dflt lo hi : Int} {offs : Array Int} {len : Nat} {x : Int32} (tgt : Nat) (hd : decode y.2.1 pc = .ok (.tableswitch dflt lo hi offs, len)) (a1 : x.toInt < lo ∨ hi < x.toInt) (ht : (pc : Int) + dflt = (tgt : Int)) (k : gw_Go y d bc bs tgt lv st M Q) : gw_Go y d bc bs pc lv (.int x :: st) M Q := by
  intro K p l e R s m args below meth c H locs cells slots Z ls hC hD h1 h2 hL hF
  exact lv_tableOut hC.1 hC.2.1 hd a1 ht (k K p l e R s m args below meth c H locs cells slots Z ls hC hD h1 h2 hL hF)
theorem go_lookup {y : gw_Y} {d bc bs pc : Nat} {lv : List (Option Value)} {st : List Value} {M : gw_Mem} {Q : Option Value → gw_Mem → Prop} {dflt : Int} {ps : Array (Int × Int)} {len : Nat} {x : Int32} {off : Int} (tgt : Nat) (hd : decode y.2.1 pc = .ok (.lookupswitch dflt ps, len)) (hp : (ps.toList.zip (ps.toList.drop 1)).all (fun (a, next) => a.1 < next.1) = true) (ho : Op.lookupswitch.offset ps.toList dflt x.toInt = off) (ht : (pc : Int) + off = (tgt : Int)) (k : gw_Go y d bc bs tgt lv st M Q) : gw_Go y d bc bs pc lv (.int x :: st) M Q := by
  intro K p l e R s m args below meth c H locs cells slots Z ls hC hD h1 h2 hL hF
  exact lv_lookup hC.1 hC.2.1 hd hp ho ht (k K p l e R s m args below meth c H locs cells slots Z ls hC hD h1 h2 hL hF)
end
section
/-! rules that read or write the memory -/
theorem gw_ad_lt (K : gw_K) {o : Nat} (h : o < 1048576) : gw_ad K o = K.1 + o := by unfold gw_ad; rw [if_pos h]
theorem gw_ad_in {K : gw_K} {M : gw_Mem} (hV : gw_V M) {o : Nat} (h : o < M.1) : gw_ad K o = K.1 + o := gw_ad_lt K (Nat.lt_of_lt_of_le h hV.1)
/-- the classes of the worlds, by number -/
def gw_c (ci : Nat) : vw_C := gw_cl.getD ci ("", fun _ => ("", "", "", false), 0)
def gw_kd : FieldType → Nat
  | .int => 0
  | .long => 1
  | .object _ => 2
  | .array _ => 2
  | .boolean => 3
  | _ => 9
def gw_Cok (ci : Nat) : Prop := gw_cl[ci]? = some (gw_c ci) ∧ (gw_c ci).2.2 = gw_N ci ∧ (∀ w ∈ u_ws (gw_c ci).1 (gw_c ci).2.1 (gw_c ci).2.2, w ∈ gw_all) ∧ (∀ k, k < (gw_c ci).2.2 → parseFieldDescriptor ((gw_c ci).2.1 k).2.2.1 = some (gw_ty ci k)) ∧ ∀ a, a < (gw_c ci).2.2 → ∀ b, b < (gw_c ci).2.2 → a ≠ b → ((gw_c ci).2.1 a).2.1 ≠ ((gw_c ci).2.1 b).2.1
/-- a field reference of class own's pool: field k of class ci, of kind kd, final or not -/
def gw_F (own : String) (idx ci k kd : Nat) (fin : Bool) : Prop := gw_Cok ci ∧ k < (gw_c ci).2.2 ∧ Cond.fieldLink own idx ((gw_c ci).2.1 k).1 ((gw_c ci).2.1 k).2.1 ((gw_c ci).2.1 k).2.2.1 ∈ gw_all ∧ gw_kd (gw_ty ci k) = kd ∧ ((gw_c ci).2.1 k).2.2.2 = fin
theorem gw_kd0 {t : FieldType} (h : gw_kd t = 0) : t = .int := by cases t <;> first | rfl | (exact absurd h (by simp [gw_kd]))
theorem gw_kd1 {t : FieldType} (h : gw_kd t = 1) : t = .long := by cases t <;> first | rfl | (exact absurd h (by simp [gw_kd]))
theorem gw_kd3 {t : FieldType} (h : gw_kd t = 3) : t = .boolean := by cases t <;> first | rfl | (exact absurd h (by simp [gw_kd]))
theorem gw_kd2 {t : FieldType} (h : gw_kd t = 2) : (∃ n, t = .object n) ∨ ∃ u, t = .array u := by cases t <;> first | exact Or.inl ⟨_, rfl⟩ | exact Or.inr ⟨_, rfl⟩ | (exact absurd h (by simp [gw_kd]))
theorem gw_fs_at {K : gw_K} {ci k : Nat} {r : Nat → Option Nat} {f : Nat → Int32} {g : Nat → Int64} (h : k < gw_N ci) : (gw_fs K ci r f g)[k]? = some (gw_fv K (gw_ty ci k) (r k) (f k) (g k)) := by
  unfold gw_fs
  rw [List.getElem?_map, List.getElem?_range h]
  rfl
theorem gw_fs_len {K : gw_K} {ci : Nat} {r : Nat → Option Nat} {f : Nat → Int32} {g : Nat → Int64} : (gw_fs K ci r f g).length = gw_N ci := by simp [gw_fs]
theorem gw_fs_set {K : gw_K} {ci k : Nat} {r r' : Nat → Option Nat} {f f' : Nat → Int32} {g g' : Nat → Int64} {v : Value} (hv : gw_fv K (gw_ty ci k) (r' k) (f' k) (g' k) = v) (ho : ∀ j, j ≠ k → r' j = r j ∧ f' j = f j ∧ g' j = g j) : (gw_fs K ci r f g).set k v = gw_fs K ci r' f' g' := by
  apply List.ext_getElem?
  intro j
  by_cases hj : j = k
  · subst hj
    by_cases hl : j < gw_N ci
    · rw [List.getElem?_set_self (by rw [gw_fs_len]; exact hl), gw_fs_at hl, hv]
    · rw [List.getElem?_eq_none (by rw [List.length_set, gw_fs_len]; omega), List.getElem?_eq_none (by rw [gw_fs_len]; omega)]
  · rw [List.getElem?_set_ne (Ne.symm hj)]
    by_cases hl : j < gw_N ci
    · obtain ⟨e1, e2, e3⟩ := ho j hj
      rw [gw_fs_at hl, gw_fs_at hl, e1, e2, e3]
    · rw [List.getElem?_eq_none (by rw [gw_fs_len]; omega), List.getElem?_eq_none (by rw [gw_fs_len]; omega)]
theorem gw_at_obj {K : gw_K} {n : Nat} {sh : Nat → Nat × Nat} {X : Nat × (Nat → Int32)} {R : Nat → Nat → Option Nat} {I : Nat → Nat → Int32} {L : Nat → Nat → Int64} {o ci : Nat} (ho : sh o = (0, ci)) : gw_at K (n, sh, X, R, I, L) o = .inr (ci, gw_fs K ci (R o) (I o) (L o)) := by
  unfold gw_at gw_cell
  dsimp only
  rw [ho]
theorem gw_at_int {K : gw_K} {n : Nat} {sh : Nat → Nat × Nat} {X : Nat × (Nat → Int32)} {R : Nat → Nat → Option Nat} {I : Nat → Nat → Int32} {L : Nat → Nat → Int64} {o len : Nat} (ho : sh o = (1, len)) : gw_at K (n, sh, X, R, I, L) o = .inl (K.2.2.1 1, len, .inl (I o)) := by
  unfold gw_at gw_cell
  dsimp only
  rw [ho]
theorem gw_at_long {K : gw_K} {n : Nat} {sh : Nat → Nat × Nat} {X : Nat × (Nat → Int32)} {R : Nat → Nat → Option Nat} {I : Nat → Nat → Int32} {L : Nat → Nat → Int64} {o len : Nat} (ho : sh o = (2, len)) : gw_at K (n, sh, X, R, I, L) o = .inl (K.2.2.1 2, len, .inr (.inl (L o))) := by
  unfold gw_at gw_cell
  dsimp only
  rw [ho]
theorem gw_at_bool {K : gw_K} {n : Nat} {sh : Nat → Nat × Nat} {X : Nat × (Nat → Int32)} {R : Nat → Nat → Option Nat} {I : Nat → Nat → Int32} {L : Nat → Nat → Int64} {o len : Nat} (ho : sh o = (3, len)) : gw_at K (n, sh, X, R, I, L) o = .inl (K.2.2.1 3, len, .inl (I o)) := by
  unfold gw_at gw_cell
  dsimp only
  rw [ho]
theorem gw_at_ref {K : gw_K} {n : Nat} {sh : Nat → Nat × Nat} {X : Nat × (Nat → Int32)} {R : Nat → Nat → Option Nat} {I : Nat → Nat → Int32} {L : Nat → Nat → Int64} {o len q : Nat} (ho : sh o = (q + 4, len)) : gw_at K (n, sh, X, R, I, L) o = .inl (K.2.2.1 (q + 4), len, .inr (.inr (.inr (.inr (fun j => (R o j).map (gw_ad K)))))) := by
  unfold gw_at gw_cell
  dsimp only
  rw [ho]
theorem gw_up_ne {α : Type} {f : Nat → α} {o j : Nat} {v : α} (h : j ≠ o) : va_up f o v j = f j := by unfold va_up; rw [if_neg h]
theorem gw_up_eq {α : Type} {f : Nat → α} {o : Nat} {v : α} : va_up f o v o = v := by unfold va_up; rw [if_pos rfl]
/-- a store: the world behind it -/
theorem gw_D.set {K : gw_K} {M M' : gw_Mem} {s : State} {H H1 : Heap} {locs locs1 : List Loc} {cells o : Nat} {c : va_E} (hD : gw_D K M s H locs cells) (ho : o < M.1) (hn : M'.1 = M.1) (hs : M'.2.1 = M.2.1) (hc : gw_at K M' o = c) (hq : ∀ j, j ≠ o → gw_at K M' j = gw_at K M j)
    (hP : va_P K.2.1 gw_cl ((gw_ws K M).set o (K.1 + o, c)) H1) (hS : va_S (gw_A K) s.heap H1 locs1) : gw_D K M' s H1 locs1 cells := by
  refine ⟨?_, hS, by rw [hn]; exact hD.2.2.1, ⟨by rw [hn]; exact hD.2.2.2.1, fun j hj => by rw [hs]; exact hD.2.2.2.2 j (by rw [← hn]; exact hj)⟩⟩
  rw [← gw_ws_upd hn ho hc hq]
  exact hP
section GM
variable {y : gw_Y} {d bc bs pc : Nat} {lv : List (Option Value)} {st : List Value} {Q : Option Value → gw_Mem → Prop} {n : Nat} {sh : Nat → Nat × Nat} {X : Nat × (Nat → Int32)} {R : Nat → Nat → Option Nat} {I : Nat → Nat → Int32} {L : Nat → Nat → Int64}
theorem go_get {idx ci k kd o : Nat} {fin : Bool} {v : Value} (hd : decode y.2.1 pc = .ok (.getfield idx, 3)) (hf : gw_F y.1.cls idx ci k kd fin) (ho : sh o = (0, ci)) (hv : ∀ K : gw_K, gw_fv K (gw_ty ci k) (R o k) (I o k) (L o k) = gw_mv K v) (kk : gw_Go y d bc bs (pc + 3) lv (v :: st) (n, sh, X, R, I, L) Q) : gw_Go y d bc bs pc lv (.ref o :: st) (n, sh, X, R, I, L) Q := by
  intro K p l e R' s m args below meth c H locs cells slots Z ls hC hD h1 h2 hL hF
  obtain ⟨⟨f1, f2, f3, f4, f5⟩, f6, f7, f8, f9⟩ := hf
  have hlt : o < n := hD.2.2.2.lt ho
  have ea : gw_ad K o = K.1 + o := gw_ad_in (M := (n, sh, X, R, I, L)) hD.2.2.2 hlt
  show W p l e R' s m args below meth c H locs cells slots Z (F0 m pc ls (.ref (gw_ad K o) :: st.map (gw_mv K)))
  rw [ea]
  refine va_get (D := K.2.1) (v := gw_mv K v) hC.1 hC.2.1 hC.2.2.2.2.1 f3 hC.2.2.2.1 hC.2.2.2.2.2.2.1.1 hD.1 o (by rw [gw_ws_at hlt, gw_at_obj ho]) f1 k f6 (hC.2.2.2.2.1 _ f7) (fun x h => h) ?_ hd (kk K p l e R' s m args below meth c H locs cells slots Z ls hC hD h1 h2 hL hF)
  rw [gw_fs_at (by rw [← f2]; exact f6), hv]
theorem go_getI {idx ci k o : Nat} {fin : Bool} (hd : decode y.2.1 pc = .ok (.getfield idx, 3)) (hf : gw_F y.1.cls idx ci k 0 fin) (ho : sh o = (0, ci)) (kk : gw_Go y d bc bs (pc + 3) lv (.int (I o k) :: st) (n, sh, X, R, I, L) Q) : gw_Go y d bc bs pc lv (.ref o :: st) (n, sh, X, R, I, L) Q :=
  go_get hd hf ho (fun K => by rw [gw_kd0 hf.2.2.2.1]; rfl) kk
theorem go_getZ {idx ci k o : Nat} {fin : Bool} (hd : decode y.2.1 pc = .ok (.getfield idx, 3)) (hf : gw_F y.1.cls idx ci k 3 fin) (ho : sh o = (0, ci)) (kk : gw_Go y d bc bs (pc + 3) lv (.int (I o k) :: st) (n, sh, X, R, I, L) Q) : gw_Go y d bc bs pc lv (.ref o :: st) (n, sh, X, R, I, L) Q :=
  go_get hd hf ho (fun K => by rw [gw_kd3 hf.2.2.2.1]; rfl) kk
theorem go_getL {idx ci k o : Nat} {fin : Bool} (hd : decode y.2.1 pc = .ok (.getfield idx, 3)) (hf : gw_F y.1.cls idx ci k 1 fin) (ho : sh o = (0, ci)) (kk : gw_Go y d bc bs (pc + 3) lv (.long (L o k) :: st) (n, sh, X, R, I, L) Q) : gw_Go y d bc bs pc lv (.ref o :: st) (n, sh, X, R, I, L) Q :=
  go_get hd hf ho (fun K => by rw [gw_kd1 hf.2.2.2.1]; rfl) kk
theorem go_getR {idx ci k o q : Nat} {fin : Bool} (hd : decode y.2.1 pc = .ok (.getfield idx, 3)) (hf : gw_F y.1.cls idx ci k 2 fin) (ho : sh o = (0, ci)) (hr : R o k = some q) (kk : gw_Go y d bc bs (pc + 3) lv (.ref q :: st) (n, sh, X, R, I, L) Q) : gw_Go y d bc bs pc lv (.ref o :: st) (n, sh, X, R, I, L) Q :=
  go_get hd hf ho (fun K => by rcases gw_kd2 hf.2.2.2.1 with ⟨z, hz⟩ | ⟨z, hz⟩ <;> (rw [hz, hr]; rfl)) kk
theorem go_put {idx ci k kd o : Nat} {v : Value} {R' : Nat → Option Nat} {I' : Nat → Int32} {L' : Nat → Int64} (hd : decode y.2.1 pc = .ok (.putfield idx, 3)) (hf : gw_F y.1.cls idx ci k kd false) (ho : sh o = (0, ci)) (hv : ∀ K : gw_K, gw_fv K (gw_ty ci k) (R' k) (I' k) (L' k) = gw_mv K v) (hj : ∀ j, j ≠ k → R' j = R o j ∧ I' j = I o j ∧ L' j = L o j) (hn : ∀ K : gw_K, narrow (gw_ty ci k) (gw_mv K v) = gw_mv K v) (hfit : ∀ K : gw_K, fits (gw_ty ci k) (gw_mv K v) = true)
    (kk : gw_Go y d bc bs (pc + 3) lv st (n, sh, X, va_up R o R', va_up I o I', va_up L o L') Q) : gw_Go y d bc bs pc lv (v :: .ref o :: st) (n, sh, X, R, I, L) Q := by
  intro K p l e R0 s m args below meth c H locs cells slots Z ls hC hD h1 h2 hL hF
  obtain ⟨⟨f1, f2, f3, f4, f5⟩, f6, f7, f8, f9⟩ := hf
  have hlt : o < n := hD.2.2.2.lt ho
  have ea : gw_ad K o = K.1 + o := gw_ad_in (M := (n, sh, X, R, I, L)) hD.2.2.2 hlt
  show W p l e R0 s m args below meth c H locs cells slots Z (F0 m pc ls (gw_mv K v :: .ref (gw_ad K o) :: st.map (gw_mv K)))
  rw [ea]
  refine va_put (D := K.2.1) (ty := gw_ty ci k) hC.1 hC.2.1 hC.2.2.2.2.1 f3 (gw_ty ci) f4 f5 hC.2.2.2.1 hC.2.2.2.2.2.2.1.1 hD.1 gw_apart hD.2.1 o (by rw [gw_ws_at hlt, gw_at_obj ho]) f1 k f6 (hC.2.2.2.2.1 _ f7) (fun x h => h) f9 (f4 k f6) (hn K) (hfit K) (by rw [gw_fs_len, ← f2]; exact f6) hd (fun H1 locs1 hP hD' hS => ?_)
  refine kk K p l e R0 s m args below meth c H1 locs1 cells slots Z ls hC (hD.set (o := o) hlt rfl rfl ?_ ?_ hP hS) h1 h2 hL hF
  · rw [gw_at_obj ho, gw_fs_set (hv K) hj, gw_up_eq, gw_up_eq, gw_up_eq]
  · intro j hjo
    unfold gw_at
    dsimp only
    rw [gw_up_ne hjo, gw_up_ne hjo, gw_up_ne hjo]
/-- a final field of the constructor's own object -/
theorem go_putF {idx ci k kd o : Nat} {v : Value} {R' : Nat → Option Nat} {I' : Nat → Int32} {L' : Nat → Int64} (hd : decode y.2.1 pc = .ok (.putfield idx, 3)) (hf : gw_F y.1.cls idx ci k kd true) (hi : y.1.name = "<init>") (hdc : ((gw_c ci).2.1 k).1 = y.1.cls) (ho : sh o = (0, ci)) (hv : ∀ K : gw_K, gw_fv K (gw_ty ci k) (R' k) (I' k) (L' k) = gw_mv K v) (hj : ∀ j, j ≠ k → R' j = R o j ∧ I' j = I o j ∧ L' j = L o j) (hn : ∀ K : gw_K, narrow (gw_ty ci k) (gw_mv K v) = gw_mv K v) (hfit : ∀ K : gw_K, fits (gw_ty ci k) (gw_mv K v) = true)
    (kk : gw_Go y d bc bs (pc + 3) lv st (n, sh, X, va_up R o R', va_up I o I', va_up L o L') Q) : gw_Go y d bc bs pc lv (v :: .ref o :: st) (n, sh, X, R, I, L) Q := by
  intro K p l e R0 s m args below meth c H locs cells slots Z ls hC hD h1 h2 hL hF
  obtain ⟨⟨f1, f2, f3, f4, f5⟩, f6, f7, f8, f9⟩ := hf
  have hlt : o < n := hD.2.2.2.lt ho
  have ea : gw_ad K o = K.1 + o := gw_ad_in (M := (n, sh, X, R, I, L)) hD.2.2.2 hlt
  show W p l e R0 s m args below meth c H locs cells slots Z (F0 m pc ls (gw_mv K v :: .ref (gw_ad K o) :: st.map (gw_mv K)))
  rw [ea]
  refine va_putF (D := K.2.1) (ty := gw_ty ci k) hC.1 hC.2.1 hC.2.2.2.2.1 f3 (gw_ty ci) f4 f5 hC.2.2.2.1 hC.2.2.2.2.2.2.1.1 hD.1 gw_apart hD.2.1 o (by rw [gw_ws_at hlt, gw_at_obj ho]) f1 k f6 (hC.2.2.2.2.1 _ f7) (fun x h => h) f9 (hC.2.2.2.2.2.1.trans hi) hdc (f4 k f6) (hn K) (hfit K) (by rw [gw_fs_len, ← f2]; exact f6) hd (fun H1 locs1 hP hD' hS => ?_)
  refine kk K p l e R0 s m args below meth c H1 locs1 cells slots Z ls hC (hD.set (o := o) hlt rfl rfl ?_ ?_ hP hS) h1 h2 hL hF
  · rw [gw_at_obj ho, gw_fs_set (hv K) hj, gw_up_eq, gw_up_eq, gw_up_eq]
  · intro j hjo
    unfold gw_at
    dsimp only
    rw [gw_up_ne hjo, gw_up_ne hjo, gw_up_ne hjo]
theorem gw_up_self {α : Type} (f : Nat → α) (o : Nat) : va_up f o (f o) = f := by
  funext j
  by_cases h : j = o
  · subst h; exact gw_up_eq
  · exact gw_up_ne h
theorem go_putI {idx ci k o : Nat} {v : Int32} (hd : decode y.2.1 pc = .ok (.putfield idx, 3)) (hf : gw_F y.1.cls idx ci k 0 false) (ho : sh o = (0, ci)) (kk : gw_Go y d bc bs (pc + 3) lv st (n, sh, X, R, va_up I o (va_up (I o) k v), L) Q) : gw_Go y d bc bs pc lv (.int v :: .ref o :: st) (n, sh, X, R, I, L) Q := by
  have ht := gw_kd0 hf.2.2.2.1
  refine go_put (R' := R o) (I' := va_up (I o) k v) (L' := L o) hd hf ho (fun K => by rw [ht, gw_up_eq]; rfl) (fun j hj => ⟨rfl, gw_up_ne hj, rfl⟩) (fun K => by rw [ht]; rfl) (fun K => by rw [ht]; rfl) ?_
  rw [gw_up_self, gw_up_self]
  exact kk
theorem go_putFI {idx ci k o : Nat} {v : Int32} (hd : decode y.2.1 pc = .ok (.putfield idx, 3)) (hf : gw_F y.1.cls idx ci k 0 true) (hi : y.1.name = "<init>") (hdc : ((gw_c ci).2.1 k).1 = y.1.cls) (ho : sh o = (0, ci)) (kk : gw_Go y d bc bs (pc + 3) lv st (n, sh, X, R, va_up I o (va_up (I o) k v), L) Q) : gw_Go y d bc bs pc lv (.int v :: .ref o :: st) (n, sh, X, R, I, L) Q := by
  have ht := gw_kd0 hf.2.2.2.1
  refine go_putF (R' := R o) (I' := va_up (I o) k v) (L' := L o) hd hf hi hdc ho (fun K => by rw [ht, gw_up_eq]; rfl) (fun j hj => ⟨rfl, gw_up_ne hj, rfl⟩) (fun K => by rw [ht]; rfl) (fun K => by rw [ht]; rfl) ?_
  rw [gw_up_self, gw_up_self]
  exact kk
theorem go_putZ {idx ci k o : Nat} {v : Int32} (hd : decode y.2.1 pc = .ok (.putfield idx, 3)) (hf : gw_F y.1.cls idx ci k 3 false) (ho : sh o = (0, ci)) (hb : v = 0 ∨ v = 1) (kk : gw_Go y d bc bs (pc + 3) lv st (n, sh, X, R, va_up I o (va_up (I o) k v), L) Q) : gw_Go y d bc bs pc lv (.int v :: .ref o :: st) (n, sh, X, R, I, L) Q := by
  have ht := gw_kd3 hf.2.2.2.1
  refine go_put (R' := R o) (I' := va_up (I o) k v) (L' := L o) hd hf ho (fun K => by rw [ht, gw_up_eq]; rfl) (fun j hj => ⟨rfl, gw_up_ne hj, rfl⟩) (fun K => by rw [ht]; rcases hb with rfl | rfl <;> rfl) (fun K => by rw [ht]; rcases hb with rfl | rfl <;> rfl) ?_
  rw [gw_up_self, gw_up_self]
  exact kk
theorem go_putL {idx ci k o : Nat} {v : Int64} (hd : decode y.2.1 pc = .ok (.putfield idx, 3)) (hf : gw_F y.1.cls idx ci k 1 false) (ho : sh o = (0, ci)) (kk : gw_Go y d bc bs (pc + 3) lv st (n, sh, X, R, I, va_up L o (va_up (L o) k v)) Q) : gw_Go y d bc bs pc lv (.long v :: .ref o :: st) (n, sh, X, R, I, L) Q := by
  have ht := gw_kd1 hf.2.2.2.1
  refine go_put (R' := R o) (I' := I o) (L' := va_up (L o) k v) hd hf ho (fun K => by rw [ht, gw_up_eq]; rfl) (fun j hj => ⟨rfl, rfl, gw_up_ne hj⟩) (fun K => by rw [ht]; rfl) (fun K => by rw [ht]; rfl) ?_
  rw [gw_up_self, gw_up_self]
  exact kk
theorem go_putR {idx ci k o q : Nat} (hd : decode y.2.1 pc = .ok (.putfield idx, 3)) (hf : gw_F y.1.cls idx ci k 2 false) (ho : sh o = (0, ci)) (kk : gw_Go y d bc bs (pc + 3) lv st (n, sh, X, va_up R o (va_up (R o) k (some q)), I, L) Q) : gw_Go y d bc bs pc lv (.ref q :: .ref o :: st) (n, sh, X, R, I, L) Q := by
  have ht := gw_kd2 hf.2.2.2.1
  refine go_put (R' := va_up (R o) k (some q)) (I' := I o) (L' := L o) hd hf ho (fun K => by rw [gw_up_eq]; rcases ht with ⟨z, hz⟩ | ⟨z, hz⟩ <;> (rw [hz]; rfl)) (fun j hj => ⟨gw_up_ne hj, rfl, rfl⟩) (fun K => by rcases ht with ⟨z, hz⟩ | ⟨z, hz⟩ <;> (rw [hz]; rfl)) (fun K => by rcases ht with ⟨z, hz⟩ | ⟨z, hz⟩ <;> (rw [hz]; rfl)) ?_
  rw [gw_up_self, gw_up_self]
  exact kk
theorem go_putFR {idx ci k o q : Nat} (hd : decode y.2.1 pc = .ok (.putfield idx, 3)) (hf : gw_F y.1.cls idx ci k 2 true) (hi : y.1.name = "<init>") (hdc : ((gw_c ci).2.1 k).1 = y.1.cls) (ho : sh o = (0, ci)) (kk : gw_Go y d bc bs (pc + 3) lv st (n, sh, X, va_up R o (va_up (R o) k (some q)), I, L) Q) : gw_Go y d bc bs pc lv (.ref q :: .ref o :: st) (n, sh, X, R, I, L) Q := by
  have ht := gw_kd2 hf.2.2.2.1
  refine go_putF (R' := va_up (R o) k (some q)) (I' := I o) (L' := L o) hd hf hi hdc ho (fun K => by rw [gw_up_eq]; rcases ht with ⟨z, hz⟩ | ⟨z, hz⟩ <;> (rw [hz]; rfl)) (fun j hj => ⟨gw_up_ne hj, rfl, rfl⟩) (fun K => by rcases ht with ⟨z, hz⟩ | ⟨z, hz⟩ <;> (rw [hz]; rfl)) (fun K => by rcases ht with ⟨z, hz⟩ | ⟨z, hz⟩ <;> (rw [hz]; rfl)) ?_
  rw [gw_up_self, gw_up_self]
  exact kk
/-! arrays -/
theorem go_iald {o len : Nat} {i : Int32} (j : Nat) (hd : decode y.2.1 pc = .ok (.iaload, 1)) (ho : sh o = (1, len)) (hi : i = nI j) (hj : j < len) (hl : len < 2 ^ 31) (kk : gw_Go y d bc bs (pc + 1) lv (.int (I o j) :: st) (n, sh, X, R, I, L) Q) : gw_Go y d bc bs pc lv (.int i :: .ref o :: st) (n, sh, X, R, I, L) Q := by
  intro K p l e R' s m args below meth c H locs cells slots Z ls hC hD h1 h2 hL hF
  have hlt : o < n := hD.2.2.2.lt ho
  have ea : gw_ad K o = K.1 + o := gw_ad_in (M := (n, sh, X, R, I, L)) hD.2.2.2 hlt
  show W p l e R' s m args below meth c H locs cells slots Z (F0 m pc ls (.int i :: .ref (gw_ad K o) :: st.map (gw_mv K)))
  rw [ea]
  have hc : i.toNatClampNeg = j := by rw [hi]; exact nI_clamp (by omega)
  refine va_iald (D := K.2.1) hC.1 hC.2.1 hC.2.2.2.2.2.2.1.1 hD.1 o 1 (by rw [gw_ws_at hlt, gw_at_int ho]) (gw_tys_at (by decide)) (by rw [hi]; exact vp_in_nI hj hl) hd ?_
  rw [hc]
  exact kk K p l e R' s m args below meth c H locs cells slots Z ls hC hD h1 h2 hL hF
theorem go_lald {o len : Nat} {i : Int32} (j : Nat) (hd : decode y.2.1 pc = .ok (.laload, 1)) (ho : sh o = (2, len)) (hi : i = nI j) (hj : j < len) (hl : len < 2 ^ 31) (kk : gw_Go y d bc bs (pc + 1) lv (.long (L o j) :: st) (n, sh, X, R, I, L) Q) : gw_Go y d bc bs pc lv (.int i :: .ref o :: st) (n, sh, X, R, I, L) Q := by
  intro K p l e R' s m args below meth c H locs cells slots Z ls hC hD h1 h2 hL hF
  have hlt : o < n := hD.2.2.2.lt ho
  have ea : gw_ad K o = K.1 + o := gw_ad_in (M := (n, sh, X, R, I, L)) hD.2.2.2 hlt
  show W p l e R' s m args below meth c H locs cells slots Z (F0 m pc ls (.int i :: .ref (gw_ad K o) :: st.map (gw_mv K)))
  rw [ea]
  have hc : i.toNatClampNeg = j := by rw [hi]; exact nI_clamp (by omega)
  refine va_lald (D := K.2.1) hC.1 hC.2.1 hC.2.2.2.2.2.2.1.1 hD.1 o 2 (by rw [gw_ws_at hlt, gw_at_long ho]) (gw_tys_at (by decide)) (by rw [hi]; exact vp_in_nI hj hl) hd ?_
  rw [hc]
  exact kk K p l e R' s m args below meth c H locs cells slots Z ls hC hD h1 h2 hL hF
theorem go_zald {o len : Nat} {i : Int32} (j : Nat) (hd : decode y.2.1 pc = .ok (.baload, 1)) (ho : sh o = (3, len)) (hi : i = nI j) (hj : j < len) (hl : len < 2 ^ 31) (kk : gw_Go y d bc bs (pc + 1) lv (.int (I o j) :: st) (n, sh, X, R, I, L) Q) : gw_Go y d bc bs pc lv (.int i :: .ref o :: st) (n, sh, X, R, I, L) Q := by
  intro K p l e R' s m args below meth c H locs cells slots Z ls hC hD h1 h2 hL hF
  have hlt : o < n := hD.2.2.2.lt ho
  have ea : gw_ad K o = K.1 + o := gw_ad_in (M := (n, sh, X, R, I, L)) hD.2.2.2 hlt
  show W p l e R' s m args below meth c H locs cells slots Z (F0 m pc ls (.int i :: .ref (gw_ad K o) :: st.map (gw_mv K)))
  rw [ea]
  have hc : i.toNatClampNeg = j := by rw [hi]; exact nI_clamp (by omega)
  refine va_zald (D := K.2.1) hC.1 hC.2.1 hC.2.2.2.2.2.2.1.1 hD.1 o 3 (by rw [gw_ws_at hlt, gw_at_bool ho]) (gw_tys_at (by decide)) (by rw [hi]; exact vp_in_nI hj hl) hd ?_
  rw [hc]
  exact kk K p l e R' s m args below meth c H locs cells slots Z ls hC hD h1 h2 hL hF
theorem go_aald {o len t q : Nat} {i : Int32} (j : Nat) (hd : decode y.2.1 pc = .ok (.aaload, 1)) (ho : sh o = (t + 4, len)) (ht : t + 4 < gw_NK) (hi : i = nI j) (hj : j < len) (hl : len < 2 ^ 31) (hr : R o j = some q) (kk : gw_Go y d bc bs (pc + 1) lv (.ref q :: st) (n, sh, X, R, I, L) Q) : gw_Go y d bc bs pc lv (.int i :: .ref o :: st) (n, sh, X, R, I, L) Q := by
  intro K p l e R' s m args below meth c H locs cells slots Z ls hC hD h1 h2 hL hF
  have hlt : o < n := hD.2.2.2.lt ho (by unfold gw_NK at ht; omega)
  have ea : gw_ad K o = K.1 + o := gw_ad_in (M := (n, sh, X, R, I, L)) hD.2.2.2 hlt
  show W p l e R' s m args below meth c H locs cells slots Z (F0 m pc ls (.int i :: .ref (gw_ad K o) :: st.map (gw_mv K)))
  rw [ea]
  have hc : i.toNatClampNeg = j := by rw [hi]; exact nI_clamp (by omega)
  obtain ⟨C, hC9⟩ := gw_kt_obj t ht
  refine va_aldq (D := K.2.1) (C := C) hC.1 hC.2.1 hC.2.2.2.2.2.2.1.1 hD.1 o (t + 4) (by rw [gw_ws_at hlt, gw_at_ref ho]) (by rw [gw_tys_at ht, hC9]) (by rw [hi]; exact vp_in_nI hj hl) hd ?_
  rw [hc, hr]
  exact kk K p l e R' s m args below meth c H locs cells slots Z ls hC hD h1 h2 hL hF
theorem go_iast {o len : Nat} {i x : Int32} (j : Nat) (hd : decode y.2.1 pc = .ok (.iastore, 1)) (ho : sh o = (1, len)) (hi : i = nI j) (hj : j < len) (hl : len < 2 ^ 31) (kk : gw_Go y d bc bs (pc + 1) lv st (n, sh, X, R, va_up I o (va_up (I o) j x), L) Q) : gw_Go y d bc bs pc lv (.int x :: .int i :: .ref o :: st) (n, sh, X, R, I, L) Q := by
  intro K p l e R' s m args below meth c H locs cells slots Z ls hC hD h1 h2 hL hF
  have hlt : o < n := hD.2.2.2.lt ho
  have ea : gw_ad K o = K.1 + o := gw_ad_in (M := (n, sh, X, R, I, L)) hD.2.2.2 hlt
  show W p l e R' s m args below meth c H locs cells slots Z (F0 m pc ls (.int x :: .int i :: .ref (gw_ad K o) :: st.map (gw_mv K)))
  rw [ea]
  have hc : i.toNatClampNeg = j := by rw [hi]; exact nI_clamp (by omega)
  refine va_iast (D := K.2.1) hC.1 hC.2.1 hC.2.2.2.2.2.2.1.1 hD.1 gw_apart hD.2.1 o 1 (by rw [gw_ws_at hlt, gw_at_int ho]) (gw_tys_at (by decide)) (by rw [hi]; exact vp_in_nI hj hl) hd (fun H1 locs1 hP hD' hS => ?_)
  rw [hc] at hP
  refine kk K p l e R' s m args below meth c H1 locs1 cells slots Z ls hC (hD.set (o := o) hlt rfl rfl ?_ ?_ hP hS) h1 h2 hL hF
  · rw [gw_at_int ho, gw_up_eq]; rfl
  · intro j hjo
    unfold gw_at
    dsimp only
    rw [gw_up_ne hjo]
theorem go_last {o len : Nat} {i : Int32} {x : Int64} (j : Nat) (hd : decode y.2.1 pc = .ok (.lastore, 1)) (ho : sh o = (2, len)) (hi : i = nI j) (hj : j < len) (hl : len < 2 ^ 31) (kk : gw_Go y d bc bs (pc + 1) lv st (n, sh, X, R, I, va_up L o (va_up (L o) j x)) Q) : gw_Go y d bc bs pc lv (.long x :: .int i :: .ref o :: st) (n, sh, X, R, I, L) Q := by
  intro K p l e R' s m args below meth c H locs cells slots Z ls hC hD h1 h2 hL hF
  have hlt : o < n := hD.2.2.2.lt ho
  have ea : gw_ad K o = K.1 + o := gw_ad_in (M := (n, sh, X, R, I, L)) hD.2.2.2 hlt
  show W p l e R' s m args below meth c H locs cells slots Z (F0 m pc ls (.long x :: .int i :: .ref (gw_ad K o) :: st.map (gw_mv K)))
  rw [ea]
  have hc : i.toNatClampNeg = j := by rw [hi]; exact nI_clamp (by omega)
  refine va_last (D := K.2.1) hC.1 hC.2.1 hC.2.2.2.2.2.2.1.1 hD.1 gw_apart hD.2.1 o 2 (by rw [gw_ws_at hlt, gw_at_long ho]) (gw_tys_at (by decide)) (by rw [hi]; exact vp_in_nI hj hl) hd (fun H1 locs1 hP hD' hS => ?_)
  rw [hc] at hP
  refine kk K p l e R' s m args below meth c H1 locs1 cells slots Z ls hC (hD.set (o := o) hlt rfl rfl ?_ ?_ hP hS) h1 h2 hL hF
  · rw [gw_at_long ho, gw_up_eq]; rfl
  · intro j hjo
    unfold gw_at
    dsimp only
    rw [gw_up_ne hjo]
theorem go_zast {o len : Nat} {i x : Int32} (j : Nat) (hd : decode y.2.1 pc = .ok (.bastore, 1)) (ho : sh o = (3, len)) (hi : i = nI j) (hj : j < len) (hl : len < 2 ^ 31) (hb : x = 0 ∨ x = 1) (kk : gw_Go y d bc bs (pc + 1) lv st (n, sh, X, R, va_up I o (va_up (I o) j x), L) Q) : gw_Go y d bc bs pc lv (.int x :: .int i :: .ref o :: st) (n, sh, X, R, I, L) Q := by
  intro K p l e R' s m args below meth c H locs cells slots Z ls hC hD h1 h2 hL hF
  have hlt : o < n := hD.2.2.2.lt ho
  have ea : gw_ad K o = K.1 + o := gw_ad_in (M := (n, sh, X, R, I, L)) hD.2.2.2 hlt
  show W p l e R' s m args below meth c H locs cells slots Z (F0 m pc ls (.int x :: .int i :: .ref (gw_ad K o) :: st.map (gw_mv K)))
  rw [ea]
  have hc : i.toNatClampNeg = j := by rw [hi]; exact nI_clamp (by omega)
  have hx : vp_nar .boolean x = x := by rcases hb with rfl | rfl <;> rfl
  refine va_zast (D := K.2.1) hC.1 hC.2.1 hC.2.2.2.2.2.2.1.1 hD.1 gw_apart hD.2.1 o 3 (by rw [gw_ws_at hlt, gw_at_bool ho]) (gw_tys_at (by decide)) (by rw [hi]; exact vp_in_nI hj hl) hd (fun H1 locs1 hP hD' hS => ?_)
  rw [hc, hx] at hP
  refine kk K p l e R' s m args below meth c H1 locs1 cells slots Z ls hC (hD.set (o := o) hlt rfl rfl ?_ ?_ hP hS) h1 h2 hL hF
  · rw [gw_at_bool ho, gw_up_eq]; rfl
  · intro j hjo
    unfold gw_at
    dsimp only
    rw [gw_up_ne hjo]
theorem go_aast {o len t ci q : Nat} {i : Int32} (j : Nat) (hd : decode y.2.1 pc = .ok (.aastore, 1)) (ho : sh o = (t + 4, len)) (ht : t + 4 < gw_NK) (hk : gw_kt (t + 4) = .object (gw_c ci).1) (hci : gw_cl[ci]? = some (gw_c ci)) (hq : sh q = (0, ci)) (hi : i = nI j) (hj : j < len) (hl : len < 2 ^ 31) (kk : gw_Go y d bc bs (pc + 1) lv st (n, sh, X, va_up R o (va_up (R o) j (some q)), I, L) Q) : gw_Go y d bc bs pc lv (.ref q :: .int i :: .ref o :: st) (n, sh, X, R, I, L) Q := by
  intro K p l e R' s m args below meth c H locs cells slots Z ls hC hD h1 h2 hL hF
  have hlt : o < n := hD.2.2.2.lt ho (by unfold gw_NK at ht; omega)
  have hlq : q < n := hD.2.2.2.lt hq
  have ea : gw_ad K o = K.1 + o := gw_ad_in (M := (n, sh, X, R, I, L)) hD.2.2.2 hlt
  have eq : gw_ad K q = K.1 + q := gw_ad_in (M := (n, sh, X, R, I, L)) hD.2.2.2 hlq
  show W p l e R' s m args below meth c H locs cells slots Z (F0 m pc ls (.ref (gw_ad K q) :: .int i :: .ref (gw_ad K o) :: st.map (gw_mv K)))
  rw [ea]
  have hc : i.toNatClampNeg = j := by rw [hi]; exact nI_clamp (by omega)
  refine va_astq (D := K.2.1) (r := gw_c ci) hC.1 hC.2.1 hC.2.2.2.2.2.2.1.1 hD.1 gw_apart hD.2.1 o (t + 4) q ci (by rw [gw_ws_at hlt, gw_at_ref ho]) (by rw [gw_tys_at ht, hk]) (by rw [gw_ws_at hlq, gw_at_obj hq, eq]) hci (by rw [hi]; exact vp_in_nI hj hl) hd (fun H1 locs1 hP hD' hS => ?_)
  rw [hc] at hP
  refine kk K p l e R' s m args below meth c H1 locs1 cells slots Z ls hC (hD.set (o := o) hlt rfl rfl ?_ ?_ hP hS) h1 h2 hL hF
  · rw [gw_at_ref ho, gw_up_eq]
    congr 7
    funext z
    by_cases hz : z = j
    · subst hz; rw [gw_up_eq, gw_up_eq]; rfl
    · rw [gw_up_ne hz, gw_up_ne hz]
  · intro j hjo
    unfold gw_at
    dsimp only
    rw [gw_up_ne hjo]
/-! the script, the class's tables -/
theorem go_sld {i : Int32} (j : Nat) (hd : decode y.2.1 pc = .ok (.iaload, 1)) (hi : i = nI j) (hj : j < X.1) (hl : X.1 < 2 ^ 31) (kk : gw_Go y d bc bs (pc + 1) lv (.int (X.2 j) :: st) (n, sh, X, R, I, L) Q) : gw_Go y d bc bs pc lv (.int i :: .ref 1048576 :: st) (n, sh, X, R, I, L) Q := by
  intro K p l e R' s m args below meth c H locs cells slots Z ls hC hD h1 h2 hL hF
  have hE := hC.2.2.2.2.2.2.2.1
  have hc : i.toNatClampNeg = j := by rw [hi]; exact nI_clamp (by omega)
  refine va_sld (b := K.2.2.2.1) hC.1 hC.2.1 hE.1 (Nat.lt_of_lt_of_le hE.2.1 hE.2.2.1) (Nat.not_le.mpr hE.2.1) hD.2.1 (by rw [hi]; exact vp_in_nI hj hl) hd ?_
  rw [hc]
  exact kk K p l e R' s m args below meth c H locs cells slots Z ls hC hD h1 h2 hL hF
theorem go_slen (hd : decode y.2.1 pc = .ok (.arraylength, 1)) (kk : gw_Go y d bc bs (pc + 1) lv (.int (nI X.1) :: st) (n, sh, X, R, I, L) Q) : gw_Go y d bc bs pc lv (.ref 1048576 :: st) (n, sh, X, R, I, L) Q := by
  intro K p l e R' s m args below meth c H locs cells slots Z ls hC hD h1 h2 hL hF
  have hE := hC.2.2.2.2.2.2.2.1
  exact va_slen (b := K.2.2.2.1) hC.1 hC.2.1 hE.1 (Nat.lt_of_lt_of_le hE.2.1 hE.2.2.1) (Nat.not_le.mpr hE.2.1) hD.2.1 hd (kk K p l e R' s m args below meth c H locs cells slots Z ls hC hD h1 h2 hL hF)
theorem go_getT {idx : Nat} (hd : decode y.2.1 pc = .ok (.getstatic idx, 3)) (hw : Cond.fieldLink y.1.cls idx gw_tC gw_tN "[I" ∈ gw_all) (kk : gw_Go y d bc bs (pc + 3) lv (.ref 1048577 :: st) (n, sh, X, R, I, L) Q) : gw_Go y d bc bs pc lv st (n, sh, X, R, I, L) Q := by
  intro K p l e R' s m args below meth c H locs cells slots Z ls hC hD h1 h2 hL hF
  have hE := hC.2.2.2.2.2.2.2.1
  exact va_gets hC.1 hC.2.1 hE.2.2.2.2.2.1 hD.2.1 hC.2.2.2.1 (hC.2.2.2.2.1 _ hw) (fun x h => h) hd (kk K p l e R' s m args below meth c H locs cells slots Z ls hC hD h1 h2 hL hF)
theorem go_getP {idx : Nat} (hd : decode y.2.1 pc = .ok (.getstatic idx, 3)) (hw : Cond.fieldLink y.1.cls idx gw_tC gw_pN "[I" ∈ gw_all) (kk : gw_Go y d bc bs (pc + 3) lv (.ref 1048578 :: st) (n, sh, X, R, I, L) Q) : gw_Go y d bc bs pc lv st (n, sh, X, R, I, L) Q := by
  intro K p l e R' s m args below meth c H locs cells slots Z ls hC hD h1 h2 hL hF
  have hE := hC.2.2.2.2.2.2.2.1
  exact va_gets hC.1 hC.2.1 hE.2.2.2.2.2.2 hD.2.1 hC.2.2.2.1 (hC.2.2.2.2.1 _ hw) (fun x h => h) hd (kk K p l e R' s m args below meth c H locs cells slots Z ls hC hD h1 h2 hL hF)
theorem go_tld {i : Int32} (j : Nat) (hd : decode y.2.1 pc = .ok (.iaload, 1)) (hi : i = nI j) (hj : j < 15) (kk : gw_Go y d bc bs (pc + 1) lv (.int (gw_tk j) :: st) (n, sh, X, R, I, L) Q) : gw_Go y d bc bs pc lv (.int i :: .ref 1048577 :: st) (n, sh, X, R, I, L) Q := by
  intro K p l e R' s m args below meth c H locs cells slots Z ls hC hD h1 h2 hL hF
  have hE := hC.2.2.2.2.2.2.2.1
  have hc : i.toNatClampNeg = j := by rw [hi]; exact nI_clamp (by omega)
  exact va_ti (v := .int (gw_tk j)) hC.1 hC.2.1 hE.2.2.2.1 hD.2.1 (by rw [hi]; exact vp_in_nI hj (by decide)) (by rw [hc]) hd (kk K p l e R' s m args below meth c H locs cells slots Z ls hC hD h1 h2 hL hF)
theorem go_pld {i : Int32} (j : Nat) (hd : decode y.2.1 pc = .ok (.iaload, 1)) (hi : i = nI j) (hj : j < 15) (kk : gw_Go y d bc bs (pc + 1) lv (.int (gw_pt j) :: st) (n, sh, X, R, I, L) Q) : gw_Go y d bc bs pc lv (.int i :: .ref 1048578 :: st) (n, sh, X, R, I, L) Q := by
  intro K p l e R' s m args below meth c H locs cells slots Z ls hC hD h1 h2 hL hF
  have hE := hC.2.2.2.2.2.2.2.1
  have hc : i.toNatClampNeg = j := by rw [hi]; exact nI_clamp (by omega)
  exact va_ti (v := .int (gw_pt j)) hC.1 hC.2.1 hE.2.2.2.2.1 hD.2.1 (by rw [hi]; exact vp_in_nI hj (by decide)) (by rw [hc]) hd (kk K p l e R' s m args below meth c H locs cells slots Z ls hC hD h1 h2 hL hF)
end GM
end
section
/-! calls, returns, makings -/
def gw_Ok (y : gw_Y) (nA : Nat) : Prop := Cond.code y.1 y.2.1 y.2.2.1 y.2.2.2 ∈ gw_all ∧ Cond.initialized y.1.cls ∈ gw_all ∧ (y.1.cls ≠ "java/lang/invoke/MethodHandle" ∧ y.1.cls ≠ "java/lang/invoke/VarHandle" ∧ (parseMethodDescriptor y.1.desc).map (fun d => d.parameters.length) = some nA) ∧ y.2.2.1 ≤ 21 ∧ plainName y.1.cls = true
def gw_Lk (own : String) (idx : Nat) (y : gw_Y) : Prop := Cond.methodLink own idx y.1 ∈ gw_all ∨ ∃ host, Cond.methodLinkNest own idx y.1 host ∈ lw_tbl
def gw_KS (own : String) (idx : Nat) (y : gw_Y) (nA : Nat) : Prop := gw_Ok y nA ∧ gw_Lk own idx y ∧ Cond.static y.1 ∈ gw_all
def gw_KV (own : String) (idx : Nat) (y : gw_Y) (ci nA : Nat) : Prop := gw_Ok y nA ∧ gw_Lk own idx y ∧ Cond.instanceMethod y.1 ∈ gw_all ∧ Cond.selects y.1.cls y.1 y.1 ∈ gw_all ∧ gw_cl[ci]? = some (gw_c ci) ∧ (gw_c ci).1 = y.1.cls
def gw_KI (own : String) (idx : Nat) (y : gw_Y) (nA : Nat) : Prop := gw_Ok y nA ∧ gw_Lk own idx y ∧ Cond.instanceMethod y.1 ∈ gw_all ∧ y.1.name = "<init>" ∧ y.2.2.2 = none
theorem gw_blind {K : gw_K} {as : List Value} {M : gw_Mem} : FrameBlind (gw_Pc K as M) := by
  intro a U g mk h
  obtain ⟨h1, hS, hE, hP, hz, hV⟩ := h
  exact ⟨h1, gw_S.same (s := U) (U := U.calling g mk a) rfl hS, gw_E.moved (u := U) (U := U.calling g mk a) (Vm.Alike.refl U.vm) hE, hP, hz, hV⟩
theorem gw_goodIn {y : gw_Y} {nA : Nat} (h : gw_Ok y nA) : GoodIn gw_all (gw_wd y) := by
  intro w hw
  rcases List.mem_cons.mp hw with rfl | hw
  · exact ⟨h.1, gw_all_good h.1⟩
  · exact ⟨hw, gw_all_good hw⟩
section GC
variable {p : Program} {l : Launch} {e : Env} {R : Room} {s : State} {m : MethodId} {args : Array Value} {below : List Frame} {meth : Method} {c : Code} {H : Heap} {locs : List Loc} {cells slots : Nat} {Z : State → Prop}
variable {y : gw_Y} {d bc bs pc : Nat} {lv : List (Option Value)} {st : List Value} {M : gw_Mem} {Q : Option Value → gw_Mem → Prop} {K : gw_K} {ls : Array Slot}
theorem gw_exact (hC : gw_C y d K p R s m args meth c M.2.2.1) (hD : gw_D K M s H locs cells) (h : H.size ≤ s.heap.size + cells) : H.size = K.1 + M.1 := by
  have h1 := hD.ge hC.2.2.2.2.2.2.2.1.2.2.1
  have h2 := hD.2.2.1
  omega
theorem gw_preW (hC : gw_C y d K p R s m args meth c M.2.2.1) (hD : gw_D K M s H locs cells) (hz : H.size = K.1 + M.1) : ∀ U : State, U.heap = H → s.WarmedH U.vm → gw_W K M U := by
  intro U hU hW
  obtain ⟨hS, hE, -⟩ := hC.2.2.2.2.2.2
  refine ⟨gw_S.moved hW hS, ?_, by rw [hU]; exact hD.1, by rw [hU]; exact hz, hD.2.2.2⟩
  rw [hU]
  exact gw_E.moved hW.alike (hE.kept hD.2.1.1 hD.2.1.2.1)
theorem gw_behind {mc ms : Nat} {st0 rest : List Value} {a : Array Value} (hr : va_Run p l e R s m args below meth c H locs cells slots mc ms (F0 m pc ls st0) (rest.map (gw_mv K)) (gw_Qc K M.2.2.1 mc (fun r M' => gw_Go y d bc bs (pc + 3) lv (r.toList ++ rest) M' Q) a) (gw_A K))
    (hC : gw_C y d K p R s m args meth c M.2.2.1) (hD : gw_D K M s H locs cells) (hz : H.size = K.1 + M.1) (h1 : cells + (bc + mc) ≤ R.cells) (h2 : slots + (bs + ms) ≤ R.slots) (hL : gw_L K ls y.2.2.1 lv)
    (hF : ∀ (r : Option Value) (M' : gw_Mem) (H' : Heap) (locs' : List Loc) (slots' pc' : Nat) (ls' : Array Slot), gw_end y pc' r → Q r M' → M'.2.2.1 = M.2.2.1 → gw_D K M' s H' locs' (cells + (bc + mc)) → slots' ≤ slots + (bs + ms) → H'.size = K.1 + M'.1 →
      W p l e R s m args below meth c H' locs' (cells + (bc + mc)) slots' Z (F0 m pc' ls' (r.toList.map (gw_mv K)))) : W p l e R s m args below meth c H locs cells slots Z (F0 m pc ls st0) := by
  intro T hT X
  obtain ⟨v, st₀, t, T', L, h0, X', hLo, e1, e2, ⟨⟨r, M', hv, hW, hX, hzt, hgo⟩, hzF, hkF⟩, hst⟩ := hr T hT X
  have hv' : v = r.map (gw_mv K) := Outcome.returned.inj hv
  subst hv'
  rw [h0] at hzt hzF hkF
  have ec : cells + mc + bc = cells + (bc + mc) := by omega
  have hW2 := hW.2.2.2.1
  have hs1 := hD.2.2.1
  have hS1 : va_S (gw_A K) s.heap T'.heap (locs ++ L) := ⟨Nat.le_trans hD.2.1.1 (by rw [e1]; exact hzF), fun q g1 g2 => by rw [e1, hkF q (Nat.lt_of_lt_of_le g1 hD.2.1.1) g2]; exact hD.2.1.2.1 q g1 g2, fun q hq => by
    rcases List.mem_append.mp hq with h | h
    · exact hD.2.1.2.2 q h
    · exact hLo q h⟩
  have hgo' := hgo K p l e R s m args below meth c T'.heap (locs ++ L) (cells + mc) (slots + ms) Z ls (by rw [hX]; exact hC) ⟨by rw [e1]; exact hW.2.2.1, hS1, by omega, hW.2.2.2.2⟩ (by omega) (by omega) hL (fun r' M2 H' locs' slots' pc' ls' g1 g2 g3 g4 g5 g6 => by
    rw [ec] at g4 ⊢
    exact hF r' M2 H' locs' slots' pc' ls' g1 g2 (g3.trans hX) g4 (by omega) g6)
  obtain ⟨t2, a1, b1⟩ := hgo' T' rfl X'
  refine ⟨t2, hst t2 ?_, b1⟩
  have e5 : (r.toList ++ rest).map (gw_mv K) = (r.map (gw_mv K)).toList ++ rest.map (gw_mv K) := by cases r <;> rfl
  rw [e5] at a1
  exact a1
end GC
section GR
variable {y : gw_Y} {d bc bs pc : Nat} {lv : List (Option Value)} {st : List Value} {M : gw_Mem} {Q : Option Value → gw_Mem → Prop}
theorem go_callS {y' : gw_Y} {mc ms idx nA : Nat} (as rest : List Value) (hd : decode y.2.1 pc = .ok (.invokestatic idx, 3)) (hk : gw_KS y.1.cls idx y' nA) (hn : as.length = nA) (hw : (rest.map fun v => v.category).sum ≤ 8) (hc : gw_Call y' d mc ms as M (fun r M' => gw_Go y (d + 1) bc bs (pc + 3) lv (r.toList ++ rest) M' Q)) : gw_Go y (d + 1) (bc + mc) (bs + ms) pc lv (as.reverse ++ rest) M Q := by
  intro K p l e R s m args below meth c H locs cells slots Z ls hC hD h1 h2 hL hF
  refine gw_size (fun hz0 => ?_)
  have hz := gw_exact hC hD hz0
  obtain ⟨hok, hlk, hst⟩ := hk
  have hts := hC.2.2.2.2.1
  have hfr := hC.2.2.2.2.2.2.2.2
  have hroom : (gw_rm d mc ms).frames + 1 ≤ R.frames ∧ 8 + (y'.2.2.1 + 11) + (gw_rm d mc ms).locals ≤ R.locals := ⟨hfr.1, by have h9 := hok.2.2.2.1; have h8 := hfr.2; show 8 + (y'.2.2.1 + 11) + 40 * d ≤ R.locals; omega⟩
  rw [List.map_append, List.map_reverse]
  refine gw_behind (rest := rest) (a := (as.map (gw_mv K)).toArray) ?_ hC hD hz h1 h2 hL hF
  rcases hlk with hl | ⟨host, hl⟩
  · exact va_runS (As := as.map (gw_mv K)) (Ts := gw_all) ⟨hC.1, hC.2.1, hC.2.2.1, hC.2.2.2.1, hts⟩ (hc K l) ⟨callB_of nA hts (gw_goodIn hok) rfl rfl rfl (hts _ hok.2.1) (hts _ hl) hok.2.2.1 hroom, hts _ hst⟩ ⟨gw_blind, fun U hU hW => ⟨rfl, gw_preW hC hD hz U hU hW⟩⟩ rfl (by rw [List.length_map]; exact hn) hL.1 rfl (lv_room (by rw [gw_mv_sum]; exact hw)) hd ⟨by omega, by omega⟩
  · exact va_runSN (host := host) (As := as.map (gw_mv K)) (Ts := gw_all) ⟨hC.1, hC.2.1, hC.2.2.1, hC.2.2.2.1, hts⟩ (hc K l) ⟨va_cnB nA hts (gw_goodIn hok) rfl rfl rfl (hC.2.2.2.2.2.2.1.2.1 _ _ _ _ hl) (hts _ hok.2.1) hok.2.2.1 hroom, hts _ hst, trivial⟩ ⟨gw_blind, fun U hU hW => ⟨rfl, gw_preW hC hD hz U hU hW⟩⟩ rfl (by rw [List.length_map]; exact hn) hL.1 rfl (lv_room (by rw [gw_mv_sum]; exact hw)) hd ⟨by omega, by omega⟩
theorem go_callV {y' : gw_Y} {mc ms idx nA ci o n : Nat} {sh : Nat → Nat × Nat} {X : Nat × (Nat → Int32)} {R0 : Nat → Nat → Option Nat} {I : Nat → Nat → Int32} {L0 : Nat → Nat → Int64} (as rest : List Value) (hd : decode y.2.1 pc = .ok (.invokevirtual idx, 3)) (hk : gw_KV y.1.cls idx y' ci nA) (ho : sh o = (0, ci)) (hn : as.length = nA) (hw : (rest.map fun v => v.category).sum ≤ 8) (hc : gw_Call y' d mc ms (.ref o :: as) (n, sh, X, R0, I, L0) (fun r M' => gw_Go y (d + 1) bc bs (pc + 3) lv (r.toList ++ rest) M' Q)) : gw_Go y (d + 1) (bc + mc) (bs + ms) pc lv (as.reverse ++ .ref o :: rest) (n, sh, X, R0, I, L0) Q := by
  intro K p l e R s m args below meth c H locs cells slots Z ls hC hD h1 h2 hL hF
  refine gw_size (fun hz0 => ?_)
  have hz := gw_exact hC hD hz0
  obtain ⟨hok, hlk, hst, hse, hci, hcn⟩ := hk
  have hts := hC.2.2.2.2.1
  have hfr := hC.2.2.2.2.2.2.2.2
  have hroom : (gw_rm d mc ms).frames + 1 ≤ R.frames ∧ 8 + (y'.2.2.1 + 11) + (gw_rm d mc ms).locals ≤ R.locals := ⟨hfr.1, by have h9 := hok.2.2.2.1; have h8 := hfr.2; show 8 + (y'.2.2.1 + 11) + 40 * d ≤ R.locals; omega⟩
  have hlt : o < n := hD.2.2.2.lt ho
  have ead : gw_ad K o = K.1 + o := gw_ad_in (M := (n, sh, X, R0, I, L0)) hD.2.2.2 hlt
  have hrecv : ∃ cell : Cell, H[gw_ad K o]? = some cell ∧ cell.vm.isStatics = false ∧ s.vm.findClass y'.1.cls = some cell.cls := by
    rw [ead, ← hcn]
    exact va_recv hC.2.2.2.2.2.2.1.1 hD.1 hci (by rw [gw_ws_at (M := (n, sh, X, R0, I, L0)) hlt, gw_at_obj ho])
  rw [List.map_append, List.map_reverse]
  refine gw_behind (rest := rest) (a := (gw_mv K (.ref o) :: as.map (gw_mv K)).toArray) ?_ hC hD hz h1 h2 hL hF
  rcases hlk with hl | ⟨host, hl⟩
  · exact va_runV (b := gw_ad K o) (C := y'.1.cls) (As := as.map (gw_mv K)) (Ts := gw_all) ⟨hC.1, hC.2.1, hC.2.2.1, hC.2.2.2.1, hts⟩ (hc K l) ⟨callB_of nA hts (gw_goodIn hok) rfl rfl rfl (hts _ hok.2.1) (hts _ hl) hok.2.2.1 hroom, hts _ hst, hts _ hse⟩ ⟨gw_blind, hrecv, fun U hU hW => ⟨rfl, gw_preW hC hD hz U hU hW⟩⟩ rfl (by rw [List.length_map]; exact hn) hL.1 rfl (lv_room (by rw [gw_mv_sum]; exact hw)) hd ⟨by omega, by omega⟩
  · exact va_runVN (host := host) (b := gw_ad K o) (C := y'.1.cls) (As := as.map (gw_mv K)) (Ts := gw_all) ⟨hC.1, hC.2.1, hC.2.2.1, hC.2.2.2.1, hts⟩ (hc K l) ⟨va_cnB nA hts (gw_goodIn hok) rfl rfl rfl (hC.2.2.2.2.2.2.1.2.1 _ _ _ _ hl) (hts _ hok.2.1) hok.2.2.1 hroom, hts _ hst, hts _ hse⟩ ⟨gw_blind, hrecv, fun U hU hW => ⟨rfl, gw_preW hC hD hz U hU hW⟩⟩ rfl (by rw [List.length_map]; exact hn) hL.1 rfl (lv_room (by rw [gw_mv_sum]; exact hw)) hd ⟨by omega, by omega⟩
theorem go_callI {y' : gw_Y} {mc ms idx nA o : Nat} (as rest : List Value) (hd : decode y.2.1 pc = .ok (.invokespecial idx, 3)) (hk : gw_KI y.1.cls idx y' nA) (hn : as.length = nA) (hw : (rest.map fun v => v.category).sum ≤ 8) (hc : gw_Call y' d mc ms (.ref o :: as) M (fun r M' => gw_Go y (d + 1) bc bs (pc + 3) lv (r.toList ++ rest) M' Q)) : gw_Go y (d + 1) (bc + mc) (bs + ms) pc lv (as.reverse ++ .ref o :: rest) M Q := by
  intro K p l e R s m args below meth c H locs cells slots Z ls hC hD h1 h2 hL hF
  refine gw_size (fun hz0 => ?_)
  have hz := gw_exact hC hD hz0
  obtain ⟨⟨y1, y2, y3, y4⟩, hy⟩ : ∃ z : gw_Y, z = y' := ⟨_, rfl⟩
  obtain ⟨hok, hlk, hst, hnm, hret⟩ := hk
  subst hy
  dsimp only at hret
  subst hret
  have hts := hC.2.2.2.2.1
  have hfr := hC.2.2.2.2.2.2.2.2
  have hroom : (gw_rm d mc ms).frames + 1 ≤ R.frames ∧ 8 + (y3 + 11) + (gw_rm d mc ms).locals ≤ R.locals := ⟨hfr.1, by have h9 : y3 ≤ 21 := hok.2.2.2.1; have h8 := hfr.2; show 8 + (y3 + 11) + 40 * d ≤ R.locals; omega⟩
  rw [List.map_append, List.map_reverse]
  refine gw_behind (rest := rest) (a := (gw_mv K (.ref o) :: as.map (gw_mv K)).toArray) ?_ hC hD hz h1 h2 hL hF
  rcases hlk with hl | ⟨host, hl⟩
  · exact va_runI (b := gw_ad K o) (As := as.map (gw_mv K)) (Ts := gw_all) ⟨hC.1, hC.2.1, hC.2.2.1, hC.2.2.2.1, hts⟩ (hc K l) ⟨callB_of nA hts (gw_goodIn hok) rfl rfl rfl (hts _ hok.2.1) (hts _ hl) hok.2.2.1 hroom, hnm, hts _ hst⟩ ⟨gw_blind, fun U hU hW => ⟨rfl, gw_preW hC hD hz U hU hW⟩⟩ rfl (by rw [List.length_map]; exact hn) hL.1 rfl (lv_room (by rw [gw_mv_sum]; exact hw)) hd ⟨by omega, by omega⟩
  · exact va_runIN (host := host) (b := gw_ad K o) (As := as.map (gw_mv K)) (Ts := gw_all) ⟨hC.1, hC.2.1, hC.2.2.1, hC.2.2.2.1, hts⟩ (hc K l) ⟨va_cnB nA hts (gw_goodIn hok) rfl rfl rfl (hC.2.2.2.2.2.2.1.2.1 _ _ _ _ hl) (hts _ hok.2.1) hok.2.2.1 hroom, hnm, hts _ hst⟩ ⟨gw_blind, fun U hU hW => ⟨rfl, gw_preW hC hD hz U hU hW⟩⟩ rfl (by rw [List.length_map]; exact hn) hL.1 rfl (lv_room (by rw [gw_mv_sum]; exact hw)) hd ⟨by omega, by omega⟩
/-! returns -/
theorem go_ret {r : Option Value} (he : gw_end y pc r) (hq : Q r M) : gw_Go y d 0 bs pc lv r.toList M Q := by
  intro K p l e R s m args below meth c H locs cells slots Z ls hC hD h1 h2 hL hF
  refine gw_size (fun hz0 => ?_)
  have hz := gw_exact hC hD hz0
  exact hF r M H locs slots pc ls he hq rfl hD (by omega) hz
theorem go_iret {v : Int32} (hd : decode y.2.1 pc = .ok (.ireturn, 1)) (hr : y.2.2.2 = some .int) (hq : Q (some (.int v)) M) : gw_Go y d 0 bs pc lv [.int v] M Q := go_ret (r := some (.int v)) ⟨hd, .int, hr, rfl⟩ hq
theorem go_zret {v : Int32} (hd : decode y.2.1 pc = .ok (.ireturn, 1)) (hr : y.2.2.2 = some .boolean) (hb : v = 0 ∨ v = 1) (hq : Q (some (.int v)) M) : gw_Go y d 0 bs pc lv [.int v] M Q := go_ret (r := some (.int v)) ⟨hd, .boolean, hr, by rcases hb with rfl | rfl <;> rfl⟩ hq
theorem go_lret {v : Int64} (hd : decode y.2.1 pc = .ok (.lreturn, 1)) (hr : y.2.2.2 = some .long) (hq : Q (some (.long v)) M) : gw_Go y d 0 bs pc lv [.long v] M Q := go_ret (r := some (.long v)) ⟨hd, hr⟩ hq
theorem go_aret {q : Nat} {C : String} (hd : decode y.2.1 pc = .ok (.areturn, 1)) (hr : y.2.2.2 = some (.object C)) (hq : Q (some (.ref q)) M) : gw_Go y d 0 bs pc lv [.ref q] M Q := go_ret (r := some (.ref q)) ⟨hd, _, hr, Or.inl ⟨_, rfl⟩⟩ hq
theorem go_nret {C : String} (hd : decode y.2.1 pc = .ok (.areturn, 1)) (hr : y.2.2.2 = some (.object C)) (hq : Q (some .null) M) : gw_Go y d 0 bs pc lv [.null] M Q := go_ret (r := some .null) ⟨hd, _, hr, Or.inl ⟨_, rfl⟩⟩ hq
theorem go_vret (hd : decode y.2.1 pc = .ok (.return_, 1)) (hr : y.2.2.2 = none) (hq : Q none M) : gw_Go y d 0 bs pc lv [] M Q := go_ret (r := none) ⟨hd, hr⟩ hq
end GR
/-! a method's contract out of its walk -/
def gw_sl : List Value → List (Option Value)
  | [] => []
  | v :: vs => match gw_big (some v) with
    | true => some v :: none :: gw_sl vs
    | false => some v :: gw_sl vs
def gw_en (as : List Value) (n : Nat) : List (Option Value) := gw_sl as ++ List.replicate (n - (gw_sl as).length) none
theorem gw_big_cat (v : Value) : gw_big (some v) = true ↔ v.category = 2 := by cases v <;> simp [gw_big, Value.category]
theorem gw_sl_len (K : gw_K) : ∀ as : List Value, (lg_sl (as.map (gw_mv K))).length = (gw_sl as).length
  | [] => rfl
  | v :: vs => by
    have ih := gw_sl_len K vs
    unfold lg_sl at ih ⊢
    rw [List.map_cons, List.flatMap_cons, List.length_append, ih, gw_mv_cat]
    have e : gw_sl (v :: vs) = match gw_big (some v) with | true => some v :: none :: gw_sl vs | false => some v :: gw_sl vs := rfl
    rw [e]
    cases hb : gw_big (some v) with
    | true => rw [if_pos ((gw_big_cat v).mp hb)]; simp only [List.length_cons, List.length_nil]; omega
    | false => rw [if_neg (fun h => by rw [(gw_big_cat v).mpr h] at hb; cases hb)]; simp only [List.length_cons, List.length_nil]; omega
theorem gw_rep_get (n : Nat) : ∀ i : Nat, gw_get (List.replicate n none) i = none := by
  induction n with
  | zero => intro i; rfl
  | succ n ih => intro i; cases i with
    | zero => rfl
    | succ i => exact ih i
theorem gw_en_sub (K : gw_K) (n : Nat) : ∀ (as : List Value) (off i : Nat) (v : Value), gw_get (gw_sl as ++ List.replicate n none) i = some v → (off + i, gw_mv K v) ∈ lv_args off (as.map (gw_mv K))
  | [], off, i, v, h => by
    rw [show gw_sl [] ++ List.replicate n none = List.replicate n none from rfl, gw_rep_get] at h
    cases h
  | w :: ws, off, i, v, h => by
    unfold gw_sl at h
    rw [List.map_cons]
    unfold lv_args
    rw [gw_mv_cat]
    cases hb : gw_big (some w) with
    | true =>
      rw [hb] at h
      rw [if_pos ((gw_big_cat w).mp hb)]
      cases i with
      | zero => cases h; exact List.mem_cons_self
      | succ i =>
        cases i with
        | zero => cases h
        | succ i =>
          refine List.mem_cons_of_mem _ ?_
          have := gw_en_sub K n ws (off + 2) i v h
          rw [show off + (i + 1 + 1) = off + 2 + i by omega]
          exact this
    | false =>
      rw [hb] at h
      rw [if_neg (fun h9 => by rw [(gw_big_cat w).mpr h9] at hb; cases hb)]
      cases i with
      | zero => cases h; exact List.mem_cons_self
      | succ i =>
        refine List.mem_cons_of_mem _ ?_
        have := gw_en_sub K n ws (off + 1) i v h
        rw [show off + (i + 1) = off + 1 + i by omega]
        exact this
theorem gw_call {y : gw_Y} {d mc ms nA : Nat} {as : List Value} {M : gw_Mem} {Q : Option Value → gw_Mem → Prop} (hok : gw_Ok y nA) (hl : (gw_sl as).length ≤ y.2.2.1) (h : gw_Go y d mc ms 0 (gw_en as y.2.2.1) [] M Q) : gw_Call y d mc ms as M Q := by
  intro K l
  refine Met.ofW (cc := y.2.1) (maxL := y.2.2.1) (ret := y.2.2.2) hok.2.2.2.2 rfl ?_
  intro p e s m args below meth c s₁ B hml hv
  obtain ⟨rfl, hS, hE, hP, hz, hV⟩ := hv
  have hts := atoms_spec (ws := gw_wd y) B.pre
  have hC : gw_C y d K p (gw_rm d mc ms) s m (as.map (gw_mv K)).toArray meth c M.2.2.1 := ⟨B.exec, B.bytes, hml, findClass_of_methodNamed B.named, fun w hw => hts w (List.mem_cons_of_mem _ hw), (name_of_methodNamed B.named B.method).1, hS, hE, Nat.le_refl _, Nat.le_refl _⟩
  have hl0 := lv_entry (as.map (gw_mv K)) (n := y.2.2.1) (by rw [gw_sl_len]; exact hl)
  rw [lg_entry_eq]
  generalize (lg_sl (as.map (gw_mv K)) ++ List.replicate (y.2.2.1 - (lg_sl (as.map (gw_mv K))).length) Slot.unset).toArray = ls at hl0 ⊢
  refine h K p l e (gw_rm d mc ms) s m _ below meth c s.heap [] 0 0 _ ls hC ⟨hP, va_S.rf, by omega, hV⟩ (by show 0 + mc ≤ mc; omega) (by show 0 + ms ≤ ms; omega) (gw_L.of hl0 (fun q hq => ?_)) ?_
  · obtain ⟨v, hv, hw⟩ := gw_as_of hq
    obtain ⟨i, w⟩ := q
    dsimp only at hv hw
    subst hw
    have := gw_en_sub K _ as 0 i v hv
    rwa [Nat.zero_add] at this
  · intro r M' H' locs' slots' pc' ls' hend hQ hX hD' hsl hz'
    refine W.widen (k := mc) (n := ms) (by omega) (by omega) ?_
    have hq : ∀ t : State, t.heap = H' → s.WarmedH t.vm → gw_Qc K M.2.2.1 mc Q (as.map (gw_mv K)).toArray s (.returned (r.map (gw_mv K))) t := by
      intro t ht hW
      have hs2 := hD'.2.2.1
      refine ⟨⟨r, M', rfl, ⟨gw_S.moved hW hS, ?_, by rw [ht]; exact hD'.1, by rw [ht]; exact hz', hD'.2.2.2⟩, hX, by rw [ht]; omega, hQ⟩, hD'.2.1.F ht⟩
      rw [ht, hX]
      exact gw_E.moved hW.alike (hE.kept hD'.2.1.1 hD'.2.1.2.1)
    cases r with
    | none => exact W.vret B.exec B.bytes (B.returns.trans hend.2) hq hD'.2.1.2.2 hend.1
    | some v =>
      cases v with
      | int v =>
        obtain ⟨g1, ty, g2, g3⟩ := hend
        exact W.zret B.exec B.bytes (B.returns.trans g2) g3 hq hD'.2.1.2.2 g1
      | long v => exact W.lret B.exec B.bytes (B.returns.trans hend.2) hq hD'.2.1.2.2 hend.1
      | ref a =>
        obtain ⟨g1, rt, g2, g3⟩ := hend
        exact W.aret B.exec B.bytes (B.returns.trans g2) g3 (Or.inr ⟨_, rfl⟩) hq hD'.2.1.2.2 g1
      | null =>
        obtain ⟨g1, rt, g2, g3⟩ := hend
        exact W.aret B.exec B.bytes (B.returns.trans g2) g3 (Or.inl rfl) hq hD'.2.1.2.2 g1
      | float v => exact hend.elim
      | double v => exact hend.elim
      | retAddr v => exact hend.elim
end
section
/-! makings: objects and arrays; Object's constructor; System.arraycopy; Math.max -/
def gw_C2 (ci : Nat) : Prop := gw_Cok ci ∧ (∀ k, k < (gw_c ci).2.2 → gw_kd (gw_ty ci k) < 4) ∧ Cond.instantiable (gw_c ci).1 (gw_c ci).2.2 ∈ gw_all ∧ Cond.initialized (gw_c ci).1 ∈ gw_all
theorem gw_dflt (K : gw_K) {t : FieldType} (h : gw_kd t < 4) : defaultValue t = gw_fv K t none 0 0 := by cases t <;> first | rfl | (exact absurd h (by simp [gw_kd]))
theorem gw_D.push {K : gw_K} {M M' : gw_Mem} {s : State} {H H1 : Heap} {locs locs1 : List Loc} {cells q : Nat} {c : va_E} (hD : gw_D K M s H locs cells) (h0 : K.1 ≤ s.heap.size) (hn : M'.1 = M.1 + 1) (hm : M.1 < 1048576) (hc : gw_at K M' M.1 = c) (ho : ∀ j, j < M.1 → gw_at K M' j = gw_at K M j) (hsh : ∀ j, M.1 + 1 ≤ j → (M'.2.1 j) = M.2.1 j)
    (hP : va_P K.2.1 gw_cl (gw_ws K M ++ [(q, c)]) H1) (hD1 : va_D (gw_A K) (gw_ws K M ++ [(q, c)])) (hS : va_S (gw_A K) s.heap H1 locs1) (hz : H1.size ≤ s.heap.size + (cells + 1)) : q = K.1 + M.1 ∧ gw_D K M' s H1 locs1 (cells + 1) := by
  have hlen : (gw_ws K M).length = M.1 := by simp [gw_ws]
  have hlast : (gw_ws K M ++ [(q, c)])[M.1]? = some (q, c) := by
    rw [List.getElem?_append_right (by omega), hlen, Nat.sub_self]
    rfl
  have hq1 : q < H1.size := (hP M.1 _ hlast).lt
  have hq2 : K.1 ≤ q := hD1.2 M.1 _ hlast
  have hs := hD.2.2.1
  have hq3 : q = K.1 + M.1 := by
    by_cases h : q = K.1 + M.1
    · exact h
    · exfalso
      have hi : q - K.1 < M.1 := by omega
      have h1 : (gw_ws K M ++ [(q, c)])[q - K.1]? = some (K.1 + (q - K.1), gw_at K M (q - K.1)) := by
        rw [List.getElem?_append_left (by omega)]
        exact gw_ws_at hi
      have := hD1.1 (q - K.1) M.1 _ _ h1 hlast (by dsimp only; omega)
      omega
  subst hq3
  refine ⟨rfl, ?_, hS, by omega, ⟨by omega, fun j hj => by rw [hsh j (by omega)]; exact hD.2.2.2.2 j (by omega)⟩⟩
  rw [← gw_ws_push hn hc ho]
  exact hP
section GN
variable {y : gw_Y} {d bc bs pc : Nat} {lv : List (Option Value)} {st : List Value} {Q : Option Value → gw_Mem → Prop} {n : Nat} {sh : Nat → Nat × Nat} {X : Nat × (Nat → Int32)} {R : Nat → Nat → Option Nat} {I : Nat → Nat → Int32} {L : Nat → Nat → Int64}
theorem gw_at_old {K : gw_K} {q : Nat × Nat} {r : Nat → Option Nat} {f : Nat → Int32} {g : Nat → Int64} {j : Nat} (h : j < n) : gw_at K (n + 1, va_up sh n q, X, va_up R n r, va_up I n f, va_up L n g) j = gw_at K (n, sh, X, R, I, L) j := by
  have hj : j ≠ n := by omega
  unfold gw_at
  dsimp only
  rw [gw_up_ne hj, gw_up_ne hj, gw_up_ne hj, gw_up_ne hj]
theorem go_new {idx ci : Nat} (hd : decode y.2.1 pc = .ok (.new idx, 3)) (hw : Cond.classLink y.1.cls idx (gw_c ci).1 ∈ gw_all) (hc2 : gw_C2 ci) (hm : n < 1048576) (kk : gw_Go y d bc bs (pc + 3) lv (.ref n :: st) (n + 1, va_up sh n (0, ci), X, va_up R n (fun _ => none), va_up I n (fun _ => 0), va_up L n (fun _ => 0)) Q) : gw_Go y d (bc + 1) (bs + gw_N ci) pc lv st (n, sh, X, R, I, L) Q := by
  intro K p l e R' s m args below meth c H locs cells slots Z ls hC hD h1 h2 hL hF
  obtain ⟨⟨f1, f2, f3, f4, f5⟩, f6, f7, f8⟩ := hc2
  have hts := hC.2.2.2.2.1
  have h0 := hC.2.2.2.2.2.2.2.1.2.2.1
  refine va_new (D := K.2.1) (fs := gw_fs K ci (fun _ => none) (fun _ => 0) (fun _ => 0)) hC.1 hC.2.1 hts f3 (gw_ty ci) f4 hC.2.2.2.1 (hts _ hw) (hts _ f7) (hts _ f8) hC.2.2.2.2.2.2.1.1 hD.1 gw_apart hD.2.1 (fun q hq => Nat.le_trans h0 hq) f1 (fun j hj => ?_) (by omega) (by rw [f2]; omega) hd (fun q H1 hP hD1 hS => ?_)
  · unfold vp_V
    rw [List.getD_eq_getElem?_getD, gw_fs_at (by rw [← f2]; exact hj), gw_dflt K (f6 j hj)]
    rfl
  · refine gw_size (fun hz0 => ?_)
    obtain ⟨hq, hD2⟩ := hD.push (M' := (n + 1, va_up sh n (0, ci), X, va_up R n (fun _ => none), va_up I n (fun _ => 0), va_up L n (fun _ => 0))) h0 rfl hm (by rw [gw_at_obj (by exact gw_up_eq), gw_up_eq, gw_up_eq, gw_up_eq]) (fun j hj => gw_at_old hj) (fun j hj => gw_up_ne (by dsimp only at hj; omega)) hP hD1 hS hz0
    have ec : cells + 1 + bc = cells + (bc + 1) := by omega
    have ead : gw_ad K n = K.1 + n := gw_ad_lt K hm
    have := kk K p l e R' s m args below meth c H1 locs (cells + 1) (slots + (gw_c ci).2.2) Z ls hC hD2 (by omega) (by rw [f2]; omega) hL (fun r' M2 H' locs' slots' pc' ls' g1 g2 g3 g4 g5 g6 => by
      rw [ec] at g4 ⊢
      exact hF r' M2 H' locs' slots' pc' ls' g1 g2 g3 g4 (by rw [f2] at g5; omega) g6)
    rw [hq]
    rw [List.map_cons, show gw_mv K (.ref n) = .ref (K.1 + n) by rw [← ead]; rfl] at this
    exact this
theorem gw_newP {atype : ArrayType} {ty : FieldType} {k len : Nat} {z : Int32} {f : Nat → Int32} {g : Nat → Int64} (hd : decode y.2.1 pc = .ok (.newarray atype, 2)) (hty : newarray.typeOf atype = ty) (hw : Cond.arrayClass ty ∈ gw_all) (hk : k < gw_NK) (hkt : gw_kt k = ty) (hp : ∀ C, ty ≠ .object C) (hcell : ∀ (K : gw_K) (sh' : Nat → Nat × Nat) (R' : Nat → Nat → Option Nat), sh' n = (k, len) → ∃ a0 : vp_A, gw_at K (n + 1, sh', X, R', va_up I n f, va_up L n g) n = .inl (K.2.2.1 k, a0) ∧ ∀ cA : ClassId, vp_cell cA a0 = arrV cA len (fun _ => defaultValue ty)) (hz : z = nI len) (hl : len < 65536) (hb : componentBytes ty ≤ 8) (hm : n < 1048576)
    (kk : gw_Go y d bc bs (pc + 2) lv (.ref n :: st) (n + 1, va_up sh n (k, len), X, va_up R n (fun _ => none), va_up I n f, va_up L n g) Q) : gw_Go y d (bc + 1) (bs + len) pc lv (.int z :: st) (n, sh, X, R, I, L) Q := by
  intro K p l e R' s m args below meth c H locs cells slots Z ls hC hD h1 h2 hL hF
  have hts := hC.2.2.2.2.1
  have h0 := hC.2.2.2.2.2.2.2.1.2.2.1
  have hK := hC.2.2.2.2.2.2.1.1
  obtain ⟨a0, ha1, ha2⟩ := hcell K (va_up sh n (k, len)) (va_up R n (fun _ => none)) gw_up_eq
  refine va_newa (D := K.2.1) (N' := len) (a0 := a0) hC.1 hC.2.1 (by rw [hty]; exact hts _ hw) hty hK hD.1 gw_apart hD.2.1 (fun q hq => Nat.le_trans h0 hq) ha2 (by rw [hz]; exact nI_pos (by omega)) (by rw [hz]; exact nI_clamp (by omega)) (by have := Nat.mul_le_mul (Nat.le_of_lt hl) hb; omega) (by omega) (by omega) hd (fun q cA H1 hK1 hP hD1 hS => ?_)
  refine gw_size (fun hz0 => ?_)
  have hlast : (gw_tys K ++ [(cA, ty)])[(gw_tys K).length]? = some (cA, ty) := by rw [List.getElem?_append_right (Nat.le_refl _), Nat.sub_self]; rfl
  have r1 := (hK1.2 _ _ hlast).2
  have r2 := (hK.2 k _ (gw_tys_at hk)).2
  rw [hkt] at r2
  have hcA : cA = K.2.2.1 k := by
    cases ty with
    | object C => exact absurd rfl (hp C)
    | _ => exact Option.some.inj ((show _ = some cA from r1).symm.trans r2)
  subst hcA
  obtain ⟨hq, hD2⟩ := hD.push (M' := (n + 1, va_up sh n (k, len), X, va_up R n (fun _ => none), va_up I n f, va_up L n g)) h0 rfl hm ha1 (fun j hj => gw_at_old hj) (fun j hj => gw_up_ne (by dsimp only at hj; omega)) hP hD1 hS hz0
  have ec : cells + 1 + bc = cells + (bc + 1) := by omega
  have ead : gw_ad K n = K.1 + n := gw_ad_lt K hm
  have := kk K p l e R' s m args below meth c H1 locs (cells + 1) (slots + len) Z ls hC hD2 (by omega) (by omega) hL (fun r' M2 H' locs' slots' pc' ls' g1 g2 g3 g4 g5 g6 => by
    rw [ec] at g4 ⊢
    exact hF r' M2 H' locs' slots' pc' ls' g1 g2 g3 g4 (by omega) g6)
  rw [hq]
  rw [List.map_cons, show gw_mv K (.ref n) = .ref (K.1 + n) by rw [← ead]; rfl] at this
  exact this
theorem go_newI {len : Nat} {z : Int32} (hd : decode y.2.1 pc = .ok (.newarray .int, 2)) (hw : Cond.arrayClass .int ∈ gw_all) (hz : z = nI len) (hl : len < 65536) (hm : n < 1048576) (kk : gw_Go y d bc bs (pc + 2) lv (.ref n :: st) (n + 1, va_up sh n (1, len), X, va_up R n (fun _ => none), va_up I n (fun _ => 0), va_up L n (fun _ => 0)) Q) : gw_Go y d (bc + 1) (bs + len) pc lv (.int z :: st) (n, sh, X, R, I, L) Q :=
  gw_newP (k := 1) hd rfl hw (by decide) rfl (fun C h => by cases h) (fun K sh' R' hs => ⟨_, gw_at_int hs, fun cA => by rw [vp_cell_i, gw_up_eq]; rfl⟩) hz hl (by decide) hm kk
theorem go_newL {len : Nat} {z : Int32} (hd : decode y.2.1 pc = .ok (.newarray .long, 2)) (hw : Cond.arrayClass .long ∈ gw_all) (hz : z = nI len) (hl : len < 65536) (hm : n < 1048576) (kk : gw_Go y d bc bs (pc + 2) lv (.ref n :: st) (n + 1, va_up sh n (2, len), X, va_up R n (fun _ => none), va_up I n (fun _ => 0), va_up L n (fun _ => 0)) Q) : gw_Go y d (bc + 1) (bs + len) pc lv (.int z :: st) (n, sh, X, R, I, L) Q :=
  gw_newP (k := 2) hd rfl hw (by decide) rfl (fun C h => by cases h) (fun K sh' R' hs => ⟨_, gw_at_long hs, fun cA => by rw [vp_cell_l, gw_up_eq]; rfl⟩) hz hl (by decide) hm kk
theorem go_newZ {len : Nat} {z : Int32} (hd : decode y.2.1 pc = .ok (.newarray .boolean, 2)) (hw : Cond.arrayClass .boolean ∈ gw_all) (hz : z = nI len) (hl : len < 65536) (hm : n < 1048576) (kk : gw_Go y d bc bs (pc + 2) lv (.ref n :: st) (n + 1, va_up sh n (3, len), X, va_up R n (fun _ => none), va_up I n (fun _ => 0), va_up L n (fun _ => 0)) Q) : gw_Go y d (bc + 1) (bs + len) pc lv (.int z :: st) (n, sh, X, R, I, L) Q :=
  gw_newP (k := 3) hd rfl hw (by decide) rfl (fun C h => by cases h) (fun K sh' R' hs => ⟨_, gw_at_bool hs, fun cA => by rw [vp_cell_i, gw_up_eq]; rfl⟩) hz hl (by decide) hm kk
theorem go_newq {idx t len : Nat} {z : Int32} {C : String} (hd : decode y.2.1 pc = .ok (.anewarray idx, 3)) (hw : Cond.classLink y.1.cls idx C ∈ gw_all) (ho : Cond.arrayOver (.object C) ∈ lw_tbl) (ht : t + 4 < gw_NK) (hkt : gw_kt (t + 4) = .object C) (hz : z = nI len) (hl : len < 65536) (hm : n < 1048576)
    (kk : gw_Go y d bc bs (pc + 3) lv (.ref n :: st) (n + 1, va_up sh n (t + 4, len), X, va_up R n (fun _ => none), va_up I n (fun _ => 0), va_up L n (fun _ => 0)) Q) : gw_Go y d (bc + 1) (bs + len) pc lv (.int z :: st) (n, sh, X, R, I, L) Q := by
  intro K p l e R' s m args below meth c H locs cells slots Z ls hC hD h1 h2 hL hF
  have hts := hC.2.2.2.2.1
  have h0 := hC.2.2.2.2.2.2.2.1.2.2.1
  have hK := hC.2.2.2.2.2.2.1.1
  refine va_newq (D := K.2.1) (N' := len) hC.1 hC.2.1 hC.2.2.2.1 (hts _ hw) (hC.2.2.2.2.2.2.1.2.2 C ho) hK hD.1 gw_apart hD.2.1 (fun q hq => Nat.le_trans h0 hq) (by rw [hz]; exact nI_pos (by omega)) (by rw [hz]; exact nI_clamp (by omega)) (by omega) (by omega) (by omega) hd (fun q cA H1 hK1 hP hD1 hS => ?_)
  refine gw_size (fun hz0 => ?_)
  have hlast : (gw_tys K ++ [(cA, FieldType.object C)])[(gw_tys K).length]? = some (cA, .object C) := by rw [List.getElem?_append_right (Nat.le_refl _), Nat.sub_self]; rfl
  obtain ⟨_, _, -, -, -, r1⟩ := (hK1.2 _ _ hlast).2
  have r2 := (hK.2 (t + 4) _ (gw_tys_at ht)).2
  dsimp only at r2
  rw [hkt] at r2
  obtain ⟨_, _, -, -, -, r3⟩ := r2
  have hcA : cA = K.2.2.1 (t + 4) := Option.some.inj (r1.symm.trans r3)
  subst hcA
  obtain ⟨hq, hD2⟩ := hD.push (M' := (n + 1, va_up sh n (t + 4, len), X, va_up R n (fun _ => none), va_up I n (fun _ => 0), va_up L n (fun _ => 0))) h0 rfl hm (by rw [gw_at_ref (by exact gw_up_eq)]; congr 7; funext j; rw [gw_up_eq]; rfl) (fun j hj => gw_at_old hj) (fun j hj => gw_up_ne (by dsimp only at hj; omega)) hP hD1 hS hz0
  have ec : cells + 1 + bc = cells + (bc + 1) := by omega
  have ead : gw_ad K n = K.1 + n := gw_ad_lt K hm
  have := kk K p l e R' s m args below meth c H1 locs (cells + 1) (slots + len) Z ls hC hD2 (by omega) (by omega) hL (fun r' M2 H' locs' slots' pc' ls' g1 g2 g3 g4 g5 g6 => by
    rw [ec] at g4 ⊢
    exact hF r' M2 H' locs' slots' pc' ls' g1 g2 g3 g4 (by omega) g6)
  rw [hq]
  rw [List.map_cons, show gw_mv K (.ref n) = .ref (K.1 + n) by rw [← ead]; rfl] at this
  exact this
theorem go_obj {idx o : Nat} {M : gw_Mem} (hd : decode y.2.1 pc = .ok (.invokespecial idx, 3)) (hw : Cond.methodLink y.1.cls idx Lib.objectInit ∈ gw_all) (hi : Cond.instanceMethod Lib.objectInit ∈ gw_all) (hc : Cond.code Lib.objectInit ⟨#[0xb1]⟩ 1 none ∈ gw_all) (hr : (st.map fun v => v.category).sum ≤ 8) (kk : gw_Go y (d + 1) bc bs (pc + 3) lv st M Q) : gw_Go y (d + 1) bc bs pc lv (.ref o :: st) M Q := by
  intro K p l e R' s m args below meth c H locs cells slots Z ls hC hD h1 h2 hL hF
  have hts := hC.2.2.2.2.1
  have hfr := hC.2.2.2.2.2.2.2.2
  exact W.objInit hC.1 hC.2.1 hC.2.2.2.1 (hts _ hw) (hts _ hi) (hts _ hc) rfl (hL.1.trans hC.2.2.1.symm) rfl hd (by omega) (by show 2 * 0 + _ + 12 ≤ _; rw [gw_mv_sum]; omega) (kk K p l e R' s m args below meth c H locs cells slots Z ls hC hD h1 h2 hL hF)
theorem go_max {idx : Nat} {x z : Int32} {M : gw_Mem} (hd : decode y.2.1 pc = .ok (.invokestatic idx, 3)) (hw : Cond.methodLink y.1.cls idx Lib.Math.max.name ∈ gw_all) (hs : Cond.static Lib.Math.max.name ∈ gw_all) (hi : Cond.initialized "java/lang/Math" ∈ gw_all) (hc : Cond.code Lib.Math.max.name Lib.Math.max.code 2 (some .int) ∈ gw_all) (hr : (st.map fun v => v.category).sum ≤ 8) (kk : gw_Go y (d + 1) bc bs (pc + 3) lv (.int (if x < z then z else x) :: st) M Q) : gw_Go y (d + 1) bc bs pc lv (.int z :: .int x :: st) M Q := by
  intro K p l e R' s m args below meth c H locs cells slots Z ls hC hD h1 h2 hL hF
  have hts := hC.2.2.2.2.1
  have hfr := hC.2.2.2.2.2.2.2.2
  exact va_mmax hC.1 hC.2.1 (hC.2.2.1.trans hL.1.symm) hC.2.2.2.1 (hts _ hw) (hts _ hs) (hts _ hi) (hts _ hc) (by omega) (by rw [gw_mv_sum]; omega) (by omega) (by omega) hd (kk K p l e R' s m args below meth c H locs cells slots Z ls hC hD h1 h2 hL hF)
theorem go_cpyI {idx o o' len : Nat} {z : Int32} (hd : decode y.2.1 pc = .ok (.invokestatic idx, 3)) (hw : Cond.methodLink y.1.cls idx arraycopyName ∈ gw_all) (hna : Cond.native arraycopyName ∈ gw_all) (hs : Cond.static arraycopyName ∈ gw_all) (hi : Cond.initialized "java/lang/System" ∈ gw_all) (ho : sh o = (1, len)) (ho' : sh o' = (1, len)) (hz : z = nI len) (hl : len < 65536) (hr : (st.map fun v => v.category).sum ≤ 8)
    (kk : gw_Go y (d + 1) bc bs (pc + 3) lv st (n, sh, X, R, va_up I o' (va_cpy (I o) (I o') 0 0 len), L) Q) : gw_Go y (d + 1) bc bs pc lv (.int z :: .int 0 :: .ref o' :: .int 0 :: .ref o :: st) (n, sh, X, R, I, L) Q := by
  intro K p l e R' s m args below meth c H locs cells slots Z ls hC hD h1 h2 hL hF
  have hts := hC.2.2.2.2.1
  have hfr := hC.2.2.2.2.2.2.2.2
  have hlt : o < n := hD.2.2.2.lt ho
  have hlt' : o' < n := hD.2.2.2.lt ho'
  have ea : gw_ad K o = K.1 + o := gw_ad_in (M := (n, sh, X, R, I, L)) hD.2.2.2 hlt
  have ea' : gw_ad K o' = K.1 + o' := gw_ad_in (M := (n, sh, X, R, I, L)) hD.2.2.2 hlt'
  have hc : z.toNatClampNeg = len := by rw [hz]; exact nI_clamp (by omega)
  have h00 : (0 : Int32).toNatClampNeg = 0 := by decide
  show W p l e R' s m args below meth c H locs cells slots Z (F0 m pc ls (.int z :: .int 0 :: .ref (gw_ad K o') :: .int 0 :: .ref (gw_ad K o) :: st.map (gw_mv K)))
  rw [ea, ea']
  have hnf : nativeFrameWords "java/lang/System" "arraycopy" 5 + 11 ≤ 32 := by decide +kernel
  refine va_copyi (D := K.2.1) (ty := .int) hC.1 hC.2.1 (hC.2.2.1.trans hL.1.symm) hC.2.2.2.1 (hts _ hw) (hts _ hna) (hts _ hs) (hts _ hi) hC.2.2.2.2.2.2.1.1 hD.1 gw_apart hD.2.1 o o' 1 1 (by rw [gw_ws_at hlt, gw_at_int ho]) (by rw [gw_ws_at hlt', gw_at_int ho']) (gw_tys_at (by decide)) (gw_tys_at (by decide)) rfl (by decide) (by decide) (by rw [hz]; exact nI_pos (by omega)) (by rw [hc, h00]; omega) (by rw [hc, h00]; omega) (fun i _ => rfl) (by omega) (by rw [gw_mv_sum]; omega) hd (fun H1 locs1 hP hD' hS => ?_)
  rw [hc, h00] at hP
  refine kk K p l e R' s m args below meth c H1 locs1 cells slots Z ls hC (hD.set (o := o') hlt' rfl rfl ?_ ?_ hP hS) h1 h2 hL hF
  · rw [gw_at_int ho', gw_up_eq]
  · intro j hjo
    unfold gw_at
    dsimp only
    rw [gw_up_ne hjo]
theorem go_cpyL {idx o o' len : Nat} {z : Int32} (hd : decode y.2.1 pc = .ok (.invokestatic idx, 3)) (hw : Cond.methodLink y.1.cls idx arraycopyName ∈ gw_all) (hna : Cond.native arraycopyName ∈ gw_all) (hs : Cond.static arraycopyName ∈ gw_all) (hi : Cond.initialized "java/lang/System" ∈ gw_all) (ho : sh o = (2, len)) (ho' : sh o' = (2, len)) (hz : z = nI len) (hl : len < 65536) (hr : (st.map fun v => v.category).sum ≤ 8)
    (kk : gw_Go y (d + 1) bc bs (pc + 3) lv st (n, sh, X, R, I, va_up L o' (va_cpy (L o) (L o') 0 0 len)) Q) : gw_Go y (d + 1) bc bs pc lv (.int z :: .int 0 :: .ref o' :: .int 0 :: .ref o :: st) (n, sh, X, R, I, L) Q := by
  intro K p l e R' s m args below meth c H locs cells slots Z ls hC hD h1 h2 hL hF
  have hts := hC.2.2.2.2.1
  have hfr := hC.2.2.2.2.2.2.2.2
  have hlt : o < n := hD.2.2.2.lt ho
  have hlt' : o' < n := hD.2.2.2.lt ho'
  have ea : gw_ad K o = K.1 + o := gw_ad_in (M := (n, sh, X, R, I, L)) hD.2.2.2 hlt
  have ea' : gw_ad K o' = K.1 + o' := gw_ad_in (M := (n, sh, X, R, I, L)) hD.2.2.2 hlt'
  have hc : z.toNatClampNeg = len := by rw [hz]; exact nI_clamp (by omega)
  have h00 : (0 : Int32).toNatClampNeg = 0 := by decide
  show W p l e R' s m args below meth c H locs cells slots Z (F0 m pc ls (.int z :: .int 0 :: .ref (gw_ad K o') :: .int 0 :: .ref (gw_ad K o) :: st.map (gw_mv K)))
  rw [ea, ea']
  have hnf : nativeFrameWords "java/lang/System" "arraycopy" 5 + 11 ≤ 32 := by decide +kernel
  refine va_copyl (D := K.2.1) (ty := .long) hC.1 hC.2.1 (hC.2.2.1.trans hL.1.symm) hC.2.2.2.1 (hts _ hw) (hts _ hna) (hts _ hs) (hts _ hi) hC.2.2.2.2.2.2.1.1 hD.1 gw_apart hD.2.1 o o' 2 2 (by rw [gw_ws_at hlt, gw_at_long ho]) (by rw [gw_ws_at hlt', gw_at_long ho']) (gw_tys_at (by decide)) (gw_tys_at (by decide)) rfl (by decide) (by decide) (by rw [hz]; exact nI_pos (by omega)) (by rw [hc, h00]; omega) (by rw [hc, h00]; omega) (fun i _ => rfl) (by omega) (by rw [gw_mv_sum]; omega) hd (fun H1 locs1 hP hD' hS => ?_)
  rw [hc, h00] at hP
  refine kk K p l e R' s m args below meth c H1 locs1 cells slots Z ls hC (hD.set (o := o') hlt' rfl rfl ?_ ?_ hP hS) h1 h2 hL hF
  · rw [gw_at_long ho', gw_up_eq]
  · intro j hjo
    unfold gw_at
    dsimp only
    rw [gw_up_ne hjo]
end GN
end
section
/-! calls by arity, of methods that make nothing (written by wip/whole/prog/mkarity.py) -/
section GA
variable {y : gw_Y} {d bc bs pc : Nat} {lv : List (Option Value)} {st : List Value} {Q : Option Value → gw_Mem → Prop}
theorem go_S0 {y' : gw_Y} {idx : Nat} {M : gw_Mem}  (hd : decode y.2.1 pc = .ok (.invokestatic idx, 3)) (hk : gw_KS y.1.cls idx y' 0) (hw : (st.map fun v => v.category).sum ≤ 8) (hc : gw_Call y' d 0 0 [] M (fun r M' => gw_Go y (d + 1) bc bs (pc + 3) lv (r.toList ++ st) M' Q)) : gw_Go y (d + 1) bc bs pc lv (st) M Q := go_callS (mc := 0) (ms := 0) [] st hd hk rfl hw hc
theorem go_V0 {y' : gw_Y} {idx ci o n : Nat} {sh : Nat → Nat × Nat} {X : Nat × (Nat → Int32)} {R : Nat → Nat → Option Nat} {I : Nat → Nat → Int32} {L : Nat → Nat → Int64}  (hd : decode y.2.1 pc = .ok (.invokevirtual idx, 3)) (hk : gw_KV y.1.cls idx y' ci 0) (ho : sh o = (0, ci)) (hw : (st.map fun v => v.category).sum ≤ 8) (hc : gw_Call y' d 0 0 (.ref o :: []) (n, sh, X, R, I, L) (fun r M' => gw_Go y (d + 1) bc bs (pc + 3) lv (r.toList ++ st) M' Q)) : gw_Go y (d + 1) bc bs pc lv (.ref o :: st) (n, sh, X, R, I, L) Q := go_callV (mc := 0) (ms := 0) [] st hd hk ho rfl hw hc
theorem go_I0 {y' : gw_Y} {idx o mc ms : Nat} {M : gw_Mem}  (hd : decode y.2.1 pc = .ok (.invokespecial idx, 3)) (hk : gw_KI y.1.cls idx y' 0) (hw : (st.map fun v => v.category).sum ≤ 8) (hc : gw_Call y' d mc ms (.ref o :: []) M (fun r M' => gw_Go y (d + 1) bc bs (pc + 3) lv (r.toList ++ st) M' Q)) : gw_Go y (d + 1) (bc + mc) (bs + ms) pc lv (.ref o :: st) M Q := go_callI [] st hd hk rfl hw hc
theorem go_S1 {y' : gw_Y} {idx : Nat} {M : gw_Mem} {a1 : Value} (hd : decode y.2.1 pc = .ok (.invokestatic idx, 3)) (hk : gw_KS y.1.cls idx y' 1) (hw : (st.map fun v => v.category).sum ≤ 8) (hc : gw_Call y' d 0 0 [a1] M (fun r M' => gw_Go y (d + 1) bc bs (pc + 3) lv (r.toList ++ st) M' Q)) : gw_Go y (d + 1) bc bs pc lv (a1 :: st) M Q := go_callS (mc := 0) (ms := 0) [a1] st hd hk rfl hw hc
theorem go_V1 {y' : gw_Y} {idx ci o n : Nat} {sh : Nat → Nat × Nat} {X : Nat × (Nat → Int32)} {R : Nat → Nat → Option Nat} {I : Nat → Nat → Int32} {L : Nat → Nat → Int64} {a1 : Value} (hd : decode y.2.1 pc = .ok (.invokevirtual idx, 3)) (hk : gw_KV y.1.cls idx y' ci 1) (ho : sh o = (0, ci)) (hw : (st.map fun v => v.category).sum ≤ 8) (hc : gw_Call y' d 0 0 (.ref o :: [a1]) (n, sh, X, R, I, L) (fun r M' => gw_Go y (d + 1) bc bs (pc + 3) lv (r.toList ++ st) M' Q)) : gw_Go y (d + 1) bc bs pc lv (a1 :: .ref o :: st) (n, sh, X, R, I, L) Q := go_callV (mc := 0) (ms := 0) [a1] st hd hk ho rfl hw hc
theorem go_I1 {y' : gw_Y} {idx o mc ms : Nat} {M : gw_Mem} {a1 : Value} (hd : decode y.2.1 pc = .ok (.invokespecial idx, 3)) (hk : gw_KI y.1.cls idx y' 1) (hw : (st.map fun v => v.category).sum ≤ 8) (hc : gw_Call y' d mc ms (.ref o :: [a1]) M (fun r M' => gw_Go y (d + 1) bc bs (pc + 3) lv (r.toList ++ st) M' Q)) : gw_Go y (d + 1) (bc + mc) (bs + ms) pc lv (a1 :: .ref o :: st) M Q := go_callI [a1] st hd hk rfl hw hc
theorem go_S2 {y' : gw_Y} {idx : Nat} {M : gw_Mem} {a1 a2 : Value} (hd : decode y.2.1 pc = .ok (.invokestatic idx, 3)) (hk : gw_KS y.1.cls idx y' 2) (hw : (st.map fun v => v.category).sum ≤ 8) (hc : gw_Call y' d 0 0 [a1, a2] M (fun r M' => gw_Go y (d + 1) bc bs (pc + 3) lv (r.toList ++ st) M' Q)) : gw_Go y (d + 1) bc bs pc lv (a2 :: a1 :: st) M Q := go_callS (mc := 0) (ms := 0) [a1, a2] st hd hk rfl hw hc
theorem go_V2 {y' : gw_Y} {idx ci o n : Nat} {sh : Nat → Nat × Nat} {X : Nat × (Nat → Int32)} {R : Nat → Nat → Option Nat} {I : Nat → Nat → Int32} {L : Nat → Nat → Int64} {a1 a2 : Value} (hd : decode y.2.1 pc = .ok (.invokevirtual idx, 3)) (hk : gw_KV y.1.cls idx y' ci 2) (ho : sh o = (0, ci)) (hw : (st.map fun v => v.category).sum ≤ 8) (hc : gw_Call y' d 0 0 (.ref o :: [a1, a2]) (n, sh, X, R, I, L) (fun r M' => gw_Go y (d + 1) bc bs (pc + 3) lv (r.toList ++ st) M' Q)) : gw_Go y (d + 1) bc bs pc lv (a2 :: a1 :: .ref o :: st) (n, sh, X, R, I, L) Q := go_callV (mc := 0) (ms := 0) [a1, a2] st hd hk ho rfl hw hc
theorem go_S3 {y' : gw_Y} {idx : Nat} {M : gw_Mem} {a1 a2 a3 : Value} (hd : decode y.2.1 pc = .ok (.invokestatic idx, 3)) (hk : gw_KS y.1.cls idx y' 3) (hw : (st.map fun v => v.category).sum ≤ 8) (hc : gw_Call y' d 0 0 [a1, a2, a3] M (fun r M' => gw_Go y (d + 1) bc bs (pc + 3) lv (r.toList ++ st) M' Q)) : gw_Go y (d + 1) bc bs pc lv (a3 :: a2 :: a1 :: st) M Q := go_callS (mc := 0) (ms := 0) [a1, a2, a3] st hd hk rfl hw hc
theorem go_V3 {y' : gw_Y} {idx ci o n : Nat} {sh : Nat → Nat × Nat} {X : Nat × (Nat → Int32)} {R : Nat → Nat → Option Nat} {I : Nat → Nat → Int32} {L : Nat → Nat → Int64} {a1 a2 a3 : Value} (hd : decode y.2.1 pc = .ok (.invokevirtual idx, 3)) (hk : gw_KV y.1.cls idx y' ci 3) (ho : sh o = (0, ci)) (hw : (st.map fun v => v.category).sum ≤ 8) (hc : gw_Call y' d 0 0 (.ref o :: [a1, a2, a3]) (n, sh, X, R, I, L) (fun r M' => gw_Go y (d + 1) bc bs (pc + 3) lv (r.toList ++ st) M' Q)) : gw_Go y (d + 1) bc bs pc lv (a3 :: a2 :: a1 :: .ref o :: st) (n, sh, X, R, I, L) Q := go_callV (mc := 0) (ms := 0) [a1, a2, a3] st hd hk ho rfl hw hc
theorem go_S4 {y' : gw_Y} {idx : Nat} {M : gw_Mem} {a1 a2 a3 a4 : Value} (hd : decode y.2.1 pc = .ok (.invokestatic idx, 3)) (hk : gw_KS y.1.cls idx y' 4) (hw : (st.map fun v => v.category).sum ≤ 8) (hc : gw_Call y' d 0 0 [a1, a2, a3, a4] M (fun r M' => gw_Go y (d + 1) bc bs (pc + 3) lv (r.toList ++ st) M' Q)) : gw_Go y (d + 1) bc bs pc lv (a4 :: a3 :: a2 :: a1 :: st) M Q := go_callS (mc := 0) (ms := 0) [a1, a2, a3, a4] st hd hk rfl hw hc
theorem go_V4 {y' : gw_Y} {idx ci o n : Nat} {sh : Nat → Nat × Nat} {X : Nat × (Nat → Int32)} {R : Nat → Nat → Option Nat} {I : Nat → Nat → Int32} {L : Nat → Nat → Int64} {a1 a2 a3 a4 : Value} (hd : decode y.2.1 pc = .ok (.invokevirtual idx, 3)) (hk : gw_KV y.1.cls idx y' ci 4) (ho : sh o = (0, ci)) (hw : (st.map fun v => v.category).sum ≤ 8) (hc : gw_Call y' d 0 0 (.ref o :: [a1, a2, a3, a4]) (n, sh, X, R, I, L) (fun r M' => gw_Go y (d + 1) bc bs (pc + 3) lv (r.toList ++ st) M' Q)) : gw_Go y (d + 1) bc bs pc lv (a4 :: a3 :: a2 :: a1 :: .ref o :: st) (n, sh, X, R, I, L) Q := go_callV (mc := 0) (ms := 0) [a1, a2, a3, a4] st hd hk ho rfl hw hc
theorem go_S5 {y' : gw_Y} {idx : Nat} {M : gw_Mem} {a1 a2 a3 a4 a5 : Value} (hd : decode y.2.1 pc = .ok (.invokestatic idx, 3)) (hk : gw_KS y.1.cls idx y' 5) (hw : (st.map fun v => v.category).sum ≤ 8) (hc : gw_Call y' d 0 0 [a1, a2, a3, a4, a5] M (fun r M' => gw_Go y (d + 1) bc bs (pc + 3) lv (r.toList ++ st) M' Q)) : gw_Go y (d + 1) bc bs pc lv (a5 :: a4 :: a3 :: a2 :: a1 :: st) M Q := go_callS (mc := 0) (ms := 0) [a1, a2, a3, a4, a5] st hd hk rfl hw hc
theorem go_V5 {y' : gw_Y} {idx ci o n : Nat} {sh : Nat → Nat × Nat} {X : Nat × (Nat → Int32)} {R : Nat → Nat → Option Nat} {I : Nat → Nat → Int32} {L : Nat → Nat → Int64} {a1 a2 a3 a4 a5 : Value} (hd : decode y.2.1 pc = .ok (.invokevirtual idx, 3)) (hk : gw_KV y.1.cls idx y' ci 5) (ho : sh o = (0, ci)) (hw : (st.map fun v => v.category).sum ≤ 8) (hc : gw_Call y' d 0 0 (.ref o :: [a1, a2, a3, a4, a5]) (n, sh, X, R, I, L) (fun r M' => gw_Go y (d + 1) bc bs (pc + 3) lv (r.toList ++ st) M' Q)) : gw_Go y (d + 1) bc bs pc lv (a5 :: a4 :: a3 :: a2 :: a1 :: .ref o :: st) (n, sh, X, R, I, L) Q := go_callV (mc := 0) (ms := 0) [a1, a2, a3, a4, a5] st hd hk ho rfl hw hc
theorem go_S6 {y' : gw_Y} {idx : Nat} {M : gw_Mem} {a1 a2 a3 a4 a5 a6 : Value} (hd : decode y.2.1 pc = .ok (.invokestatic idx, 3)) (hk : gw_KS y.1.cls idx y' 6) (hw : (st.map fun v => v.category).sum ≤ 8) (hc : gw_Call y' d 0 0 [a1, a2, a3, a4, a5, a6] M (fun r M' => gw_Go y (d + 1) bc bs (pc + 3) lv (r.toList ++ st) M' Q)) : gw_Go y (d + 1) bc bs pc lv (a6 :: a5 :: a4 :: a3 :: a2 :: a1 :: st) M Q := go_callS (mc := 0) (ms := 0) [a1, a2, a3, a4, a5, a6] st hd hk rfl hw hc
theorem go_V6 {y' : gw_Y} {idx ci o n : Nat} {sh : Nat → Nat × Nat} {X : Nat × (Nat → Int32)} {R : Nat → Nat → Option Nat} {I : Nat → Nat → Int32} {L : Nat → Nat → Int64} {a1 a2 a3 a4 a5 a6 : Value} (hd : decode y.2.1 pc = .ok (.invokevirtual idx, 3)) (hk : gw_KV y.1.cls idx y' ci 6) (ho : sh o = (0, ci)) (hw : (st.map fun v => v.category).sum ≤ 8) (hc : gw_Call y' d 0 0 (.ref o :: [a1, a2, a3, a4, a5, a6]) (n, sh, X, R, I, L) (fun r M' => gw_Go y (d + 1) bc bs (pc + 3) lv (r.toList ++ st) M' Q)) : gw_Go y (d + 1) bc bs pc lv (a6 :: a5 :: a4 :: a3 :: a2 :: a1 :: .ref o :: st) (n, sh, X, R, I, L) Q := go_callV (mc := 0) (ms := 0) [a1, a2, a3, a4, a5, a6] st hd hk ho rfl hw hc
theorem go_S7 {y' : gw_Y} {idx : Nat} {M : gw_Mem} {a1 a2 a3 a4 a5 a6 a7 : Value} (hd : decode y.2.1 pc = .ok (.invokestatic idx, 3)) (hk : gw_KS y.1.cls idx y' 7) (hw : (st.map fun v => v.category).sum ≤ 8) (hc : gw_Call y' d 0 0 [a1, a2, a3, a4, a5, a6, a7] M (fun r M' => gw_Go y (d + 1) bc bs (pc + 3) lv (r.toList ++ st) M' Q)) : gw_Go y (d + 1) bc bs pc lv (a7 :: a6 :: a5 :: a4 :: a3 :: a2 :: a1 :: st) M Q := go_callS (mc := 0) (ms := 0) [a1, a2, a3, a4, a5, a6, a7] st hd hk rfl hw hc
theorem go_V7 {y' : gw_Y} {idx ci o n : Nat} {sh : Nat → Nat × Nat} {X : Nat × (Nat → Int32)} {R : Nat → Nat → Option Nat} {I : Nat → Nat → Int32} {L : Nat → Nat → Int64} {a1 a2 a3 a4 a5 a6 a7 : Value} (hd : decode y.2.1 pc = .ok (.invokevirtual idx, 3)) (hk : gw_KV y.1.cls idx y' ci 7) (ho : sh o = (0, ci)) (hw : (st.map fun v => v.category).sum ≤ 8) (hc : gw_Call y' d 0 0 (.ref o :: [a1, a2, a3, a4, a5, a6, a7]) (n, sh, X, R, I, L) (fun r M' => gw_Go y (d + 1) bc bs (pc + 3) lv (r.toList ++ st) M' Q)) : gw_Go y (d + 1) bc bs pc lv (a7 :: a6 :: a5 :: a4 :: a3 :: a2 :: a1 :: .ref o :: st) (n, sh, X, R, I, L) Q := go_callV (mc := 0) (ms := 0) [a1, a2, a3, a4, a5, a6, a7] st hd hk ho rfl hw hc
end GA
end
section
/-! what the tables' words say, by number (written by wip/whole/prog/mknames.py) -/
theorem gw_l1 {w : Cond} (i : Nat) (h : tables_1_1[i]? = some w) : w ∈ lw_tbl := List.mem_append_right _ (show w ∈ tables_1 from List.mem_append_left _ (List.mem_of_getElem? h))
theorem gw_w1 {w : Cond} (i : Nat) (h : tables_1_1[i]? = some w) (hg : goodWord w = true) : w ∈ gw_all := List.mem_filter.mpr ⟨gw_l1 i h, hg⟩
theorem gw_l2 {w : Cond} (i : Nat) (h : tables_1_2[i]? = some w) : w ∈ lw_tbl := List.mem_append_right _ (show w ∈ tables_1 from List.mem_append_right _ (List.mem_append_left _ (List.mem_of_getElem? h)))
theorem gw_w2 {w : Cond} (i : Nat) (h : tables_1_2[i]? = some w) (hg : goodWord w = true) : w ∈ gw_all := List.mem_filter.mpr ⟨gw_l2 i h, hg⟩
theorem gw_l3 {w : Cond} (i : Nat) (h : tables_1_3[i]? = some w) : w ∈ lw_tbl := List.mem_append_right _ (show w ∈ tables_1 from List.mem_append_right _ (List.mem_append_right _ (List.mem_append_left _ (List.mem_of_getElem? h))))
theorem gw_w3 {w : Cond} (i : Nat) (h : tables_1_3[i]? = some w) (hg : goodWord w = true) : w ∈ gw_all := List.mem_filter.mpr ⟨gw_l3 i h, hg⟩
theorem gw_l4 {w : Cond} (i : Nat) (h : tables_1_4[i]? = some w) : w ∈ lw_tbl := List.mem_append_right _ (show w ∈ tables_1 from List.mem_append_right _ (List.mem_append_right _ (List.mem_append_right _ (List.mem_append_left _ (List.mem_of_getElem? h)))))
theorem gw_w4 {w : Cond} (i : Nat) (h : tables_1_4[i]? = some w) (hg : goodWord w = true) : w ∈ gw_all := List.mem_filter.mpr ⟨gw_l4 i h, hg⟩
theorem gw_l5 {w : Cond} (i : Nat) (h : tables_1_5[i]? = some w) : w ∈ lw_tbl := List.mem_append_right _ (show w ∈ tables_1 from List.mem_append_right _ (List.mem_append_right _ (List.mem_append_right _ (List.mem_append_right _ (List.mem_of_getElem? h)))))
theorem gw_w5 {w : Cond} (i : Nat) (h : tables_1_5[i]? = some w) (hg : goodWord w = true) : w ∈ gw_all := List.mem_filter.mpr ⟨gw_l5 i h, hg⟩
theorem gw_sl1 {w : Cond} {q : MethodName × Nat} (h : q ∈ lw_privs) (hw : w = Cond.selects q.1.cls q.1 q.1) (hg : goodWord w = true) : w ∈ gw_all := List.mem_filter.mpr ⟨List.mem_append_left _ (by rw [hw]; exact List.mem_map.mpr ⟨q, h, rfl⟩), hg⟩
theorem gw_inCC : ∀ w ∈ u_ws (gw_c 0).1 (gw_c 0).2.1 (gw_c 0).2.2, w ∈ gw_all := by
  intro w hw
  obtain ⟨k, hk, rfl⟩ := List.mem_map.mp hw
  have hk' : k < 4 := List.mem_range.mp hk
  by_cases h0 : k = 0
  · subst h0; exact gw_w2 81 rfl rfl
  by_cases h1 : k = 1
  · subst h1; exact gw_w2 83 rfl rfl
  by_cases h2 : k = 2
  · subst h2; exact gw_w2 85 rfl rfl
  by_cases h3 : k = 3
  · subst h3; exact gw_w2 87 rfl rfl
  exact absurd hk' (by omega)
theorem gw_kCC : gw_Cok 0 := ⟨rfl, rfl, gw_inCC, by decide +kernel, by decide +kernel⟩
theorem gw_k2CC : gw_C2 0 := ⟨gw_kCC, by decide +kernel, gw_w1 16 rfl rfl, gw_w1 1 rfl rfl⟩
theorem gw_inMe : ∀ w ∈ u_ws (gw_c 1).1 (gw_c 1).2.1 (gw_c 1).2.2, w ∈ gw_all := by
  intro w hw
  obtain ⟨k, hk, rfl⟩ := List.mem_map.mp hw
  have hk' : k < 8 := List.mem_range.mp hk
  by_cases h0 : k = 0
  · subst h0; exact gw_w1 122 rfl rfl
  by_cases h1 : k = 1
  · subst h1; exact gw_w1 124 rfl rfl
  by_cases h2 : k = 2
  · subst h2; exact gw_w1 126 rfl rfl
  by_cases h3 : k = 3
  · subst h3; exact gw_w1 128 rfl rfl
  by_cases h4 : k = 4
  · subst h4; exact gw_w1 130 rfl rfl
  by_cases h5 : k = 5
  · subst h5; exact gw_w1 132 rfl rfl
  by_cases h6 : k = 6
  · subst h6; exact gw_w1 134 rfl rfl
  by_cases h7 : k = 7
  · subst h7; exact gw_w1 136 rfl rfl
  exact absurd hk' (by omega)
theorem gw_kMe : gw_Cok 1 := ⟨rfl, rfl, gw_inMe, by decide +kernel, by decide +kernel⟩
theorem gw_k2Me : gw_C2 1 := ⟨gw_kMe, by decide +kernel, gw_w1 25 rfl rfl, gw_w1 2 rfl rfl⟩
theorem gw_inCu : ∀ w ∈ u_ws (gw_c 2).1 (gw_c 2).2.1 (gw_c 2).2.2, w ∈ gw_all := by
  intro w hw
  obtain ⟨k, hk, rfl⟩ := List.mem_map.mp hw
  have hk' : k < 6 := List.mem_range.mp hk
  by_cases h0 : k = 0
  · subst h0; exact gw_w1 88 rfl rfl
  by_cases h1 : k = 1
  · subst h1; exact gw_w1 90 rfl rfl
  by_cases h2 : k = 2
  · subst h2; exact gw_w1 92 rfl rfl
  by_cases h3 : k = 3
  · subst h3; exact gw_w1 94 rfl rfl
  by_cases h4 : k = 4
  · subst h4; exact gw_w1 96 rfl rfl
  by_cases h5 : k = 5
  · subst h5; exact gw_w1 98 rfl rfl
  exact absurd hk' (by omega)
theorem gw_kCu : gw_Cok 2 := ⟨rfl, rfl, gw_inCu, by decide +kernel, by decide +kernel⟩
theorem gw_k2Cu : gw_C2 2 := ⟨gw_kCu, by decide +kernel, gw_w1 32 rfl rfl, gw_w1 3 rfl rfl⟩
theorem gw_inPo : ∀ w ∈ u_ws (gw_c 3).1 (gw_c 3).2.1 (gw_c 3).2.2, w ∈ gw_all := by
  intro w hw
  obtain ⟨k, hk, rfl⟩ := List.mem_map.mp hw
  have hk' : k < 5 := List.mem_range.mp hk
  by_cases h0 : k = 0
  · subst h0; exact gw_w1 60 rfl rfl
  by_cases h1 : k = 1
  · subst h1; exact gw_w1 62 rfl rfl
  by_cases h2 : k = 2
  · subst h2; exact gw_w1 64 rfl rfl
  by_cases h3 : k = 3
  · subst h3; exact gw_w1 66 rfl rfl
  by_cases h4 : k = 4
  · subst h4; exact gw_w1 68 rfl rfl
  exact absurd hk' (by omega)
theorem gw_kPo : gw_Cok 3 := ⟨rfl, rfl, gw_inPo, by decide +kernel, by decide +kernel⟩
theorem gw_k2Po : gw_C2 3 := ⟨gw_kPo, by decide +kernel, gw_w1 39 rfl rfl, gw_w1 4 rfl rfl⟩
theorem gw_inMa : ∀ w ∈ u_ws (gw_c 4).1 (gw_c 4).2.1 (gw_c 4).2.2, w ∈ gw_all := by
  intro w hw
  obtain ⟨k, hk, rfl⟩ := List.mem_map.mp hw
  have hk' : k < 10 := List.mem_range.mp hk
  by_cases h0 : k = 0
  · subst h0; exact gw_w1 186 rfl rfl
  by_cases h1 : k = 1
  · subst h1; exact gw_w1 188 rfl rfl
  by_cases h2 : k = 2
  · subst h2; exact gw_w1 190 rfl rfl
  by_cases h3 : k = 3
  · subst h3; exact gw_w1 192 rfl rfl
  by_cases h4 : k = 4
  · subst h4; exact gw_w1 194 rfl rfl
  by_cases h5 : k = 5
  · subst h5; exact gw_w1 196 rfl rfl
  by_cases h6 : k = 6
  · subst h6; exact gw_w1 198 rfl rfl
  by_cases h7 : k = 7
  · subst h7; exact gw_w1 200 rfl rfl
  by_cases h8 : k = 8
  · subst h8; exact gw_w1 202 rfl rfl
  by_cases h9 : k = 9
  · subst h9; exact gw_w1 204 rfl rfl
  exact absurd hk' (by omega)
theorem gw_kMa : gw_Cok 4 := ⟨rfl, rfl, gw_inMa, by decide +kernel, by decide +kernel⟩
theorem gw_k2Ma : gw_C2 4 := ⟨gw_kMa, by decide +kernel, gw_w1 140 rfl rfl, gw_w1 5 rfl rfl⟩
theorem gw_inFr : ∀ w ∈ u_ws (gw_c 5).1 (gw_c 5).2.1 (gw_c 5).2.2, w ∈ gw_all := by
  intro w hw
  obtain ⟨k, hk, rfl⟩ := List.mem_map.mp hw
  have hk' : k < 5 := List.mem_range.mp hk
  by_cases h0 : k = 0
  · subst h0; exact gw_w1 161 rfl rfl
  by_cases h1 : k = 1
  · subst h1; exact gw_w1 163 rfl rfl
  by_cases h2 : k = 2
  · subst h2; exact gw_w1 165 rfl rfl
  by_cases h3 : k = 3
  · subst h3; exact gw_w1 167 rfl rfl
  by_cases h4 : k = 4
  · subst h4; exact gw_w1 169 rfl rfl
  exact absurd hk' (by omega)
theorem gw_kFr : gw_Cok 5 := ⟨rfl, rfl, gw_inFr, by decide +kernel, by decide +kernel⟩
theorem gw_k2Fr : gw_C2 5 := ⟨gw_kFr, by decide +kernel, gw_w1 147 rfl rfl, gw_w1 6 rfl rfl⟩
theorem gw_inCh : ∀ w ∈ u_ws (gw_c 6).1 (gw_c 6).2.1 (gw_c 6).2.2, w ∈ gw_all := by
  intro w hw
  obtain ⟨k, hk, rfl⟩ := List.mem_map.mp hw
  have hk' : k < 5 := List.mem_range.mp hk
  by_cases h0 : k = 0
  · subst h0; exact gw_w2 66 rfl rfl
  by_cases h1 : k = 1
  · subst h1; exact gw_w2 68 rfl rfl
  by_cases h2 : k = 2
  · subst h2; exact gw_w2 70 rfl rfl
  by_cases h3 : k = 3
  · subst h3; exact gw_w2 72 rfl rfl
  by_cases h4 : k = 4
  · subst h4; exact gw_w2 74 rfl rfl
  exact absurd hk' (by omega)
theorem gw_kCh : gw_Cok 6 := ⟨rfl, rfl, gw_inCh, by decide +kernel, by decide +kernel⟩
theorem gw_k2Ch : gw_C2 6 := ⟨gw_kCh, by decide +kernel, gw_w1 208 rfl rfl, gw_w1 7 rfl rfl⟩
theorem gw_inPa : ∀ w ∈ u_ws (gw_c 7).1 (gw_c 7).2.1 (gw_c 7).2.2, w ∈ gw_all := by
  intro w hw
  obtain ⟨k, hk, rfl⟩ := List.mem_map.mp hw
  have hk' : k < 8 := List.mem_range.mp hk
  by_cases h0 : k = 0
  · subst h0; exact gw_w2 44 rfl rfl
  by_cases h1 : k = 1
  · subst h1; exact gw_w2 46 rfl rfl
  by_cases h2 : k = 2
  · subst h2; exact gw_w2 48 rfl rfl
  by_cases h3 : k = 3
  · subst h3; exact gw_w2 50 rfl rfl
  by_cases h4 : k = 4
  · subst h4; exact gw_w2 52 rfl rfl
  by_cases h5 : k = 5
  · subst h5; exact gw_w2 54 rfl rfl
  by_cases h6 : k = 6
  · subst h6; exact gw_w2 56 rfl rfl
  by_cases h7 : k = 7
  · subst h7; exact gw_w2 58 rfl rfl
  exact absurd hk' (by omega)
theorem gw_kPa : gw_Cok 7 := ⟨rfl, rfl, gw_inPa, by decide +kernel, by decide +kernel⟩
theorem gw_k2Pa : gw_C2 7 := ⟨gw_kPa, by decide +kernel, gw_w1 236 rfl rfl, gw_w1 9 rfl rfl⟩
theorem gw_inSy : ∀ w ∈ u_ws (gw_c 8).1 (gw_c 8).2.1 (gw_c 8).2.2, w ∈ gw_all := by
  intro w hw
  obtain ⟨k, hk, rfl⟩ := List.mem_map.mp hw
  have hk' : k < 2 := List.mem_range.mp hk
  by_cases h0 : k = 0
  · subst h0; exact gw_w1 230 rfl rfl
  by_cases h1 : k = 1
  · subst h1; exact gw_w1 232 rfl rfl
  exact absurd hk' (by omega)
theorem gw_kSy : gw_Cok 8 := ⟨rfl, rfl, gw_inSy, by decide +kernel, by decide +kernel⟩
theorem gw_k2Sy : gw_C2 8 := ⟨gw_kSy, by decide +kernel, gw_w1 216 rfl rfl, gw_w1 8 rfl rfl⟩
theorem gw_inKn : ∀ w ∈ u_ws (gw_c 9).1 (gw_c 9).2.1 (gw_c 9).2.2, w ∈ gw_all := by
  intro w hw
  obtain ⟨k, hk, rfl⟩ := List.mem_map.mp hw
  have hk' : k < 1 := List.mem_range.mp hk
  by_cases h0 : k = 0
  · subst h0; exact gw_w2 10 rfl rfl
  exact absurd hk' (by omega)
theorem gw_kKn : gw_Cok 9 := ⟨rfl, rfl, gw_inKn, by decide +kernel, by decide +kernel⟩
theorem gw_k2Kn : gw_C2 9 := ⟨gw_kKn, by decide +kernel, gw_w2 4 rfl rfl, gw_w1 10 rfl rfl⟩
theorem gw_inBa : ∀ w ∈ u_ws (gw_c 10).1 (gw_c 10).2.1 (gw_c 10).2.2, w ∈ gw_all := by
  intro w hw
  obtain ⟨k, hk, rfl⟩ := List.mem_map.mp hw
  have hk' : k < 2 := List.mem_range.mp hk
  by_cases h0 : k = 0
  · subst h0; exact gw_w2 23 rfl rfl
  by_cases h1 : k = 1
  · subst h1; exact gw_w2 25 rfl rfl
  exact absurd hk' (by omega)
theorem gw_kBa : gw_Cok 10 := ⟨rfl, rfl, gw_inBa, by decide +kernel, by decide +kernel⟩
theorem gw_k2Ba : gw_C2 10 := ⟨gw_kBa, by decide +kernel, gw_w2 15 rfl rfl, gw_w1 11 rfl rfl⟩
theorem gw_inMo : ∀ w ∈ u_ws (gw_c 11).1 (gw_c 11).2.1 (gw_c 11).2.2, w ∈ gw_all := by
  intro w hw
  obtain ⟨k, hk, rfl⟩ := List.mem_map.mp hw
  have hk' : k < 33 := List.mem_range.mp hk
  by_cases h0 : k = 0
  · subst h0; exact gw_w4 5 rfl rfl
  by_cases h1 : k = 1
  · subst h1; exact gw_w4 7 rfl rfl
  by_cases h2 : k = 2
  · subst h2; exact gw_w4 9 rfl rfl
  by_cases h3 : k = 3
  · subst h3; exact gw_w4 11 rfl rfl
  by_cases h4 : k = 4
  · subst h4; exact gw_w4 13 rfl rfl
  by_cases h5 : k = 5
  · subst h5; exact gw_w4 15 rfl rfl
  by_cases h6 : k = 6
  · subst h6; exact gw_w4 17 rfl rfl
  by_cases h7 : k = 7
  · subst h7; exact gw_w4 19 rfl rfl
  by_cases h8 : k = 8
  · subst h8; exact gw_w4 21 rfl rfl
  by_cases h9 : k = 9
  · subst h9; exact gw_w4 23 rfl rfl
  by_cases h10 : k = 10
  · subst h10; exact gw_w4 25 rfl rfl
  by_cases h11 : k = 11
  · subst h11; exact gw_w4 27 rfl rfl
  by_cases h12 : k = 12
  · subst h12; exact gw_w4 29 rfl rfl
  by_cases h13 : k = 13
  · subst h13; exact gw_w4 31 rfl rfl
  by_cases h14 : k = 14
  · subst h14; exact gw_w4 33 rfl rfl
  by_cases h15 : k = 15
  · subst h15; exact gw_w4 35 rfl rfl
  by_cases h16 : k = 16
  · subst h16; exact gw_w4 37 rfl rfl
  by_cases h17 : k = 17
  · subst h17; exact gw_w4 39 rfl rfl
  by_cases h18 : k = 18
  · subst h18; exact gw_w4 41 rfl rfl
  by_cases h19 : k = 19
  · subst h19; exact gw_w4 43 rfl rfl
  by_cases h20 : k = 20
  · subst h20; exact gw_w4 45 rfl rfl
  by_cases h21 : k = 21
  · subst h21; exact gw_w4 47 rfl rfl
  by_cases h22 : k = 22
  · subst h22; exact gw_w4 49 rfl rfl
  by_cases h23 : k = 23
  · subst h23; exact gw_w4 51 rfl rfl
  by_cases h24 : k = 24
  · subst h24; exact gw_w4 53 rfl rfl
  by_cases h25 : k = 25
  · subst h25; exact gw_w4 55 rfl rfl
  by_cases h26 : k = 26
  · subst h26; exact gw_w4 57 rfl rfl
  by_cases h27 : k = 27
  · subst h27; exact gw_w4 59 rfl rfl
  by_cases h28 : k = 28
  · subst h28; exact gw_w4 61 rfl rfl
  by_cases h29 : k = 29
  · subst h29; exact gw_w4 63 rfl rfl
  by_cases h30 : k = 30
  · subst h30; exact gw_w4 65 rfl rfl
  by_cases h31 : k = 31
  · subst h31; exact gw_w4 67 rfl rfl
  by_cases h32 : k = 32
  · subst h32; exact gw_w4 69 rfl rfl
  exact absurd hk' (by omega)
theorem gw_kMo : gw_Cok 11 := ⟨rfl, rfl, gw_inMo, by decide +kernel, by decide +kernel⟩
theorem gw_k2Mo : gw_C2 11 := ⟨gw_kMo, by decide +kernel, gw_w3 207 rfl rfl, gw_w1 12 rfl rfl⟩
theorem f_Po_21 : gw_F "CostChecker$Potential" 21 3 0 0 false := ⟨gw_kPo, by decide +kernel, gw_w1 44 rfl rfl, rfl, rfl⟩
theorem f_Ba_25 : gw_F "CostChecker$Balance" 25 3 0 0 false := ⟨gw_kPo, by decide +kernel, gw_w1 45 rfl rfl, rfl, rfl⟩
theorem f_CC_84 : gw_F "CostChecker" 84 3 0 0 false := ⟨gw_kPo, by decide +kernel, gw_w1 46 rfl rfl, rfl, rfl⟩
theorem f_Kn_55 : gw_F "CostChecker$Known" 55 3 0 0 false := ⟨gw_kPo, by decide +kernel, gw_w1 47 rfl rfl, rfl, rfl⟩
theorem f_Po_25 : gw_F "CostChecker$Potential" 25 3 1 0 false := ⟨gw_kPo, by decide +kernel, gw_w1 48 rfl rfl, rfl, rfl⟩
theorem f_Ba_31 : gw_F "CostChecker$Balance" 31 3 1 0 false := ⟨gw_kPo, by decide +kernel, gw_w1 49 rfl rfl, rfl, rfl⟩
theorem f_Kn_60 : gw_F "CostChecker$Known" 60 3 1 0 false := ⟨gw_kPo, by decide +kernel, gw_w1 50 rfl rfl, rfl, rfl⟩
theorem f_Po_9 : gw_F "CostChecker$Potential" 9 3 2 2 true := ⟨gw_kPo, by decide +kernel, gw_w1 51 rfl rfl, rfl, rfl⟩
theorem f_Ba_41 : gw_F "CostChecker$Balance" 41 3 2 2 true := ⟨gw_kPo, by decide +kernel, gw_w1 52 rfl rfl, rfl, rfl⟩
theorem f_Kn_69 : gw_F "CostChecker$Known" 69 3 2 2 true := ⟨gw_kPo, by decide +kernel, gw_w1 53 rfl rfl, rfl, rfl⟩
theorem f_Po_15 : gw_F "CostChecker$Potential" 15 3 3 2 true := ⟨gw_kPo, by decide +kernel, gw_w1 54 rfl rfl, rfl, rfl⟩
theorem f_Ba_34 : gw_F "CostChecker$Balance" 34 3 3 2 true := ⟨gw_kPo, by decide +kernel, gw_w1 55 rfl rfl, rfl, rfl⟩
theorem f_Kn_66 : gw_F "CostChecker$Known" 66 3 3 2 true := ⟨gw_kPo, by decide +kernel, gw_w1 56 rfl rfl, rfl, rfl⟩
theorem f_Po_18 : gw_F "CostChecker$Potential" 18 3 4 2 true := ⟨gw_kPo, by decide +kernel, gw_w1 57 rfl rfl, rfl, rfl⟩
theorem f_Ba_38 : gw_F "CostChecker$Balance" 38 3 4 2 true := ⟨gw_kPo, by decide +kernel, gw_w1 58 rfl rfl, rfl, rfl⟩
theorem f_Kn_63 : gw_F "CostChecker$Known" 63 3 4 2 true := ⟨gw_kPo, by decide +kernel, gw_w1 59 rfl rfl, rfl, rfl⟩
theorem f_Cu_28 : gw_F "CostChecker$Cut" 28 2 0 0 false := ⟨gw_kCu, by decide +kernel, gw_w1 72 rfl rfl, rfl, rfl⟩
theorem f_Pa_40 : gw_F "CostChecker$Path" 40 2 0 0 false := ⟨gw_kCu, by decide +kernel, gw_w1 73 rfl rfl, rfl, rfl⟩
theorem f_Ch_50 : gw_F "CostChecker$Checker" 50 2 0 0 false := ⟨gw_kCu, by decide +kernel, gw_w1 74 rfl rfl, rfl, rfl⟩
theorem f_Me_39 : gw_F "CostChecker$Method" 39 2 0 0 false := ⟨gw_kCu, by decide +kernel, gw_w1 75 rfl rfl, rfl, rfl⟩
theorem f_Cu_32 : gw_F "CostChecker$Cut" 32 2 1 0 false := ⟨gw_kCu, by decide +kernel, gw_w1 76 rfl rfl, rfl, rfl⟩
theorem f_Kn_27 : gw_F "CostChecker$Known" 27 2 1 0 false := ⟨gw_kCu, by decide +kernel, gw_w1 77 rfl rfl, rfl, rfl⟩
theorem f_Cu_9 : gw_F "CostChecker$Cut" 9 2 2 2 true := ⟨gw_kCu, by decide +kernel, gw_w1 78 rfl rfl, rfl, rfl⟩
theorem f_Kn_33 : gw_F "CostChecker$Known" 33 2 2 2 true := ⟨gw_kCu, by decide +kernel, gw_w1 79 rfl rfl, rfl, rfl⟩
theorem f_Cu_15 : gw_F "CostChecker$Cut" 15 2 3 2 true := ⟨gw_kCu, by decide +kernel, gw_w1 80 rfl rfl, rfl, rfl⟩
theorem f_Kn_37 : gw_F "CostChecker$Known" 37 2 3 2 true := ⟨gw_kCu, by decide +kernel, gw_w1 81 rfl rfl, rfl, rfl⟩
theorem f_Cu_18 : gw_F "CostChecker$Cut" 18 2 4 2 true := ⟨gw_kCu, by decide +kernel, gw_w1 82 rfl rfl, rfl, rfl⟩
theorem f_Kn_40 : gw_F "CostChecker$Known" 40 2 4 2 true := ⟨gw_kCu, by decide +kernel, gw_w1 83 rfl rfl, rfl, rfl⟩
theorem f_Cu_23 : gw_F "CostChecker$Cut" 23 2 5 2 true := ⟨gw_kCu, by decide +kernel, gw_w1 84 rfl rfl, rfl, rfl⟩
theorem f_Pa_59 : gw_F "CostChecker$Path" 59 2 5 2 true := ⟨gw_kCu, by decide +kernel, gw_w1 85 rfl rfl, rfl, rfl⟩
theorem f_Ch_63 : gw_F "CostChecker$Checker" 63 2 5 2 true := ⟨gw_kCu, by decide +kernel, gw_w1 86 rfl rfl, rfl, rfl⟩
theorem f_CC_80 : gw_F "CostChecker" 80 2 5 2 true := ⟨gw_kCu, by decide +kernel, gw_w1 87 rfl rfl, rfl, rfl⟩
theorem f_Me_24 : gw_F "CostChecker$Method" 24 1 0 0 true := ⟨gw_kMe, by decide +kernel, gw_w1 101 rfl rfl, rfl, rfl⟩
theorem f_CC_156 : gw_F "CostChecker" 156 1 0 0 true := ⟨gw_kMe, by decide +kernel, gw_w1 102 rfl rfl, rfl, rfl⟩
theorem f_Me_9 : gw_F "CostChecker$Method" 9 1 1 2 true := ⟨gw_kMe, by decide +kernel, gw_w1 103 rfl rfl, rfl, rfl⟩
theorem f_Ma_69 : gw_F "CostChecker$Machine" 69 1 1 2 true := ⟨gw_kMe, by decide +kernel, gw_w1 104 rfl rfl, rfl, rfl⟩
theorem f_Ch_103 : gw_F "CostChecker$Checker" 103 1 1 2 true := ⟨gw_kMe, by decide +kernel, gw_w1 105 rfl rfl, rfl, rfl⟩
theorem f_CC_153 : gw_F "CostChecker" 153 1 1 2 true := ⟨gw_kMe, by decide +kernel, gw_w1 106 rfl rfl, rfl, rfl⟩
theorem f_Me_15 : gw_F "CostChecker$Method" 15 1 2 2 true := ⟨gw_kMe, by decide +kernel, gw_w1 107 rfl rfl, rfl, rfl⟩
theorem f_Ma_74 : gw_F "CostChecker$Machine" 74 1 2 2 true := ⟨gw_kMe, by decide +kernel, gw_w1 108 rfl rfl, rfl, rfl⟩
theorem f_Ch_107 : gw_F "CostChecker$Checker" 107 1 2 2 true := ⟨gw_kMe, by decide +kernel, gw_w1 109 rfl rfl, rfl, rfl⟩
theorem f_CC_150 : gw_F "CostChecker" 150 1 2 2 true := ⟨gw_kMe, by decide +kernel, gw_w1 110 rfl rfl, rfl, rfl⟩
theorem f_Ch_33 : gw_F "CostChecker$Checker" 33 1 3 0 false := ⟨gw_kMe, by decide +kernel, gw_w1 111 rfl rfl, rfl, rfl⟩
theorem f_Me_32 : gw_F "CostChecker$Method" 32 1 3 0 false := ⟨gw_kMe, by decide +kernel, gw_w1 112 rfl rfl, rfl, rfl⟩
theorem f_CC_54 : gw_F "CostChecker" 54 1 3 0 false := ⟨gw_kMe, by decide +kernel, gw_w1 113 rfl rfl, rfl, rfl⟩
theorem f_Me_20 : gw_F "CostChecker$Method" 20 1 4 2 true := ⟨gw_kMe, by decide +kernel, gw_w1 114 rfl rfl, rfl, rfl⟩
theorem f_Ch_42 : gw_F "CostChecker$Checker" 42 1 4 2 true := ⟨gw_kMe, by decide +kernel, gw_w1 115 rfl rfl, rfl, rfl⟩
theorem f_CC_105 : gw_F "CostChecker" 105 1 4 2 true := ⟨gw_kMe, by decide +kernel, gw_w1 116 rfl rfl, rfl, rfl⟩
theorem f_Me_29 : gw_F "CostChecker$Method" 29 1 5 0 false := ⟨gw_kMe, by decide +kernel, gw_w1 117 rfl rfl, rfl, rfl⟩
theorem f_Ch_39 : gw_F "CostChecker$Checker" 39 1 5 0 false := ⟨gw_kMe, by decide +kernel, gw_w1 118 rfl rfl, rfl, rfl⟩
theorem f_Ch_169 : gw_F "CostChecker$Checker" 169 1 6 3 false := ⟨gw_kMe, by decide +kernel, gw_w1 119 rfl rfl, rfl, rfl⟩
theorem f_CC_96 : gw_F "CostChecker" 96 1 6 3 false := ⟨gw_kMe, by decide +kernel, gw_w1 120 rfl rfl, rfl, rfl⟩
theorem f_CC_121 : gw_F "CostChecker" 121 1 7 0 false := ⟨gw_kMe, by decide +kernel, gw_w1 121 rfl rfl, rfl, rfl⟩
theorem f_Fr_9 : gw_F "CostChecker$Frame" 9 5 0 2 true := ⟨gw_kFr, by decide +kernel, gw_w1 152 rfl rfl, rfl, rfl⟩
theorem f_Ma_89 : gw_F "CostChecker$Machine" 89 5 0 2 true := ⟨gw_kFr, by decide +kernel, gw_w1 153 rfl rfl, rfl, rfl⟩
theorem f_Fr_15 : gw_F "CostChecker$Frame" 15 5 1 2 true := ⟨gw_kFr, by decide +kernel, gw_w1 154 rfl rfl, rfl, rfl⟩
theorem f_Fr_25 : gw_F "CostChecker$Frame" 25 5 2 0 false := ⟨gw_kFr, by decide +kernel, gw_w1 155 rfl rfl, rfl, rfl⟩
theorem f_Ma_62 : gw_F "CostChecker$Machine" 62 5 2 0 false := ⟨gw_kFr, by decide +kernel, gw_w1 156 rfl rfl, rfl, rfl⟩
theorem f_Fr_18 : gw_F "CostChecker$Frame" 18 5 3 0 false := ⟨gw_kFr, by decide +kernel, gw_w1 157 rfl rfl, rfl, rfl⟩
theorem f_Ma_56 : gw_F "CostChecker$Machine" 56 5 3 0 false := ⟨gw_kFr, by decide +kernel, gw_w1 158 rfl rfl, rfl, rfl⟩
theorem f_Fr_22 : gw_F "CostChecker$Frame" 22 5 4 0 false := ⟨gw_kFr, by decide +kernel, gw_w1 159 rfl rfl, rfl, rfl⟩
theorem f_Ma_59 : gw_F "CostChecker$Machine" 59 5 4 0 false := ⟨gw_kFr, by decide +kernel, gw_w1 160 rfl rfl, rfl, rfl⟩
theorem f_Ma_21 : gw_F "CostChecker$Machine" 21 4 0 2 true := ⟨gw_kMa, by decide +kernel, gw_w1 172 rfl rfl, rfl, rfl⟩
theorem f_Ma_11 : gw_F "CostChecker$Machine" 11 4 1 2 true := ⟨gw_kMa, by decide +kernel, gw_w1 173 rfl rfl, rfl, rfl⟩
theorem f_Ma_45 : gw_F "CostChecker$Machine" 45 4 2 0 false := ⟨gw_kMa, by decide +kernel, gw_w1 174 rfl rfl, rfl, rfl⟩
theorem f_Ma_17 : gw_F "CostChecker$Machine" 17 4 3 2 true := ⟨gw_kMa, by decide +kernel, gw_w1 175 rfl rfl, rfl, rfl⟩
theorem f_Ma_26 : gw_F "CostChecker$Machine" 26 4 4 0 false := ⟨gw_kMa, by decide +kernel, gw_w1 176 rfl rfl, rfl, rfl⟩
theorem f_Ma_42 : gw_F "CostChecker$Machine" 42 4 5 0 false := ⟨gw_kMa, by decide +kernel, gw_w1 177 rfl rfl, rfl, rfl⟩
theorem f_Ma_30 : gw_F "CostChecker$Machine" 30 4 6 0 false := ⟨gw_kMa, by decide +kernel, gw_w1 178 rfl rfl, rfl, rfl⟩
theorem f_CC_134 : gw_F "CostChecker" 134 4 6 0 false := ⟨gw_kMa, by decide +kernel, gw_w1 179 rfl rfl, rfl, rfl⟩
theorem f_Ma_33 : gw_F "CostChecker$Machine" 33 4 7 0 false := ⟨gw_kMa, by decide +kernel, gw_w1 180 rfl rfl, rfl, rfl⟩
theorem f_CC_137 : gw_F "CostChecker" 137 4 7 0 false := ⟨gw_kMa, by decide +kernel, gw_w1 181 rfl rfl, rfl, rfl⟩
theorem f_Ma_36 : gw_F "CostChecker$Machine" 36 4 8 0 false := ⟨gw_kMa, by decide +kernel, gw_w1 182 rfl rfl, rfl, rfl⟩
theorem f_CC_140 : gw_F "CostChecker" 140 4 8 0 false := ⟨gw_kMa, by decide +kernel, gw_w1 183 rfl rfl, rfl, rfl⟩
theorem f_Ma_39 : gw_F "CostChecker$Machine" 39 4 9 0 false := ⟨gw_kMa, by decide +kernel, gw_w1 184 rfl rfl, rfl, rfl⟩
theorem f_CC_143 : gw_F "CostChecker" 143 4 9 0 false := ⟨gw_kMa, by decide +kernel, gw_w1 185 rfl rfl, rfl, rfl⟩
theorem f_Sy_9 : gw_F "CostChecker$Symbols" 9 8 0 2 true := ⟨gw_kSy, by decide +kernel, gw_w1 221 rfl rfl, rfl, rfl⟩
theorem f_Po_28 : gw_F "CostChecker$Potential" 28 8 0 2 true := ⟨gw_kSy, by decide +kernel, gw_w1 222 rfl rfl, rfl, rfl⟩
theorem f_Ba_48 : gw_F "CostChecker$Balance" 48 8 0 2 true := ⟨gw_kSy, by decide +kernel, gw_w1 223 rfl rfl, rfl, rfl⟩
theorem f_Kn_47 : gw_F "CostChecker$Known" 47 8 0 2 true := ⟨gw_kSy, by decide +kernel, gw_w1 224 rfl rfl, rfl, rfl⟩
theorem f_Pa_104 : gw_F "CostChecker$Path" 104 8 0 2 true := ⟨gw_kSy, by decide +kernel, gw_w1 225 rfl rfl, rfl, rfl⟩
theorem f_Sy_15 : gw_F "CostChecker$Symbols" 15 8 1 2 true := ⟨gw_kSy, by decide +kernel, gw_w1 226 rfl rfl, rfl, rfl⟩
theorem f_Ba_43 : gw_F "CostChecker$Balance" 43 8 1 2 true := ⟨gw_kSy, by decide +kernel, gw_w1 227 rfl rfl, rfl, rfl⟩
theorem f_Kn_52 : gw_F "CostChecker$Known" 52 8 1 2 true := ⟨gw_kSy, by decide +kernel, gw_w1 228 rfl rfl, rfl, rfl⟩
theorem f_Pa_107 : gw_F "CostChecker$Path" 107 8 1 2 true := ⟨gw_kSy, by decide +kernel, gw_w1 229 rfl rfl, rfl, rfl⟩
theorem f_Kn_9 : gw_F "CostChecker$Known" 9 9 0 2 true := ⟨gw_kKn, by decide +kernel, gw_w2 9 rfl rfl, rfl, rfl⟩
theorem f_Ba_9 : gw_F "CostChecker$Balance" 9 10 0 2 true := ⟨gw_kBa, by decide +kernel, gw_w2 20 rfl rfl, rfl, rfl⟩
theorem f_Ba_15 : gw_F "CostChecker$Balance" 15 10 1 1 false := ⟨gw_kBa, by decide +kernel, gw_w2 21 rfl rfl, rfl, rfl⟩
theorem f_Pa_90 : gw_F "CostChecker$Path" 90 10 1 1 false := ⟨gw_kBa, by decide +kernel, gw_w2 22 rfl rfl, rfl, rfl⟩
theorem f_Pa_12 : gw_F "CostChecker$Path" 12 7 0 2 true := ⟨gw_kPa, by decide +kernel, gw_w2 28 rfl rfl, rfl, rfl⟩
theorem f_Ch_190 : gw_F "CostChecker$Checker" 190 7 0 2 true := ⟨gw_kPa, by decide +kernel, gw_w2 29 rfl rfl, rfl, rfl⟩
theorem f_Pa_18 : gw_F "CostChecker$Path" 18 7 1 2 true := ⟨gw_kPa, by decide +kernel, gw_w2 30 rfl rfl, rfl, rfl⟩
theorem f_Ch_141 : gw_F "CostChecker$Checker" 141 7 1 2 true := ⟨gw_kPa, by decide +kernel, gw_w2 31 rfl rfl, rfl, rfl⟩
theorem f_Pa_22 : gw_F "CostChecker$Path" 22 7 2 2 true := ⟨gw_kPa, by decide +kernel, gw_w2 32 rfl rfl, rfl, rfl⟩
theorem f_Ch_144 : gw_F "CostChecker$Checker" 144 7 2 2 true := ⟨gw_kPa, by decide +kernel, gw_w2 33 rfl rfl, rfl, rfl⟩
theorem f_Pa_50 : gw_F "CostChecker$Path" 50 7 3 0 false := ⟨gw_kPa, by decide +kernel, gw_w2 34 rfl rfl, rfl, rfl⟩
theorem f_Ch_96 : gw_F "CostChecker$Checker" 96 7 3 0 false := ⟨gw_kPa, by decide +kernel, gw_w2 35 rfl rfl, rfl, rfl⟩
theorem f_Pa_46 : gw_F "CostChecker$Path" 46 7 4 0 false := ⟨gw_kPa, by decide +kernel, gw_w2 36 rfl rfl, rfl, rfl⟩
theorem f_Ch_80 : gw_F "CostChecker$Checker" 80 7 4 0 false := ⟨gw_kPa, by decide +kernel, gw_w2 37 rfl rfl, rfl, rfl⟩
theorem f_Pa_47 : gw_F "CostChecker$Path" 47 7 5 0 false := ⟨gw_kPa, by decide +kernel, gw_w2 38 rfl rfl, rfl, rfl⟩
theorem f_Ch_85 : gw_F "CostChecker$Checker" 85 7 5 0 false := ⟨gw_kPa, by decide +kernel, gw_w2 39 rfl rfl, rfl, rfl⟩
theorem f_Pa_29 : gw_F "CostChecker$Path" 29 7 6 2 true := ⟨gw_kPa, by decide +kernel, gw_w2 40 rfl rfl, rfl, rfl⟩
theorem f_Ch_59 : gw_F "CostChecker$Checker" 59 7 6 2 true := ⟨gw_kPa, by decide +kernel, gw_w2 41 rfl rfl, rfl, rfl⟩
theorem f_Pa_35 : gw_F "CostChecker$Path" 35 7 7 2 true := ⟨gw_kPa, by decide +kernel, gw_w2 42 rfl rfl, rfl, rfl⟩
theorem f_Ch_152 : gw_F "CostChecker$Checker" 152 7 7 2 true := ⟨gw_kPa, by decide +kernel, gw_w2 43 rfl rfl, rfl, rfl⟩
theorem f_Ch_24 : gw_F "CostChecker$Checker" 24 6 0 2 true := ⟨gw_kCh, by decide +kernel, gw_w2 61 rfl rfl, rfl, rfl⟩
theorem f_Ch_28 : gw_F "CostChecker$Checker" 28 6 1 2 false := ⟨gw_kCh, by decide +kernel, gw_w2 62 rfl rfl, rfl, rfl⟩
theorem f_Ch_11 : gw_F "CostChecker$Checker" 11 6 2 2 true := ⟨gw_kCh, by decide +kernel, gw_w2 63 rfl rfl, rfl, rfl⟩
theorem f_Ch_20 : gw_F "CostChecker$Checker" 20 6 3 2 true := ⟨gw_kCh, by decide +kernel, gw_w2 64 rfl rfl, rfl, rfl⟩
theorem f_Ch_73 : gw_F "CostChecker$Checker" 73 6 4 0 false := ⟨gw_kCh, by decide +kernel, gw_w2 65 rfl rfl, rfl, rfl⟩
theorem f_CC_14 : gw_F "CostChecker" 14 0 0 2 true := ⟨gw_kCC, by decide +kernel, gw_w2 77 rfl rfl, rfl, rfl⟩
theorem f_CC_23 : gw_F "CostChecker" 23 0 1 2 true := ⟨gw_kCC, by decide +kernel, gw_w2 78 rfl rfl, rfl, rfl⟩
theorem f_CC_30 : gw_F "CostChecker" 30 0 2 2 true := ⟨gw_kCC, by decide +kernel, gw_w2 79 rfl rfl, rfl, rfl⟩
theorem f_CC_34 : gw_F "CostChecker" 34 0 3 2 true := ⟨gw_kCC, by decide +kernel, gw_w2 80 rfl rfl, rfl, rfl⟩
theorem f_CC_167 : Cond.fieldLink "CostChecker" 167 gw_tC gw_tN "[I" ∈ gw_all := gw_w3 17 rfl rfl
theorem f_CC_170 : Cond.fieldLink "CostChecker" 170 gw_tC gw_pN "[I" ∈ gw_all := gw_w3 19 rfl rfl
theorem f_Mo_7 : gw_F "CostCheckerModel" 7 11 0 2 true := ⟨gw_kMo, by decide +kernel, gw_w3 212 rfl rfl, rfl, rfl⟩
theorem f_Mo_13 : gw_F "CostCheckerModel" 13 11 1 2 true := ⟨gw_kMo, by decide +kernel, gw_w3 213 rfl rfl, rfl, rfl⟩
theorem f_Mo_16 : gw_F "CostCheckerModel" 16 11 2 2 true := ⟨gw_kMo, by decide +kernel, gw_w3 214 rfl rfl, rfl, rfl⟩
theorem f_Mo_19 : gw_F "CostCheckerModel" 19 11 3 2 true := ⟨gw_kMo, by decide +kernel, gw_w3 215 rfl rfl, rfl, rfl⟩
theorem f_Mo_23 : gw_F "CostCheckerModel" 23 11 4 2 true := ⟨gw_kMo, by decide +kernel, gw_w3 216 rfl rfl, rfl, rfl⟩
theorem f_Mo_26 : gw_F "CostCheckerModel" 26 11 5 2 true := ⟨gw_kMo, by decide +kernel, gw_w3 217 rfl rfl, rfl, rfl⟩
theorem f_Mo_29 : gw_F "CostCheckerModel" 29 11 6 2 true := ⟨gw_kMo, by decide +kernel, gw_w3 218 rfl rfl, rfl, rfl⟩
theorem f_Mo_32 : gw_F "CostCheckerModel" 32 11 7 2 true := ⟨gw_kMo, by decide +kernel, gw_w3 219 rfl rfl, rfl, rfl⟩
theorem f_Mo_35 : gw_F "CostCheckerModel" 35 11 8 2 true := ⟨gw_kMo, by decide +kernel, gw_w3 220 rfl rfl, rfl, rfl⟩
theorem f_Mo_38 : gw_F "CostCheckerModel" 38 11 9 2 true := ⟨gw_kMo, by decide +kernel, gw_w3 221 rfl rfl, rfl, rfl⟩
theorem f_Mo_41 : gw_F "CostCheckerModel" 41 11 10 2 true := ⟨gw_kMo, by decide +kernel, gw_w3 222 rfl rfl, rfl, rfl⟩
theorem f_Mo_44 : gw_F "CostCheckerModel" 44 11 11 2 true := ⟨gw_kMo, by decide +kernel, gw_w3 223 rfl rfl, rfl, rfl⟩
theorem f_Mo_47 : gw_F "CostCheckerModel" 47 11 12 2 true := ⟨gw_kMo, by decide +kernel, gw_w3 224 rfl rfl, rfl, rfl⟩
theorem f_Mo_50 : gw_F "CostCheckerModel" 50 11 13 2 true := ⟨gw_kMo, by decide +kernel, gw_w3 225 rfl rfl, rfl, rfl⟩
theorem f_Mo_53 : gw_F "CostCheckerModel" 53 11 14 2 true := ⟨gw_kMo, by decide +kernel, gw_w3 226 rfl rfl, rfl, rfl⟩
theorem f_Mo_56 : gw_F "CostCheckerModel" 56 11 15 2 true := ⟨gw_kMo, by decide +kernel, gw_w3 227 rfl rfl, rfl, rfl⟩
theorem f_Mo_149 : gw_F "CostCheckerModel" 149 11 16 0 false := ⟨gw_kMo, by decide +kernel, gw_w3 228 rfl rfl, rfl, rfl⟩
theorem f_Mo_153 : gw_F "CostCheckerModel" 153 11 17 0 false := ⟨gw_kMo, by decide +kernel, gw_w3 229 rfl rfl, rfl, rfl⟩
theorem f_Mo_60 : gw_F "CostCheckerModel" 60 11 18 2 true := ⟨gw_kMo, by decide +kernel, gw_w3 230 rfl rfl, rfl, rfl⟩
theorem f_Mo_63 : gw_F "CostCheckerModel" 63 11 19 2 true := ⟨gw_kMo, by decide +kernel, gw_w3 231 rfl rfl, rfl, rfl⟩
theorem f_Mo_66 : gw_F "CostCheckerModel" 66 11 20 2 true := ⟨gw_kMo, by decide +kernel, gw_w3 232 rfl rfl, rfl, rfl⟩
theorem f_Mo_238 : gw_F "CostCheckerModel" 238 11 21 0 false := ⟨gw_kMo, by decide +kernel, gw_w3 233 rfl rfl, rfl, rfl⟩
theorem f_Mo_69 : gw_F "CostCheckerModel" 69 11 22 2 true := ⟨gw_kMo, by decide +kernel, gw_w3 234 rfl rfl, rfl, rfl⟩
theorem f_Mo_72 : gw_F "CostCheckerModel" 72 11 23 2 true := ⟨gw_kMo, by decide +kernel, gw_w3 235 rfl rfl, rfl, rfl⟩
theorem f_Mo_75 : gw_F "CostCheckerModel" 75 11 24 2 true := ⟨gw_kMo, by decide +kernel, gw_w3 236 rfl rfl, rfl, rfl⟩
theorem f_Mo_78 : gw_F "CostCheckerModel" 78 11 25 2 true := ⟨gw_kMo, by decide +kernel, gw_w3 237 rfl rfl, rfl, rfl⟩
theorem f_Mo_81 : gw_F "CostCheckerModel" 81 11 26 2 true := ⟨gw_kMo, by decide +kernel, gw_w3 238 rfl rfl, rfl, rfl⟩
theorem f_Mo_241 : gw_F "CostCheckerModel" 241 11 27 0 false := ⟨gw_kMo, by decide +kernel, gw_w3 239 rfl rfl, rfl, rfl⟩
theorem f_Mo_247 : gw_F "CostCheckerModel" 247 11 28 0 false := ⟨gw_kMo, by decide +kernel, gw_w4 0 rfl rfl, rfl, rfl⟩
theorem f_Mo_250 : gw_F "CostCheckerModel" 250 11 29 0 false := ⟨gw_kMo, by decide +kernel, gw_w4 1 rfl rfl, rfl, rfl⟩
theorem f_Mo_253 : gw_F "CostCheckerModel" 253 11 30 0 false := ⟨gw_kMo, by decide +kernel, gw_w4 2 rfl rfl, rfl, rfl⟩
theorem f_Mo_244 : gw_F "CostCheckerModel" 244 11 31 0 false := ⟨gw_kMo, by decide +kernel, gw_w4 3 rfl rfl, rfl, rfl⟩
theorem f_Mo_256 : gw_F "CostCheckerModel" 256 11 32 0 false := ⟨gw_kMo, by decide +kernel, gw_w4 4 rfl rfl, rfl, rfl⟩
abbrev y_CC_init : gw_Y := (n_CC_init, prog_1_method_1_code, 3, none)
abbrev y_Me_init : gw_Y := (n_Me_init, prog_8_method_1_code, 3, none)
abbrev y_Cu_init : gw_Y := (n_Cu_init, prog_4_method_1_code, 2, none)
abbrev y_Po_init : gw_Y := (n_Po_init, prog_10_method_1_code, 1, none)
abbrev y_Ma_init : gw_Y := (n_Ma_init, prog_7_method_1_code, 3, none)
abbrev y_Fr_init : gw_Y := (n_Fr_init, prog_5_method_1_code, 1, none)
abbrev y_Ch_init : gw_Y := (n_Ch_init, prog_3_method_1_code, 3, none)
abbrev y_Sy_init : gw_Y := (n_Sy_init, prog_11_method_1_code, 1, none)
abbrev y_Pa_init : gw_Y := (n_Pa_init, prog_9_method_1_code, 2, none)
abbrev y_Kn_init : gw_Y := (n_Kn_init, prog_6_method_1_code, 1, none)
abbrev y_Ba_init : gw_Y := (n_Ba_init, prog_2_method_1_code, 1, none)
abbrev y_CC_put : gw_Y := (n_CC_put, prog_1_method_2_code, 5, some .int)
abbrev y_CC_methodAt : gw_Y := (n_CC_methodAt, prog_1_method_15_code, 2, some (.object "CostChecker$Method"))
abbrev y_CC_isBetween : gw_Y := (n_CC_isBetween, prog_1_method_19_code, 3, some .boolean)
abbrev y_Me_append : gw_Y := (n_Me_append, prog_8_method_3_code, 3, some .boolean)
abbrev y_CC_noteChange : gw_Y := (n_CC_noteChange, prog_1_method_17_code, 4, some .boolean)
abbrev y_CC_clear : gw_Y := (n_CC_clear, prog_1_method_3_code, 3, some .boolean)
abbrev y_Me_reset : gw_Y := (n_Me_reset, prog_8_method_2_code, 1, none)
abbrev y_Cu_reset : gw_Y := (n_Cu_reset, prog_4_method_2_code, 3, none)
abbrev y_Po_reset : gw_Y := (n_Po_reset, prog_10_method_2_code, 1, none)
abbrev y_CC_cut : gw_Y := (n_CC_cut, prog_1_method_4_code, 4, some .boolean)
abbrev y_Me_addCut : gw_Y := (n_Me_addCut, prog_8_method_6_code, 4, some .boolean)
abbrev y_Me_findCut : gw_Y := (n_Me_findCut, prog_8_method_5_code, 3, some (.object "CostChecker$Cut"))
abbrev y_CC_claim : gw_Y := (n_CC_claim, prog_1_method_5_code, 7, some .boolean)
abbrev y_CC_cutAt : gw_Y := (n_CC_cutAt, prog_1_method_16_code, 4, some (.object "CostChecker$Cut"))
abbrev y_CC_areTwoSides : gw_Y := (n_CC_areTwoSides, prog_1_method_23_code, 2, some .boolean)
abbrev y_Cu_addClaim : gw_Y := (n_Cu_addClaim, prog_4_method_3_code, 4, some .boolean)
abbrev y_CC_base : gw_Y := (n_CC_base, prog_1_method_6_code, 6, some .boolean)
abbrev y_CC_isPotential : gw_Y := (n_CC_isPotential, prog_1_method_22_code, 1, some .boolean)
abbrev y_CC_term : gw_Y := (n_CC_term, prog_1_method_7_code, 7, some .boolean)
abbrev y_Po_addTerm : gw_Y := (n_Po_addTerm, prog_10_method_3_code, 4, some .boolean)
abbrev y_CC_check : gw_Y := (n_CC_check, prog_1_method_8_code, 4, some .int)
abbrev y_Ch_answerFor : gw_Y := (n_Ch_answerFor, prog_3_method_2_code, 4, some .int)
abbrev y_Ch_reasonAtCut : gw_Y := (n_Ch_reasonAtCut, prog_3_method_3_code, 3, some .int)
abbrev y_Pa_beginAt : gw_Y := (n_Pa_beginAt, prog_9_method_2_code, 3, some .boolean)
abbrev y_Sy_standForThemselves : gw_Y := (n_Sy_standForThemselves, prog_11_method_3_code, 2, none)
abbrev y_Sy_set : gw_Y := (n_Sy_set, prog_11_method_2_code, 5, none)
abbrev y_Ba_reset : gw_Y := (n_Ba_reset, prog_2_method_2_code, 2, none)
abbrev y_Ba_addPotential : gw_Y := (n_Ba_addPotential, prog_2_method_5_code, 9, none)
abbrev y_Ba_addDifference : gw_Y := (n_Ba_addDifference, prog_2_method_4_code, 5, none)
abbrev y_Kn_forgetAll : gw_Y := (n_Kn_forgetAll, prog_6_method_2_code, 3, none)
abbrev y_Kn_learnClaims : gw_Y := (n_Kn_learnClaims, prog_6_method_6_code, 3, some .boolean)
abbrev y_Kn_learn : gw_Y := (n_Kn_learn, prog_6_method_5_code, 9, some .boolean)
abbrev y_Kn_boundOf : gw_Y := (n_Kn_boundOf, prog_6_method_4_code, 3, some .long)
abbrev y_Kn_allowsNegative : gw_Y := (n_Kn_allowsNegative, prog_6_method_9_code, 7, some .boolean)
abbrev y_Ch_reasonFrom : gw_Y := (n_Ch_reasonFrom, prog_3_method_4_code, 9, some .int)
abbrev y_Me_hasPlace : gw_Y := (n_Me_hasPlace, prog_8_method_4_code, 2, some .boolean)
abbrev y_Ch_reasonAtEnd : gw_Y := (n_Ch_reasonAtEnd, prog_3_method_8_code, 4, some .int)
abbrev y_Kn_showsClaims : gw_Y := (n_Kn_showsClaims, prog_6_method_7_code, 8, some .boolean)
abbrev y_Po_speaksOfNothing : gw_Y := (n_Po_speaksOfNothing, prog_10_method_5_code, 3, some .boolean)
abbrev y_Ba_isShownNotNegative : gw_Y := (n_Ba_isShownNotNegative, prog_2_method_7_code, 10, some .boolean)
abbrev y_CC_isCramped : gw_Y := (n_CC_isCramped, prog_1_method_24_code, 7, some .boolean)
abbrev y_Pa_countInstruction : gw_Y := (n_Pa_countInstruction, prog_9_method_4_code, 1, none)
abbrev y_Ch_reasonBehind : gw_Y := (n_Ch_reasonBehind, prog_3_method_5_code, 4, some .int)
abbrev y_Pa_drop : gw_Y := (n_Pa_drop, prog_9_method_6_code, 2, none)
abbrev y_Pa_copyFrom : gw_Y := (n_Pa_copyFrom, prog_9_method_3_code, 3, none)
abbrev y_Sy_copyFrom : gw_Y := (n_Sy_copyFrom, prog_11_method_4_code, 2, none)
abbrev y_Kn_copyFrom : gw_Y := (n_Kn_copyFrom, prog_6_method_3_code, 2, none)
abbrev y_Ba_copyFrom : gw_Y := (n_Ba_copyFrom, prog_2_method_3_code, 2, none)
abbrev y_Pa_learnLess : gw_Y := (n_Pa_learnLess, prog_9_method_10_code, 6, some .boolean)
abbrev y_Ch_reasonOfNew : gw_Y := (n_Ch_reasonOfNew, prog_3_method_6_code, 5, some .int)
abbrev y_Kn_showsNotNegative : gw_Y := (n_Kn_showsNotNegative, prog_6_method_8_code, 4, some .boolean)
abbrev y_Ba_payWords : gw_Y := (n_Ba_payWords, prog_2_method_6_code, 4, none)
abbrev y_Ch_reasonOfCall : gw_Y := (n_Ch_reasonOfCall, prog_3_method_7_code, 5, some .int)
abbrev y_Pa_push : gw_Y := (n_Pa_push, prog_9_method_5_code, 4, none)
abbrev y_Pa_performPlain : gw_Y := (n_Pa_performPlain, prog_9_method_7_code, 3, none)
abbrev y_Pa_pushSum : gw_Y := (n_Pa_pushSum, prog_9_method_8_code, 5, none)
abbrev y_Pa_pushDifference : gw_Y := (n_Pa_pushDifference, prog_9_method_9_code, 5, none)
abbrev y_CC_accepted : gw_Y := (n_CC_accepted, prog_1_method_9_code, 3, some .boolean)
abbrev y_CC_bound : gw_Y := (n_CC_bound, prog_1_method_10_code, 8, some .long)
abbrev y_CC_areValues : gw_Y := (n_CC_areValues, prog_1_method_21_code, 3, some .boolean)
abbrev y_CC_isValue : gw_Y := (n_CC_isValue, prog_1_method_20_code, 1, some .boolean)
abbrev y_Cu_holdsFor : gw_Y := (n_Cu_holdsFor, prog_4_method_4_code, 3, some .boolean)
abbrev y_Po_valueFor : gw_Y := (n_Po_valueFor, prog_10_method_4_code, 5, some .long)
abbrev y_CC_depth : gw_Y := (n_CC_depth, prog_1_method_11_code, 3, some .int)
abbrev y_CC_measureDepth : gw_Y := (n_CC_measureDepth, prog_1_method_18_code, 5, none)
abbrev y_CC_feed : gw_Y := (n_CC_feed, prog_1_method_12_code, 2, some .boolean)
abbrev y_Ma_addInput : gw_Y := (n_Ma_addInput, prog_7_method_2_code, 2, some .boolean)
abbrev y_CC_run : gw_Y := (n_CC_run, prog_1_method_13_code, 6, some .int)
abbrev y_Ma_runToEnd : gw_Y := (n_Ma_runToEnd, prog_7_method_3_code, 6, some .int)
abbrev y_Fr_enter : gw_Y := (n_Fr_enter, prog_5_method_2_code, 5, none)
abbrev y_Ma_step : gw_Y := (n_Ma_step, prog_7_method_4_code, 6, some .int)
abbrev y_Ma_perform : gw_Y := (n_Ma_perform, prog_7_method_5_code, 4, some .int)
abbrev y_Fr_push : gw_Y := (n_Fr_push, prog_5_method_3_code, 2, none)
abbrev y_Fr_pop : gw_Y := (n_Fr_pop, prog_5_method_4_code, 1, some .int)
abbrev y_Ma_pushSum : gw_Y := (n_Ma_pushSum, prog_7_method_6_code, 3, some .int)
abbrev y_Ma_growLocal : gw_Y := (n_Ma_growLocal, prog_7_method_7_code, 3, some .int)
abbrev y_Ma_goIf : gw_Y := (n_Ma_goIf, prog_7_method_8_code, 5, none)
abbrev y_Ma_takeWords : gw_Y := (n_Ma_takeWords, prog_7_method_9_code, 2, some .int)
abbrev y_Ma_enterCalled : gw_Y := (n_Ma_enterCalled, prog_7_method_10_code, 6, none)
abbrev y_Ma_leave : gw_Y := (n_Ma_leave, prog_7_method_11_code, 2, some .int)
abbrev y_Ma_nextInput : gw_Y := (n_Ma_nextInput, prog_7_method_12_code, 1, some .int)
abbrev y_CC_ran : gw_Y := (n_CC_ran, prog_1_method_14_code, 2, some .int)
abbrev y_Mo_init : gw_Y := (n_Mo_init, prog_13_method_1_code, 2, none)
abbrev y_Mo_put : gw_Y := (n_Mo_put, prog_13_method_4_code, 4, some .int)
abbrev y_Mo_in : gw_Y := (n_Mo_in, prog_13_method_2_code, 6, some .boolean)
abbrev y_Mo_changed : gw_Y := (n_Mo_changed, prog_13_method_3_code, 3, none)
abbrev y_Mo_clear : gw_Y := (n_Mo_clear, prog_13_method_6_code, 2, some .boolean)
abbrev y_Mo_plain : gw_Y := (n_Mo_plain, prog_13_method_5_code, 4, none)
abbrev y_Mo_cut : gw_Y := (n_Mo_cut, prog_13_method_8_code, 3, some .boolean)
abbrev y_Mo_cutAt : gw_Y := (n_Mo_cutAt, prog_13_method_7_code, 4, some .int)
abbrev y_Mo_claim : gw_Y := (n_Mo_claim, prog_13_method_9_code, 8, some .boolean)
abbrev y_Mo_base : gw_Y := (n_Mo_base, prog_13_method_10_code, 6, some .boolean)
abbrev y_Mo_term : gw_Y := (n_Mo_term, prog_13_method_11_code, 8, some .boolean)
abbrev y_Mo_check : gw_Y := (n_Mo_check, prog_13_method_19_code, 6, some .int)
abbrev y_Mo_checkCut : gw_Y := (n_Mo_checkCut, prog_13_method_21_code, 4, some .int)
abbrev y_Mo_begin : gw_Y := (n_Mo_begin, prog_13_method_20_code, 5, none)
abbrev y_Mo_know : gw_Y := (n_Mo_know, prog_13_method_14_code, 9, none)
abbrev y_Mo_least : gw_Y := (n_Mo_least, prog_13_method_13_code, 4, some .long)
abbrev y_Mo_addTerm : gw_Y := (n_Mo_addTerm, prog_13_method_16_code, 15, none)
abbrev y_Mo_findBounds : gw_Y := (n_Mo_findBounds, prog_13_method_12_code, 10, some .boolean)
abbrev y_Mo_negative : gw_Y := (n_Mo_negative, prog_13_method_18_code, 8, some .boolean)
abbrev y_Mo_advance : gw_Y := (n_Mo_advance, prog_13_method_22_code, 13, some .int)
abbrev y_Mo_end : gw_Y := (n_Mo_end, prog_13_method_35_code, 10, some .int)
abbrev y_Mo_localSide : gw_Y := (n_Mo_localSide, prog_13_method_33_code, 3, some .long)
abbrev y_Mo_localNumber : gw_Y := (n_Mo_localNumber, prog_13_method_34_code, 3, some .long)
abbrev y_Mo_follows : gw_Y := (n_Mo_follows, prog_13_method_15_code, 13, some .boolean)
abbrev y_Mo_shown : gw_Y := (n_Mo_shown, prog_13_method_17_code, 13, some .boolean)
abbrev y_Mo_part : gw_Y := (n_Mo_part, prog_13_method_27_code, 16, some .int)
abbrev y_Mo_pop : gw_Y := (n_Mo_pop, prog_13_method_24_code, 3, some .int)
abbrev y_Mo_learn : gw_Y := (n_Mo_learn, prog_13_method_28_code, 9, none)
abbrev y_Mo_memory : gw_Y := (n_Mo_memory, prog_13_method_29_code, 3, some .int)
abbrev y_Mo_called : gw_Y := (n_Mo_called, prog_13_method_32_code, 12, some .int)
abbrev y_Mo_side : gw_Y := (n_Mo_side, prog_13_method_30_code, 4, some .long)
abbrev y_Mo_extra : gw_Y := (n_Mo_extra, prog_13_method_31_code, 4, some .long)
abbrev y_Mo_push : gw_Y := (n_Mo_push, prog_13_method_23_code, 8, none)
abbrev y_Mo_simple : gw_Y := (n_Mo_simple, prog_13_method_25_code, 7, none)
abbrev y_Mo_combine : gw_Y := (n_Mo_combine, prog_13_method_26_code, 11, none)
abbrev y_Mo_accepted : gw_Y := (n_Mo_accepted, prog_13_method_36_code, 2, some .boolean)
abbrev y_Mo_bound : gw_Y := (n_Mo_bound, prog_13_method_37_code, 12, some .long)
abbrev y_Mo_argument : gw_Y := (n_Mo_argument, prog_13_method_38_code, 4, some .long)
abbrev y_Mo_depth : gw_Y := (n_Mo_depth, prog_13_method_39_code, 7, some .int)
abbrev y_Mo_calls : gw_Y := (n_Mo_calls, prog_13_method_41_code, 5, some .boolean)
abbrev y_Mo_greatest : gw_Y := (n_Mo_greatest, prog_13_method_40_code, 2, some .int)
abbrev y_Mo_feed : gw_Y := (n_Mo_feed, prog_13_method_42_code, 2, some .boolean)
abbrev y_Mo_run : gw_Y := (n_Mo_run, prog_13_method_44_code, 6, some .int)
abbrev y_Mo_enter : gw_Y := (n_Mo_enter, prog_13_method_43_code, 6, none)
abbrev y_Mo_makeStep : gw_Y := (n_Mo_makeStep, prog_13_method_48_code, 10, some .int)
abbrev y_Mo_take : gw_Y := (n_Mo_take, prog_13_method_45_code, 2, some .int)
abbrev y_Mo_leave : gw_Y := (n_Mo_leave, prog_13_method_50_code, 3, some .int)
abbrev y_Mo_give : gw_Y := (n_Mo_give, prog_13_method_46_code, 3, none)
abbrev y_Mo_choose : gw_Y := (n_Mo_choose, prog_13_method_49_code, 6, some .int)
abbrev y_Mo_work : gw_Y := (n_Mo_work, prog_13_method_51_code, 7, some .boolean)
abbrev y_Mo_fits : gw_Y := (n_Mo_fits, prog_13_method_47_code, 2, some .boolean)
abbrev y_Mo_ran : gw_Y := (n_Mo_ran, prog_13_method_52_code, 2, some .int)
abbrev y_La_law : gw_Y := (x, code, maxLocals, ret)
end
section
theorem o_CC_init : gw_Ok y_CC_init 0 := ⟨gw_w1 19 rfl rfl, gw_w1 1 rfl rfl, ⟨by decide +kernel, by decide +kernel, by decide +kernel⟩, by decide, by decide +kernel⟩
theorem o_Me_init : gw_Ok y_Me_init 1 := ⟨gw_w1 28 rfl rfl, gw_w1 2 rfl rfl, ⟨by decide +kernel, by decide +kernel, by decide +kernel⟩, by decide, by decide +kernel⟩
theorem o_Cu_init : gw_Ok y_Cu_init 0 := ⟨gw_w1 35 rfl rfl, gw_w1 3 rfl rfl, ⟨by decide +kernel, by decide +kernel, by decide +kernel⟩, by decide, by decide +kernel⟩
theorem o_Po_init : gw_Ok y_Po_init 0 := ⟨gw_w1 42 rfl rfl, gw_w1 4 rfl rfl, ⟨by decide +kernel, by decide +kernel, by decide +kernel⟩, by decide, by decide +kernel⟩
theorem o_Ma_init : gw_Ok y_Ma_init 1 := ⟨gw_w1 143 rfl rfl, gw_w1 5 rfl rfl, ⟨by decide +kernel, by decide +kernel, by decide +kernel⟩, by decide, by decide +kernel⟩
theorem o_Fr_init : gw_Ok y_Fr_init 0 := ⟨gw_w1 150 rfl rfl, gw_w1 6 rfl rfl, ⟨by decide +kernel, by decide +kernel, by decide +kernel⟩, by decide, by decide +kernel⟩
theorem o_Ch_init : gw_Ok y_Ch_init 1 := ⟨gw_w1 211 rfl rfl, gw_w1 7 rfl rfl, ⟨by decide +kernel, by decide +kernel, by decide +kernel⟩, by decide, by decide +kernel⟩
theorem o_Sy_init : gw_Ok y_Sy_init 0 := ⟨gw_w1 219 rfl rfl, gw_w1 8 rfl rfl, ⟨by decide +kernel, by decide +kernel, by decide +kernel⟩, by decide, by decide +kernel⟩
theorem o_Pa_init : gw_Ok y_Pa_init 0 := ⟨gw_w1 239 rfl rfl, gw_w1 9 rfl rfl, ⟨by decide +kernel, by decide +kernel, by decide +kernel⟩, by decide, by decide +kernel⟩
theorem o_Kn_init : gw_Ok y_Kn_init 0 := ⟨gw_w2 7 rfl rfl, gw_w1 10 rfl rfl, ⟨by decide +kernel, by decide +kernel, by decide +kernel⟩, by decide, by decide +kernel⟩
theorem o_Ba_init : gw_Ok y_Ba_init 0 := ⟨gw_w2 18 rfl rfl, gw_w1 11 rfl rfl, ⟨by decide +kernel, by decide +kernel, by decide +kernel⟩, by decide, by decide +kernel⟩
theorem o_CC_put : gw_Ok y_CC_put 3 := ⟨gw_w2 93 rfl rfl, gw_w1 1 rfl rfl, ⟨by decide +kernel, by decide +kernel, by decide +kernel⟩, by decide, by decide +kernel⟩
theorem o_CC_methodAt : gw_Ok y_CC_methodAt 1 := ⟨gw_w2 97 rfl rfl, gw_w1 1 rfl rfl, ⟨by decide +kernel, by decide +kernel, by decide +kernel⟩, by decide, by decide +kernel⟩
theorem o_CC_isBetween : gw_Ok y_CC_isBetween 3 := ⟨gw_w2 100 rfl rfl, gw_w1 1 rfl rfl, ⟨by decide +kernel, by decide +kernel, by decide +kernel⟩, by decide, by decide +kernel⟩
theorem o_Me_append : gw_Ok y_Me_append 2 := ⟨gw_w2 104 rfl rfl, gw_w1 2 rfl rfl, ⟨by decide +kernel, by decide +kernel, by decide +kernel⟩, by decide, by decide +kernel⟩
theorem o_CC_noteChange : gw_Ok y_CC_noteChange 2 := ⟨gw_w2 108 rfl rfl, gw_w1 1 rfl rfl, ⟨by decide +kernel, by decide +kernel, by decide +kernel⟩, by decide, by decide +kernel⟩
theorem o_CC_clear : gw_Ok y_CC_clear 1 := ⟨gw_w2 112 rfl rfl, gw_w1 1 rfl rfl, ⟨by decide +kernel, by decide +kernel, by decide +kernel⟩, by decide, by decide +kernel⟩
theorem o_Me_reset : gw_Ok y_Me_reset 0 := ⟨gw_w2 116 rfl rfl, gw_w1 2 rfl rfl, ⟨by decide +kernel, by decide +kernel, by decide +kernel⟩, by decide, by decide +kernel⟩
theorem o_Cu_reset : gw_Ok y_Cu_reset 1 := ⟨gw_w2 120 rfl rfl, gw_w1 3 rfl rfl, ⟨by decide +kernel, by decide +kernel, by decide +kernel⟩, by decide, by decide +kernel⟩
theorem o_Po_reset : gw_Ok y_Po_reset 0 := ⟨gw_w2 124 rfl rfl, gw_w1 4 rfl rfl, ⟨by decide +kernel, by decide +kernel, by decide +kernel⟩, by decide, by decide +kernel⟩
theorem o_CC_cut : gw_Ok y_CC_cut 2 := ⟨gw_w2 128 rfl rfl, gw_w1 1 rfl rfl, ⟨by decide +kernel, by decide +kernel, by decide +kernel⟩, by decide, by decide +kernel⟩
theorem o_Me_addCut : gw_Ok y_Me_addCut 1 := ⟨gw_w2 132 rfl rfl, gw_w1 2 rfl rfl, ⟨by decide +kernel, by decide +kernel, by decide +kernel⟩, by decide, by decide +kernel⟩
theorem o_Me_findCut : gw_Ok y_Me_findCut 1 := ⟨gw_w2 137 rfl rfl, gw_w1 2 rfl rfl, ⟨by decide +kernel, by decide +kernel, by decide +kernel⟩, by decide, by decide +kernel⟩
theorem o_CC_claim : gw_Ok y_CC_claim 5 := ⟨gw_w2 141 rfl rfl, gw_w1 1 rfl rfl, ⟨by decide +kernel, by decide +kernel, by decide +kernel⟩, by decide, by decide +kernel⟩
theorem o_CC_cutAt : gw_Ok y_CC_cutAt 2 := ⟨gw_w2 145 rfl rfl, gw_w1 1 rfl rfl, ⟨by decide +kernel, by decide +kernel, by decide +kernel⟩, by decide, by decide +kernel⟩
theorem o_CC_areTwoSides : gw_Ok y_CC_areTwoSides 2 := ⟨gw_w2 149 rfl rfl, gw_w1 1 rfl rfl, ⟨by decide +kernel, by decide +kernel, by decide +kernel⟩, by decide, by decide +kernel⟩
theorem o_Cu_addClaim : gw_Ok y_Cu_addClaim 3 := ⟨gw_w2 153 rfl rfl, gw_w1 3 rfl rfl, ⟨by decide +kernel, by decide +kernel, by decide +kernel⟩, by decide, by decide +kernel⟩
theorem o_CC_base : gw_Ok y_CC_base 4 := ⟨gw_w2 157 rfl rfl, gw_w1 1 rfl rfl, ⟨by decide +kernel, by decide +kernel, by decide +kernel⟩, by decide, by decide +kernel⟩
theorem o_CC_isPotential : gw_Ok y_CC_isPotential 1 := ⟨gw_w2 160 rfl rfl, gw_w1 1 rfl rfl, ⟨by decide +kernel, by decide +kernel, by decide +kernel⟩, by decide, by decide +kernel⟩
theorem o_CC_term : gw_Ok y_CC_term 5 := ⟨gw_w2 164 rfl rfl, gw_w1 1 rfl rfl, ⟨by decide +kernel, by decide +kernel, by decide +kernel⟩, by decide, by decide +kernel⟩
theorem o_Po_addTerm : gw_Ok y_Po_addTerm 3 := ⟨gw_w2 168 rfl rfl, gw_w1 4 rfl rfl, ⟨by decide +kernel, by decide +kernel, by decide +kernel⟩, by decide, by decide +kernel⟩
theorem o_CC_check : gw_Ok y_CC_check 1 := ⟨gw_w2 172 rfl rfl, gw_w1 1 rfl rfl, ⟨by decide +kernel, by decide +kernel, by decide +kernel⟩, by decide, by decide +kernel⟩
theorem o_Ch_answerFor : gw_Ok y_Ch_answerFor 1 := ⟨gw_w2 176 rfl rfl, gw_w1 7 rfl rfl, ⟨by decide +kernel, by decide +kernel, by decide +kernel⟩, by decide, by decide +kernel⟩
theorem o_Ch_reasonAtCut : gw_Ok y_Ch_reasonAtCut 1 := ⟨gw_w2 180 rfl rfl, gw_w1 7 rfl rfl, ⟨by decide +kernel, by decide +kernel, by decide +kernel⟩, by decide, by decide +kernel⟩
theorem o_Pa_beginAt : gw_Ok y_Pa_beginAt 1 := ⟨gw_w2 184 rfl rfl, gw_w1 9 rfl rfl, ⟨by decide +kernel, by decide +kernel, by decide +kernel⟩, by decide, by decide +kernel⟩
theorem o_Sy_standForThemselves : gw_Ok y_Sy_standForThemselves 0 := ⟨gw_w2 188 rfl rfl, gw_w1 8 rfl rfl, ⟨by decide +kernel, by decide +kernel, by decide +kernel⟩, by decide, by decide +kernel⟩
theorem o_Sy_set : gw_Ok y_Sy_set 3 := ⟨gw_w2 192 rfl rfl, gw_w1 8 rfl rfl, ⟨by decide +kernel, by decide +kernel, by decide +kernel⟩, by decide, by decide +kernel⟩
theorem o_Ba_reset : gw_Ok y_Ba_reset 0 := ⟨gw_w2 196 rfl rfl, gw_w1 11 rfl rfl, ⟨by decide +kernel, by decide +kernel, by decide +kernel⟩, by decide, by decide +kernel⟩
theorem o_Ba_addPotential : gw_Ok y_Ba_addPotential 3 := ⟨gw_w2 200 rfl rfl, gw_w1 11 rfl rfl, ⟨by decide +kernel, by decide +kernel, by decide +kernel⟩, by decide, by decide +kernel⟩
theorem o_Ba_addDifference : gw_Ok y_Ba_addDifference 3 := ⟨gw_w2 204 rfl rfl, gw_w1 11 rfl rfl, ⟨by decide +kernel, by decide +kernel, by decide +kernel⟩, by decide, by decide +kernel⟩
theorem o_Kn_forgetAll : gw_Ok y_Kn_forgetAll 0 := ⟨gw_w2 208 rfl rfl, gw_w1 10 rfl rfl, ⟨by decide +kernel, by decide +kernel, by decide +kernel⟩, by decide, by decide +kernel⟩
theorem o_Kn_learnClaims : gw_Ok y_Kn_learnClaims 1 := ⟨gw_w2 213 rfl rfl, gw_w1 10 rfl rfl, ⟨by decide +kernel, by decide +kernel, by decide +kernel⟩, by decide, by decide +kernel⟩
theorem o_Kn_learn : gw_Ok y_Kn_learn 3 := ⟨gw_w2 217 rfl rfl, gw_w1 10 rfl rfl, ⟨by decide +kernel, by decide +kernel, by decide +kernel⟩, by decide, by decide +kernel⟩
theorem o_Kn_boundOf : gw_Ok y_Kn_boundOf 2 := ⟨gw_w2 221 rfl rfl, gw_w1 10 rfl rfl, ⟨by decide +kernel, by decide +kernel, by decide +kernel⟩, by decide, by decide +kernel⟩
theorem o_Kn_allowsNegative : gw_Ok y_Kn_allowsNegative 1 := ⟨gw_w2 225 rfl rfl, gw_w1 10 rfl rfl, ⟨by decide +kernel, by decide +kernel, by decide +kernel⟩, by decide, by decide +kernel⟩
theorem o_Ch_reasonFrom : gw_Ok y_Ch_reasonFrom 1 := ⟨gw_w2 229 rfl rfl, gw_w1 7 rfl rfl, ⟨by decide +kernel, by decide +kernel, by decide +kernel⟩, by decide, by decide +kernel⟩
theorem o_Me_hasPlace : gw_Ok y_Me_hasPlace 1 := ⟨gw_w2 233 rfl rfl, gw_w1 2 rfl rfl, ⟨by decide +kernel, by decide +kernel, by decide +kernel⟩, by decide, by decide +kernel⟩
theorem o_Ch_reasonAtEnd : gw_Ok y_Ch_reasonAtEnd 2 := ⟨gw_w2 238 rfl rfl, gw_w1 7 rfl rfl, ⟨by decide +kernel, by decide +kernel, by decide +kernel⟩, by decide, by decide +kernel⟩
theorem o_Kn_showsClaims : gw_Ok y_Kn_showsClaims 2 := ⟨gw_w3 2 rfl rfl, gw_w1 10 rfl rfl, ⟨by decide +kernel, by decide +kernel, by decide +kernel⟩, by decide, by decide +kernel⟩
theorem o_Po_speaksOfNothing : gw_Ok y_Po_speaksOfNothing 1 := ⟨gw_w3 6 rfl rfl, gw_w1 4 rfl rfl, ⟨by decide +kernel, by decide +kernel, by decide +kernel⟩, by decide, by decide +kernel⟩
theorem o_Ba_isShownNotNegative : gw_Ok y_Ba_isShownNotNegative 1 := ⟨gw_w3 11 rfl rfl, gw_w1 11 rfl rfl, ⟨by decide +kernel, by decide +kernel, by decide +kernel⟩, by decide, by decide +kernel⟩
theorem o_CC_isCramped : gw_Ok y_CC_isCramped 4 := ⟨gw_w3 16 rfl rfl, gw_w1 1 rfl rfl, ⟨by decide +kernel, by decide +kernel, by decide +kernel⟩, by decide, by decide +kernel⟩
theorem o_Pa_countInstruction : gw_Ok y_Pa_countInstruction 0 := ⟨gw_w3 24 rfl rfl, gw_w1 9 rfl rfl, ⟨by decide +kernel, by decide +kernel, by decide +kernel⟩, by decide, by decide +kernel⟩
theorem o_Ch_reasonBehind : gw_Ok y_Ch_reasonBehind 2 := ⟨gw_w3 28 rfl rfl, gw_w1 7 rfl rfl, ⟨by decide +kernel, by decide +kernel, by decide +kernel⟩, by decide, by decide +kernel⟩
theorem o_Pa_drop : gw_Ok y_Pa_drop 1 := ⟨gw_w3 32 rfl rfl, gw_w1 9 rfl rfl, ⟨by decide +kernel, by decide +kernel, by decide +kernel⟩, by decide, by decide +kernel⟩
theorem o_Pa_copyFrom : gw_Ok y_Pa_copyFrom 1 := ⟨gw_w3 39 rfl rfl, gw_w1 9 rfl rfl, ⟨by decide +kernel, by decide +kernel, by decide +kernel⟩, by decide, by decide +kernel⟩
theorem o_Sy_copyFrom : gw_Ok y_Sy_copyFrom 1 := ⟨gw_w3 43 rfl rfl, gw_w1 8 rfl rfl, ⟨by decide +kernel, by decide +kernel, by decide +kernel⟩, by decide, by decide +kernel⟩
theorem o_Kn_copyFrom : gw_Ok y_Kn_copyFrom 1 := ⟨gw_w3 51 rfl rfl, gw_w1 10 rfl rfl, ⟨by decide +kernel, by decide +kernel, by decide +kernel⟩, by decide, by decide +kernel⟩
theorem o_Ba_copyFrom : gw_Ok y_Ba_copyFrom 1 := ⟨gw_w3 56 rfl rfl, gw_w1 11 rfl rfl, ⟨by decide +kernel, by decide +kernel, by decide +kernel⟩, by decide, by decide +kernel⟩
theorem o_Pa_learnLess : gw_Ok y_Pa_learnLess 1 := ⟨gw_w3 61 rfl rfl, gw_w1 9 rfl rfl, ⟨by decide +kernel, by decide +kernel, by decide +kernel⟩, by decide, by decide +kernel⟩
theorem o_Ch_reasonOfNew : gw_Ok y_Ch_reasonOfNew 1 := ⟨gw_w3 66 rfl rfl, gw_w1 7 rfl rfl, ⟨by decide +kernel, by decide +kernel, by decide +kernel⟩, by decide, by decide +kernel⟩
theorem o_Kn_showsNotNegative : gw_Ok y_Kn_showsNotNegative 2 := ⟨gw_w3 70 rfl rfl, gw_w1 10 rfl rfl, ⟨by decide +kernel, by decide +kernel, by decide +kernel⟩, by decide, by decide +kernel⟩
theorem o_Ba_payWords : gw_Ok y_Ba_payWords 2 := ⟨gw_w3 74 rfl rfl, gw_w1 11 rfl rfl, ⟨by decide +kernel, by decide +kernel, by decide +kernel⟩, by decide, by decide +kernel⟩
theorem o_Ch_reasonOfCall : gw_Ok y_Ch_reasonOfCall 2 := ⟨gw_w3 80 rfl rfl, gw_w1 7 rfl rfl, ⟨by decide +kernel, by decide +kernel, by decide +kernel⟩, by decide, by decide +kernel⟩
theorem o_Pa_push : gw_Ok y_Pa_push 2 := ⟨gw_w3 86 rfl rfl, gw_w1 9 rfl rfl, ⟨by decide +kernel, by decide +kernel, by decide +kernel⟩, by decide, by decide +kernel⟩
theorem o_Pa_performPlain : gw_Ok y_Pa_performPlain 2 := ⟨gw_w3 90 rfl rfl, gw_w1 9 rfl rfl, ⟨by decide +kernel, by decide +kernel, by decide +kernel⟩, by decide, by decide +kernel⟩
theorem o_Pa_pushSum : gw_Ok y_Pa_pushSum 2 := ⟨gw_w3 97 rfl rfl, gw_w1 9 rfl rfl, ⟨by decide +kernel, by decide +kernel, by decide +kernel⟩, by decide, by decide +kernel⟩
theorem o_Pa_pushDifference : gw_Ok y_Pa_pushDifference 2 := ⟨gw_w3 101 rfl rfl, gw_w1 9 rfl rfl, ⟨by decide +kernel, by decide +kernel, by decide +kernel⟩, by decide, by decide +kernel⟩
theorem o_CC_accepted : gw_Ok y_CC_accepted 1 := ⟨gw_w3 105 rfl rfl, gw_w1 1 rfl rfl, ⟨by decide +kernel, by decide +kernel, by decide +kernel⟩, by decide, by decide +kernel⟩
theorem o_CC_bound : gw_Ok y_CC_bound 5 := ⟨gw_w3 109 rfl rfl, gw_w1 1 rfl rfl, ⟨by decide +kernel, by decide +kernel, by decide +kernel⟩, by decide, by decide +kernel⟩
theorem o_CC_areValues : gw_Ok y_CC_areValues 3 := ⟨gw_w3 112 rfl rfl, gw_w1 1 rfl rfl, ⟨by decide +kernel, by decide +kernel, by decide +kernel⟩, by decide, by decide +kernel⟩
theorem o_CC_isValue : gw_Ok y_CC_isValue 1 := ⟨gw_w3 115 rfl rfl, gw_w1 1 rfl rfl, ⟨by decide +kernel, by decide +kernel, by decide +kernel⟩, by decide, by decide +kernel⟩
theorem o_Cu_holdsFor : gw_Ok y_Cu_holdsFor 1 := ⟨gw_w3 122 rfl rfl, gw_w1 3 rfl rfl, ⟨by decide +kernel, by decide +kernel, by decide +kernel⟩, by decide, by decide +kernel⟩
theorem o_Po_valueFor : gw_Ok y_Po_valueFor 1 := ⟨gw_w3 126 rfl rfl, gw_w1 4 rfl rfl, ⟨by decide +kernel, by decide +kernel, by decide +kernel⟩, by decide, by decide +kernel⟩
theorem o_CC_depth : gw_Ok y_CC_depth 1 := ⟨gw_w3 130 rfl rfl, gw_w1 1 rfl rfl, ⟨by decide +kernel, by decide +kernel, by decide +kernel⟩, by decide, by decide +kernel⟩
theorem o_CC_measureDepth : gw_Ok y_CC_measureDepth 1 := ⟨gw_w3 134 rfl rfl, gw_w1 1 rfl rfl, ⟨by decide +kernel, by decide +kernel, by decide +kernel⟩, by decide, by decide +kernel⟩
theorem o_CC_feed : gw_Ok y_CC_feed 1 := ⟨gw_w3 139 rfl rfl, gw_w1 1 rfl rfl, ⟨by decide +kernel, by decide +kernel, by decide +kernel⟩, by decide, by decide +kernel⟩
theorem o_Ma_addInput : gw_Ok y_Ma_addInput 1 := ⟨gw_w3 143 rfl rfl, gw_w1 5 rfl rfl, ⟨by decide +kernel, by decide +kernel, by decide +kernel⟩, by decide, by decide +kernel⟩
theorem o_CC_run : gw_Ok y_CC_run 4 := ⟨gw_w3 147 rfl rfl, gw_w1 1 rfl rfl, ⟨by decide +kernel, by decide +kernel, by decide +kernel⟩, by decide, by decide +kernel⟩
theorem o_Ma_runToEnd : gw_Ok y_Ma_runToEnd 4 := ⟨gw_w3 151 rfl rfl, gw_w1 5 rfl rfl, ⟨by decide +kernel, by decide +kernel, by decide +kernel⟩, by decide, by decide +kernel⟩
theorem o_Fr_enter : gw_Ok y_Fr_enter 4 := ⟨gw_w3 155 rfl rfl, gw_w1 6 rfl rfl, ⟨by decide +kernel, by decide +kernel, by decide +kernel⟩, by decide, by decide +kernel⟩
theorem o_Ma_step : gw_Ok y_Ma_step 0 := ⟨gw_w3 159 rfl rfl, gw_w1 5 rfl rfl, ⟨by decide +kernel, by decide +kernel, by decide +kernel⟩, by decide, by decide +kernel⟩
theorem o_Ma_perform : gw_Ok y_Ma_perform 3 := ⟨gw_w3 164 rfl rfl, gw_w1 5 rfl rfl, ⟨by decide +kernel, by decide +kernel, by decide +kernel⟩, by decide, by decide +kernel⟩
theorem o_Fr_push : gw_Ok y_Fr_push 1 := ⟨gw_w3 168 rfl rfl, gw_w1 6 rfl rfl, ⟨by decide +kernel, by decide +kernel, by decide +kernel⟩, by decide, by decide +kernel⟩
theorem o_Fr_pop : gw_Ok y_Fr_pop 0 := ⟨gw_w3 172 rfl rfl, gw_w1 6 rfl rfl, ⟨by decide +kernel, by decide +kernel, by decide +kernel⟩, by decide, by decide +kernel⟩
theorem o_Ma_pushSum : gw_Ok y_Ma_pushSum 3 := ⟨gw_w3 175 rfl rfl, gw_w1 5 rfl rfl, ⟨by decide +kernel, by decide +kernel, by decide +kernel⟩, by decide, by decide +kernel⟩
theorem o_Ma_growLocal : gw_Ok y_Ma_growLocal 3 := ⟨gw_w3 179 rfl rfl, gw_w1 5 rfl rfl, ⟨by decide +kernel, by decide +kernel, by decide +kernel⟩, by decide, by decide +kernel⟩
theorem o_Ma_goIf : gw_Ok y_Ma_goIf 3 := ⟨gw_w3 182 rfl rfl, gw_w1 5 rfl rfl, ⟨by decide +kernel, by decide +kernel, by decide +kernel⟩, by decide, by decide +kernel⟩
theorem o_Ma_takeWords : gw_Ok y_Ma_takeWords 1 := ⟨gw_w3 186 rfl rfl, gw_w1 5 rfl rfl, ⟨by decide +kernel, by decide +kernel, by decide +kernel⟩, by decide, by decide +kernel⟩
theorem o_Ma_enterCalled : gw_Ok y_Ma_enterCalled 2 := ⟨gw_w3 191 rfl rfl, gw_w1 5 rfl rfl, ⟨by decide +kernel, by decide +kernel, by decide +kernel⟩, by decide, by decide +kernel⟩
theorem o_Ma_leave : gw_Ok y_Ma_leave 1 := ⟨gw_w3 196 rfl rfl, gw_w1 5 rfl rfl, ⟨by decide +kernel, by decide +kernel, by decide +kernel⟩, by decide, by decide +kernel⟩
theorem o_Ma_nextInput : gw_Ok y_Ma_nextInput 0 := ⟨gw_w3 200 rfl rfl, gw_w1 5 rfl rfl, ⟨by decide +kernel, by decide +kernel, by decide +kernel⟩, by decide, by decide +kernel⟩
theorem o_CC_ran : gw_Ok y_CC_ran 1 := ⟨gw_w3 205 rfl rfl, gw_w1 1 rfl rfl, ⟨by decide +kernel, by decide +kernel, by decide +kernel⟩, by decide, by decide +kernel⟩
theorem o_Mo_init : gw_Ok y_Mo_init 0 := ⟨gw_w3 210 rfl rfl, gw_w1 12 rfl rfl, ⟨by decide +kernel, by decide +kernel, by decide +kernel⟩, by decide, by decide +kernel⟩
theorem o_Mo_put : gw_Ok y_Mo_put 3 := ⟨gw_w4 76 rfl rfl, gw_w1 12 rfl rfl, ⟨by decide +kernel, by decide +kernel, by decide +kernel⟩, by decide, by decide +kernel⟩
theorem o_Mo_in : gw_Ok y_Mo_in 3 := ⟨gw_w4 80 rfl rfl, gw_w1 12 rfl rfl, ⟨by decide +kernel, by decide +kernel, by decide +kernel⟩, by decide, by decide +kernel⟩
theorem o_Mo_changed : gw_Ok y_Mo_changed 1 := ⟨gw_w4 87 rfl rfl, gw_w1 12 rfl rfl, ⟨by decide +kernel, by decide +kernel, by decide +kernel⟩, by decide, by decide +kernel⟩
theorem o_Mo_clear : gw_Ok y_Mo_clear 1 := ⟨gw_w4 91 rfl rfl, gw_w1 12 rfl rfl, ⟨by decide +kernel, by decide +kernel, by decide +kernel⟩, by decide, by decide +kernel⟩
theorem o_Mo_plain : gw_Ok y_Mo_plain 2 := ⟨gw_w4 95 rfl rfl, gw_w1 12 rfl rfl, ⟨by decide +kernel, by decide +kernel, by decide +kernel⟩, by decide, by decide +kernel⟩
theorem o_Mo_cut : gw_Ok y_Mo_cut 2 := ⟨gw_w4 99 rfl rfl, gw_w1 12 rfl rfl, ⟨by decide +kernel, by decide +kernel, by decide +kernel⟩, by decide, by decide +kernel⟩
theorem o_Mo_cutAt : gw_Ok y_Mo_cutAt 2 := ⟨gw_w4 104 rfl rfl, gw_w1 12 rfl rfl, ⟨by decide +kernel, by decide +kernel, by decide +kernel⟩, by decide, by decide +kernel⟩
theorem o_Mo_claim : gw_Ok y_Mo_claim 5 := ⟨gw_w4 108 rfl rfl, gw_w1 12 rfl rfl, ⟨by decide +kernel, by decide +kernel, by decide +kernel⟩, by decide, by decide +kernel⟩
theorem o_Mo_base : gw_Ok y_Mo_base 4 := ⟨gw_w4 113 rfl rfl, gw_w1 12 rfl rfl, ⟨by decide +kernel, by decide +kernel, by decide +kernel⟩, by decide, by decide +kernel⟩
theorem o_Mo_term : gw_Ok y_Mo_term 5 := ⟨gw_w4 119 rfl rfl, gw_w1 12 rfl rfl, ⟨by decide +kernel, by decide +kernel, by decide +kernel⟩, by decide, by decide +kernel⟩
theorem o_Mo_check : gw_Ok y_Mo_check 1 := ⟨gw_w4 125 rfl rfl, gw_w1 12 rfl rfl, ⟨by decide +kernel, by decide +kernel, by decide +kernel⟩, by decide, by decide +kernel⟩
theorem o_Mo_checkCut : gw_Ok y_Mo_checkCut 2 := ⟨gw_w4 129 rfl rfl, gw_w1 12 rfl rfl, ⟨by decide +kernel, by decide +kernel, by decide +kernel⟩, by decide, by decide +kernel⟩
theorem o_Mo_begin : gw_Ok y_Mo_begin 1 := ⟨gw_w4 133 rfl rfl, gw_w1 12 rfl rfl, ⟨by decide +kernel, by decide +kernel, by decide +kernel⟩, by decide, by decide +kernel⟩
theorem o_Mo_know : gw_Ok y_Mo_know 4 := ⟨gw_w4 138 rfl rfl, gw_w1 12 rfl rfl, ⟨by decide +kernel, by decide +kernel, by decide +kernel⟩, by decide, by decide +kernel⟩
theorem o_Mo_least : gw_Ok y_Mo_least 2 := ⟨gw_w4 141 rfl rfl, gw_w1 12 rfl rfl, ⟨by decide +kernel, by decide +kernel, by decide +kernel⟩, by decide, by decide +kernel⟩
theorem o_Mo_addTerm : gw_Ok y_Mo_addTerm 7 := ⟨gw_w4 145 rfl rfl, gw_w1 12 rfl rfl, ⟨by decide +kernel, by decide +kernel, by decide +kernel⟩, by decide, by decide +kernel⟩
theorem o_Mo_findBounds : gw_Ok y_Mo_findBounds 1 := ⟨gw_w4 150 rfl rfl, gw_w1 12 rfl rfl, ⟨by decide +kernel, by decide +kernel, by decide +kernel⟩, by decide, by decide +kernel⟩
theorem o_Mo_negative : gw_Ok y_Mo_negative 1 := ⟨gw_w4 154 rfl rfl, gw_w1 12 rfl rfl, ⟨by decide +kernel, by decide +kernel, by decide +kernel⟩, by decide, by decide +kernel⟩
theorem o_Mo_advance : gw_Ok y_Mo_advance 2 := ⟨gw_w4 158 rfl rfl, gw_w1 12 rfl rfl, ⟨by decide +kernel, by decide +kernel, by decide +kernel⟩, by decide, by decide +kernel⟩
theorem o_Mo_end : gw_Ok y_Mo_end 2 := ⟨gw_w4 162 rfl rfl, gw_w1 12 rfl rfl, ⟨by decide +kernel, by decide +kernel, by decide +kernel⟩, by decide, by decide +kernel⟩
theorem o_Mo_localSide : gw_Ok y_Mo_localSide 2 := ⟨gw_w4 166 rfl rfl, gw_w1 12 rfl rfl, ⟨by decide +kernel, by decide +kernel, by decide +kernel⟩, by decide, by decide +kernel⟩
theorem o_Mo_localNumber : gw_Ok y_Mo_localNumber 2 := ⟨gw_w4 170 rfl rfl, gw_w1 12 rfl rfl, ⟨by decide +kernel, by decide +kernel, by decide +kernel⟩, by decide, by decide +kernel⟩
theorem o_Mo_follows : gw_Ok y_Mo_follows 5 := ⟨gw_w4 174 rfl rfl, gw_w1 12 rfl rfl, ⟨by decide +kernel, by decide +kernel, by decide +kernel⟩, by decide, by decide +kernel⟩
theorem o_Mo_shown : gw_Ok y_Mo_shown 2 := ⟨gw_w4 178 rfl rfl, gw_w1 12 rfl rfl, ⟨by decide +kernel, by decide +kernel, by decide +kernel⟩, by decide, by decide +kernel⟩
theorem o_Mo_part : gw_Ok y_Mo_part 3 := ⟨gw_w4 185 rfl rfl, gw_w1 12 rfl rfl, ⟨by decide +kernel, by decide +kernel, by decide +kernel⟩, by decide, by decide +kernel⟩
theorem o_Mo_pop : gw_Ok y_Mo_pop 1 := ⟨gw_w4 189 rfl rfl, gw_w1 12 rfl rfl, ⟨by decide +kernel, by decide +kernel, by decide +kernel⟩, by decide, by decide +kernel⟩
theorem o_Mo_learn : gw_Ok y_Mo_learn 5 := ⟨gw_w4 193 rfl rfl, gw_w1 12 rfl rfl, ⟨by decide +kernel, by decide +kernel, by decide +kernel⟩, by decide, by decide +kernel⟩
theorem o_Mo_memory : gw_Ok y_Mo_memory 1 := ⟨gw_w4 197 rfl rfl, gw_w1 12 rfl rfl, ⟨by decide +kernel, by decide +kernel, by decide +kernel⟩, by decide, by decide +kernel⟩
theorem o_Mo_called : gw_Ok y_Mo_called 2 := ⟨gw_w4 202 rfl rfl, gw_w1 12 rfl rfl, ⟨by decide +kernel, by decide +kernel, by decide +kernel⟩, by decide, by decide +kernel⟩
theorem o_Mo_side : gw_Ok y_Mo_side 3 := ⟨gw_w4 206 rfl rfl, gw_w1 12 rfl rfl, ⟨by decide +kernel, by decide +kernel, by decide +kernel⟩, by decide, by decide +kernel⟩
theorem o_Mo_extra : gw_Ok y_Mo_extra 3 := ⟨gw_w4 210 rfl rfl, gw_w1 12 rfl rfl, ⟨by decide +kernel, by decide +kernel, by decide +kernel⟩, by decide, by decide +kernel⟩
theorem o_Mo_push : gw_Ok y_Mo_push 3 := ⟨gw_w4 214 rfl rfl, gw_w1 12 rfl rfl, ⟨by decide +kernel, by decide +kernel, by decide +kernel⟩, by decide, by decide +kernel⟩
theorem o_Mo_simple : gw_Ok y_Mo_simple 3 := ⟨gw_w4 218 rfl rfl, gw_w1 12 rfl rfl, ⟨by decide +kernel, by decide +kernel, by decide +kernel⟩, by decide, by decide +kernel⟩
theorem o_Mo_combine : gw_Ok y_Mo_combine 6 := ⟨gw_w4 222 rfl rfl, gw_w1 12 rfl rfl, ⟨by decide +kernel, by decide +kernel, by decide +kernel⟩, by decide, by decide +kernel⟩
theorem o_Mo_accepted : gw_Ok y_Mo_accepted 1 := ⟨gw_w4 226 rfl rfl, gw_w1 12 rfl rfl, ⟨by decide +kernel, by decide +kernel, by decide +kernel⟩, by decide, by decide +kernel⟩
theorem o_Mo_bound : gw_Ok y_Mo_bound 5 := ⟨gw_w4 230 rfl rfl, gw_w1 12 rfl rfl, ⟨by decide +kernel, by decide +kernel, by decide +kernel⟩, by decide, by decide +kernel⟩
theorem o_Mo_argument : gw_Ok y_Mo_argument 4 := ⟨gw_w4 236 rfl rfl, gw_w1 12 rfl rfl, ⟨by decide +kernel, by decide +kernel, by decide +kernel⟩, by decide, by decide +kernel⟩
theorem o_Mo_depth : gw_Ok y_Mo_depth 1 := ⟨gw_w5 0 rfl rfl, gw_w1 12 rfl rfl, ⟨by decide +kernel, by decide +kernel, by decide +kernel⟩, by decide, by decide +kernel⟩
theorem o_Mo_calls : gw_Ok y_Mo_calls 2 := ⟨gw_w5 4 rfl rfl, gw_w1 12 rfl rfl, ⟨by decide +kernel, by decide +kernel, by decide +kernel⟩, by decide, by decide +kernel⟩
theorem o_Mo_greatest : gw_Ok y_Mo_greatest 2 := ⟨gw_w5 7 rfl rfl, gw_w1 12 rfl rfl, ⟨by decide +kernel, by decide +kernel, by decide +kernel⟩, by decide, by decide +kernel⟩
theorem o_Mo_feed : gw_Ok y_Mo_feed 1 := ⟨gw_w5 11 rfl rfl, gw_w1 12 rfl rfl, ⟨by decide +kernel, by decide +kernel, by decide +kernel⟩, by decide, by decide +kernel⟩
theorem o_Mo_run : gw_Ok y_Mo_run 4 := ⟨gw_w5 15 rfl rfl, gw_w1 12 rfl rfl, ⟨by decide +kernel, by decide +kernel, by decide +kernel⟩, by decide, by decide +kernel⟩
theorem o_Mo_enter : gw_Ok y_Mo_enter 4 := ⟨gw_w5 19 rfl rfl, gw_w1 12 rfl rfl, ⟨by decide +kernel, by decide +kernel, by decide +kernel⟩, by decide, by decide +kernel⟩
theorem o_Mo_makeStep : gw_Ok y_Mo_makeStep 0 := ⟨gw_w5 23 rfl rfl, gw_w1 12 rfl rfl, ⟨by decide +kernel, by decide +kernel, by decide +kernel⟩, by decide, by decide +kernel⟩
theorem o_Mo_take : gw_Ok y_Mo_take 1 := ⟨gw_w5 27 rfl rfl, gw_w1 12 rfl rfl, ⟨by decide +kernel, by decide +kernel, by decide +kernel⟩, by decide, by decide +kernel⟩
theorem o_Mo_leave : gw_Ok y_Mo_leave 1 := ⟨gw_w5 31 rfl rfl, gw_w1 12 rfl rfl, ⟨by decide +kernel, by decide +kernel, by decide +kernel⟩, by decide, by decide +kernel⟩
theorem o_Mo_give : gw_Ok y_Mo_give 2 := ⟨gw_w5 35 rfl rfl, gw_w1 12 rfl rfl, ⟨by decide +kernel, by decide +kernel, by decide +kernel⟩, by decide, by decide +kernel⟩
theorem o_Mo_choose : gw_Ok y_Mo_choose 3 := ⟨gw_w5 39 rfl rfl, gw_w1 12 rfl rfl, ⟨by decide +kernel, by decide +kernel, by decide +kernel⟩, by decide, by decide +kernel⟩
theorem o_Mo_work : gw_Ok y_Mo_work 3 := ⟨gw_w5 43 rfl rfl, gw_w1 12 rfl rfl, ⟨by decide +kernel, by decide +kernel, by decide +kernel⟩, by decide, by decide +kernel⟩
theorem o_Mo_fits : gw_Ok y_Mo_fits 1 := ⟨gw_w5 46 rfl rfl, gw_w1 12 rfl rfl, ⟨by decide +kernel, by decide +kernel, by decide +kernel⟩, by decide, by decide +kernel⟩
theorem o_Mo_ran : gw_Ok y_Mo_ran 1 := ⟨gw_w5 51 rfl rfl, gw_w1 12 rfl rfl, ⟨by decide +kernel, by decide +kernel, by decide +kernel⟩, by decide, by decide +kernel⟩
end
section
theorem k_La_9 : gw_KI "CostCheckerLaw" 9 y_CC_init 0 := ⟨o_CC_init, Or.inl (gw_w1 17 rfl rfl), gw_w1 18 rfl rfl, rfl, rfl⟩
theorem k_CC_11 : gw_KI "CostChecker" 11 y_Me_init 1 := ⟨o_Me_init, Or.inl (gw_w1 26 rfl rfl), gw_w1 27 rfl rfl, rfl, rfl⟩
theorem k_Me_28 : gw_KI "CostChecker$Method" 28 y_Cu_init 0 := ⟨o_Cu_init, Or.inl (gw_w1 33 rfl rfl), gw_w1 34 rfl rfl, rfl, rfl⟩
theorem k_Cu_27 : gw_KI "CostChecker$Cut" 27 y_Po_init 0 := ⟨o_Po_init, Or.inr ⟨"CostChecker", gw_l1 40 rfl⟩, gw_w1 41 rfl rfl, rfl, rfl⟩
theorem k_CC_20 : gw_KI "CostChecker" 20 y_Ma_init 1 := ⟨o_Ma_init, Or.inl (gw_w1 141 rfl rfl), gw_w1 142 rfl rfl, rfl, rfl⟩
theorem k_Ma_25 : gw_KI "CostChecker$Machine" 25 y_Fr_init 0 := ⟨o_Fr_init, Or.inr ⟨"CostChecker", gw_l1 148 rfl⟩, gw_w1 149 rfl rfl, rfl, rfl⟩
theorem k_CC_29 : gw_KI "CostChecker" 29 y_Ch_init 1 := ⟨o_Ch_init, Or.inl (gw_w1 209 rfl rfl), gw_w1 210 rfl rfl, rfl, rfl⟩
theorem k_Ch_19 : gw_KI "CostChecker$Checker" 19 y_Sy_init 0 := ⟨o_Sy_init, Or.inr ⟨"CostChecker", gw_l1 217 rfl⟩, gw_w1 218 rfl rfl, rfl, rfl⟩
theorem k_Ch_32 : gw_KI "CostChecker$Checker" 32 y_Pa_init 0 := ⟨o_Pa_init, Or.inl (gw_w1 237 rfl rfl), gw_w1 238 rfl rfl, rfl, rfl⟩
theorem k_Pa_11 : gw_KI "CostChecker$Path" 11 y_Sy_init 0 := ⟨o_Sy_init, Or.inr ⟨"CostChecker", gw_l2 2 rfl⟩, gw_w1 218 rfl rfl, rfl, rfl⟩
theorem k_Pa_28 : gw_KI "CostChecker$Path" 28 y_Kn_init 0 := ⟨o_Kn_init, Or.inr ⟨"CostChecker", gw_l2 5 rfl⟩, gw_w2 6 rfl rfl, rfl, rfl⟩
theorem k_Pa_39 : gw_KI "CostChecker$Path" 39 y_Ba_init 0 := ⟨o_Ba_init, Or.inr ⟨"CostChecker", gw_l2 16 rfl⟩, gw_w2 17 rfl rfl, rfl, rfl⟩
theorem k_La_13 : gw_KV "CostCheckerLaw" 13 y_CC_put 0 3 := ⟨o_CC_put, Or.inl (gw_w2 90 rfl rfl), gw_w2 91 rfl rfl, gw_w2 92 rfl rfl, rfl, rfl⟩
theorem k_CC_38 : gw_KV "CostChecker" 38 y_CC_methodAt 0 1 := ⟨o_CC_methodAt, Or.inl (gw_w2 94 rfl rfl), gw_w2 96 rfl rfl, gw_sl1 (q := (n_CC_methodAt, 4)) (by decide +kernel) rfl rfl, rfl, rfl⟩
theorem k_CC_42 : gw_KS "CostChecker" 42 y_CC_isBetween 3 := ⟨o_CC_isBetween, Or.inl (gw_w2 98 rfl rfl), gw_w2 99 rfl rfl⟩
theorem k_CC_46 : gw_KV "CostChecker" 46 y_Me_append 1 2 := ⟨o_Me_append, Or.inl (gw_w2 101 rfl rfl), gw_w2 102 rfl rfl, gw_w2 103 rfl rfl, rfl, rfl⟩
theorem k_CC_50 : gw_KV "CostChecker" 50 y_CC_noteChange 0 2 := ⟨o_CC_noteChange, Or.inl (gw_w2 105 rfl rfl), gw_w2 107 rfl rfl, gw_sl1 (q := (n_CC_noteChange, 4)) (by decide +kernel) rfl rfl, rfl, rfl⟩
theorem k_La_18 : gw_KV "CostCheckerLaw" 18 y_CC_clear 0 1 := ⟨o_CC_clear, Or.inl (gw_w2 109 rfl rfl), gw_w2 110 rfl rfl, gw_w2 111 rfl rfl, rfl, rfl⟩
theorem k_CC_58 : gw_KV "CostChecker" 58 y_Me_reset 1 0 := ⟨o_Me_reset, Or.inl (gw_w2 113 rfl rfl), gw_w2 114 rfl rfl, gw_w2 115 rfl rfl, rfl, rfl⟩
theorem k_Me_35 : gw_KV "CostChecker$Method" 35 y_Cu_reset 2 1 := ⟨o_Cu_reset, Or.inl (gw_w2 117 rfl rfl), gw_w2 118 rfl rfl, gw_w2 119 rfl rfl, rfl, rfl⟩
theorem k_Cu_35 : gw_KV "CostChecker$Cut" 35 y_Po_reset 3 0 := ⟨o_Po_reset, Or.inl (gw_w2 121 rfl rfl), gw_w2 122 rfl rfl, gw_w2 123 rfl rfl, rfl, rfl⟩
theorem k_La_23 : gw_KV "CostCheckerLaw" 23 y_CC_cut 0 2 := ⟨o_CC_cut, Or.inl (gw_w2 125 rfl rfl), gw_w2 126 rfl rfl, gw_w2 127 rfl rfl, rfl, rfl⟩
theorem k_CC_61 : gw_KV "CostChecker" 61 y_Me_addCut 1 1 := ⟨o_Me_addCut, Or.inl (gw_w2 129 rfl rfl), gw_w2 130 rfl rfl, gw_w2 131 rfl rfl, rfl, rfl⟩
theorem k_Me_42 : gw_KS "CostChecker$Method" 42 y_CC_isBetween 3 := ⟨o_CC_isBetween, Or.inr ⟨"CostChecker", gw_l2 133 rfl⟩, gw_w2 99 rfl rfl⟩
theorem k_Me_46 : gw_KV "CostChecker$Method" 46 y_Me_findCut 1 1 := ⟨o_Me_findCut, Or.inl (gw_w2 134 rfl rfl), gw_w2 135 rfl rfl, gw_w2 136 rfl rfl, rfl, rfl⟩
theorem k_La_28 : gw_KV "CostCheckerLaw" 28 y_CC_claim 0 5 := ⟨o_CC_claim, Or.inl (gw_w2 138 rfl rfl), gw_w2 139 rfl rfl, gw_w2 140 rfl rfl, rfl, rfl⟩
theorem k_CC_65 : gw_KV "CostChecker" 65 y_CC_cutAt 0 2 := ⟨o_CC_cutAt, Or.inl (gw_w2 142 rfl rfl), gw_w2 144 rfl rfl, gw_sl1 (q := (n_CC_cutAt, 4)) (by decide +kernel) rfl rfl, rfl, rfl⟩
theorem k_CC_146 : gw_KV "CostChecker" 146 y_Me_findCut 1 1 := ⟨o_Me_findCut, Or.inl (gw_w2 146 rfl rfl), gw_w2 135 rfl rfl, gw_w2 136 rfl rfl, rfl, rfl⟩
theorem k_CC_69 : gw_KS "CostChecker" 69 y_CC_areTwoSides 2 := ⟨o_CC_areTwoSides, Or.inl (gw_w2 147 rfl rfl), gw_w2 148 rfl rfl⟩
theorem k_CC_72 : gw_KV "CostChecker" 72 y_Cu_addClaim 2 3 := ⟨o_Cu_addClaim, Or.inl (gw_w2 150 rfl rfl), gw_w2 151 rfl rfl, gw_w2 152 rfl rfl, rfl, rfl⟩
theorem k_La_33 : gw_KV "CostCheckerLaw" 33 y_CC_base 0 4 := ⟨o_CC_base, Or.inl (gw_w2 154 rfl rfl), gw_w2 155 rfl rfl, gw_w2 156 rfl rfl, rfl, rfl⟩
theorem k_CC_77 : gw_KS "CostChecker" 77 y_CC_isPotential 1 := ⟨o_CC_isPotential, Or.inl (gw_w2 158 rfl rfl), gw_w2 159 rfl rfl⟩
theorem k_La_38 : gw_KV "CostCheckerLaw" 38 y_CC_term 0 5 := ⟨o_CC_term, Or.inl (gw_w2 161 rfl rfl), gw_w2 162 rfl rfl, gw_w2 163 rfl rfl, rfl, rfl⟩
theorem k_CC_89 : gw_KV "CostChecker" 89 y_Po_addTerm 3 3 := ⟨o_Po_addTerm, Or.inl (gw_w2 165 rfl rfl), gw_w2 166 rfl rfl, gw_w2 167 rfl rfl, rfl, rfl⟩
theorem k_La_42 : gw_KV "CostCheckerLaw" 42 y_CC_check 0 1 := ⟨o_CC_check, Or.inl (gw_w2 169 rfl rfl), gw_w2 170 rfl rfl, gw_w2 171 rfl rfl, rfl, rfl⟩
theorem k_CC_92 : gw_KV "CostChecker" 92 y_Ch_answerFor 6 1 := ⟨o_Ch_answerFor, Or.inl (gw_w2 173 rfl rfl), gw_w2 174 rfl rfl, gw_w2 175 rfl rfl, rfl, rfl⟩
theorem k_Ch_46 : gw_KV "CostChecker$Checker" 46 y_Ch_reasonAtCut 6 1 := ⟨o_Ch_reasonAtCut, Or.inl (gw_w2 177 rfl rfl), gw_w2 179 rfl rfl, gw_sl1 (q := (n_Ch_reasonAtCut, 5)) (by decide +kernel) rfl rfl, rfl, rfl⟩
theorem k_Ch_55 : gw_KV "CostChecker$Checker" 55 y_Pa_beginAt 7 1 := ⟨o_Pa_beginAt, Or.inl (gw_w2 181 rfl rfl), gw_w2 182 rfl rfl, gw_w2 183 rfl rfl, rfl, rfl⟩
theorem k_Pa_53 : gw_KV "CostChecker$Path" 53 y_Sy_standForThemselves 8 0 := ⟨o_Sy_standForThemselves, Or.inl (gw_w2 185 rfl rfl), gw_w2 186 rfl rfl, gw_w2 187 rfl rfl, rfl, rfl⟩
theorem k_Sy_19 : gw_KV "CostChecker$Symbols" 19 y_Sy_set 8 3 := ⟨o_Sy_set, Or.inl (gw_w2 189 rfl rfl), gw_w2 190 rfl rfl, gw_w2 191 rfl rfl, rfl, rfl⟩
theorem k_Pa_56 : gw_KV "CostChecker$Path" 56 y_Ba_reset 10 0 := ⟨o_Ba_reset, Or.inl (gw_w2 193 rfl rfl), gw_w2 194 rfl rfl, gw_w2 195 rfl rfl, rfl, rfl⟩
theorem k_Pa_63 : gw_KV "CostChecker$Path" 63 y_Ba_addPotential 10 3 := ⟨o_Ba_addPotential, Or.inl (gw_w2 197 rfl rfl), gw_w2 198 rfl rfl, gw_w2 199 rfl rfl, rfl, rfl⟩
theorem k_Ba_51 : gw_KV "CostChecker$Balance" 51 y_Ba_addDifference 10 3 := ⟨o_Ba_addDifference, Or.inl (gw_w2 201 rfl rfl), gw_w2 202 rfl rfl, gw_w2 203 rfl rfl, rfl, rfl⟩
theorem k_Pa_67 : gw_KV "CostChecker$Path" 67 y_Kn_forgetAll 9 0 := ⟨o_Kn_forgetAll, Or.inl (gw_w2 205 rfl rfl), gw_w2 206 rfl rfl, gw_w2 207 rfl rfl, rfl, rfl⟩
theorem k_Pa_70 : gw_KV "CostChecker$Path" 70 y_Kn_learnClaims 9 1 := ⟨o_Kn_learnClaims, Or.inl (gw_w2 210 rfl rfl), gw_w2 211 rfl rfl, gw_w2 212 rfl rfl, rfl, rfl⟩
theorem k_Kn_43 : gw_KV "CostChecker$Known" 43 y_Kn_learn 9 3 := ⟨o_Kn_learn, Or.inl (gw_w2 214 rfl rfl), gw_w2 215 rfl rfl, gw_w2 216 rfl rfl, rfl, rfl⟩
theorem k_Kn_23 : gw_KV "CostChecker$Known" 23 y_Kn_boundOf 9 2 := ⟨o_Kn_boundOf, Or.inl (gw_w2 218 rfl rfl), gw_w2 219 rfl rfl, gw_w2 220 rfl rfl, rfl, rfl⟩
theorem k_Ch_67 : gw_KV "CostChecker$Checker" 67 y_Kn_allowsNegative 9 1 := ⟨o_Kn_allowsNegative, Or.inl (gw_w2 222 rfl rfl), gw_w2 223 rfl rfl, gw_w2 224 rfl rfl, rfl, rfl⟩
theorem k_Ch_76 : gw_KV "CostChecker$Checker" 76 y_Ch_reasonFrom 6 1 := ⟨o_Ch_reasonFrom, Or.inl (gw_w2 226 rfl rfl), gw_w2 228 rfl rfl, gw_sl1 (q := (n_Ch_reasonFrom, 5)) (by decide +kernel) rfl rfl, rfl, rfl⟩
theorem k_Ch_81 : gw_KV "CostChecker$Checker" 81 y_Me_hasPlace 1 1 := ⟨o_Me_hasPlace, Or.inl (gw_w2 230 rfl rfl), gw_w2 231 rfl rfl, gw_w2 232 rfl rfl, rfl, rfl⟩
theorem k_Ch_88 : gw_KV "CostChecker$Checker" 88 y_Me_findCut 1 1 := ⟨o_Me_findCut, Or.inl (gw_w2 234 rfl rfl), gw_w2 135 rfl rfl, gw_w2 136 rfl rfl, rfl, rfl⟩
theorem k_Ch_92 : gw_KV "CostChecker$Checker" 92 y_Ch_reasonAtEnd 6 2 := ⟨o_Ch_reasonAtEnd, Or.inl (gw_w2 235 rfl rfl), gw_w2 237 rfl rfl, gw_sl1 (q := (n_Ch_reasonAtEnd, 5)) (by decide +kernel) rfl rfl, rfl, rfl⟩
theorem k_Ch_173 : gw_KV "CostChecker$Checker" 173 y_Kn_showsClaims 9 2 := ⟨o_Kn_showsClaims, Or.inl (gw_w2 239 rfl rfl), gw_w3 0 rfl rfl, gw_w3 1 rfl rfl, rfl, rfl⟩
theorem k_Ch_177 : gw_KV "CostChecker$Checker" 177 y_Po_speaksOfNothing 3 1 := ⟨o_Po_speaksOfNothing, Or.inl (gw_w3 3 rfl rfl), gw_w3 4 rfl rfl, gw_w3 5 rfl rfl, rfl, rfl⟩
theorem k_Ch_183 : gw_KV "CostChecker$Checker" 183 y_Ba_addPotential 10 3 := ⟨o_Ba_addPotential, Or.inl (gw_w3 7 rfl rfl), gw_w2 198 rfl rfl, gw_w2 199 rfl rfl, rfl, rfl⟩
theorem k_Ch_193 : gw_KV "CostChecker$Checker" 193 y_Ba_isShownNotNegative 10 1 := ⟨o_Ba_isShownNotNegative, Or.inl (gw_w3 8 rfl rfl), gw_w3 9 rfl rfl, gw_w3 10 rfl rfl, rfl, rfl⟩
theorem k_Ba_59 : gw_KV "CostChecker$Balance" 59 y_Kn_boundOf 9 2 := ⟨o_Kn_boundOf, Or.inl (gw_w3 12 rfl rfl), gw_w2 219 rfl rfl, gw_w2 220 rfl rfl, rfl, rfl⟩
theorem k_Ch_99 : gw_KS "CostChecker$Checker" 99 y_CC_isCramped 4 := ⟨o_CC_isCramped, Or.inr ⟨"CostChecker", gw_l3 14 rfl⟩, gw_w3 15 rfl rfl⟩
theorem k_Ch_110 : gw_KV "CostChecker$Checker" 110 y_Pa_countInstruction 7 0 := ⟨o_Pa_countInstruction, Or.inl (gw_w3 21 rfl rfl), gw_w3 22 rfl rfl, gw_w3 23 rfl rfl, rfl, rfl⟩
theorem k_Ch_113 : gw_KV "CostChecker$Checker" 113 y_Ch_reasonBehind 6 2 := ⟨o_Ch_reasonBehind, Or.inl (gw_w3 25 rfl rfl), gw_w3 27 rfl rfl, gw_sl1 (q := (n_Ch_reasonBehind, 5)) (by decide +kernel) rfl rfl, rfl, rfl⟩
theorem k_Ch_133 : gw_KV "CostChecker$Checker" 133 y_Pa_drop 7 1 := ⟨o_Pa_drop, Or.inl (gw_w3 29 rfl rfl), gw_w3 30 rfl rfl, gw_w3 31 rfl rfl, rfl, rfl⟩
theorem k_Ch_137 : gw_KV "CostChecker$Checker" 137 y_Pa_copyFrom 7 1 := ⟨o_Pa_copyFrom, Or.inl (gw_w3 36 rfl rfl), gw_w3 37 rfl rfl, gw_w3 38 rfl rfl, rfl, rfl⟩
theorem k_Pa_74 : gw_KV "CostChecker$Path" 74 y_Sy_copyFrom 8 1 := ⟨o_Sy_copyFrom, Or.inl (gw_w3 40 rfl rfl), gw_w3 41 rfl rfl, gw_w3 42 rfl rfl, rfl, rfl⟩
theorem k_Pa_84 : gw_KV "CostChecker$Path" 84 y_Kn_copyFrom 9 1 := ⟨o_Kn_copyFrom, Or.inl (gw_w3 48 rfl rfl), gw_w3 49 rfl rfl, gw_w3 50 rfl rfl, rfl, rfl⟩
theorem k_Pa_87 : gw_KV "CostChecker$Path" 87 y_Ba_copyFrom 10 1 := ⟨o_Ba_copyFrom, Or.inl (gw_w3 53 rfl rfl), gw_w3 54 rfl rfl, gw_w3 55 rfl rfl, rfl, rfl⟩
theorem k_Ch_117 : gw_KV "CostChecker$Checker" 117 y_Pa_learnLess 7 1 := ⟨o_Pa_learnLess, Or.inl (gw_w3 58 rfl rfl), gw_w3 59 rfl rfl, gw_w3 60 rfl rfl, rfl, rfl⟩
theorem k_Pa_125 : gw_KV "CostChecker$Path" 125 y_Kn_learn 9 3 := ⟨o_Kn_learn, Or.inl (gw_w3 62 rfl rfl), gw_w2 215 rfl rfl, gw_w2 216 rfl rfl, rfl, rfl⟩
theorem k_Ch_121 : gw_KV "CostChecker$Checker" 121 y_Ch_reasonOfNew 6 1 := ⟨o_Ch_reasonOfNew, Or.inl (gw_w3 63 rfl rfl), gw_w3 65 rfl rfl, gw_sl1 (q := (n_Ch_reasonOfNew, 5)) (by decide +kernel) rfl rfl, rfl, rfl⟩
theorem k_Ch_148 : gw_KV "CostChecker$Checker" 148 y_Kn_showsNotNegative 9 2 := ⟨o_Kn_showsNotNegative, Or.inl (gw_w3 67 rfl rfl), gw_w3 68 rfl rfl, gw_w3 69 rfl rfl, rfl, rfl⟩
theorem k_Ch_156 : gw_KV "CostChecker$Checker" 156 y_Ba_payWords 10 2 := ⟨o_Ba_payWords, Or.inl (gw_w3 71 rfl rfl), gw_w3 72 rfl rfl, gw_w3 73 rfl rfl, rfl, rfl⟩
theorem k_Ch_125 : gw_KV "CostChecker$Checker" 125 y_Ch_reasonOfCall 6 2 := ⟨o_Ch_reasonOfCall, Or.inl (gw_w3 77 rfl rfl), gw_w3 79 rfl rfl, gw_sl1 (q := (n_Ch_reasonOfCall, 5)) (by decide +kernel) rfl rfl, rfl, rfl⟩
theorem k_Ch_162 : gw_KV "CostChecker$Checker" 162 y_Sy_standForThemselves 8 0 := ⟨o_Sy_standForThemselves, Or.inl (gw_w3 81 rfl rfl), gw_w2 186 rfl rfl, gw_w2 187 rfl rfl, rfl, rfl⟩
theorem k_Ch_165 : gw_KV "CostChecker$Checker" 165 y_Sy_set 8 3 := ⟨o_Sy_set, Or.inl (gw_w3 82 rfl rfl), gw_w2 190 rfl rfl, gw_w2 191 rfl rfl, rfl, rfl⟩
theorem k_Ch_187 : gw_KV "CostChecker$Checker" 187 y_Pa_push 7 2 := ⟨o_Pa_push, Or.inl (gw_w3 83 rfl rfl), gw_w3 84 rfl rfl, gw_w3 85 rfl rfl, rfl, rfl⟩
theorem k_Ch_129 : gw_KV "CostChecker$Checker" 129 y_Pa_performPlain 7 2 := ⟨o_Pa_performPlain, Or.inl (gw_w3 87 rfl rfl), gw_w3 88 rfl rfl, gw_w3 89 rfl rfl, rfl, rfl⟩
theorem k_Pa_100 : gw_KV "CostChecker$Path" 100 y_Pa_push 7 2 := ⟨o_Pa_push, Or.inl (gw_w3 91 rfl rfl), gw_w3 84 rfl rfl, gw_w3 85 rfl rfl, rfl, rfl⟩
theorem k_Pa_110 : gw_KV "CostChecker$Path" 110 y_Pa_drop 7 1 := ⟨o_Pa_drop, Or.inl (gw_w3 92 rfl rfl), gw_w3 30 rfl rfl, gw_w3 31 rfl rfl, rfl, rfl⟩
theorem k_Pa_114 : gw_KV "CostChecker$Path" 114 y_Sy_set 8 3 := ⟨o_Sy_set, Or.inl (gw_w3 93 rfl rfl), gw_w2 190 rfl rfl, gw_w2 191 rfl rfl, rfl, rfl⟩
theorem k_Pa_118 : gw_KV "CostChecker$Path" 118 y_Pa_pushSum 7 2 := ⟨o_Pa_pushSum, Or.inl (gw_w3 94 rfl rfl), gw_w3 96 rfl rfl, gw_sl1 (q := (n_Pa_pushSum, 8)) (by decide +kernel) rfl rfl, rfl, rfl⟩
theorem k_Pa_122 : gw_KV "CostChecker$Path" 122 y_Pa_pushDifference 7 2 := ⟨o_Pa_pushDifference, Or.inl (gw_w3 98 rfl rfl), gw_w3 100 rfl rfl, gw_sl1 (q := (n_Pa_pushDifference, 8)) (by decide +kernel) rfl rfl, rfl, rfl⟩
theorem k_La_47 : gw_KV "CostCheckerLaw" 47 y_CC_accepted 0 1 := ⟨o_CC_accepted, Or.inl (gw_w3 102 rfl rfl), gw_w3 103 rfl rfl, gw_w3 104 rfl rfl, rfl, rfl⟩
theorem k_La_51 : gw_KV "CostCheckerLaw" 51 y_CC_bound 0 5 := ⟨o_CC_bound, Or.inl (gw_w3 106 rfl rfl), gw_w3 107 rfl rfl, gw_w3 108 rfl rfl, rfl, rfl⟩
theorem k_CC_100 : gw_KS "CostChecker" 100 y_CC_areValues 3 := ⟨o_CC_areValues, Or.inl (gw_w3 110 rfl rfl), gw_w3 111 rfl rfl⟩
theorem k_CC_124 : gw_KS "CostChecker" 124 y_CC_isValue 1 := ⟨o_CC_isValue, Or.inl (gw_w3 113 rfl rfl), gw_w3 114 rfl rfl⟩
theorem k_CC_109 : gw_KV "CostChecker" 109 y_Cu_holdsFor 2 1 := ⟨o_Cu_holdsFor, Or.inl (gw_w3 119 rfl rfl), gw_w3 120 rfl rfl, gw_w3 121 rfl rfl, rfl, rfl⟩
theorem k_CC_113 : gw_KV "CostChecker" 113 y_Po_valueFor 3 1 := ⟨o_Po_valueFor, Or.inl (gw_w3 123 rfl rfl), gw_w3 124 rfl rfl, gw_w3 125 rfl rfl, rfl, rfl⟩
theorem k_La_56 : gw_KV "CostCheckerLaw" 56 y_CC_depth 0 1 := ⟨o_CC_depth, Or.inl (gw_w3 127 rfl rfl), gw_w3 128 rfl rfl, gw_w3 129 rfl rfl, rfl, rfl⟩
theorem k_CC_117 : gw_KV "CostChecker" 117 y_CC_measureDepth 0 1 := ⟨o_CC_measureDepth, Or.inl (gw_w3 131 rfl rfl), gw_w3 133 rfl rfl, gw_sl1 (q := (n_CC_measureDepth, 4)) (by decide +kernel) rfl rfl, rfl, rfl⟩
theorem k_La_60 : gw_KV "CostCheckerLaw" 60 y_CC_feed 0 1 := ⟨o_CC_feed, Or.inl (gw_w3 136 rfl rfl), gw_w3 137 rfl rfl, gw_w3 138 rfl rfl, rfl, rfl⟩
theorem k_CC_127 : gw_KV "CostChecker" 127 y_Ma_addInput 4 1 := ⟨o_Ma_addInput, Or.inl (gw_w3 140 rfl rfl), gw_w3 141 rfl rfl, gw_w3 142 rfl rfl, rfl, rfl⟩
theorem k_La_64 : gw_KV "CostCheckerLaw" 64 y_CC_run 0 4 := ⟨o_CC_run, Or.inl (gw_w3 144 rfl rfl), gw_w3 145 rfl rfl, gw_w3 146 rfl rfl, rfl, rfl⟩
theorem k_CC_130 : gw_KV "CostChecker" 130 y_Ma_runToEnd 4 4 := ⟨o_Ma_runToEnd, Or.inl (gw_w3 148 rfl rfl), gw_w3 149 rfl rfl, gw_w3 150 rfl rfl, rfl, rfl⟩
theorem k_Ma_48 : gw_KV "CostChecker$Machine" 48 y_Fr_enter 5 4 := ⟨o_Fr_enter, Or.inl (gw_w3 152 rfl rfl), gw_w3 153 rfl rfl, gw_w3 154 rfl rfl, rfl, rfl⟩
theorem k_Ma_52 : gw_KV "CostChecker$Machine" 52 y_Ma_step 4 0 := ⟨o_Ma_step, Or.inl (gw_w3 156 rfl rfl), gw_w3 158 rfl rfl, gw_sl1 (q := (n_Ma_step, 10)) (by decide +kernel) rfl rfl, rfl, rfl⟩
theorem k_Ma_65 : gw_KS "CostChecker$Machine" 65 y_CC_isCramped 4 := ⟨o_CC_isCramped, Or.inr ⟨"CostChecker", gw_l3 160 rfl⟩, gw_w3 15 rfl rfl⟩
theorem k_Ma_77 : gw_KV "CostChecker$Machine" 77 y_Ma_perform 4 3 := ⟨o_Ma_perform, Or.inl (gw_w3 161 rfl rfl), gw_w3 163 rfl rfl, gw_sl1 (q := (n_Ma_perform, 10)) (by decide +kernel) rfl rfl, rfl, rfl⟩
theorem k_Ma_85 : gw_KV "CostChecker$Machine" 85 y_Fr_push 5 1 := ⟨o_Fr_push, Or.inl (gw_w3 165 rfl rfl), gw_w3 166 rfl rfl, gw_w3 167 rfl rfl, rfl, rfl⟩
theorem k_Ma_92 : gw_KV "CostChecker$Machine" 92 y_Fr_pop 5 0 := ⟨o_Fr_pop, Or.inl (gw_w3 169 rfl rfl), gw_w3 170 rfl rfl, gw_w3 171 rfl rfl, rfl, rfl⟩
theorem k_Ma_95 : gw_KS "CostChecker$Machine" 95 y_Ma_pushSum 3 := ⟨o_Ma_pushSum, Or.inl (gw_w3 173 rfl rfl), gw_w3 174 rfl rfl⟩
theorem k_Ma_119 : gw_KS "CostChecker$Machine" 119 y_CC_isValue 1 := ⟨o_CC_isValue, Or.inr ⟨"CostChecker", gw_l3 176 rfl⟩, gw_w3 114 rfl rfl⟩
theorem k_Ma_98 : gw_KS "CostChecker$Machine" 98 y_Ma_growLocal 3 := ⟨o_Ma_growLocal, Or.inl (gw_w3 177 rfl rfl), gw_w3 178 rfl rfl⟩
theorem k_Ma_101 : gw_KS "CostChecker$Machine" 101 y_Ma_goIf 3 := ⟨o_Ma_goIf, Or.inl (gw_w3 180 rfl rfl), gw_w3 181 rfl rfl⟩
theorem k_Ma_105 : gw_KV "CostChecker$Machine" 105 y_Ma_takeWords 4 1 := ⟨o_Ma_takeWords, Or.inl (gw_w3 183 rfl rfl), gw_w3 185 rfl rfl, gw_sl1 (q := (n_Ma_takeWords, 10)) (by decide +kernel) rfl rfl, rfl, rfl⟩
theorem k_Ma_109 : gw_KV "CostChecker$Machine" 109 y_Ma_enterCalled 4 2 := ⟨o_Ma_enterCalled, Or.inl (gw_w3 188 rfl rfl), gw_w3 190 rfl rfl, gw_sl1 (q := (n_Ma_enterCalled, 10)) (by decide +kernel) rfl rfl, rfl, rfl⟩
theorem k_Ma_113 : gw_KV "CostChecker$Machine" 113 y_Ma_leave 4 1 := ⟨o_Ma_leave, Or.inl (gw_w3 193 rfl rfl), gw_w3 195 rfl rfl, gw_sl1 (q := (n_Ma_leave, 10)) (by decide +kernel) rfl rfl, rfl, rfl⟩
theorem k_Ma_116 : gw_KV "CostChecker$Machine" 116 y_Ma_nextInput 4 0 := ⟨o_Ma_nextInput, Or.inl (gw_w3 197 rfl rfl), gw_w3 199 rfl rfl, gw_sl1 (q := (n_Ma_nextInput, 10)) (by decide +kernel) rfl rfl, rfl, rfl⟩
theorem k_Ma_81 : gw_KV "CostChecker$Machine" 81 y_Me_hasPlace 1 1 := ⟨o_Me_hasPlace, Or.inl (gw_w3 201 rfl rfl), gw_w2 231 rfl rfl, gw_w2 232 rfl rfl, rfl, rfl⟩
theorem k_La_69 : gw_KV "CostCheckerLaw" 69 y_CC_ran 0 1 := ⟨o_CC_ran, Or.inl (gw_w3 202 rfl rfl), gw_w3 203 rfl rfl, gw_w3 204 rfl rfl, rfl, rfl⟩
theorem k_La_12 : gw_KI "CostCheckerLaw" 12 y_Mo_init 0 := ⟨o_Mo_init, Or.inl (gw_w3 208 rfl rfl), gw_w3 209 rfl rfl, rfl, rfl⟩
theorem k_La_17 : gw_KV "CostCheckerLaw" 17 y_Mo_put 11 3 := ⟨o_Mo_put, Or.inl (gw_w4 73 rfl rfl), gw_w4 74 rfl rfl, gw_w4 75 rfl rfl, rfl, rfl⟩
theorem k_Mo_86 : gw_KS "CostCheckerModel" 86 y_Mo_in 3 := ⟨o_Mo_in, Or.inl (gw_w4 78 rfl rfl), gw_w4 79 rfl rfl⟩
theorem k_Mo_96 : gw_KV "CostCheckerModel" 96 y_Mo_changed 11 1 := ⟨o_Mo_changed, Or.inl (gw_w4 84 rfl rfl), gw_w4 86 rfl rfl, gw_sl1 (q := (n_Mo_changed, 33)) (by decide +kernel) rfl rfl, rfl, rfl⟩
theorem k_La_22 : gw_KV "CostCheckerLaw" 22 y_Mo_clear 11 1 := ⟨o_Mo_clear, Or.inl (gw_w4 88 rfl rfl), gw_w4 89 rfl rfl, gw_w4 90 rfl rfl, rfl, rfl⟩
theorem k_Mo_100 : gw_KV "CostCheckerModel" 100 y_Mo_plain 11 2 := ⟨o_Mo_plain, Or.inl (gw_w4 92 rfl rfl), gw_w4 94 rfl rfl, gw_sl1 (q := (n_Mo_plain, 33)) (by decide +kernel) rfl rfl, rfl, rfl⟩
theorem k_La_27 : gw_KV "CostCheckerLaw" 27 y_Mo_cut 11 2 := ⟨o_Mo_cut, Or.inl (gw_w4 96 rfl rfl), gw_w4 97 rfl rfl, gw_w4 98 rfl rfl, rfl, rfl⟩
theorem k_Mo_106 : gw_KV "CostCheckerModel" 106 y_Mo_cutAt 11 2 := ⟨o_Mo_cutAt, Or.inl (gw_w4 101 rfl rfl), gw_w4 103 rfl rfl, gw_sl1 (q := (n_Mo_cutAt, 33)) (by decide +kernel) rfl rfl, rfl, rfl⟩
theorem k_La_32 : gw_KV "CostCheckerLaw" 32 y_Mo_claim 11 5 := ⟨o_Mo_claim, Or.inl (gw_w4 105 rfl rfl), gw_w4 106 rfl rfl, gw_w4 107 rfl rfl, rfl, rfl⟩
theorem k_La_37 : gw_KV "CostCheckerLaw" 37 y_Mo_base 11 4 := ⟨o_Mo_base, Or.inl (gw_w4 110 rfl rfl), gw_w4 111 rfl rfl, gw_w4 112 rfl rfl, rfl, rfl⟩
theorem k_La_41 : gw_KV "CostCheckerLaw" 41 y_Mo_term 11 5 := ⟨o_Mo_term, Or.inl (gw_w4 116 rfl rfl), gw_w4 117 rfl rfl, gw_w4 118 rfl rfl, rfl, rfl⟩
theorem k_La_46 : gw_KV "CostCheckerLaw" 46 y_Mo_check 11 1 := ⟨o_Mo_check, Or.inl (gw_w4 122 rfl rfl), gw_w4 123 rfl rfl, gw_w4 124 rfl rfl, rfl, rfl⟩
theorem k_Mo_128 : gw_KV "CostCheckerModel" 128 y_Mo_checkCut 11 2 := ⟨o_Mo_checkCut, Or.inl (gw_w4 126 rfl rfl), gw_w4 128 rfl rfl, gw_sl1 (q := (n_Mo_checkCut, 33)) (by decide +kernel) rfl rfl, rfl, rfl⟩
theorem k_Mo_139 : gw_KV "CostCheckerModel" 139 y_Mo_begin 11 1 := ⟨o_Mo_begin, Or.inl (gw_w4 130 rfl rfl), gw_w4 132 rfl rfl, gw_sl1 (q := (n_Mo_begin, 33)) (by decide +kernel) rfl rfl, rfl, rfl⟩
theorem k_Mo_131 : gw_KV "CostCheckerModel" 131 y_Mo_know 11 4 := ⟨o_Mo_know, Or.inl (gw_w4 135 rfl rfl), gw_w4 137 rfl rfl, gw_sl1 (q := (n_Mo_know, 33)) (by decide +kernel) rfl rfl, rfl, rfl⟩
theorem k_Mo_120 : gw_KS "CostCheckerModel" 120 y_Mo_least 2 := ⟨o_Mo_least, Or.inl (gw_w4 139 rfl rfl), gw_w4 140 rfl rfl⟩
theorem k_Mo_135 : gw_KV "CostCheckerModel" 135 y_Mo_addTerm 11 7 := ⟨o_Mo_addTerm, Or.inl (gw_w4 142 rfl rfl), gw_w4 144 rfl rfl, gw_sl1 (q := (n_Mo_addTerm, 33)) (by decide +kernel) rfl rfl, rfl, rfl⟩
theorem k_Mo_142 : gw_KV "CostCheckerModel" 142 y_Mo_findBounds 11 1 := ⟨o_Mo_findBounds, Or.inl (gw_w4 147 rfl rfl), gw_w4 149 rfl rfl, gw_sl1 (q := (n_Mo_findBounds, 33)) (by decide +kernel) rfl rfl, rfl, rfl⟩
theorem k_Mo_146 : gw_KV "CostCheckerModel" 146 y_Mo_negative 11 1 := ⟨o_Mo_negative, Or.inl (gw_w4 151 rfl rfl), gw_w4 153 rfl rfl, gw_sl1 (q := (n_Mo_negative, 33)) (by decide +kernel) rfl rfl, rfl, rfl⟩
theorem k_Mo_156 : gw_KV "CostCheckerModel" 156 y_Mo_advance 11 2 := ⟨o_Mo_advance, Or.inl (gw_w4 155 rfl rfl), gw_w4 157 rfl rfl, gw_sl1 (q := (n_Mo_advance, 33)) (by decide +kernel) rfl rfl, rfl, rfl⟩
theorem k_Mo_159 : gw_KV "CostCheckerModel" 159 y_Mo_end 11 2 := ⟨o_Mo_end, Or.inl (gw_w4 159 rfl rfl), gw_w4 161 rfl rfl, gw_sl1 (q := (n_Mo_end, 33)) (by decide +kernel) rfl rfl, rfl, rfl⟩
theorem k_Mo_211 : gw_KV "CostCheckerModel" 211 y_Mo_localSide 11 2 := ⟨o_Mo_localSide, Or.inl (gw_w4 163 rfl rfl), gw_w4 165 rfl rfl, gw_sl1 (q := (n_Mo_localSide, 33)) (by decide +kernel) rfl rfl, rfl, rfl⟩
theorem k_Mo_215 : gw_KV "CostCheckerModel" 215 y_Mo_localNumber 11 2 := ⟨o_Mo_localNumber, Or.inl (gw_w4 167 rfl rfl), gw_w4 169 rfl rfl, gw_sl1 (q := (n_Mo_localNumber, 33)) (by decide +kernel) rfl rfl, rfl, rfl⟩
theorem k_Mo_200 : gw_KV "CostCheckerModel" 200 y_Mo_follows 11 5 := ⟨o_Mo_follows, Or.inl (gw_w4 171 rfl rfl), gw_w4 173 rfl rfl, gw_sl1 (q := (n_Mo_follows, 33)) (by decide +kernel) rfl rfl, rfl, rfl⟩
theorem k_Mo_218 : gw_KV "CostCheckerModel" 218 y_Mo_shown 11 2 := ⟨o_Mo_shown, Or.inl (gw_w4 175 rfl rfl), gw_w4 177 rfl rfl, gw_sl1 (q := (n_Mo_shown, 33)) (by decide +kernel) rfl rfl, rfl, rfl⟩
theorem k_Mo_168 : gw_KV "CostCheckerModel" 168 y_Mo_part 11 3 := ⟨o_Mo_part, Or.inl (gw_w4 182 rfl rfl), gw_w4 184 rfl rfl, gw_sl1 (q := (n_Mo_part, 33)) (by decide +kernel) rfl rfl, rfl, rfl⟩
theorem k_Mo_189 : gw_KV "CostCheckerModel" 189 y_Mo_pop 11 1 := ⟨o_Mo_pop, Or.inl (gw_w4 186 rfl rfl), gw_w4 188 rfl rfl, gw_sl1 (q := (n_Mo_pop, 33)) (by decide +kernel) rfl rfl, rfl, rfl⟩
theorem k_Mo_196 : gw_KV "CostCheckerModel" 196 y_Mo_learn 11 5 := ⟨o_Mo_learn, Or.inl (gw_w4 190 rfl rfl), gw_w4 192 rfl rfl, gw_sl1 (q := (n_Mo_learn, 33)) (by decide +kernel) rfl rfl, rfl, rfl⟩
theorem k_Mo_172 : gw_KV "CostCheckerModel" 172 y_Mo_memory 11 1 := ⟨o_Mo_memory, Or.inl (gw_w4 194 rfl rfl), gw_w4 196 rfl rfl, gw_sl1 (q := (n_Mo_memory, 33)) (by decide +kernel) rfl rfl, rfl, rfl⟩
theorem k_Mo_176 : gw_KV "CostCheckerModel" 176 y_Mo_called 11 2 := ⟨o_Mo_called, Or.inl (gw_w4 199 rfl rfl), gw_w4 201 rfl rfl, gw_sl1 (q := (n_Mo_called, 33)) (by decide +kernel) rfl rfl, rfl, rfl⟩
theorem k_Mo_204 : gw_KV "CostCheckerModel" 204 y_Mo_side 11 3 := ⟨o_Mo_side, Or.inl (gw_w4 203 rfl rfl), gw_w4 205 rfl rfl, gw_sl1 (q := (n_Mo_side, 33)) (by decide +kernel) rfl rfl, rfl, rfl⟩
theorem k_Mo_208 : gw_KV "CostCheckerModel" 208 y_Mo_extra 11 3 := ⟨o_Mo_extra, Or.inl (gw_w4 207 rfl rfl), gw_w4 209 rfl rfl, gw_sl1 (q := (n_Mo_extra, 33)) (by decide +kernel) rfl rfl, rfl, rfl⟩
theorem k_Mo_183 : gw_KV "CostCheckerModel" 183 y_Mo_push 11 3 := ⟨o_Mo_push, Or.inl (gw_w4 211 rfl rfl), gw_w4 213 rfl rfl, gw_sl1 (q := (n_Mo_push, 33)) (by decide +kernel) rfl rfl, rfl, rfl⟩
theorem k_Mo_179 : gw_KV "CostCheckerModel" 179 y_Mo_simple 11 3 := ⟨o_Mo_simple, Or.inl (gw_w4 215 rfl rfl), gw_w4 217 rfl rfl, gw_sl1 (q := (n_Mo_simple, 33)) (by decide +kernel) rfl rfl, rfl, rfl⟩
theorem k_Mo_192 : gw_KV "CostCheckerModel" 192 y_Mo_combine 11 6 := ⟨o_Mo_combine, Or.inl (gw_w4 219 rfl rfl), gw_w4 221 rfl rfl, gw_sl1 (q := (n_Mo_combine, 33)) (by decide +kernel) rfl rfl, rfl, rfl⟩
theorem k_La_50 : gw_KV "CostCheckerLaw" 50 y_Mo_accepted 11 1 := ⟨o_Mo_accepted, Or.inl (gw_w4 223 rfl rfl), gw_w4 224 rfl rfl, gw_w4 225 rfl rfl, rfl, rfl⟩
theorem k_La_55 : gw_KV "CostCheckerLaw" 55 y_Mo_bound 11 5 := ⟨o_Mo_bound, Or.inl (gw_w4 227 rfl rfl), gw_w4 228 rfl rfl, gw_w4 229 rfl rfl, rfl, rfl⟩
theorem k_Mo_226 : gw_KV "CostCheckerModel" 226 y_Mo_accepted 11 1 := ⟨o_Mo_accepted, Or.inl (gw_w4 233 rfl rfl), gw_w4 224 rfl rfl, gw_w4 225 rfl rfl, rfl, rfl⟩
theorem k_Mo_228 : gw_KS "CostCheckerModel" 228 y_Mo_argument 4 := ⟨o_Mo_argument, Or.inl (gw_w4 234 rfl rfl), gw_w4 235 rfl rfl⟩
theorem k_La_59 : gw_KV "CostCheckerLaw" 59 y_Mo_depth 11 1 := ⟨o_Mo_depth, Or.inl (gw_w4 237 rfl rfl), gw_w4 238 rfl rfl, gw_w4 239 rfl rfl, rfl, rfl⟩
theorem k_Mo_232 : gw_KV "CostCheckerModel" 232 y_Mo_calls 11 2 := ⟨o_Mo_calls, Or.inl (gw_w5 1 rfl rfl), gw_w5 3 rfl rfl, gw_sl1 (q := (n_Mo_calls, 33)) (by decide +kernel) rfl rfl, rfl, rfl⟩
theorem k_Mo_235 : gw_KS "CostCheckerModel" 235 y_Mo_greatest 2 := ⟨o_Mo_greatest, Or.inl (gw_w5 5 rfl rfl), gw_w5 6 rfl rfl⟩
theorem k_La_63 : gw_KV "CostCheckerLaw" 63 y_Mo_feed 11 1 := ⟨o_Mo_feed, Or.inl (gw_w5 8 rfl rfl), gw_w5 9 rfl rfl, gw_w5 10 rfl rfl, rfl, rfl⟩
theorem k_La_68 : gw_KV "CostCheckerLaw" 68 y_Mo_run 11 4 := ⟨o_Mo_run, Or.inl (gw_w5 12 rfl rfl), gw_w5 13 rfl rfl, gw_w5 14 rfl rfl, rfl, rfl⟩
theorem k_Mo_259 : gw_KV "CostCheckerModel" 259 y_Mo_enter 11 4 := ⟨o_Mo_enter, Or.inl (gw_w5 16 rfl rfl), gw_w5 18 rfl rfl, gw_sl1 (q := (n_Mo_enter, 33)) (by decide +kernel) rfl rfl, rfl, rfl⟩
theorem k_Mo_263 : gw_KV "CostCheckerModel" 263 y_Mo_makeStep 11 0 := ⟨o_Mo_makeStep, Or.inl (gw_w5 20 rfl rfl), gw_w5 22 rfl rfl, gw_sl1 (q := (n_Mo_makeStep, 33)) (by decide +kernel) rfl rfl, rfl, rfl⟩
theorem k_Mo_267 : gw_KV "CostCheckerModel" 267 y_Mo_take 11 1 := ⟨o_Mo_take, Or.inl (gw_w5 24 rfl rfl), gw_w5 26 rfl rfl, gw_sl1 (q := (n_Mo_take, 33)) (by decide +kernel) rfl rfl, rfl, rfl⟩
theorem k_Mo_270 : gw_KV "CostCheckerModel" 270 y_Mo_leave 11 1 := ⟨o_Mo_leave, Or.inl (gw_w5 28 rfl rfl), gw_w5 30 rfl rfl, gw_sl1 (q := (n_Mo_leave, 33)) (by decide +kernel) rfl rfl, rfl, rfl⟩
theorem k_Mo_280 : gw_KV "CostCheckerModel" 280 y_Mo_give 11 2 := ⟨o_Mo_give, Or.inl (gw_w5 32 rfl rfl), gw_w5 34 rfl rfl, gw_sl1 (q := (n_Mo_give, 33)) (by decide +kernel) rfl rfl, rfl, rfl⟩
theorem k_Mo_273 : gw_KV "CostCheckerModel" 273 y_Mo_choose 11 3 := ⟨o_Mo_choose, Or.inl (gw_w5 36 rfl rfl), gw_w5 38 rfl rfl, gw_sl1 (q := (n_Mo_choose, 33)) (by decide +kernel) rfl rfl, rfl, rfl⟩
theorem k_Mo_276 : gw_KV "CostCheckerModel" 276 y_Mo_work 11 3 := ⟨o_Mo_work, Or.inl (gw_w5 40 rfl rfl), gw_w5 42 rfl rfl, gw_sl1 (q := (n_Mo_work, 33)) (by decide +kernel) rfl rfl, rfl, rfl⟩
theorem k_Mo_283 : gw_KS "CostCheckerModel" 283 y_Mo_fits 1 := ⟨o_Mo_fits, Or.inl (gw_w5 44 rfl rfl), gw_w5 45 rfl rfl⟩
theorem k_La_72 : gw_KV "CostCheckerLaw" 72 y_Mo_ran 11 1 := ⟨o_Mo_ran, Or.inl (gw_w5 48 rfl rfl), gw_w5 49 rfl rfl, gw_w5 50 rfl rfl, rfl, rfl⟩
theorem j_CC_3 : Cond.methodLink "CostChecker" 3 Lib.objectInit ∈ gw_all := gw_w1 20 rfl rfl
theorem j_Me_3 : Cond.methodLink "CostChecker$Method" 3 Lib.objectInit ∈ gw_all := gw_w1 29 rfl rfl
theorem j_Cu_3 : Cond.methodLink "CostChecker$Cut" 3 Lib.objectInit ∈ gw_all := gw_w1 36 rfl rfl
theorem j_Po_3 : Cond.methodLink "CostChecker$Potential" 3 Lib.objectInit ∈ gw_all := gw_w1 43 rfl rfl
theorem j_Ma_3 : Cond.methodLink "CostChecker$Machine" 3 Lib.objectInit ∈ gw_all := gw_w1 144 rfl rfl
theorem j_Fr_3 : Cond.methodLink "CostChecker$Frame" 3 Lib.objectInit ∈ gw_all := gw_w1 151 rfl rfl
theorem j_Ch_3 : Cond.methodLink "CostChecker$Checker" 3 Lib.objectInit ∈ gw_all := gw_w1 212 rfl rfl
theorem j_Sy_3 : Cond.methodLink "CostChecker$Symbols" 3 Lib.objectInit ∈ gw_all := gw_w1 220 rfl rfl
theorem j_Pa_3 : Cond.methodLink "CostChecker$Path" 3 Lib.objectInit ∈ gw_all := gw_w2 0 rfl rfl
theorem j_Kn_3 : Cond.methodLink "CostChecker$Known" 3 Lib.objectInit ∈ gw_all := gw_w2 8 rfl rfl
theorem j_Ba_3 : Cond.methodLink "CostChecker$Balance" 3 Lib.objectInit ∈ gw_all := gw_w2 19 rfl rfl
theorem j_Pa_94 : Cond.methodLink "CostChecker$Path" 94 Lib.Math.max.name ∈ gw_all := gw_w3 33 rfl rfl
theorem j_Sy_23 : Cond.methodLink "CostChecker$Symbols" 23 arraycopyName ∈ gw_all := gw_w3 44 rfl rfl
theorem j_Pa_78 : Cond.methodLink "CostChecker$Path" 78 arraycopyName ∈ gw_all := gw_w3 47 rfl rfl
theorem j_Kn_17 : Cond.methodLink "CostChecker$Known" 17 arraycopyName ∈ gw_all := gw_w3 52 rfl rfl
theorem j_Ba_19 : Cond.methodLink "CostChecker$Balance" 19 arraycopyName ∈ gw_all := gw_w3 57 rfl rfl
theorem j_CC_159 : Cond.methodLink "CostChecker" 159 Lib.Math.max.name ∈ gw_all := gw_w3 135 rfl rfl
theorem j_Ma_123 : Cond.methodLink "CostChecker$Machine" 123 Lib.Math.max.name ∈ gw_all := gw_w3 192 rfl rfl
theorem j_Mo_1 : Cond.methodLink "CostCheckerModel" 1 Lib.objectInit ∈ gw_all := gw_w3 211 rfl rfl
theorem gw_jo1 : Cond.instanceMethod Lib.objectInit ∈ gw_all := gw_w1 21 rfl rfl
theorem gw_jm1 : Cond.static Lib.Math.max.name ∈ gw_all := gw_w3 34 rfl rfl
theorem gw_jm2 : Cond.initialized "java/lang/Math" ∈ gw_all := gw_w1 13 rfl rfl
theorem gw_js1 : Cond.native arraycopyName ∈ gw_all := gw_w3 46 rfl rfl
theorem gw_js2 : Cond.static arraycopyName ∈ gw_all := gw_w3 45 rfl rfl
theorem gw_js3 : Cond.initialized "java/lang/System" ∈ gw_all := gw_w1 14 rfl rfl
theorem gw_aI : Cond.arrayClass .int ∈ gw_all := gw_w1 71 rfl rfl
theorem gw_aL : Cond.arrayClass .long ∈ gw_all := gw_w1 235 rfl rfl
theorem gw_aZ : Cond.arrayClass .boolean ∈ gw_all := gw_w4 72 rfl rfl
theorem gw_jo2 : Cond.code Lib.objectInit ⟨#[0xb1]⟩ 1 none ∈ gw_all := gw_w1 22 rfl rfl
theorem gw_jm3 : Cond.code Lib.Math.max.name Lib.Math.max.code 2 (some .int) ∈ gw_all := gw_w3 35 rfl rfl
theorem c_La_7 : Cond.classLink "CostCheckerLaw" 7 (gw_c 0).1 ∈ gw_all := gw_w1 15 rfl rfl
theorem c_CC_9 : Cond.classLink "CostChecker" 9 (gw_c 1).1 ∈ gw_all := gw_w1 23 rfl rfl
theorem e_CC_9 : Cond.classLink "CostChecker" 9 "CostChecker$Method" ∈ gw_all := gw_w1 23 rfl rfl
theorem v_Me : Cond.arrayOver (.object "CostChecker$Method") ∈ lw_tbl := gw_l1 24 rfl
theorem c_Me_18 : Cond.classLink "CostChecker$Method" 18 (gw_c 2).1 ∈ gw_all := gw_w1 30 rfl rfl
theorem e_Me_18 : Cond.classLink "CostChecker$Method" 18 "CostChecker$Cut" ∈ gw_all := gw_w1 30 rfl rfl
theorem v_Cu : Cond.arrayOver (.object "CostChecker$Cut") ∈ lw_tbl := gw_l1 31 rfl
theorem c_Cu_21 : Cond.classLink "CostChecker$Cut" 21 (gw_c 3).1 ∈ gw_all := gw_w1 37 rfl rfl
theorem e_Cu_21 : Cond.classLink "CostChecker$Cut" 21 "CostChecker$Potential" ∈ gw_all := gw_w1 37 rfl rfl
theorem v_Po : Cond.arrayOver (.object "CostChecker$Potential") ∈ lw_tbl := gw_l1 38 rfl
theorem c_CC_18 : Cond.classLink "CostChecker" 18 (gw_c 4).1 ∈ gw_all := gw_w1 139 rfl rfl
theorem c_Ma_9 : Cond.classLink "CostChecker$Machine" 9 (gw_c 5).1 ∈ gw_all := gw_w1 145 rfl rfl
theorem e_Ma_9 : Cond.classLink "CostChecker$Machine" 9 "CostChecker$Frame" ∈ gw_all := gw_w1 145 rfl rfl
theorem v_Fr : Cond.arrayOver (.object "CostChecker$Frame") ∈ lw_tbl := gw_l1 146 rfl
theorem c_CC_27 : Cond.classLink "CostChecker" 27 (gw_c 6).1 ∈ gw_all := gw_w1 207 rfl rfl
theorem c_Ch_9 : Cond.classLink "CostChecker$Checker" 9 (gw_c 7).1 ∈ gw_all := gw_w1 213 rfl rfl
theorem e_Ch_9 : Cond.classLink "CostChecker$Checker" 9 "CostChecker$Path" ∈ gw_all := gw_w1 213 rfl rfl
theorem v_Pa : Cond.arrayOver (.object "CostChecker$Path") ∈ lw_tbl := gw_l1 214 rfl
theorem c_Ch_17 : Cond.classLink "CostChecker$Checker" 17 (gw_c 8).1 ∈ gw_all := gw_w1 215 rfl rfl
theorem c_Pa_9 : Cond.classLink "CostChecker$Path" 9 (gw_c 8).1 ∈ gw_all := gw_w2 1 rfl rfl
theorem c_Pa_26 : Cond.classLink "CostChecker$Path" 26 (gw_c 9).1 ∈ gw_all := gw_w2 3 rfl rfl
theorem c_Pa_33 : Cond.classLink "CostChecker$Path" 33 (gw_c 10).1 ∈ gw_all := gw_w2 13 rfl rfl
theorem e_Pa_33 : Cond.classLink "CostChecker$Path" 33 "CostChecker$Balance" ∈ gw_all := gw_w2 13 rfl rfl
theorem v_Ba : Cond.arrayOver (.object "CostChecker$Balance") ∈ lw_tbl := gw_l2 14 rfl
theorem c_La_10 : Cond.classLink "CostCheckerLaw" 10 (gw_c 11).1 ∈ gw_all := gw_w3 206 rfl rfl
theorem i_Kn_15 : Cond.constantLong "CostChecker$Known" 15 1152921504606846976 ∈ gw_all := gw_w2 209 rfl rfl
theorem i_Ba_65 : Cond.constantLong "CostChecker$Balance" 65 1152921504606846976 ∈ gw_all := gw_w3 13 rfl rfl
theorem i_Ba_55 : Cond.constantLong "CostChecker$Balance" 55 2 ∈ gw_all := gw_w3 75 rfl rfl
theorem i_Ba_57 : Cond.constantLong "CostChecker$Balance" 57 (-1) ∈ gw_all := gw_w3 76 rfl rfl
theorem i_CC_165 : Cond.constant "CostChecker" 165 (-1000000) ∈ gw_all := gw_w3 116 rfl rfl
theorem i_CC_166 : Cond.constant "CostChecker" 166 1000000 ∈ gw_all := gw_w3 117 rfl rfl
theorem i_CC_103 : Cond.constantLong "CostChecker" 103 (-1) ∈ gw_all := gw_w3 118 rfl rfl
theorem i_Ma_122 : Cond.constant "CostChecker$Machine" 122 1000000000 ∈ gw_all := gw_w3 187 rfl rfl
theorem i_Mo_84 : Cond.constantLong "CostCheckerModel" 84 3 ∈ gw_all := gw_w4 77 rfl rfl
theorem i_Mo_90 : Cond.constantLong "CostCheckerModel" 90 14 ∈ gw_all := gw_w4 81 rfl rfl
theorem i_Mo_92 : Cond.constantLong "CostCheckerModel" 92 (-1000) ∈ gw_all := gw_w4 82 rfl rfl
theorem i_Mo_94 : Cond.constantLong "CostCheckerModel" 94 1000 ∈ gw_all := gw_w4 83 rfl rfl
theorem i_Mo_104 : Cond.constantLong "CostCheckerModel" 104 23 ∈ gw_all := gw_w4 100 rfl rfl
theorem i_Mo_110 : Cond.constantLong "CostCheckerModel" 110 4 ∈ gw_all := gw_w4 109 rfl rfl
theorem i_Mo_112 : Cond.constantLong "CostCheckerModel" 112 (-10000) ∈ gw_all := gw_w4 114 rfl rfl
theorem i_Mo_114 : Cond.constantLong "CostCheckerModel" 114 10000 ∈ gw_all := gw_w4 115 rfl rfl
theorem i_Mo_116 : Cond.constantLong "CostCheckerModel" 116 100 ∈ gw_all := gw_w4 120 rfl rfl
theorem i_Mo_118 : Cond.constantLong "CostCheckerModel" 118 24 ∈ gw_all := gw_w4 121 rfl rfl
theorem i_Mo_124 : Cond.constantLong "CostCheckerModel" 124 1000000000000000 ∈ gw_all := gw_w4 134 rfl rfl
theorem i_Mo_126 : Cond.constantLong "CostCheckerModel" 126 5 ∈ gw_all := gw_w4 146 rfl rfl
theorem i_Mo_162 : Cond.constantLong "CostCheckerModel" 162 40 ∈ gw_all := gw_w4 179 rfl rfl
theorem i_Mo_164 : Cond.constantLong "CostCheckerModel" 164 2 ∈ gw_all := gw_w4 180 rfl rfl
theorem i_Mo_166 : Cond.constantLong "CostCheckerModel" 166 6 ∈ gw_all := gw_w4 181 rfl rfl
theorem i_Mo_187 : Cond.constantLong "CostCheckerModel" 187 (-1) ∈ gw_all := gw_w4 198 rfl rfl
theorem i_Mo_222 : Cond.constantLong "CostCheckerModel" 222 (-1000000) ∈ gw_all := gw_w4 231 rfl rfl
theorem i_Mo_224 : Cond.constantLong "CostCheckerModel" 224 1000000 ∈ gw_all := gw_w4 232 rfl rfl
theorem i_Mo_287 : Cond.constant "CostCheckerModel" 287 1000000000 ∈ gw_all := gw_w5 47 rfl rfl
end
section
/-! decode rows (written by wip/whole/prog/mknames.py) -/
theorem d_CC_init_0 : decode prog_1_method_1_code 0 = .ok (.aload_n 0, 1) := by decide +kernel
theorem d_CC_init_1 : decode prog_1_method_1_code 1 = .ok (.invokespecial 3, 3) := by decide +kernel
theorem d_CC_init_4 : decode prog_1_method_1_code 4 = .ok (.iconst 4, 1) := by decide +kernel
theorem d_CC_init_5 : decode prog_1_method_1_code 5 = .ok (.anewarray 9, 3) := by decide +kernel
theorem d_CC_init_8 : decode prog_1_method_1_code 8 = .ok (.astore_n 1, 1) := by decide +kernel
theorem d_CC_init_9 : decode prog_1_method_1_code 9 = .ok (.iconst 0, 1) := by decide +kernel
theorem d_CC_init_10 : decode prog_1_method_1_code 10 = .ok (.istore_n 2, 1) := by decide +kernel
theorem d_CC_init_11 : decode prog_1_method_1_code 11 = .ok (.iload_n 2, 1) := by decide +kernel
theorem d_CC_init_12 : decode prog_1_method_1_code 12 = .ok (.iconst 4, 1) := by decide +kernel
theorem d_CC_init_13 : decode prog_1_method_1_code 13 = .ok (.if_icmp .ge 20, 3) := by decide +kernel
theorem d_CC_init_16 : decode prog_1_method_1_code 16 = .ok (.aload_n 1, 1) := by decide +kernel
theorem d_CC_init_17 : decode prog_1_method_1_code 17 = .ok (.iload_n 2, 1) := by decide +kernel
theorem d_CC_init_18 : decode prog_1_method_1_code 18 = .ok (.new 9, 3) := by decide +kernel
theorem d_CC_init_21 : decode prog_1_method_1_code 21 = .ok (.dup, 1) := by decide +kernel
theorem d_CC_init_22 : decode prog_1_method_1_code 22 = .ok (.iload_n 2, 1) := by decide +kernel
theorem d_CC_init_23 : decode prog_1_method_1_code 23 = .ok (.invokespecial 11, 3) := by decide +kernel
theorem d_CC_init_26 : decode prog_1_method_1_code 26 = .ok (.aastore, 1) := by decide +kernel
theorem d_CC_init_27 : decode prog_1_method_1_code 27 = .ok (.iinc 2 1, 3) := by decide +kernel
theorem d_CC_init_30 : decode prog_1_method_1_code 30 = .ok (.goto (-19), 3) := by decide +kernel
theorem d_CC_init_33 : decode prog_1_method_1_code 33 = .ok (.aload_n 0, 1) := by decide +kernel
theorem d_CC_init_34 : decode prog_1_method_1_code 34 = .ok (.aload_n 1, 1) := by decide +kernel
theorem d_CC_init_35 : decode prog_1_method_1_code 35 = .ok (.putfield 14, 3) := by decide +kernel
theorem d_CC_init_38 : decode prog_1_method_1_code 38 = .ok (.aload_n 0, 1) := by decide +kernel
theorem d_CC_init_39 : decode prog_1_method_1_code 39 = .ok (.new 18, 3) := by decide +kernel
theorem d_CC_init_42 : decode prog_1_method_1_code 42 = .ok (.dup, 1) := by decide +kernel
theorem d_CC_init_43 : decode prog_1_method_1_code 43 = .ok (.aload_n 1, 1) := by decide +kernel
theorem d_CC_init_44 : decode prog_1_method_1_code 44 = .ok (.invokespecial 20, 3) := by decide +kernel
theorem d_CC_init_47 : decode prog_1_method_1_code 47 = .ok (.putfield 23, 3) := by decide +kernel
theorem d_CC_init_50 : decode prog_1_method_1_code 50 = .ok (.aload_n 0, 1) := by decide +kernel
theorem d_CC_init_51 : decode prog_1_method_1_code 51 = .ok (.new 27, 3) := by decide +kernel
theorem d_CC_init_54 : decode prog_1_method_1_code 54 = .ok (.dup, 1) := by decide +kernel
theorem d_CC_init_55 : decode prog_1_method_1_code 55 = .ok (.aload_n 1, 1) := by decide +kernel
theorem d_CC_init_56 : decode prog_1_method_1_code 56 = .ok (.invokespecial 29, 3) := by decide +kernel
theorem d_CC_init_59 : decode prog_1_method_1_code 59 = .ok (.putfield 30, 3) := by decide +kernel
theorem d_CC_init_62 : decode prog_1_method_1_code 62 = .ok (.aload_n 0, 1) := by decide +kernel
theorem d_CC_init_63 : decode prog_1_method_1_code 63 = .ok (.iconst 5, 1) := by decide +kernel
theorem d_CC_init_64 : decode prog_1_method_1_code 64 = .ok (.newarray .int, 2) := by decide +kernel
theorem d_CC_init_66 : decode prog_1_method_1_code 66 = .ok (.putfield 34, 3) := by decide +kernel
theorem d_CC_init_69 : decode prog_1_method_1_code 69 = .ok (.return_, 1) := by decide +kernel
theorem d_Me_init_0 : decode prog_8_method_1_code 0 = .ok (.aload_n 0, 1) := by decide +kernel
theorem d_Me_init_1 : decode prog_8_method_1_code 1 = .ok (.invokespecial 3, 3) := by decide +kernel
theorem d_Me_init_4 : decode prog_8_method_1_code 4 = .ok (.aload_n 0, 1) := by decide +kernel
theorem d_Me_init_5 : decode prog_8_method_1_code 5 = .ok (.bipush 24, 2) := by decide +kernel
theorem d_Me_init_7 : decode prog_8_method_1_code 7 = .ok (.newarray .int, 2) := by decide +kernel
theorem d_Me_init_9 : decode prog_8_method_1_code 9 = .ok (.putfield 9, 3) := by decide +kernel
theorem d_Me_init_12 : decode prog_8_method_1_code 12 = .ok (.aload_n 0, 1) := by decide +kernel
theorem d_Me_init_13 : decode prog_8_method_1_code 13 = .ok (.bipush 24, 2) := by decide +kernel
theorem d_Me_init_15 : decode prog_8_method_1_code 15 = .ok (.newarray .int, 2) := by decide +kernel
theorem d_Me_init_17 : decode prog_8_method_1_code 17 = .ok (.putfield 15, 3) := by decide +kernel
theorem d_Me_init_20 : decode prog_8_method_1_code 20 = .ok (.aload_n 0, 1) := by decide +kernel
theorem d_Me_init_21 : decode prog_8_method_1_code 21 = .ok (.bipush 6, 2) := by decide +kernel
theorem d_Me_init_23 : decode prog_8_method_1_code 23 = .ok (.anewarray 18, 3) := by decide +kernel
theorem d_Me_init_26 : decode prog_8_method_1_code 26 = .ok (.putfield 20, 3) := by decide +kernel
theorem d_Me_init_29 : decode prog_8_method_1_code 29 = .ok (.aload_n 0, 1) := by decide +kernel
theorem d_Me_init_30 : decode prog_8_method_1_code 30 = .ok (.iload_n 1, 1) := by decide +kernel
theorem d_Me_init_31 : decode prog_8_method_1_code 31 = .ok (.putfield 24, 3) := by decide +kernel
theorem d_Me_init_34 : decode prog_8_method_1_code 34 = .ok (.iconst 0, 1) := by decide +kernel
theorem d_Me_init_35 : decode prog_8_method_1_code 35 = .ok (.istore_n 2, 1) := by decide +kernel
theorem d_Me_init_36 : decode prog_8_method_1_code 36 = .ok (.iload_n 2, 1) := by decide +kernel
theorem d_Me_init_37 : decode prog_8_method_1_code 37 = .ok (.bipush 6, 2) := by decide +kernel
theorem d_Me_init_39 : decode prog_8_method_1_code 39 = .ok (.if_icmp .ge 22, 3) := by decide +kernel
theorem d_Me_init_42 : decode prog_8_method_1_code 42 = .ok (.aload_n 0, 1) := by decide +kernel
theorem d_Me_init_43 : decode prog_8_method_1_code 43 = .ok (.getfield 20, 3) := by decide +kernel
theorem d_Me_init_46 : decode prog_8_method_1_code 46 = .ok (.iload_n 2, 1) := by decide +kernel
theorem d_Me_init_47 : decode prog_8_method_1_code 47 = .ok (.new 18, 3) := by decide +kernel
theorem d_Me_init_50 : decode prog_8_method_1_code 50 = .ok (.dup, 1) := by decide +kernel
theorem d_Me_init_51 : decode prog_8_method_1_code 51 = .ok (.invokespecial 28, 3) := by decide +kernel
theorem d_Me_init_54 : decode prog_8_method_1_code 54 = .ok (.aastore, 1) := by decide +kernel
theorem d_Me_init_55 : decode prog_8_method_1_code 55 = .ok (.iinc 2 1, 3) := by decide +kernel
theorem d_Me_init_58 : decode prog_8_method_1_code 58 = .ok (.goto (-22), 3) := by decide +kernel
theorem d_Me_init_61 : decode prog_8_method_1_code 61 = .ok (.aload_n 0, 1) := by decide +kernel
theorem d_Me_init_62 : decode prog_8_method_1_code 62 = .ok (.iconst 1, 1) := by decide +kernel
theorem d_Me_init_63 : decode prog_8_method_1_code 63 = .ok (.putfield 29, 3) := by decide +kernel
theorem d_Me_init_66 : decode prog_8_method_1_code 66 = .ok (.return_, 1) := by decide +kernel
theorem d_Cu_init_0 : decode prog_4_method_1_code 0 = .ok (.aload_n 0, 1) := by decide +kernel
theorem d_Cu_init_1 : decode prog_4_method_1_code 1 = .ok (.invokespecial 3, 3) := by decide +kernel
theorem d_Cu_init_4 : decode prog_4_method_1_code 4 = .ok (.aload_n 0, 1) := by decide +kernel
theorem d_Cu_init_5 : decode prog_4_method_1_code 5 = .ok (.bipush 6, 2) := by decide +kernel
theorem d_Cu_init_7 : decode prog_4_method_1_code 7 = .ok (.newarray .int, 2) := by decide +kernel
theorem d_Cu_init_9 : decode prog_4_method_1_code 9 = .ok (.putfield 9, 3) := by decide +kernel
theorem d_Cu_init_12 : decode prog_4_method_1_code 12 = .ok (.aload_n 0, 1) := by decide +kernel
theorem d_Cu_init_13 : decode prog_4_method_1_code 13 = .ok (.bipush 6, 2) := by decide +kernel
theorem d_Cu_init_15 : decode prog_4_method_1_code 15 = .ok (.newarray .int, 2) := by decide +kernel
theorem d_Cu_init_17 : decode prog_4_method_1_code 17 = .ok (.putfield 15, 3) := by decide +kernel
theorem d_Cu_init_20 : decode prog_4_method_1_code 20 = .ok (.aload_n 0, 1) := by decide +kernel
theorem d_Cu_init_21 : decode prog_4_method_1_code 21 = .ok (.bipush 6, 2) := by decide +kernel
theorem d_Cu_init_23 : decode prog_4_method_1_code 23 = .ok (.newarray .int, 2) := by decide +kernel
theorem d_Cu_init_25 : decode prog_4_method_1_code 25 = .ok (.putfield 18, 3) := by decide +kernel
theorem d_Cu_init_28 : decode prog_4_method_1_code 28 = .ok (.aload_n 0, 1) := by decide +kernel
theorem d_Cu_init_29 : decode prog_4_method_1_code 29 = .ok (.iconst 2, 1) := by decide +kernel
theorem d_Cu_init_30 : decode prog_4_method_1_code 30 = .ok (.anewarray 21, 3) := by decide +kernel
theorem d_Cu_init_33 : decode prog_4_method_1_code 33 = .ok (.putfield 23, 3) := by decide +kernel
theorem d_Cu_init_36 : decode prog_4_method_1_code 36 = .ok (.iconst 0, 1) := by decide +kernel
theorem d_Cu_init_37 : decode prog_4_method_1_code 37 = .ok (.istore_n 1, 1) := by decide +kernel
theorem d_Cu_init_38 : decode prog_4_method_1_code 38 = .ok (.iload_n 1, 1) := by decide +kernel
theorem d_Cu_init_39 : decode prog_4_method_1_code 39 = .ok (.iconst 2, 1) := by decide +kernel
theorem d_Cu_init_40 : decode prog_4_method_1_code 40 = .ok (.if_icmp .ge 22, 3) := by decide +kernel
theorem d_Cu_init_43 : decode prog_4_method_1_code 43 = .ok (.aload_n 0, 1) := by decide +kernel
theorem d_Cu_init_44 : decode prog_4_method_1_code 44 = .ok (.getfield 23, 3) := by decide +kernel
theorem d_Cu_init_47 : decode prog_4_method_1_code 47 = .ok (.iload_n 1, 1) := by decide +kernel
theorem d_Cu_init_48 : decode prog_4_method_1_code 48 = .ok (.new 21, 3) := by decide +kernel
theorem d_Cu_init_51 : decode prog_4_method_1_code 51 = .ok (.dup, 1) := by decide +kernel
theorem d_Cu_init_52 : decode prog_4_method_1_code 52 = .ok (.invokespecial 27, 3) := by decide +kernel
theorem d_Cu_init_55 : decode prog_4_method_1_code 55 = .ok (.aastore, 1) := by decide +kernel
theorem d_Cu_init_56 : decode prog_4_method_1_code 56 = .ok (.iinc 1 1, 3) := by decide +kernel
theorem d_Cu_init_59 : decode prog_4_method_1_code 59 = .ok (.goto (-21), 3) := by decide +kernel
theorem d_Cu_init_62 : decode prog_4_method_1_code 62 = .ok (.return_, 1) := by decide +kernel
theorem d_Po_init_0 : decode prog_10_method_1_code 0 = .ok (.aload_n 0, 1) := by decide +kernel
theorem d_Po_init_1 : decode prog_10_method_1_code 1 = .ok (.invokespecial 3, 3) := by decide +kernel
theorem d_Po_init_4 : decode prog_10_method_1_code 4 = .ok (.aload_n 0, 1) := by decide +kernel
theorem d_Po_init_5 : decode prog_10_method_1_code 5 = .ok (.iconst 3, 1) := by decide +kernel
theorem d_Po_init_6 : decode prog_10_method_1_code 6 = .ok (.newarray .int, 2) := by decide +kernel
theorem d_Po_init_8 : decode prog_10_method_1_code 8 = .ok (.putfield 9, 3) := by decide +kernel
theorem d_Po_init_11 : decode prog_10_method_1_code 11 = .ok (.aload_n 0, 1) := by decide +kernel
theorem d_Po_init_12 : decode prog_10_method_1_code 12 = .ok (.iconst 3, 1) := by decide +kernel
theorem d_Po_init_13 : decode prog_10_method_1_code 13 = .ok (.newarray .int, 2) := by decide +kernel
theorem d_Po_init_15 : decode prog_10_method_1_code 15 = .ok (.putfield 15, 3) := by decide +kernel
theorem d_Po_init_18 : decode prog_10_method_1_code 18 = .ok (.aload_n 0, 1) := by decide +kernel
theorem d_Po_init_19 : decode prog_10_method_1_code 19 = .ok (.iconst 3, 1) := by decide +kernel
theorem d_Po_init_20 : decode prog_10_method_1_code 20 = .ok (.newarray .int, 2) := by decide +kernel
theorem d_Po_init_22 : decode prog_10_method_1_code 22 = .ok (.putfield 18, 3) := by decide +kernel
theorem d_Po_init_25 : decode prog_10_method_1_code 25 = .ok (.return_, 1) := by decide +kernel
theorem d_Fr_init_0 : decode prog_5_method_1_code 0 = .ok (.aload_n 0, 1) := by decide +kernel
theorem d_Fr_init_1 : decode prog_5_method_1_code 1 = .ok (.invokespecial 3, 3) := by decide +kernel
theorem d_Fr_init_4 : decode prog_5_method_1_code 4 = .ok (.aload_n 0, 1) := by decide +kernel
theorem d_Fr_init_5 : decode prog_5_method_1_code 5 = .ok (.iconst 4, 1) := by decide +kernel
theorem d_Fr_init_6 : decode prog_5_method_1_code 6 = .ok (.newarray .int, 2) := by decide +kernel
theorem d_Fr_init_8 : decode prog_5_method_1_code 8 = .ok (.putfield 9, 3) := by decide +kernel
theorem d_Fr_init_11 : decode prog_5_method_1_code 11 = .ok (.aload_n 0, 1) := by decide +kernel
theorem d_Fr_init_12 : decode prog_5_method_1_code 12 = .ok (.bipush 6, 2) := by decide +kernel
theorem d_Fr_init_14 : decode prog_5_method_1_code 14 = .ok (.newarray .int, 2) := by decide +kernel
theorem d_Fr_init_16 : decode prog_5_method_1_code 16 = .ok (.putfield 15, 3) := by decide +kernel
theorem d_Fr_init_19 : decode prog_5_method_1_code 19 = .ok (.return_, 1) := by decide +kernel
theorem d_Sy_init_0 : decode prog_11_method_1_code 0 = .ok (.aload_n 0, 1) := by decide +kernel
theorem d_Sy_init_1 : decode prog_11_method_1_code 1 = .ok (.invokespecial 3, 3) := by decide +kernel
theorem d_Sy_init_4 : decode prog_11_method_1_code 4 = .ok (.aload_n 0, 1) := by decide +kernel
theorem d_Sy_init_5 : decode prog_11_method_1_code 5 = .ok (.iconst 5, 1) := by decide +kernel
theorem d_Sy_init_6 : decode prog_11_method_1_code 6 = .ok (.newarray .int, 2) := by decide +kernel
theorem d_Sy_init_8 : decode prog_11_method_1_code 8 = .ok (.putfield 9, 3) := by decide +kernel
theorem d_Sy_init_11 : decode prog_11_method_1_code 11 = .ok (.aload_n 0, 1) := by decide +kernel
theorem d_Sy_init_12 : decode prog_11_method_1_code 12 = .ok (.iconst 5, 1) := by decide +kernel
theorem d_Sy_init_13 : decode prog_11_method_1_code 13 = .ok (.newarray .long, 2) := by decide +kernel
theorem d_Sy_init_15 : decode prog_11_method_1_code 15 = .ok (.putfield 15, 3) := by decide +kernel
theorem d_Sy_init_18 : decode prog_11_method_1_code 18 = .ok (.return_, 1) := by decide +kernel
theorem d_CC_put_0 : decode prog_1_method_2_code 0 = .ok (.aload_n 0, 1) := by decide +kernel
theorem d_CC_put_1 : decode prog_1_method_2_code 1 = .ok (.iload_n 1, 1) := by decide +kernel
theorem d_CC_put_2 : decode prog_1_method_2_code 2 = .ok (.invokevirtual 38, 3) := by decide +kernel
theorem d_CC_put_5 : decode prog_1_method_2_code 5 = .ok (.astore 4, 2) := by decide +kernel
theorem d_CC_put_7 : decode prog_1_method_2_code 7 = .ok (.aload 4, 2) := by decide +kernel
theorem d_CC_put_9 : decode prog_1_method_2_code 9 = .ok (.ifnull 26, 3) := by decide +kernel
theorem d_CC_put_12 : decode prog_1_method_2_code 12 = .ok (.iload_n 2, 1) := by decide +kernel
theorem d_CC_put_13 : decode prog_1_method_2_code 13 = .ok (.iconst 0, 1) := by decide +kernel
theorem d_CC_put_14 : decode prog_1_method_2_code 14 = .ok (.bipush 14, 2) := by decide +kernel
theorem d_CC_put_16 : decode prog_1_method_2_code 16 = .ok (.invokestatic 42, 3) := by decide +kernel
theorem d_CC_put_19 : decode prog_1_method_2_code 19 = .ok (.ifCond .eq 16, 3) := by decide +kernel
theorem d_CC_put_22 : decode prog_1_method_2_code 22 = .ok (.iload_n 3, 1) := by decide +kernel
theorem d_CC_put_23 : decode prog_1_method_2_code 23 = .ok (.sipush (-1000), 3) := by decide +kernel
theorem d_CC_put_26 : decode prog_1_method_2_code 26 = .ok (.sipush 1000, 3) := by decide +kernel
theorem d_CC_put_29 : decode prog_1_method_2_code 29 = .ok (.invokestatic 42, 3) := by decide +kernel
theorem d_CC_put_32 : decode prog_1_method_2_code 32 = .ok (.ifCond .ne 5, 3) := by decide +kernel
theorem d_CC_put_35 : decode prog_1_method_2_code 35 = .ok (.iconst (-1), 1) := by decide +kernel
theorem d_CC_put_36 : decode prog_1_method_2_code 36 = .ok (.ireturn, 1) := by decide +kernel
theorem d_CC_put_37 : decode prog_1_method_2_code 37 = .ok (.aload_n 0, 1) := by decide +kernel
theorem d_CC_put_38 : decode prog_1_method_2_code 38 = .ok (.iload_n 1, 1) := by decide +kernel
theorem d_CC_put_39 : decode prog_1_method_2_code 39 = .ok (.aload 4, 2) := by decide +kernel
theorem d_CC_put_41 : decode prog_1_method_2_code 41 = .ok (.iload_n 2, 1) := by decide +kernel
theorem d_CC_put_42 : decode prog_1_method_2_code 42 = .ok (.iload_n 3, 1) := by decide +kernel
theorem d_CC_put_43 : decode prog_1_method_2_code 43 = .ok (.invokevirtual 46, 3) := by decide +kernel
theorem d_CC_put_46 : decode prog_1_method_2_code 46 = .ok (.invokevirtual 50, 3) := by decide +kernel
theorem d_CC_put_49 : decode prog_1_method_2_code 49 = .ok (.ifCond .eq 13, 3) := by decide +kernel
theorem d_CC_put_52 : decode prog_1_method_2_code 52 = .ok (.aload 4, 2) := by decide +kernel
theorem d_CC_put_54 : decode prog_1_method_2_code 54 = .ok (.getfield 54, 3) := by decide +kernel
theorem d_CC_put_57 : decode prog_1_method_2_code 57 = .ok (.iconst 1, 1) := by decide +kernel
theorem d_CC_put_58 : decode prog_1_method_2_code 58 = .ok (.isub, 1) := by decide +kernel
theorem d_CC_put_59 : decode prog_1_method_2_code 59 = .ok (.goto 4, 3) := by decide +kernel
theorem d_CC_put_62 : decode prog_1_method_2_code 62 = .ok (.iconst (-1), 1) := by decide +kernel
theorem d_CC_put_63 : decode prog_1_method_2_code 63 = .ok (.ireturn, 1) := by decide +kernel
theorem d_CC_methodAt_0 : decode prog_1_method_15_code 0 = .ok (.iload_n 1, 1) := by decide +kernel
theorem d_CC_methodAt_1 : decode prog_1_method_15_code 1 = .ok (.ifCond .lt 17, 3) := by decide +kernel
theorem d_CC_methodAt_4 : decode prog_1_method_15_code 4 = .ok (.iload_n 1, 1) := by decide +kernel
theorem d_CC_methodAt_5 : decode prog_1_method_15_code 5 = .ok (.iconst 4, 1) := by decide +kernel
theorem d_CC_methodAt_6 : decode prog_1_method_15_code 6 = .ok (.if_icmp .ge 12, 3) := by decide +kernel
theorem d_CC_methodAt_9 : decode prog_1_method_15_code 9 = .ok (.aload_n 0, 1) := by decide +kernel
theorem d_CC_methodAt_10 : decode prog_1_method_15_code 10 = .ok (.getfield 14, 3) := by decide +kernel
theorem d_CC_methodAt_13 : decode prog_1_method_15_code 13 = .ok (.iload_n 1, 1) := by decide +kernel
theorem d_CC_methodAt_14 : decode prog_1_method_15_code 14 = .ok (.aaload, 1) := by decide +kernel
theorem d_CC_methodAt_15 : decode prog_1_method_15_code 15 = .ok (.goto 4, 3) := by decide +kernel
theorem d_CC_methodAt_18 : decode prog_1_method_15_code 18 = .ok (.aconst_null, 1) := by decide +kernel
theorem d_CC_methodAt_19 : decode prog_1_method_15_code 19 = .ok (.areturn, 1) := by decide +kernel
theorem d_CC_isBetween_0 : decode prog_1_method_19_code 0 = .ok (.iload_n 0, 1) := by decide +kernel
theorem d_CC_isBetween_1 : decode prog_1_method_19_code 1 = .ok (.iload_n 1, 1) := by decide +kernel
theorem d_CC_isBetween_2 : decode prog_1_method_19_code 2 = .ok (.if_icmp .lt 12, 3) := by decide +kernel
theorem d_CC_isBetween_5 : decode prog_1_method_19_code 5 = .ok (.iload_n 0, 1) := by decide +kernel
theorem d_CC_isBetween_6 : decode prog_1_method_19_code 6 = .ok (.iload_n 2, 1) := by decide +kernel
theorem d_CC_isBetween_7 : decode prog_1_method_19_code 7 = .ok (.if_icmp .gt 7, 3) := by decide +kernel
theorem d_CC_isBetween_10 : decode prog_1_method_19_code 10 = .ok (.iconst 1, 1) := by decide +kernel
theorem d_CC_isBetween_11 : decode prog_1_method_19_code 11 = .ok (.goto 4, 3) := by decide +kernel
theorem d_CC_isBetween_14 : decode prog_1_method_19_code 14 = .ok (.iconst 0, 1) := by decide +kernel
theorem d_CC_isBetween_15 : decode prog_1_method_19_code 15 = .ok (.ireturn, 1) := by decide +kernel
theorem d_Me_append_0 : decode prog_8_method_3_code 0 = .ok (.aload_n 0, 1) := by decide +kernel
theorem d_Me_append_1 : decode prog_8_method_3_code 1 = .ok (.getfield 32, 3) := by decide +kernel
theorem d_Me_append_4 : decode prog_8_method_3_code 4 = .ok (.bipush 24, 2) := by decide +kernel
theorem d_Me_append_6 : decode prog_8_method_3_code 6 = .ok (.if_icmp .lt 5, 3) := by decide +kernel
theorem d_Me_append_9 : decode prog_8_method_3_code 9 = .ok (.iconst 0, 1) := by decide +kernel
theorem d_Me_append_10 : decode prog_8_method_3_code 10 = .ok (.ireturn, 1) := by decide +kernel
theorem d_Me_append_11 : decode prog_8_method_3_code 11 = .ok (.aload_n 0, 1) := by decide +kernel
theorem d_Me_append_12 : decode prog_8_method_3_code 12 = .ok (.getfield 9, 3) := by decide +kernel
theorem d_Me_append_15 : decode prog_8_method_3_code 15 = .ok (.aload_n 0, 1) := by decide +kernel
theorem d_Me_append_16 : decode prog_8_method_3_code 16 = .ok (.getfield 32, 3) := by decide +kernel
theorem d_Me_append_19 : decode prog_8_method_3_code 19 = .ok (.iload_n 1, 1) := by decide +kernel
theorem d_Me_append_20 : decode prog_8_method_3_code 20 = .ok (.iastore, 1) := by decide +kernel
theorem d_Me_append_21 : decode prog_8_method_3_code 21 = .ok (.aload_n 0, 1) := by decide +kernel
theorem d_Me_append_22 : decode prog_8_method_3_code 22 = .ok (.getfield 15, 3) := by decide +kernel
theorem d_Me_append_25 : decode prog_8_method_3_code 25 = .ok (.aload_n 0, 1) := by decide +kernel
theorem d_Me_append_26 : decode prog_8_method_3_code 26 = .ok (.getfield 32, 3) := by decide +kernel
theorem d_Me_append_29 : decode prog_8_method_3_code 29 = .ok (.iload_n 2, 1) := by decide +kernel
theorem d_Me_append_30 : decode prog_8_method_3_code 30 = .ok (.iastore, 1) := by decide +kernel
theorem d_Me_append_31 : decode prog_8_method_3_code 31 = .ok (.aload_n 0, 1) := by decide +kernel
theorem d_Me_append_32 : decode prog_8_method_3_code 32 = .ok (.dup, 1) := by decide +kernel
theorem d_Me_append_33 : decode prog_8_method_3_code 33 = .ok (.getfield 32, 3) := by decide +kernel
theorem d_Me_append_36 : decode prog_8_method_3_code 36 = .ok (.iconst 1, 1) := by decide +kernel
theorem d_Me_append_37 : decode prog_8_method_3_code 37 = .ok (.iadd, 1) := by decide +kernel
theorem d_Me_append_38 : decode prog_8_method_3_code 38 = .ok (.putfield 32, 3) := by decide +kernel
theorem d_Me_append_41 : decode prog_8_method_3_code 41 = .ok (.iconst 1, 1) := by decide +kernel
theorem d_Me_append_42 : decode prog_8_method_3_code 42 = .ok (.ireturn, 1) := by decide +kernel
theorem d_CC_noteChange_0 : decode prog_1_method_17_code 0 = .ok (.iload_n 2, 1) := by decide +kernel
theorem d_CC_noteChange_1 : decode prog_1_method_17_code 1 = .ok (.ifCond .eq 26, 3) := by decide +kernel
theorem d_CC_noteChange_4 : decode prog_1_method_17_code 4 = .ok (.iload_n 1, 1) := by decide +kernel
theorem d_CC_noteChange_5 : decode prog_1_method_17_code 5 = .ok (.istore_n 3, 1) := by decide +kernel
theorem d_CC_noteChange_6 : decode prog_1_method_17_code 6 = .ok (.iload_n 3, 1) := by decide +kernel
theorem d_CC_noteChange_7 : decode prog_1_method_17_code 7 = .ok (.iconst 4, 1) := by decide +kernel
theorem d_CC_noteChange_8 : decode prog_1_method_17_code 8 = .ok (.if_icmp .ge 19, 3) := by decide +kernel
theorem d_CC_noteChange_11 : decode prog_1_method_17_code 11 = .ok (.aload_n 0, 1) := by decide +kernel
theorem d_CC_noteChange_12 : decode prog_1_method_17_code 12 = .ok (.getfield 14, 3) := by decide +kernel
theorem d_CC_noteChange_15 : decode prog_1_method_17_code 15 = .ok (.iload_n 3, 1) := by decide +kernel
theorem d_CC_noteChange_16 : decode prog_1_method_17_code 16 = .ok (.aaload, 1) := by decide +kernel
theorem d_CC_noteChange_17 : decode prog_1_method_17_code 17 = .ok (.iconst 0, 1) := by decide +kernel
theorem d_CC_noteChange_18 : decode prog_1_method_17_code 18 = .ok (.putfield 96, 3) := by decide +kernel
theorem d_CC_noteChange_21 : decode prog_1_method_17_code 21 = .ok (.iinc 3 1, 3) := by decide +kernel
theorem d_CC_noteChange_24 : decode prog_1_method_17_code 24 = .ok (.goto (-18), 3) := by decide +kernel
theorem d_CC_noteChange_27 : decode prog_1_method_17_code 27 = .ok (.iload_n 2, 1) := by decide +kernel
theorem d_CC_noteChange_28 : decode prog_1_method_17_code 28 = .ok (.ireturn, 1) := by decide +kernel
theorem d_CC_clear_0 : decode prog_1_method_3_code 0 = .ok (.aload_n 0, 1) := by decide +kernel
theorem d_CC_clear_1 : decode prog_1_method_3_code 1 = .ok (.iload_n 1, 1) := by decide +kernel
theorem d_CC_clear_2 : decode prog_1_method_3_code 2 = .ok (.invokevirtual 38, 3) := by decide +kernel
theorem d_CC_clear_5 : decode prog_1_method_3_code 5 = .ok (.astore_n 2, 1) := by decide +kernel
theorem d_CC_clear_6 : decode prog_1_method_3_code 6 = .ok (.aload_n 2, 1) := by decide +kernel
theorem d_CC_clear_7 : decode prog_1_method_3_code 7 = .ok (.ifnonnull 5, 3) := by decide +kernel
theorem d_CC_clear_10 : decode prog_1_method_3_code 10 = .ok (.iconst 0, 1) := by decide +kernel
theorem d_CC_clear_11 : decode prog_1_method_3_code 11 = .ok (.ireturn, 1) := by decide +kernel
theorem d_CC_clear_12 : decode prog_1_method_3_code 12 = .ok (.aload_n 2, 1) := by decide +kernel
theorem d_CC_clear_13 : decode prog_1_method_3_code 13 = .ok (.invokevirtual 58, 3) := by decide +kernel
theorem d_CC_clear_16 : decode prog_1_method_3_code 16 = .ok (.aload_n 0, 1) := by decide +kernel
theorem d_CC_clear_17 : decode prog_1_method_3_code 17 = .ok (.iload_n 1, 1) := by decide +kernel
theorem d_CC_clear_18 : decode prog_1_method_3_code 18 = .ok (.iconst 1, 1) := by decide +kernel
theorem d_CC_clear_19 : decode prog_1_method_3_code 19 = .ok (.invokevirtual 50, 3) := by decide +kernel
theorem d_CC_clear_22 : decode prog_1_method_3_code 22 = .ok (.ireturn, 1) := by decide +kernel
theorem d_Me_reset_0 : decode prog_8_method_2_code 0 = .ok (.aload_n 0, 1) := by decide +kernel
theorem d_Me_reset_1 : decode prog_8_method_2_code 1 = .ok (.iconst 0, 1) := by decide +kernel
theorem d_Me_reset_2 : decode prog_8_method_2_code 2 = .ok (.putfield 32, 3) := by decide +kernel
theorem d_Me_reset_5 : decode prog_8_method_2_code 5 = .ok (.aload_n 0, 1) := by decide +kernel
theorem d_Me_reset_6 : decode prog_8_method_2_code 6 = .ok (.iconst 1, 1) := by decide +kernel
theorem d_Me_reset_7 : decode prog_8_method_2_code 7 = .ok (.putfield 29, 3) := by decide +kernel
theorem d_Me_reset_10 : decode prog_8_method_2_code 10 = .ok (.aload_n 0, 1) := by decide +kernel
theorem d_Me_reset_11 : decode prog_8_method_2_code 11 = .ok (.getfield 20, 3) := by decide +kernel
theorem d_Me_reset_14 : decode prog_8_method_2_code 14 = .ok (.iconst 0, 1) := by decide +kernel
theorem d_Me_reset_15 : decode prog_8_method_2_code 15 = .ok (.aaload, 1) := by decide +kernel
theorem d_Me_reset_16 : decode prog_8_method_2_code 16 = .ok (.iconst 0, 1) := by decide +kernel
theorem d_Me_reset_17 : decode prog_8_method_2_code 17 = .ok (.invokevirtual 35, 3) := by decide +kernel
theorem d_Me_reset_20 : decode prog_8_method_2_code 20 = .ok (.return_, 1) := by decide +kernel
theorem d_Cu_reset_0 : decode prog_4_method_2_code 0 = .ok (.aload_n 0, 1) := by decide +kernel
theorem d_Cu_reset_1 : decode prog_4_method_2_code 1 = .ok (.iload_n 1, 1) := by decide +kernel
theorem d_Cu_reset_2 : decode prog_4_method_2_code 2 = .ok (.putfield 28, 3) := by decide +kernel
theorem d_Cu_reset_5 : decode prog_4_method_2_code 5 = .ok (.aload_n 0, 1) := by decide +kernel
theorem d_Cu_reset_6 : decode prog_4_method_2_code 6 = .ok (.iconst 0, 1) := by decide +kernel
theorem d_Cu_reset_7 : decode prog_4_method_2_code 7 = .ok (.putfield 32, 3) := by decide +kernel
theorem d_Cu_reset_10 : decode prog_4_method_2_code 10 = .ok (.iconst 0, 1) := by decide +kernel
theorem d_Cu_reset_11 : decode prog_4_method_2_code 11 = .ok (.istore_n 2, 1) := by decide +kernel
theorem d_Cu_reset_12 : decode prog_4_method_2_code 12 = .ok (.iload_n 2, 1) := by decide +kernel
theorem d_Cu_reset_13 : decode prog_4_method_2_code 13 = .ok (.iconst 2, 1) := by decide +kernel
theorem d_Cu_reset_14 : decode prog_4_method_2_code 14 = .ok (.if_icmp .ge 18, 3) := by decide +kernel
theorem d_Cu_reset_17 : decode prog_4_method_2_code 17 = .ok (.aload_n 0, 1) := by decide +kernel
theorem d_Cu_reset_18 : decode prog_4_method_2_code 18 = .ok (.getfield 23, 3) := by decide +kernel
theorem d_Cu_reset_21 : decode prog_4_method_2_code 21 = .ok (.iload_n 2, 1) := by decide +kernel
theorem d_Cu_reset_22 : decode prog_4_method_2_code 22 = .ok (.aaload, 1) := by decide +kernel
theorem d_Cu_reset_23 : decode prog_4_method_2_code 23 = .ok (.invokevirtual 35, 3) := by decide +kernel
theorem d_Cu_reset_26 : decode prog_4_method_2_code 26 = .ok (.iinc 2 1, 3) := by decide +kernel
theorem d_Cu_reset_29 : decode prog_4_method_2_code 29 = .ok (.goto (-17), 3) := by decide +kernel
theorem d_Cu_reset_32 : decode prog_4_method_2_code 32 = .ok (.return_, 1) := by decide +kernel
theorem d_Po_reset_0 : decode prog_10_method_2_code 0 = .ok (.aload_n 0, 1) := by decide +kernel
theorem d_Po_reset_1 : decode prog_10_method_2_code 1 = .ok (.iconst 0, 1) := by decide +kernel
theorem d_Po_reset_2 : decode prog_10_method_2_code 2 = .ok (.putfield 21, 3) := by decide +kernel
theorem d_Po_reset_5 : decode prog_10_method_2_code 5 = .ok (.aload_n 0, 1) := by decide +kernel
theorem d_Po_reset_6 : decode prog_10_method_2_code 6 = .ok (.iconst 0, 1) := by decide +kernel
theorem d_Po_reset_7 : decode prog_10_method_2_code 7 = .ok (.putfield 25, 3) := by decide +kernel
theorem d_Po_reset_10 : decode prog_10_method_2_code 10 = .ok (.return_, 1) := by decide +kernel
theorem d_CC_cut_0 : decode prog_1_method_4_code 0 = .ok (.aload_n 0, 1) := by decide +kernel
theorem d_CC_cut_1 : decode prog_1_method_4_code 1 = .ok (.iload_n 1, 1) := by decide +kernel
theorem d_CC_cut_2 : decode prog_1_method_4_code 2 = .ok (.invokevirtual 38, 3) := by decide +kernel
theorem d_CC_cut_5 : decode prog_1_method_4_code 5 = .ok (.astore_n 3, 1) := by decide +kernel
theorem d_CC_cut_6 : decode prog_1_method_4_code 6 = .ok (.aload_n 3, 1) := by decide +kernel
theorem d_CC_cut_7 : decode prog_1_method_4_code 7 = .ok (.ifnull 20, 3) := by decide +kernel
theorem d_CC_cut_10 : decode prog_1_method_4_code 10 = .ok (.aload_n 0, 1) := by decide +kernel
theorem d_CC_cut_11 : decode prog_1_method_4_code 11 = .ok (.iload_n 1, 1) := by decide +kernel
theorem d_CC_cut_12 : decode prog_1_method_4_code 12 = .ok (.aload_n 3, 1) := by decide +kernel
theorem d_CC_cut_13 : decode prog_1_method_4_code 13 = .ok (.iload_n 2, 1) := by decide +kernel
theorem d_CC_cut_14 : decode prog_1_method_4_code 14 = .ok (.invokevirtual 61, 3) := by decide +kernel
theorem d_CC_cut_17 : decode prog_1_method_4_code 17 = .ok (.invokevirtual 50, 3) := by decide +kernel
theorem d_CC_cut_20 : decode prog_1_method_4_code 20 = .ok (.ifCond .eq 7, 3) := by decide +kernel
theorem d_CC_cut_23 : decode prog_1_method_4_code 23 = .ok (.iconst 1, 1) := by decide +kernel
theorem d_CC_cut_24 : decode prog_1_method_4_code 24 = .ok (.goto 4, 3) := by decide +kernel
theorem d_CC_cut_27 : decode prog_1_method_4_code 27 = .ok (.iconst 0, 1) := by decide +kernel
theorem d_CC_cut_28 : decode prog_1_method_4_code 28 = .ok (.ireturn, 1) := by decide +kernel
theorem d_Me_addCut_0 : decode prog_8_method_6_code 0 = .ok (.iload_n 1, 1) := by decide +kernel
theorem d_Me_addCut_1 : decode prog_8_method_6_code 1 = .ok (.iconst 0, 1) := by decide +kernel
theorem d_Me_addCut_2 : decode prog_8_method_6_code 2 = .ok (.bipush 23, 2) := by decide +kernel
theorem d_Me_addCut_4 : decode prog_8_method_6_code 4 = .ok (.invokestatic 42, 3) := by decide +kernel
theorem d_Me_addCut_7 : decode prog_8_method_6_code 7 = .ok (.ifCond .eq 20, 3) := by decide +kernel
theorem d_Me_addCut_10 : decode prog_8_method_6_code 10 = .ok (.aload_n 0, 1) := by decide +kernel
theorem d_Me_addCut_11 : decode prog_8_method_6_code 11 = .ok (.getfield 29, 3) := by decide +kernel
theorem d_Me_addCut_14 : decode prog_8_method_6_code 14 = .ok (.bipush 6, 2) := by decide +kernel
theorem d_Me_addCut_16 : decode prog_8_method_6_code 16 = .ok (.if_icmp .ge 11, 3) := by decide +kernel
theorem d_Me_addCut_19 : decode prog_8_method_6_code 19 = .ok (.aload_n 0, 1) := by decide +kernel
theorem d_Me_addCut_20 : decode prog_8_method_6_code 20 = .ok (.iload_n 1, 1) := by decide +kernel
theorem d_Me_addCut_21 : decode prog_8_method_6_code 21 = .ok (.invokevirtual 46, 3) := by decide +kernel
theorem d_Me_addCut_24 : decode prog_8_method_6_code 24 = .ok (.ifnull 5, 3) := by decide +kernel
theorem d_Me_addCut_27 : decode prog_8_method_6_code 27 = .ok (.iconst 0, 1) := by decide +kernel
theorem d_Me_addCut_28 : decode prog_8_method_6_code 28 = .ok (.ireturn, 1) := by decide +kernel
theorem d_Me_addCut_29 : decode prog_8_method_6_code 29 = .ok (.aload_n 0, 1) := by decide +kernel
theorem d_Me_addCut_30 : decode prog_8_method_6_code 30 = .ok (.getfield 20, 3) := by decide +kernel
theorem d_Me_addCut_33 : decode prog_8_method_6_code 33 = .ok (.aload_n 0, 1) := by decide +kernel
theorem d_Me_addCut_34 : decode prog_8_method_6_code 34 = .ok (.getfield 29, 3) := by decide +kernel
theorem d_Me_addCut_37 : decode prog_8_method_6_code 37 = .ok (.aaload, 1) := by decide +kernel
theorem d_Me_addCut_38 : decode prog_8_method_6_code 38 = .ok (.astore_n 2, 1) := by decide +kernel
theorem d_Me_addCut_39 : decode prog_8_method_6_code 39 = .ok (.aload_n 2, 1) := by decide +kernel
theorem d_Me_addCut_40 : decode prog_8_method_6_code 40 = .ok (.iload_n 1, 1) := by decide +kernel
theorem d_Me_addCut_41 : decode prog_8_method_6_code 41 = .ok (.invokevirtual 35, 3) := by decide +kernel
theorem d_Me_addCut_44 : decode prog_8_method_6_code 44 = .ok (.aload_n 0, 1) := by decide +kernel
theorem d_Me_addCut_45 : decode prog_8_method_6_code 45 = .ok (.getfield 29, 3) := by decide +kernel
theorem d_Me_addCut_48 : decode prog_8_method_6_code 48 = .ok (.istore_n 3, 1) := by decide +kernel
theorem d_Me_addCut_49 : decode prog_8_method_6_code 49 = .ok (.iload_n 3, 1) := by decide +kernel
theorem d_Me_addCut_50 : decode prog_8_method_6_code 50 = .ok (.ifCond .le 38, 3) := by decide +kernel
theorem d_Me_addCut_53 : decode prog_8_method_6_code 53 = .ok (.aload_n 0, 1) := by decide +kernel
theorem d_Me_addCut_54 : decode prog_8_method_6_code 54 = .ok (.getfield 20, 3) := by decide +kernel
theorem d_Me_addCut_57 : decode prog_8_method_6_code 57 = .ok (.iload_n 3, 1) := by decide +kernel
theorem d_Me_addCut_58 : decode prog_8_method_6_code 58 = .ok (.iconst 1, 1) := by decide +kernel
theorem d_Me_addCut_59 : decode prog_8_method_6_code 59 = .ok (.isub, 1) := by decide +kernel
theorem d_Me_addCut_60 : decode prog_8_method_6_code 60 = .ok (.aaload, 1) := by decide +kernel
theorem d_Me_addCut_61 : decode prog_8_method_6_code 61 = .ok (.getfield 39, 3) := by decide +kernel
theorem d_Me_addCut_64 : decode prog_8_method_6_code 64 = .ok (.iload_n 1, 1) := by decide +kernel
theorem d_Me_addCut_65 : decode prog_8_method_6_code 65 = .ok (.if_icmp .le 23, 3) := by decide +kernel
theorem d_Me_addCut_68 : decode prog_8_method_6_code 68 = .ok (.aload_n 0, 1) := by decide +kernel
theorem d_Me_addCut_69 : decode prog_8_method_6_code 69 = .ok (.getfield 20, 3) := by decide +kernel
theorem d_Me_addCut_72 : decode prog_8_method_6_code 72 = .ok (.iload_n 3, 1) := by decide +kernel
theorem d_Me_addCut_73 : decode prog_8_method_6_code 73 = .ok (.aload_n 0, 1) := by decide +kernel
theorem d_Me_addCut_74 : decode prog_8_method_6_code 74 = .ok (.getfield 20, 3) := by decide +kernel
theorem d_Me_addCut_77 : decode prog_8_method_6_code 77 = .ok (.iload_n 3, 1) := by decide +kernel
theorem d_Me_addCut_78 : decode prog_8_method_6_code 78 = .ok (.iconst 1, 1) := by decide +kernel
theorem d_Me_addCut_79 : decode prog_8_method_6_code 79 = .ok (.isub, 1) := by decide +kernel
theorem d_Me_addCut_80 : decode prog_8_method_6_code 80 = .ok (.aaload, 1) := by decide +kernel
theorem d_Me_addCut_81 : decode prog_8_method_6_code 81 = .ok (.aastore, 1) := by decide +kernel
theorem d_Me_addCut_82 : decode prog_8_method_6_code 82 = .ok (.iinc 3 (-1), 3) := by decide +kernel
theorem d_Me_addCut_85 : decode prog_8_method_6_code 85 = .ok (.goto (-36), 3) := by decide +kernel
theorem d_Me_addCut_88 : decode prog_8_method_6_code 88 = .ok (.aload_n 0, 1) := by decide +kernel
theorem d_Me_addCut_89 : decode prog_8_method_6_code 89 = .ok (.getfield 20, 3) := by decide +kernel
theorem d_Me_addCut_92 : decode prog_8_method_6_code 92 = .ok (.iload_n 3, 1) := by decide +kernel
theorem d_Me_addCut_93 : decode prog_8_method_6_code 93 = .ok (.aload_n 2, 1) := by decide +kernel
theorem d_Me_addCut_94 : decode prog_8_method_6_code 94 = .ok (.aastore, 1) := by decide +kernel
theorem d_Me_addCut_95 : decode prog_8_method_6_code 95 = .ok (.aload_n 0, 1) := by decide +kernel
theorem d_Me_addCut_96 : decode prog_8_method_6_code 96 = .ok (.dup, 1) := by decide +kernel
theorem d_Me_addCut_97 : decode prog_8_method_6_code 97 = .ok (.getfield 29, 3) := by decide +kernel
theorem d_Me_addCut_100 : decode prog_8_method_6_code 100 = .ok (.iconst 1, 1) := by decide +kernel
theorem d_Me_addCut_101 : decode prog_8_method_6_code 101 = .ok (.iadd, 1) := by decide +kernel
theorem d_Me_addCut_102 : decode prog_8_method_6_code 102 = .ok (.putfield 29, 3) := by decide +kernel
theorem d_Me_addCut_105 : decode prog_8_method_6_code 105 = .ok (.iconst 1, 1) := by decide +kernel
theorem d_Me_addCut_106 : decode prog_8_method_6_code 106 = .ok (.ireturn, 1) := by decide +kernel
theorem d_Me_findCut_0 : decode prog_8_method_5_code 0 = .ok (.iconst 0, 1) := by decide +kernel
theorem d_Me_findCut_1 : decode prog_8_method_5_code 1 = .ok (.istore_n 2, 1) := by decide +kernel
theorem d_Me_findCut_2 : decode prog_8_method_5_code 2 = .ok (.iload_n 2, 1) := by decide +kernel
theorem d_Me_findCut_3 : decode prog_8_method_5_code 3 = .ok (.aload_n 0, 1) := by decide +kernel
theorem d_Me_findCut_4 : decode prog_8_method_5_code 4 = .ok (.getfield 29, 3) := by decide +kernel
theorem d_Me_findCut_7 : decode prog_8_method_5_code 7 = .ok (.if_icmp .ge 29, 3) := by decide +kernel
theorem d_Me_findCut_10 : decode prog_8_method_5_code 10 = .ok (.aload_n 0, 1) := by decide +kernel
theorem d_Me_findCut_11 : decode prog_8_method_5_code 11 = .ok (.getfield 20, 3) := by decide +kernel
theorem d_Me_findCut_14 : decode prog_8_method_5_code 14 = .ok (.iload_n 2, 1) := by decide +kernel
theorem d_Me_findCut_15 : decode prog_8_method_5_code 15 = .ok (.aaload, 1) := by decide +kernel
theorem d_Me_findCut_16 : decode prog_8_method_5_code 16 = .ok (.getfield 39, 3) := by decide +kernel
theorem d_Me_findCut_19 : decode prog_8_method_5_code 19 = .ok (.iload_n 1, 1) := by decide +kernel
theorem d_Me_findCut_20 : decode prog_8_method_5_code 20 = .ok (.if_icmp .ne 10, 3) := by decide +kernel
theorem d_Me_findCut_23 : decode prog_8_method_5_code 23 = .ok (.aload_n 0, 1) := by decide +kernel
theorem d_Me_findCut_24 : decode prog_8_method_5_code 24 = .ok (.getfield 20, 3) := by decide +kernel
theorem d_Me_findCut_27 : decode prog_8_method_5_code 27 = .ok (.iload_n 2, 1) := by decide +kernel
theorem d_Me_findCut_28 : decode prog_8_method_5_code 28 = .ok (.aaload, 1) := by decide +kernel
theorem d_Me_findCut_29 : decode prog_8_method_5_code 29 = .ok (.areturn, 1) := by decide +kernel
theorem d_Me_findCut_30 : decode prog_8_method_5_code 30 = .ok (.iinc 2 1, 3) := by decide +kernel
theorem d_Me_findCut_33 : decode prog_8_method_5_code 33 = .ok (.goto (-31), 3) := by decide +kernel
theorem d_Me_findCut_36 : decode prog_8_method_5_code 36 = .ok (.aconst_null, 1) := by decide +kernel
theorem d_Me_findCut_37 : decode prog_8_method_5_code 37 = .ok (.areturn, 1) := by decide +kernel
theorem d_CC_claim_0 : decode prog_1_method_5_code 0 = .ok (.aload_n 0, 1) := by decide +kernel
theorem d_CC_claim_1 : decode prog_1_method_5_code 1 = .ok (.iload_n 1, 1) := by decide +kernel
theorem d_CC_claim_2 : decode prog_1_method_5_code 2 = .ok (.iload_n 2, 1) := by decide +kernel
theorem d_CC_claim_3 : decode prog_1_method_5_code 3 = .ok (.invokevirtual 65, 3) := by decide +kernel
theorem d_CC_claim_6 : decode prog_1_method_5_code 6 = .ok (.astore 6, 2) := by decide +kernel
theorem d_CC_claim_8 : decode prog_1_method_5_code 8 = .ok (.aload 6, 2) := by decide +kernel
theorem d_CC_claim_10 : decode prog_1_method_5_code 10 = .ok (.ifnull 26, 3) := by decide +kernel
theorem d_CC_claim_13 : decode prog_1_method_5_code 13 = .ok (.iload_n 3, 1) := by decide +kernel
theorem d_CC_claim_14 : decode prog_1_method_5_code 14 = .ok (.iload 4, 2) := by decide +kernel
theorem d_CC_claim_16 : decode prog_1_method_5_code 16 = .ok (.invokestatic 69, 3) := by decide +kernel
theorem d_CC_claim_19 : decode prog_1_method_5_code 19 = .ok (.ifCond .eq 17, 3) := by decide +kernel
theorem d_CC_claim_22 : decode prog_1_method_5_code 22 = .ok (.iload 5, 2) := by decide +kernel
theorem d_CC_claim_24 : decode prog_1_method_5_code 24 = .ok (.sipush (-1000), 3) := by decide +kernel
theorem d_CC_claim_27 : decode prog_1_method_5_code 27 = .ok (.sipush 1000, 3) := by decide +kernel
theorem d_CC_claim_30 : decode prog_1_method_5_code 30 = .ok (.invokestatic 42, 3) := by decide +kernel
theorem d_CC_claim_33 : decode prog_1_method_5_code 33 = .ok (.ifCond .ne 5, 3) := by decide +kernel
theorem d_CC_claim_36 : decode prog_1_method_5_code 36 = .ok (.iconst 0, 1) := by decide +kernel
theorem d_CC_claim_37 : decode prog_1_method_5_code 37 = .ok (.ireturn, 1) := by decide +kernel
theorem d_CC_claim_38 : decode prog_1_method_5_code 38 = .ok (.aload_n 0, 1) := by decide +kernel
theorem d_CC_claim_39 : decode prog_1_method_5_code 39 = .ok (.iload_n 1, 1) := by decide +kernel
theorem d_CC_claim_40 : decode prog_1_method_5_code 40 = .ok (.aload 6, 2) := by decide +kernel
theorem d_CC_claim_42 : decode prog_1_method_5_code 42 = .ok (.iload_n 3, 1) := by decide +kernel
theorem d_CC_claim_43 : decode prog_1_method_5_code 43 = .ok (.iload 4, 2) := by decide +kernel
theorem d_CC_claim_45 : decode prog_1_method_5_code 45 = .ok (.iload 5, 2) := by decide +kernel
theorem d_CC_claim_47 : decode prog_1_method_5_code 47 = .ok (.invokevirtual 72, 3) := by decide +kernel
theorem d_CC_claim_50 : decode prog_1_method_5_code 50 = .ok (.invokevirtual 50, 3) := by decide +kernel
theorem d_CC_claim_53 : decode prog_1_method_5_code 53 = .ok (.ireturn, 1) := by decide +kernel
theorem d_CC_cutAt_0 : decode prog_1_method_16_code 0 = .ok (.aload_n 0, 1) := by decide +kernel
theorem d_CC_cutAt_1 : decode prog_1_method_16_code 1 = .ok (.iload_n 1, 1) := by decide +kernel
theorem d_CC_cutAt_2 : decode prog_1_method_16_code 2 = .ok (.invokevirtual 38, 3) := by decide +kernel
theorem d_CC_cutAt_5 : decode prog_1_method_16_code 5 = .ok (.astore_n 3, 1) := by decide +kernel
theorem d_CC_cutAt_6 : decode prog_1_method_16_code 6 = .ok (.aload_n 3, 1) := by decide +kernel
theorem d_CC_cutAt_7 : decode prog_1_method_16_code 7 = .ok (.ifnonnull 7, 3) := by decide +kernel
theorem d_CC_cutAt_10 : decode prog_1_method_16_code 10 = .ok (.aconst_null, 1) := by decide +kernel
theorem d_CC_cutAt_11 : decode prog_1_method_16_code 11 = .ok (.goto 8, 3) := by decide +kernel
theorem d_CC_cutAt_14 : decode prog_1_method_16_code 14 = .ok (.aload_n 3, 1) := by decide +kernel
theorem d_CC_cutAt_15 : decode prog_1_method_16_code 15 = .ok (.iload_n 2, 1) := by decide +kernel
theorem d_CC_cutAt_16 : decode prog_1_method_16_code 16 = .ok (.invokevirtual 146, 3) := by decide +kernel
theorem d_CC_cutAt_19 : decode prog_1_method_16_code 19 = .ok (.areturn, 1) := by decide +kernel
theorem d_CC_areTwoSides_0 : decode prog_1_method_23_code 0 = .ok (.iload_n 0, 1) := by decide +kernel
theorem d_CC_areTwoSides_1 : decode prog_1_method_23_code 1 = .ok (.iconst 0, 1) := by decide +kernel
theorem d_CC_areTwoSides_2 : decode prog_1_method_23_code 2 = .ok (.iconst 4, 1) := by decide +kernel
theorem d_CC_areTwoSides_3 : decode prog_1_method_23_code 3 = .ok (.invokestatic 42, 3) := by decide +kernel
theorem d_CC_areTwoSides_6 : decode prog_1_method_23_code 6 = .ok (.ifCond .eq 21, 3) := by decide +kernel
theorem d_CC_areTwoSides_9 : decode prog_1_method_23_code 9 = .ok (.iload_n 1, 1) := by decide +kernel
theorem d_CC_areTwoSides_10 : decode prog_1_method_23_code 10 = .ok (.iconst 0, 1) := by decide +kernel
theorem d_CC_areTwoSides_11 : decode prog_1_method_23_code 11 = .ok (.iconst 4, 1) := by decide +kernel
theorem d_CC_areTwoSides_12 : decode prog_1_method_23_code 12 = .ok (.invokestatic 42, 3) := by decide +kernel
theorem d_CC_areTwoSides_15 : decode prog_1_method_23_code 15 = .ok (.ifCond .eq 12, 3) := by decide +kernel
theorem d_CC_areTwoSides_18 : decode prog_1_method_23_code 18 = .ok (.iload_n 0, 1) := by decide +kernel
theorem d_CC_areTwoSides_19 : decode prog_1_method_23_code 19 = .ok (.iload_n 1, 1) := by decide +kernel
theorem d_CC_areTwoSides_20 : decode prog_1_method_23_code 20 = .ok (.if_icmp .eq 7, 3) := by decide +kernel
theorem d_CC_areTwoSides_23 : decode prog_1_method_23_code 23 = .ok (.iconst 1, 1) := by decide +kernel
theorem d_CC_areTwoSides_24 : decode prog_1_method_23_code 24 = .ok (.goto 4, 3) := by decide +kernel
theorem d_CC_areTwoSides_27 : decode prog_1_method_23_code 27 = .ok (.iconst 0, 1) := by decide +kernel
theorem d_CC_areTwoSides_28 : decode prog_1_method_23_code 28 = .ok (.ireturn, 1) := by decide +kernel
theorem d_Cu_addClaim_0 : decode prog_4_method_3_code 0 = .ok (.aload_n 0, 1) := by decide +kernel
theorem d_Cu_addClaim_1 : decode prog_4_method_3_code 1 = .ok (.getfield 32, 3) := by decide +kernel
theorem d_Cu_addClaim_4 : decode prog_4_method_3_code 4 = .ok (.bipush 6, 2) := by decide +kernel
theorem d_Cu_addClaim_6 : decode prog_4_method_3_code 6 = .ok (.if_icmp .lt 5, 3) := by decide +kernel
theorem d_Cu_addClaim_9 : decode prog_4_method_3_code 9 = .ok (.iconst 0, 1) := by decide +kernel
theorem d_Cu_addClaim_10 : decode prog_4_method_3_code 10 = .ok (.ireturn, 1) := by decide +kernel
theorem d_Cu_addClaim_11 : decode prog_4_method_3_code 11 = .ok (.aload_n 0, 1) := by decide +kernel
theorem d_Cu_addClaim_12 : decode prog_4_method_3_code 12 = .ok (.getfield 9, 3) := by decide +kernel
theorem d_Cu_addClaim_15 : decode prog_4_method_3_code 15 = .ok (.aload_n 0, 1) := by decide +kernel
theorem d_Cu_addClaim_16 : decode prog_4_method_3_code 16 = .ok (.getfield 32, 3) := by decide +kernel
theorem d_Cu_addClaim_19 : decode prog_4_method_3_code 19 = .ok (.iload_n 1, 1) := by decide +kernel
theorem d_Cu_addClaim_20 : decode prog_4_method_3_code 20 = .ok (.iastore, 1) := by decide +kernel
theorem d_Cu_addClaim_21 : decode prog_4_method_3_code 21 = .ok (.aload_n 0, 1) := by decide +kernel
theorem d_Cu_addClaim_22 : decode prog_4_method_3_code 22 = .ok (.getfield 15, 3) := by decide +kernel
theorem d_Cu_addClaim_25 : decode prog_4_method_3_code 25 = .ok (.aload_n 0, 1) := by decide +kernel
theorem d_Cu_addClaim_26 : decode prog_4_method_3_code 26 = .ok (.getfield 32, 3) := by decide +kernel
theorem d_Cu_addClaim_29 : decode prog_4_method_3_code 29 = .ok (.iload_n 2, 1) := by decide +kernel
theorem d_Cu_addClaim_30 : decode prog_4_method_3_code 30 = .ok (.iastore, 1) := by decide +kernel
theorem d_Cu_addClaim_31 : decode prog_4_method_3_code 31 = .ok (.aload_n 0, 1) := by decide +kernel
theorem d_Cu_addClaim_32 : decode prog_4_method_3_code 32 = .ok (.getfield 18, 3) := by decide +kernel
theorem d_Cu_addClaim_35 : decode prog_4_method_3_code 35 = .ok (.aload_n 0, 1) := by decide +kernel
theorem d_Cu_addClaim_36 : decode prog_4_method_3_code 36 = .ok (.getfield 32, 3) := by decide +kernel
theorem d_Cu_addClaim_39 : decode prog_4_method_3_code 39 = .ok (.iload_n 3, 1) := by decide +kernel
theorem d_Cu_addClaim_40 : decode prog_4_method_3_code 40 = .ok (.iastore, 1) := by decide +kernel
theorem d_Cu_addClaim_41 : decode prog_4_method_3_code 41 = .ok (.aload_n 0, 1) := by decide +kernel
theorem d_Cu_addClaim_42 : decode prog_4_method_3_code 42 = .ok (.dup, 1) := by decide +kernel
theorem d_Cu_addClaim_43 : decode prog_4_method_3_code 43 = .ok (.getfield 32, 3) := by decide +kernel
theorem d_Cu_addClaim_46 : decode prog_4_method_3_code 46 = .ok (.iconst 1, 1) := by decide +kernel
theorem d_Cu_addClaim_47 : decode prog_4_method_3_code 47 = .ok (.iadd, 1) := by decide +kernel
theorem d_Cu_addClaim_48 : decode prog_4_method_3_code 48 = .ok (.putfield 32, 3) := by decide +kernel
theorem d_Cu_addClaim_51 : decode prog_4_method_3_code 51 = .ok (.iconst 1, 1) := by decide +kernel
theorem d_Cu_addClaim_52 : decode prog_4_method_3_code 52 = .ok (.ireturn, 1) := by decide +kernel
theorem d_CC_base_0 : decode prog_1_method_6_code 0 = .ok (.aload_n 0, 1) := by decide +kernel
theorem d_CC_base_1 : decode prog_1_method_6_code 1 = .ok (.iload_n 1, 1) := by decide +kernel
theorem d_CC_base_2 : decode prog_1_method_6_code 2 = .ok (.iload_n 2, 1) := by decide +kernel
theorem d_CC_base_3 : decode prog_1_method_6_code 3 = .ok (.invokevirtual 65, 3) := by decide +kernel
theorem d_CC_base_6 : decode prog_1_method_6_code 6 = .ok (.astore 5, 2) := by decide +kernel
theorem d_CC_base_8 : decode prog_1_method_6_code 8 = .ok (.aload 5, 2) := by decide +kernel
theorem d_CC_base_10 : decode prog_1_method_6_code 10 = .ok (.ifnull 24, 3) := by decide +kernel
theorem d_CC_base_13 : decode prog_1_method_6_code 13 = .ok (.iload_n 3, 1) := by decide +kernel
theorem d_CC_base_14 : decode prog_1_method_6_code 14 = .ok (.invokestatic 77, 3) := by decide +kernel
theorem d_CC_base_17 : decode prog_1_method_6_code 17 = .ok (.ifCond .eq 17, 3) := by decide +kernel
theorem d_CC_base_20 : decode prog_1_method_6_code 20 = .ok (.iload 4, 2) := by decide +kernel
theorem d_CC_base_22 : decode prog_1_method_6_code 22 = .ok (.sipush (-10000), 3) := by decide +kernel
theorem d_CC_base_25 : decode prog_1_method_6_code 25 = .ok (.sipush 10000, 3) := by decide +kernel
theorem d_CC_base_28 : decode prog_1_method_6_code 28 = .ok (.invokestatic 42, 3) := by decide +kernel
theorem d_CC_base_31 : decode prog_1_method_6_code 31 = .ok (.ifCond .ne 5, 3) := by decide +kernel
theorem d_CC_base_34 : decode prog_1_method_6_code 34 = .ok (.iconst 0, 1) := by decide +kernel
theorem d_CC_base_35 : decode prog_1_method_6_code 35 = .ok (.ireturn, 1) := by decide +kernel
theorem d_CC_base_36 : decode prog_1_method_6_code 36 = .ok (.aload 5, 2) := by decide +kernel
theorem d_CC_base_38 : decode prog_1_method_6_code 38 = .ok (.getfield 80, 3) := by decide +kernel
theorem d_CC_base_41 : decode prog_1_method_6_code 41 = .ok (.iload_n 3, 1) := by decide +kernel
theorem d_CC_base_42 : decode prog_1_method_6_code 42 = .ok (.aaload, 1) := by decide +kernel
theorem d_CC_base_43 : decode prog_1_method_6_code 43 = .ok (.iload 4, 2) := by decide +kernel
theorem d_CC_base_45 : decode prog_1_method_6_code 45 = .ok (.putfield 84, 3) := by decide +kernel
theorem d_CC_base_48 : decode prog_1_method_6_code 48 = .ok (.aload_n 0, 1) := by decide +kernel
theorem d_CC_base_49 : decode prog_1_method_6_code 49 = .ok (.iload_n 1, 1) := by decide +kernel
theorem d_CC_base_50 : decode prog_1_method_6_code 50 = .ok (.iconst 1, 1) := by decide +kernel
theorem d_CC_base_51 : decode prog_1_method_6_code 51 = .ok (.invokevirtual 50, 3) := by decide +kernel
theorem d_CC_base_54 : decode prog_1_method_6_code 54 = .ok (.ireturn, 1) := by decide +kernel
theorem d_CC_isPotential_0 : decode prog_1_method_22_code 0 = .ok (.iload_n 0, 1) := by decide +kernel
theorem d_CC_isPotential_1 : decode prog_1_method_22_code 1 = .ok (.iconst 0, 1) := by decide +kernel
theorem d_CC_isPotential_2 : decode prog_1_method_22_code 2 = .ok (.iconst 1, 1) := by decide +kernel
theorem d_CC_isPotential_3 : decode prog_1_method_22_code 3 = .ok (.invokestatic 42, 3) := by decide +kernel
theorem d_CC_isPotential_6 : decode prog_1_method_22_code 6 = .ok (.ireturn, 1) := by decide +kernel
theorem d_CC_term_0 : decode prog_1_method_7_code 0 = .ok (.aload_n 0, 1) := by decide +kernel
theorem d_CC_term_1 : decode prog_1_method_7_code 1 = .ok (.iload_n 1, 1) := by decide +kernel
theorem d_CC_term_2 : decode prog_1_method_7_code 2 = .ok (.iload_n 2, 1) := by decide +kernel
theorem d_CC_term_3 : decode prog_1_method_7_code 3 = .ok (.invokevirtual 65, 3) := by decide +kernel
theorem d_CC_term_6 : decode prog_1_method_7_code 6 = .ok (.astore 6, 2) := by decide +kernel
theorem d_CC_term_8 : decode prog_1_method_7_code 8 = .ok (.aload 6, 2) := by decide +kernel
theorem d_CC_term_10 : decode prog_1_method_7_code 10 = .ok (.ifnull 21, 3) := by decide +kernel
theorem d_CC_term_13 : decode prog_1_method_7_code 13 = .ok (.iload_n 3, 1) := by decide +kernel
theorem d_CC_term_14 : decode prog_1_method_7_code 14 = .ok (.invokestatic 77, 3) := by decide +kernel
theorem d_CC_term_17 : decode prog_1_method_7_code 17 = .ok (.ifCond .eq 14, 3) := by decide +kernel
theorem d_CC_term_20 : decode prog_1_method_7_code 20 = .ok (.iload 4, 2) := by decide +kernel
theorem d_CC_term_22 : decode prog_1_method_7_code 22 = .ok (.iconst 1, 1) := by decide +kernel
theorem d_CC_term_23 : decode prog_1_method_7_code 23 = .ok (.bipush 100, 2) := by decide +kernel
theorem d_CC_term_25 : decode prog_1_method_7_code 25 = .ok (.invokestatic 42, 3) := by decide +kernel
theorem d_CC_term_28 : decode prog_1_method_7_code 28 = .ok (.ifCond .ne 5, 3) := by decide +kernel
theorem d_CC_term_31 : decode prog_1_method_7_code 31 = .ok (.iconst 0, 1) := by decide +kernel
theorem d_CC_term_32 : decode prog_1_method_7_code 32 = .ok (.ireturn, 1) := by decide +kernel
theorem d_CC_term_33 : decode prog_1_method_7_code 33 = .ok (.iload 5, 2) := by decide +kernel
theorem d_CC_term_35 : decode prog_1_method_7_code 35 = .ok (.iconst 0, 1) := by decide +kernel
theorem d_CC_term_36 : decode prog_1_method_7_code 36 = .ok (.bipush 24, 2) := by decide +kernel
theorem d_CC_term_38 : decode prog_1_method_7_code 38 = .ok (.invokestatic 42, 3) := by decide +kernel
theorem d_CC_term_41 : decode prog_1_method_7_code 41 = .ok (.ifCond .eq 17, 3) := by decide +kernel
theorem d_CC_term_44 : decode prog_1_method_7_code 44 = .ok (.iload 5, 2) := by decide +kernel
theorem d_CC_term_46 : decode prog_1_method_7_code 46 = .ok (.iconst 5, 1) := by decide +kernel
theorem d_CC_term_47 : decode prog_1_method_7_code 47 = .ok (.idiv, 1) := by decide +kernel
theorem d_CC_term_48 : decode prog_1_method_7_code 48 = .ok (.iload 5, 2) := by decide +kernel
theorem d_CC_term_50 : decode prog_1_method_7_code 50 = .ok (.iconst 5, 1) := by decide +kernel
theorem d_CC_term_51 : decode prog_1_method_7_code 51 = .ok (.irem, 1) := by decide +kernel
theorem d_CC_term_52 : decode prog_1_method_7_code 52 = .ok (.invokestatic 69, 3) := by decide +kernel
theorem d_CC_term_55 : decode prog_1_method_7_code 55 = .ok (.ifCond .ne 5, 3) := by decide +kernel
theorem d_CC_term_58 : decode prog_1_method_7_code 58 = .ok (.iconst 0, 1) := by decide +kernel
theorem d_CC_term_59 : decode prog_1_method_7_code 59 = .ok (.ireturn, 1) := by decide +kernel
theorem d_CC_term_60 : decode prog_1_method_7_code 60 = .ok (.aload_n 0, 1) := by decide +kernel
theorem d_CC_term_61 : decode prog_1_method_7_code 61 = .ok (.iload_n 1, 1) := by decide +kernel
theorem d_CC_term_62 : decode prog_1_method_7_code 62 = .ok (.aload 6, 2) := by decide +kernel
theorem d_CC_term_64 : decode prog_1_method_7_code 64 = .ok (.getfield 80, 3) := by decide +kernel
theorem d_CC_term_67 : decode prog_1_method_7_code 67 = .ok (.iload_n 3, 1) := by decide +kernel
theorem d_CC_term_68 : decode prog_1_method_7_code 68 = .ok (.aaload, 1) := by decide +kernel
theorem d_CC_term_69 : decode prog_1_method_7_code 69 = .ok (.iload 4, 2) := by decide +kernel
theorem d_CC_term_71 : decode prog_1_method_7_code 71 = .ok (.iload 5, 2) := by decide +kernel
theorem d_CC_term_73 : decode prog_1_method_7_code 73 = .ok (.iconst 5, 1) := by decide +kernel
theorem d_CC_term_74 : decode prog_1_method_7_code 74 = .ok (.idiv, 1) := by decide +kernel
theorem d_CC_term_75 : decode prog_1_method_7_code 75 = .ok (.iload 5, 2) := by decide +kernel
theorem d_CC_term_77 : decode prog_1_method_7_code 77 = .ok (.iconst 5, 1) := by decide +kernel
theorem d_CC_term_78 : decode prog_1_method_7_code 78 = .ok (.irem, 1) := by decide +kernel
theorem d_CC_term_79 : decode prog_1_method_7_code 79 = .ok (.invokevirtual 89, 3) := by decide +kernel
theorem d_CC_term_82 : decode prog_1_method_7_code 82 = .ok (.invokevirtual 50, 3) := by decide +kernel
theorem d_CC_term_85 : decode prog_1_method_7_code 85 = .ok (.ireturn, 1) := by decide +kernel
theorem d_Po_addTerm_0 : decode prog_10_method_3_code 0 = .ok (.aload_n 0, 1) := by decide +kernel
theorem d_Po_addTerm_1 : decode prog_10_method_3_code 1 = .ok (.getfield 25, 3) := by decide +kernel
theorem d_Po_addTerm_4 : decode prog_10_method_3_code 4 = .ok (.iconst 3, 1) := by decide +kernel
theorem d_Po_addTerm_5 : decode prog_10_method_3_code 5 = .ok (.if_icmp .lt 5, 3) := by decide +kernel
theorem d_Po_addTerm_8 : decode prog_10_method_3_code 8 = .ok (.iconst 0, 1) := by decide +kernel
theorem d_Po_addTerm_9 : decode prog_10_method_3_code 9 = .ok (.ireturn, 1) := by decide +kernel
theorem d_Po_addTerm_10 : decode prog_10_method_3_code 10 = .ok (.aload_n 0, 1) := by decide +kernel
theorem d_Po_addTerm_11 : decode prog_10_method_3_code 11 = .ok (.getfield 9, 3) := by decide +kernel
theorem d_Po_addTerm_14 : decode prog_10_method_3_code 14 = .ok (.aload_n 0, 1) := by decide +kernel
theorem d_Po_addTerm_15 : decode prog_10_method_3_code 15 = .ok (.getfield 25, 3) := by decide +kernel
theorem d_Po_addTerm_18 : decode prog_10_method_3_code 18 = .ok (.iload_n 1, 1) := by decide +kernel
theorem d_Po_addTerm_19 : decode prog_10_method_3_code 19 = .ok (.iastore, 1) := by decide +kernel
theorem d_Po_addTerm_20 : decode prog_10_method_3_code 20 = .ok (.aload_n 0, 1) := by decide +kernel
theorem d_Po_addTerm_21 : decode prog_10_method_3_code 21 = .ok (.getfield 15, 3) := by decide +kernel
theorem d_Po_addTerm_24 : decode prog_10_method_3_code 24 = .ok (.aload_n 0, 1) := by decide +kernel
theorem d_Po_addTerm_25 : decode prog_10_method_3_code 25 = .ok (.getfield 25, 3) := by decide +kernel
theorem d_Po_addTerm_28 : decode prog_10_method_3_code 28 = .ok (.iload_n 2, 1) := by decide +kernel
theorem d_Po_addTerm_29 : decode prog_10_method_3_code 29 = .ok (.iastore, 1) := by decide +kernel
theorem d_Po_addTerm_30 : decode prog_10_method_3_code 30 = .ok (.aload_n 0, 1) := by decide +kernel
theorem d_Po_addTerm_31 : decode prog_10_method_3_code 31 = .ok (.getfield 18, 3) := by decide +kernel
theorem d_Po_addTerm_34 : decode prog_10_method_3_code 34 = .ok (.aload_n 0, 1) := by decide +kernel
theorem d_Po_addTerm_35 : decode prog_10_method_3_code 35 = .ok (.getfield 25, 3) := by decide +kernel
theorem d_Po_addTerm_38 : decode prog_10_method_3_code 38 = .ok (.iload_n 3, 1) := by decide +kernel
theorem d_Po_addTerm_39 : decode prog_10_method_3_code 39 = .ok (.iastore, 1) := by decide +kernel
theorem d_Po_addTerm_40 : decode prog_10_method_3_code 40 = .ok (.aload_n 0, 1) := by decide +kernel
theorem d_Po_addTerm_41 : decode prog_10_method_3_code 41 = .ok (.dup, 1) := by decide +kernel
theorem d_Po_addTerm_42 : decode prog_10_method_3_code 42 = .ok (.getfield 25, 3) := by decide +kernel
theorem d_Po_addTerm_45 : decode prog_10_method_3_code 45 = .ok (.iconst 1, 1) := by decide +kernel
theorem d_Po_addTerm_46 : decode prog_10_method_3_code 46 = .ok (.iadd, 1) := by decide +kernel
theorem d_Po_addTerm_47 : decode prog_10_method_3_code 47 = .ok (.putfield 25, 3) := by decide +kernel
theorem d_Po_addTerm_50 : decode prog_10_method_3_code 50 = .ok (.iconst 1, 1) := by decide +kernel
theorem d_Po_addTerm_51 : decode prog_10_method_3_code 51 = .ok (.ireturn, 1) := by decide +kernel
theorem d_CC_check_0 : decode prog_1_method_8_code 0 = .ok (.aload_n 0, 1) := by decide +kernel
theorem d_CC_check_1 : decode prog_1_method_8_code 1 = .ok (.iload_n 1, 1) := by decide +kernel
theorem d_CC_check_2 : decode prog_1_method_8_code 2 = .ok (.invokevirtual 38, 3) := by decide +kernel
theorem d_CC_check_5 : decode prog_1_method_8_code 5 = .ok (.astore_n 2, 1) := by decide +kernel
theorem d_CC_check_6 : decode prog_1_method_8_code 6 = .ok (.aload_n 2, 1) := by decide +kernel
theorem d_CC_check_7 : decode prog_1_method_8_code 7 = .ok (.ifnonnull 5, 3) := by decide +kernel
theorem d_CC_check_10 : decode prog_1_method_8_code 10 = .ok (.iconst (-1), 1) := by decide +kernel
theorem d_CC_check_11 : decode prog_1_method_8_code 11 = .ok (.ireturn, 1) := by decide +kernel
theorem d_CC_check_12 : decode prog_1_method_8_code 12 = .ok (.aload_n 0, 1) := by decide +kernel
theorem d_CC_check_13 : decode prog_1_method_8_code 13 = .ok (.getfield 30, 3) := by decide +kernel
theorem d_CC_check_16 : decode prog_1_method_8_code 16 = .ok (.aload_n 2, 1) := by decide +kernel
theorem d_CC_check_17 : decode prog_1_method_8_code 17 = .ok (.invokevirtual 92, 3) := by decide +kernel
theorem d_CC_check_20 : decode prog_1_method_8_code 20 = .ok (.istore_n 3, 1) := by decide +kernel
theorem d_CC_check_21 : decode prog_1_method_8_code 21 = .ok (.aload_n 2, 1) := by decide +kernel
theorem d_CC_check_22 : decode prog_1_method_8_code 22 = .ok (.iload_n 3, 1) := by decide +kernel
theorem d_CC_check_23 : decode prog_1_method_8_code 23 = .ok (.ifCond .ne 7, 3) := by decide +kernel
theorem d_CC_check_26 : decode prog_1_method_8_code 26 = .ok (.iconst 1, 1) := by decide +kernel
theorem d_CC_check_27 : decode prog_1_method_8_code 27 = .ok (.goto 4, 3) := by decide +kernel
theorem d_CC_check_30 : decode prog_1_method_8_code 30 = .ok (.iconst 0, 1) := by decide +kernel
theorem d_CC_check_31 : decode prog_1_method_8_code 31 = .ok (.putfield 96, 3) := by decide +kernel
theorem d_CC_check_34 : decode prog_1_method_8_code 34 = .ok (.iload_n 3, 1) := by decide +kernel
theorem d_CC_check_35 : decode prog_1_method_8_code 35 = .ok (.ireturn, 1) := by decide +kernel
theorem d_Sy_standForThemselves_0 : decode prog_11_method_3_code 0 = .ok (.iconst 0, 1) := by decide +kernel
theorem d_Sy_standForThemselves_1 : decode prog_11_method_3_code 1 = .ok (.istore_n 1, 1) := by decide +kernel
theorem d_Sy_standForThemselves_2 : decode prog_11_method_3_code 2 = .ok (.iload_n 1, 1) := by decide +kernel
theorem d_Sy_standForThemselves_3 : decode prog_11_method_3_code 3 = .ok (.iconst 5, 1) := by decide +kernel
theorem d_Sy_standForThemselves_4 : decode prog_11_method_3_code 4 = .ok (.if_icmp .ge 16, 3) := by decide +kernel
theorem d_Sy_standForThemselves_7 : decode prog_11_method_3_code 7 = .ok (.aload_n 0, 1) := by decide +kernel
theorem d_Sy_standForThemselves_8 : decode prog_11_method_3_code 8 = .ok (.iload_n 1, 1) := by decide +kernel
theorem d_Sy_standForThemselves_9 : decode prog_11_method_3_code 9 = .ok (.iload_n 1, 1) := by decide +kernel
theorem d_Sy_standForThemselves_10 : decode prog_11_method_3_code 10 = .ok (.lconst 0, 1) := by decide +kernel
theorem d_Sy_standForThemselves_11 : decode prog_11_method_3_code 11 = .ok (.invokevirtual 19, 3) := by decide +kernel
theorem d_Sy_standForThemselves_14 : decode prog_11_method_3_code 14 = .ok (.iinc 1 1, 3) := by decide +kernel
theorem d_Sy_standForThemselves_17 : decode prog_11_method_3_code 17 = .ok (.goto (-15), 3) := by decide +kernel
theorem d_Sy_standForThemselves_20 : decode prog_11_method_3_code 20 = .ok (.return_, 1) := by decide +kernel
theorem d_Sy_set_0 : decode prog_11_method_2_code 0 = .ok (.aload_n 0, 1) := by decide +kernel
theorem d_Sy_set_1 : decode prog_11_method_2_code 1 = .ok (.getfield 9, 3) := by decide +kernel
theorem d_Sy_set_4 : decode prog_11_method_2_code 4 = .ok (.iload_n 1, 1) := by decide +kernel
theorem d_Sy_set_5 : decode prog_11_method_2_code 5 = .ok (.iload_n 2, 1) := by decide +kernel
theorem d_Sy_set_6 : decode prog_11_method_2_code 6 = .ok (.iastore, 1) := by decide +kernel
theorem d_Sy_set_7 : decode prog_11_method_2_code 7 = .ok (.aload_n 0, 1) := by decide +kernel
theorem d_Sy_set_8 : decode prog_11_method_2_code 8 = .ok (.getfield 15, 3) := by decide +kernel
theorem d_Sy_set_11 : decode prog_11_method_2_code 11 = .ok (.iload_n 1, 1) := by decide +kernel
theorem d_Sy_set_12 : decode prog_11_method_2_code 12 = .ok (.lload_n 3, 1) := by decide +kernel
theorem d_Sy_set_13 : decode prog_11_method_2_code 13 = .ok (.lastore, 1) := by decide +kernel
theorem d_Sy_set_14 : decode prog_11_method_2_code 14 = .ok (.return_, 1) := by decide +kernel
theorem d_Me_hasPlace_0 : decode prog_8_method_4_code 0 = .ok (.iload_n 1, 1) := by decide +kernel
theorem d_Me_hasPlace_1 : decode prog_8_method_4_code 1 = .ok (.ifCond .lt 15, 3) := by decide +kernel
theorem d_Me_hasPlace_4 : decode prog_8_method_4_code 4 = .ok (.iload_n 1, 1) := by decide +kernel
theorem d_Me_hasPlace_5 : decode prog_8_method_4_code 5 = .ok (.aload_n 0, 1) := by decide +kernel
theorem d_Me_hasPlace_6 : decode prog_8_method_4_code 6 = .ok (.getfield 32, 3) := by decide +kernel
theorem d_Me_hasPlace_9 : decode prog_8_method_4_code 9 = .ok (.if_icmp .ge 7, 3) := by decide +kernel
theorem d_Me_hasPlace_12 : decode prog_8_method_4_code 12 = .ok (.iconst 1, 1) := by decide +kernel
theorem d_Me_hasPlace_13 : decode prog_8_method_4_code 13 = .ok (.goto 4, 3) := by decide +kernel
theorem d_Me_hasPlace_16 : decode prog_8_method_4_code 16 = .ok (.iconst 0, 1) := by decide +kernel
theorem d_Me_hasPlace_17 : decode prog_8_method_4_code 17 = .ok (.ireturn, 1) := by decide +kernel
theorem d_Po_speaksOfNothing_0 : decode prog_10_method_5_code 0 = .ok (.iconst 0, 1) := by decide +kernel
theorem d_Po_speaksOfNothing_1 : decode prog_10_method_5_code 1 = .ok (.istore_n 2, 1) := by decide +kernel
theorem d_Po_speaksOfNothing_2 : decode prog_10_method_5_code 2 = .ok (.iload_n 2, 1) := by decide +kernel
theorem d_Po_speaksOfNothing_3 : decode prog_10_method_5_code 3 = .ok (.aload_n 0, 1) := by decide +kernel
theorem d_Po_speaksOfNothing_4 : decode prog_10_method_5_code 4 = .ok (.getfield 25, 3) := by decide +kernel
theorem d_Po_speaksOfNothing_7 : decode prog_10_method_5_code 7 = .ok (.if_icmp .ge 41, 3) := by decide +kernel
theorem d_Po_speaksOfNothing_10 : decode prog_10_method_5_code 10 = .ok (.aload_n 1, 1) := by decide +kernel
theorem d_Po_speaksOfNothing_11 : decode prog_10_method_5_code 11 = .ok (.getfield 28, 3) := by decide +kernel
theorem d_Po_speaksOfNothing_14 : decode prog_10_method_5_code 14 = .ok (.aload_n 0, 1) := by decide +kernel
theorem d_Po_speaksOfNothing_15 : decode prog_10_method_5_code 15 = .ok (.getfield 15, 3) := by decide +kernel
theorem d_Po_speaksOfNothing_18 : decode prog_10_method_5_code 18 = .ok (.iload_n 2, 1) := by decide +kernel
theorem d_Po_speaksOfNothing_19 : decode prog_10_method_5_code 19 = .ok (.iaload, 1) := by decide +kernel
theorem d_Po_speaksOfNothing_20 : decode prog_10_method_5_code 20 = .ok (.iaload, 1) := by decide +kernel
theorem d_Po_speaksOfNothing_21 : decode prog_10_method_5_code 21 = .ok (.iconst (-1), 1) := by decide +kernel
theorem d_Po_speaksOfNothing_22 : decode prog_10_method_5_code 22 = .ok (.if_icmp .eq 18, 3) := by decide +kernel
theorem d_Po_speaksOfNothing_25 : decode prog_10_method_5_code 25 = .ok (.aload_n 1, 1) := by decide +kernel
theorem d_Po_speaksOfNothing_26 : decode prog_10_method_5_code 26 = .ok (.getfield 28, 3) := by decide +kernel
theorem d_Po_speaksOfNothing_29 : decode prog_10_method_5_code 29 = .ok (.aload_n 0, 1) := by decide +kernel
theorem d_Po_speaksOfNothing_30 : decode prog_10_method_5_code 30 = .ok (.getfield 18, 3) := by decide +kernel
theorem d_Po_speaksOfNothing_33 : decode prog_10_method_5_code 33 = .ok (.iload_n 2, 1) := by decide +kernel
theorem d_Po_speaksOfNothing_34 : decode prog_10_method_5_code 34 = .ok (.iaload, 1) := by decide +kernel
theorem d_Po_speaksOfNothing_35 : decode prog_10_method_5_code 35 = .ok (.iaload, 1) := by decide +kernel
theorem d_Po_speaksOfNothing_36 : decode prog_10_method_5_code 36 = .ok (.iconst (-1), 1) := by decide +kernel
theorem d_Po_speaksOfNothing_37 : decode prog_10_method_5_code 37 = .ok (.if_icmp .ne 5, 3) := by decide +kernel
theorem d_Po_speaksOfNothing_40 : decode prog_10_method_5_code 40 = .ok (.iconst 1, 1) := by decide +kernel
theorem d_Po_speaksOfNothing_41 : decode prog_10_method_5_code 41 = .ok (.ireturn, 1) := by decide +kernel
theorem d_Po_speaksOfNothing_42 : decode prog_10_method_5_code 42 = .ok (.iinc 2 1, 3) := by decide +kernel
theorem d_Po_speaksOfNothing_45 : decode prog_10_method_5_code 45 = .ok (.goto (-43), 3) := by decide +kernel
theorem d_Po_speaksOfNothing_48 : decode prog_10_method_5_code 48 = .ok (.iconst 0, 1) := by decide +kernel
theorem d_Po_speaksOfNothing_49 : decode prog_10_method_5_code 49 = .ok (.ireturn, 1) := by decide +kernel
theorem d_CC_isCramped_0 : decode prog_1_method_24_code 0 = .ok (.aload_n 1, 1) := by decide +kernel
theorem d_CC_isCramped_1 : decode prog_1_method_24_code 1 = .ok (.getfield 153, 3) := by decide +kernel
theorem d_CC_isCramped_4 : decode prog_1_method_24_code 4 = .ok (.iload_n 2, 1) := by decide +kernel
theorem d_CC_isCramped_5 : decode prog_1_method_24_code 5 = .ok (.iaload, 1) := by decide +kernel
theorem d_CC_isCramped_6 : decode prog_1_method_24_code 6 = .ok (.istore 4, 2) := by decide +kernel
theorem d_CC_isCramped_8 : decode prog_1_method_24_code 8 = .ok (.aload_n 1, 1) := by decide +kernel
theorem d_CC_isCramped_9 : decode prog_1_method_24_code 9 = .ok (.getfield 150, 3) := by decide +kernel
theorem d_CC_isCramped_12 : decode prog_1_method_24_code 12 = .ok (.iload_n 2, 1) := by decide +kernel
theorem d_CC_isCramped_13 : decode prog_1_method_24_code 13 = .ok (.iaload, 1) := by decide +kernel
theorem d_CC_isCramped_14 : decode prog_1_method_24_code 14 = .ok (.istore 5, 2) := by decide +kernel
theorem d_CC_isCramped_16 : decode prog_1_method_24_code 16 = .ok (.iload_n 3, 1) := by decide +kernel
theorem d_CC_isCramped_17 : decode prog_1_method_24_code 17 = .ok (.getstatic 167, 3) := by decide +kernel
theorem d_CC_isCramped_20 : decode prog_1_method_24_code 20 = .ok (.iload 4, 2) := by decide +kernel
theorem d_CC_isCramped_22 : decode prog_1_method_24_code 22 = .ok (.iaload, 1) := by decide +kernel
theorem d_CC_isCramped_23 : decode prog_1_method_24_code 23 = .ok (.isub, 1) := by decide +kernel
theorem d_CC_isCramped_24 : decode prog_1_method_24_code 24 = .ok (.istore 6, 2) := by decide +kernel
theorem d_CC_isCramped_26 : decode prog_1_method_24_code 26 = .ok (.iload 6, 2) := by decide +kernel
theorem d_CC_isCramped_28 : decode prog_1_method_24_code 28 = .ok (.ifCond .lt 17, 3) := by decide +kernel
theorem d_CC_isCramped_31 : decode prog_1_method_24_code 31 = .ok (.iload 6, 2) := by decide +kernel
theorem d_CC_isCramped_33 : decode prog_1_method_24_code 33 = .ok (.getstatic 170, 3) := by decide +kernel
theorem d_CC_isCramped_36 : decode prog_1_method_24_code 36 = .ok (.iload 4, 2) := by decide +kernel
theorem d_CC_isCramped_38 : decode prog_1_method_24_code 38 = .ok (.iaload, 1) := by decide +kernel
theorem d_CC_isCramped_39 : decode prog_1_method_24_code 39 = .ok (.iadd, 1) := by decide +kernel
theorem d_CC_isCramped_40 : decode prog_1_method_24_code 40 = .ok (.bipush 6, 2) := by decide +kernel
theorem d_CC_isCramped_42 : decode prog_1_method_24_code 42 = .ok (.if_icmp .le 5, 3) := by decide +kernel
theorem d_CC_isCramped_45 : decode prog_1_method_24_code 45 = .ok (.iconst 1, 1) := by decide +kernel
theorem d_CC_isCramped_46 : decode prog_1_method_24_code 46 = .ok (.ireturn, 1) := by decide +kernel
theorem d_CC_isCramped_47 : decode prog_1_method_24_code 47 = .ok (.iload 4, 2) := by decide +kernel
theorem d_CC_isCramped_49 : decode prog_1_method_24_code 49 = .ok (.iconst 1, 1) := by decide +kernel
theorem d_CC_isCramped_50 : decode prog_1_method_24_code 50 = .ok (.if_icmp .eq 9, 3) := by decide +kernel
theorem d_CC_isCramped_53 : decode prog_1_method_24_code 53 = .ok (.iload 4, 2) := by decide +kernel
theorem d_CC_isCramped_55 : decode prog_1_method_24_code 55 = .ok (.iconst 2, 1) := by decide +kernel
theorem d_CC_isCramped_56 : decode prog_1_method_24_code 56 = .ok (.if_icmp .ne 19, 3) := by decide +kernel
theorem d_CC_isCramped_59 : decode prog_1_method_24_code 59 = .ok (.iload 5, 2) := by decide +kernel
theorem d_CC_isCramped_61 : decode prog_1_method_24_code 61 = .ok (.iconst 0, 1) := by decide +kernel
theorem d_CC_isCramped_62 : decode prog_1_method_24_code 62 = .ok (.iconst 3, 1) := by decide +kernel
theorem d_CC_isCramped_63 : decode prog_1_method_24_code 63 = .ok (.invokestatic 42, 3) := by decide +kernel
theorem d_CC_isCramped_66 : decode prog_1_method_24_code 66 = .ok (.ifCond .ne 7, 3) := by decide +kernel
theorem d_CC_isCramped_69 : decode prog_1_method_24_code 69 = .ok (.iconst 1, 1) := by decide +kernel
theorem d_CC_isCramped_70 : decode prog_1_method_24_code 70 = .ok (.goto 4, 3) := by decide +kernel
theorem d_CC_isCramped_73 : decode prog_1_method_24_code 73 = .ok (.iconst 0, 1) := by decide +kernel
theorem d_CC_isCramped_74 : decode prog_1_method_24_code 74 = .ok (.ireturn, 1) := by decide +kernel
theorem d_CC_isCramped_75 : decode prog_1_method_24_code 75 = .ok (.iload 4, 2) := by decide +kernel
theorem d_CC_isCramped_77 : decode prog_1_method_24_code 77 = .ok (.bipush 11, 2) := by decide +kernel
theorem d_CC_isCramped_79 : decode prog_1_method_24_code 79 = .ok (.if_icmp .ne 32, 3) := by decide +kernel
theorem d_CC_isCramped_82 : decode prog_1_method_24_code 82 = .ok (.iload 5, 2) := by decide +kernel
theorem d_CC_isCramped_84 : decode prog_1_method_24_code 84 = .ok (.iconst 0, 1) := by decide +kernel
theorem d_CC_isCramped_85 : decode prog_1_method_24_code 85 = .ok (.aload_n 1, 1) := by decide +kernel
theorem d_CC_isCramped_86 : decode prog_1_method_24_code 86 = .ok (.getfield 156, 3) := by decide +kernel
theorem d_CC_isCramped_89 : decode prog_1_method_24_code 89 = .ok (.iconst 1, 1) := by decide +kernel
theorem d_CC_isCramped_90 : decode prog_1_method_24_code 90 = .ok (.isub, 1) := by decide +kernel
theorem d_CC_isCramped_91 : decode prog_1_method_24_code 91 = .ok (.invokestatic 42, 3) := by decide +kernel
theorem d_CC_isCramped_94 : decode prog_1_method_24_code 94 = .ok (.ifCond .eq 13, 3) := by decide +kernel
theorem d_CC_isCramped_97 : decode prog_1_method_24_code 97 = .ok (.aload_n 0, 1) := by decide +kernel
theorem d_CC_isCramped_98 : decode prog_1_method_24_code 98 = .ok (.iload 5, 2) := by decide +kernel
theorem d_CC_isCramped_100 : decode prog_1_method_24_code 100 = .ok (.aaload, 1) := by decide +kernel
theorem d_CC_isCramped_101 : decode prog_1_method_24_code 101 = .ok (.getfield 54, 3) := by decide +kernel
theorem d_CC_isCramped_104 : decode prog_1_method_24_code 104 = .ok (.ifCond .ne 7, 3) := by decide +kernel
theorem d_CC_isCramped_107 : decode prog_1_method_24_code 107 = .ok (.iconst 1, 1) := by decide +kernel
theorem d_CC_isCramped_108 : decode prog_1_method_24_code 108 = .ok (.goto 4, 3) := by decide +kernel
theorem d_CC_isCramped_111 : decode prog_1_method_24_code 111 = .ok (.iconst 0, 1) := by decide +kernel
theorem d_CC_isCramped_112 : decode prog_1_method_24_code 112 = .ok (.ireturn, 1) := by decide +kernel
theorem d_Sy_copyFrom_0 : decode prog_11_method_4_code 0 = .ok (.aload_n 1, 1) := by decide +kernel
theorem d_Sy_copyFrom_1 : decode prog_11_method_4_code 1 = .ok (.getfield 9, 3) := by decide +kernel
theorem d_Sy_copyFrom_4 : decode prog_11_method_4_code 4 = .ok (.iconst 0, 1) := by decide +kernel
theorem d_Sy_copyFrom_5 : decode prog_11_method_4_code 5 = .ok (.aload_n 0, 1) := by decide +kernel
theorem d_Sy_copyFrom_6 : decode prog_11_method_4_code 6 = .ok (.getfield 9, 3) := by decide +kernel
theorem d_Sy_copyFrom_9 : decode prog_11_method_4_code 9 = .ok (.iconst 0, 1) := by decide +kernel
theorem d_Sy_copyFrom_10 : decode prog_11_method_4_code 10 = .ok (.iconst 5, 1) := by decide +kernel
theorem d_Sy_copyFrom_11 : decode prog_11_method_4_code 11 = .ok (.invokestatic 23, 3) := by decide +kernel
theorem d_Sy_copyFrom_14 : decode prog_11_method_4_code 14 = .ok (.aload_n 1, 1) := by decide +kernel
theorem d_Sy_copyFrom_15 : decode prog_11_method_4_code 15 = .ok (.getfield 15, 3) := by decide +kernel
theorem d_Sy_copyFrom_18 : decode prog_11_method_4_code 18 = .ok (.iconst 0, 1) := by decide +kernel
theorem d_Sy_copyFrom_19 : decode prog_11_method_4_code 19 = .ok (.aload_n 0, 1) := by decide +kernel
theorem d_Sy_copyFrom_20 : decode prog_11_method_4_code 20 = .ok (.getfield 15, 3) := by decide +kernel
theorem d_Sy_copyFrom_23 : decode prog_11_method_4_code 23 = .ok (.iconst 0, 1) := by decide +kernel
theorem d_Sy_copyFrom_24 : decode prog_11_method_4_code 24 = .ok (.iconst 5, 1) := by decide +kernel
theorem d_Sy_copyFrom_25 : decode prog_11_method_4_code 25 = .ok (.invokestatic 23, 3) := by decide +kernel
theorem d_Sy_copyFrom_28 : decode prog_11_method_4_code 28 = .ok (.return_, 1) := by decide +kernel
theorem d_CC_accepted_0 : decode prog_1_method_9_code 0 = .ok (.aload_n 0, 1) := by decide +kernel
theorem d_CC_accepted_1 : decode prog_1_method_9_code 1 = .ok (.iload_n 1, 1) := by decide +kernel
theorem d_CC_accepted_2 : decode prog_1_method_9_code 2 = .ok (.invokevirtual 38, 3) := by decide +kernel
theorem d_CC_accepted_5 : decode prog_1_method_9_code 5 = .ok (.astore_n 2, 1) := by decide +kernel
theorem d_CC_accepted_6 : decode prog_1_method_9_code 6 = .ok (.aload_n 2, 1) := by decide +kernel
theorem d_CC_accepted_7 : decode prog_1_method_9_code 7 = .ok (.ifnull 14, 3) := by decide +kernel
theorem d_CC_accepted_10 : decode prog_1_method_9_code 10 = .ok (.aload_n 2, 1) := by decide +kernel
theorem d_CC_accepted_11 : decode prog_1_method_9_code 11 = .ok (.getfield 96, 3) := by decide +kernel
theorem d_CC_accepted_14 : decode prog_1_method_9_code 14 = .ok (.ifCond .eq 7, 3) := by decide +kernel
theorem d_CC_accepted_17 : decode prog_1_method_9_code 17 = .ok (.iconst 1, 1) := by decide +kernel
theorem d_CC_accepted_18 : decode prog_1_method_9_code 18 = .ok (.goto 4, 3) := by decide +kernel
theorem d_CC_accepted_21 : decode prog_1_method_9_code 21 = .ok (.iconst 0, 1) := by decide +kernel
theorem d_CC_accepted_22 : decode prog_1_method_9_code 22 = .ok (.ireturn, 1) := by decide +kernel
theorem d_CC_bound_0 : decode prog_1_method_10_code 0 = .ok (.aload_n 0, 1) := by decide +kernel
theorem d_CC_bound_1 : decode prog_1_method_10_code 1 = .ok (.iload_n 1, 1) := by decide +kernel
theorem d_CC_bound_2 : decode prog_1_method_10_code 2 = .ok (.invokevirtual 38, 3) := by decide +kernel
theorem d_CC_bound_5 : decode prog_1_method_10_code 5 = .ok (.astore 6, 2) := by decide +kernel
theorem d_CC_bound_7 : decode prog_1_method_10_code 7 = .ok (.aload 6, 2) := by decide +kernel
theorem d_CC_bound_9 : decode prog_1_method_10_code 9 = .ok (.ifnull 29, 3) := by decide +kernel
theorem d_CC_bound_12 : decode prog_1_method_10_code 12 = .ok (.iload_n 2, 1) := by decide +kernel
theorem d_CC_bound_13 : decode prog_1_method_10_code 13 = .ok (.invokestatic 77, 3) := by decide +kernel
theorem d_CC_bound_16 : decode prog_1_method_10_code 16 = .ok (.ifCond .eq 22, 3) := by decide +kernel
theorem d_CC_bound_19 : decode prog_1_method_10_code 19 = .ok (.aload 6, 2) := by decide +kernel
theorem d_CC_bound_21 : decode prog_1_method_10_code 21 = .ok (.getfield 96, 3) := by decide +kernel
theorem d_CC_bound_24 : decode prog_1_method_10_code 24 = .ok (.ifCond .eq 14, 3) := by decide +kernel
theorem d_CC_bound_27 : decode prog_1_method_10_code 27 = .ok (.iload_n 3, 1) := by decide +kernel
theorem d_CC_bound_28 : decode prog_1_method_10_code 28 = .ok (.iload 4, 2) := by decide +kernel
theorem d_CC_bound_30 : decode prog_1_method_10_code 30 = .ok (.iload 5, 2) := by decide +kernel
theorem d_CC_bound_32 : decode prog_1_method_10_code 32 = .ok (.invokestatic 100, 3) := by decide +kernel
theorem d_CC_bound_35 : decode prog_1_method_10_code 35 = .ok (.ifCond .ne 7, 3) := by decide +kernel
theorem d_CC_bound_38 : decode prog_1_method_10_code 38 = .ok (.ldc2_w 103, 3) := by decide +kernel
theorem d_CC_bound_41 : decode prog_1_method_10_code 41 = .ok (.lreturn, 1) := by decide +kernel
theorem d_CC_bound_42 : decode prog_1_method_10_code 42 = .ok (.aload_n 0, 1) := by decide +kernel
theorem d_CC_bound_43 : decode prog_1_method_10_code 43 = .ok (.getfield 34, 3) := by decide +kernel
theorem d_CC_bound_46 : decode prog_1_method_10_code 46 = .ok (.iconst 0, 1) := by decide +kernel
theorem d_CC_bound_47 : decode prog_1_method_10_code 47 = .ok (.iload_n 3, 1) := by decide +kernel
theorem d_CC_bound_48 : decode prog_1_method_10_code 48 = .ok (.iastore, 1) := by decide +kernel
theorem d_CC_bound_49 : decode prog_1_method_10_code 49 = .ok (.aload_n 0, 1) := by decide +kernel
theorem d_CC_bound_50 : decode prog_1_method_10_code 50 = .ok (.getfield 34, 3) := by decide +kernel
theorem d_CC_bound_53 : decode prog_1_method_10_code 53 = .ok (.iconst 1, 1) := by decide +kernel
theorem d_CC_bound_54 : decode prog_1_method_10_code 54 = .ok (.iload 4, 2) := by decide +kernel
theorem d_CC_bound_56 : decode prog_1_method_10_code 56 = .ok (.iastore, 1) := by decide +kernel
theorem d_CC_bound_57 : decode prog_1_method_10_code 57 = .ok (.aload_n 0, 1) := by decide +kernel
theorem d_CC_bound_58 : decode prog_1_method_10_code 58 = .ok (.getfield 34, 3) := by decide +kernel
theorem d_CC_bound_61 : decode prog_1_method_10_code 61 = .ok (.iconst 2, 1) := by decide +kernel
theorem d_CC_bound_62 : decode prog_1_method_10_code 62 = .ok (.iload 5, 2) := by decide +kernel
theorem d_CC_bound_64 : decode prog_1_method_10_code 64 = .ok (.iastore, 1) := by decide +kernel
theorem d_CC_bound_65 : decode prog_1_method_10_code 65 = .ok (.aload 6, 2) := by decide +kernel
theorem d_CC_bound_67 : decode prog_1_method_10_code 67 = .ok (.getfield 105, 3) := by decide +kernel
theorem d_CC_bound_70 : decode prog_1_method_10_code 70 = .ok (.iconst 0, 1) := by decide +kernel
theorem d_CC_bound_71 : decode prog_1_method_10_code 71 = .ok (.aaload, 1) := by decide +kernel
theorem d_CC_bound_72 : decode prog_1_method_10_code 72 = .ok (.astore 7, 2) := by decide +kernel
theorem d_CC_bound_74 : decode prog_1_method_10_code 74 = .ok (.aload 7, 2) := by decide +kernel
theorem d_CC_bound_76 : decode prog_1_method_10_code 76 = .ok (.aload_n 0, 1) := by decide +kernel
theorem d_CC_bound_77 : decode prog_1_method_10_code 77 = .ok (.getfield 34, 3) := by decide +kernel
theorem d_CC_bound_80 : decode prog_1_method_10_code 80 = .ok (.invokevirtual 109, 3) := by decide +kernel
theorem d_CC_bound_83 : decode prog_1_method_10_code 83 = .ok (.ifCond .eq 20, 3) := by decide +kernel
theorem d_CC_bound_86 : decode prog_1_method_10_code 86 = .ok (.aload 7, 2) := by decide +kernel
theorem d_CC_bound_88 : decode prog_1_method_10_code 88 = .ok (.getfield 80, 3) := by decide +kernel
theorem d_CC_bound_91 : decode prog_1_method_10_code 91 = .ok (.iload_n 2, 1) := by decide +kernel
theorem d_CC_bound_92 : decode prog_1_method_10_code 92 = .ok (.aaload, 1) := by decide +kernel
theorem d_CC_bound_93 : decode prog_1_method_10_code 93 = .ok (.aload_n 0, 1) := by decide +kernel
theorem d_CC_bound_94 : decode prog_1_method_10_code 94 = .ok (.getfield 34, 3) := by decide +kernel
theorem d_CC_bound_97 : decode prog_1_method_10_code 97 = .ok (.invokevirtual 113, 3) := by decide +kernel
theorem d_CC_bound_100 : decode prog_1_method_10_code 100 = .ok (.goto 6, 3) := by decide +kernel
theorem d_CC_bound_103 : decode prog_1_method_10_code 103 = .ok (.ldc2_w 103, 3) := by decide +kernel
theorem d_CC_bound_106 : decode prog_1_method_10_code 106 = .ok (.lreturn, 1) := by decide +kernel
theorem d_CC_areValues_0 : decode prog_1_method_21_code 0 = .ok (.iload_n 0, 1) := by decide +kernel
theorem d_CC_areValues_1 : decode prog_1_method_21_code 1 = .ok (.invokestatic 124, 3) := by decide +kernel
theorem d_CC_areValues_4 : decode prog_1_method_21_code 4 = .ok (.ifCond .eq 21, 3) := by decide +kernel
theorem d_CC_areValues_7 : decode prog_1_method_21_code 7 = .ok (.iload_n 1, 1) := by decide +kernel
theorem d_CC_areValues_8 : decode prog_1_method_21_code 8 = .ok (.invokestatic 124, 3) := by decide +kernel
theorem d_CC_areValues_11 : decode prog_1_method_21_code 11 = .ok (.ifCond .eq 14, 3) := by decide +kernel
theorem d_CC_areValues_14 : decode prog_1_method_21_code 14 = .ok (.iload_n 2, 1) := by decide +kernel
theorem d_CC_areValues_15 : decode prog_1_method_21_code 15 = .ok (.invokestatic 124, 3) := by decide +kernel
theorem d_CC_areValues_18 : decode prog_1_method_21_code 18 = .ok (.ifCond .eq 7, 3) := by decide +kernel
theorem d_CC_areValues_21 : decode prog_1_method_21_code 21 = .ok (.iconst 1, 1) := by decide +kernel
theorem d_CC_areValues_22 : decode prog_1_method_21_code 22 = .ok (.goto 4, 3) := by decide +kernel
theorem d_CC_areValues_25 : decode prog_1_method_21_code 25 = .ok (.iconst 0, 1) := by decide +kernel
theorem d_CC_areValues_26 : decode prog_1_method_21_code 26 = .ok (.ireturn, 1) := by decide +kernel
theorem d_CC_isValue_0 : decode prog_1_method_20_code 0 = .ok (.iload_n 0, 1) := by decide +kernel
theorem d_CC_isValue_1 : decode prog_1_method_20_code 1 = .ok (.ldc 165, 2) := by decide +kernel
theorem d_CC_isValue_3 : decode prog_1_method_20_code 3 = .ok (.ldc 166, 2) := by decide +kernel
theorem d_CC_isValue_5 : decode prog_1_method_20_code 5 = .ok (.invokestatic 42, 3) := by decide +kernel
theorem d_CC_isValue_8 : decode prog_1_method_20_code 8 = .ok (.ireturn, 1) := by decide +kernel
theorem d_Cu_holdsFor_0 : decode prog_4_method_4_code 0 = .ok (.iconst 0, 1) := by decide +kernel
theorem d_Cu_holdsFor_1 : decode prog_4_method_4_code 1 = .ok (.istore_n 2, 1) := by decide +kernel
theorem d_Cu_holdsFor_2 : decode prog_4_method_4_code 2 = .ok (.iload_n 2, 1) := by decide +kernel
theorem d_Cu_holdsFor_3 : decode prog_4_method_4_code 3 = .ok (.aload_n 0, 1) := by decide +kernel
theorem d_Cu_holdsFor_4 : decode prog_4_method_4_code 4 = .ok (.getfield 32, 3) := by decide +kernel
theorem d_Cu_holdsFor_7 : decode prog_4_method_4_code 7 = .ok (.if_icmp .ge 37, 3) := by decide +kernel
theorem d_Cu_holdsFor_10 : decode prog_4_method_4_code 10 = .ok (.aload_n 1, 1) := by decide +kernel
theorem d_Cu_holdsFor_11 : decode prog_4_method_4_code 11 = .ok (.aload_n 0, 1) := by decide +kernel
theorem d_Cu_holdsFor_12 : decode prog_4_method_4_code 12 = .ok (.getfield 9, 3) := by decide +kernel
theorem d_Cu_holdsFor_15 : decode prog_4_method_4_code 15 = .ok (.iload_n 2, 1) := by decide +kernel
theorem d_Cu_holdsFor_16 : decode prog_4_method_4_code 16 = .ok (.iaload, 1) := by decide +kernel
theorem d_Cu_holdsFor_17 : decode prog_4_method_4_code 17 = .ok (.iaload, 1) := by decide +kernel
theorem d_Cu_holdsFor_18 : decode prog_4_method_4_code 18 = .ok (.aload_n 1, 1) := by decide +kernel
theorem d_Cu_holdsFor_19 : decode prog_4_method_4_code 19 = .ok (.aload_n 0, 1) := by decide +kernel
theorem d_Cu_holdsFor_20 : decode prog_4_method_4_code 20 = .ok (.getfield 15, 3) := by decide +kernel
theorem d_Cu_holdsFor_23 : decode prog_4_method_4_code 23 = .ok (.iload_n 2, 1) := by decide +kernel
theorem d_Cu_holdsFor_24 : decode prog_4_method_4_code 24 = .ok (.iaload, 1) := by decide +kernel
theorem d_Cu_holdsFor_25 : decode prog_4_method_4_code 25 = .ok (.iaload, 1) := by decide +kernel
theorem d_Cu_holdsFor_26 : decode prog_4_method_4_code 26 = .ok (.isub, 1) := by decide +kernel
theorem d_Cu_holdsFor_27 : decode prog_4_method_4_code 27 = .ok (.aload_n 0, 1) := by decide +kernel
theorem d_Cu_holdsFor_28 : decode prog_4_method_4_code 28 = .ok (.getfield 18, 3) := by decide +kernel
theorem d_Cu_holdsFor_31 : decode prog_4_method_4_code 31 = .ok (.iload_n 2, 1) := by decide +kernel
theorem d_Cu_holdsFor_32 : decode prog_4_method_4_code 32 = .ok (.iaload, 1) := by decide +kernel
theorem d_Cu_holdsFor_33 : decode prog_4_method_4_code 33 = .ok (.if_icmp .le 5, 3) := by decide +kernel
theorem d_Cu_holdsFor_36 : decode prog_4_method_4_code 36 = .ok (.iconst 0, 1) := by decide +kernel
theorem d_Cu_holdsFor_37 : decode prog_4_method_4_code 37 = .ok (.ireturn, 1) := by decide +kernel
theorem d_Cu_holdsFor_38 : decode prog_4_method_4_code 38 = .ok (.iinc 2 1, 3) := by decide +kernel
theorem d_Cu_holdsFor_41 : decode prog_4_method_4_code 41 = .ok (.goto (-39), 3) := by decide +kernel
theorem d_Cu_holdsFor_44 : decode prog_4_method_4_code 44 = .ok (.iconst 1, 1) := by decide +kernel
theorem d_Cu_holdsFor_45 : decode prog_4_method_4_code 45 = .ok (.ireturn, 1) := by decide +kernel
theorem d_Po_valueFor_0 : decode prog_10_method_4_code 0 = .ok (.aload_n 0, 1) := by decide +kernel
theorem d_Po_valueFor_1 : decode prog_10_method_4_code 1 = .ok (.getfield 21, 3) := by decide +kernel
theorem d_Po_valueFor_4 : decode prog_10_method_4_code 4 = .ok (.i2l, 1) := by decide +kernel
theorem d_Po_valueFor_5 : decode prog_10_method_4_code 5 = .ok (.lstore_n 2, 1) := by decide +kernel
theorem d_Po_valueFor_6 : decode prog_10_method_4_code 6 = .ok (.iconst 0, 1) := by decide +kernel
theorem d_Po_valueFor_7 : decode prog_10_method_4_code 7 = .ok (.istore 4, 2) := by decide +kernel
theorem d_Po_valueFor_9 : decode prog_10_method_4_code 9 = .ok (.iload 4, 2) := by decide +kernel
theorem d_Po_valueFor_11 : decode prog_10_method_4_code 11 = .ok (.aload_n 0, 1) := by decide +kernel
theorem d_Po_valueFor_12 : decode prog_10_method_4_code 12 = .ok (.getfield 25, 3) := by decide +kernel
theorem d_Po_valueFor_15 : decode prog_10_method_4_code 15 = .ok (.if_icmp .ge 41, 3) := by decide +kernel
theorem d_Po_valueFor_18 : decode prog_10_method_4_code 18 = .ok (.lload_n 2, 1) := by decide +kernel
theorem d_Po_valueFor_19 : decode prog_10_method_4_code 19 = .ok (.aload_n 0, 1) := by decide +kernel
theorem d_Po_valueFor_20 : decode prog_10_method_4_code 20 = .ok (.getfield 9, 3) := by decide +kernel
theorem d_Po_valueFor_23 : decode prog_10_method_4_code 23 = .ok (.iload 4, 2) := by decide +kernel
theorem d_Po_valueFor_25 : decode prog_10_method_4_code 25 = .ok (.iaload, 1) := by decide +kernel
theorem d_Po_valueFor_26 : decode prog_10_method_4_code 26 = .ok (.i2l, 1) := by decide +kernel
theorem d_Po_valueFor_27 : decode prog_10_method_4_code 27 = .ok (.aload_n 1, 1) := by decide +kernel
theorem d_Po_valueFor_28 : decode prog_10_method_4_code 28 = .ok (.aload_n 0, 1) := by decide +kernel
theorem d_Po_valueFor_29 : decode prog_10_method_4_code 29 = .ok (.getfield 15, 3) := by decide +kernel
theorem d_Po_valueFor_32 : decode prog_10_method_4_code 32 = .ok (.iload 4, 2) := by decide +kernel
theorem d_Po_valueFor_34 : decode prog_10_method_4_code 34 = .ok (.iaload, 1) := by decide +kernel
theorem d_Po_valueFor_35 : decode prog_10_method_4_code 35 = .ok (.iaload, 1) := by decide +kernel
theorem d_Po_valueFor_36 : decode prog_10_method_4_code 36 = .ok (.aload_n 1, 1) := by decide +kernel
theorem d_Po_valueFor_37 : decode prog_10_method_4_code 37 = .ok (.aload_n 0, 1) := by decide +kernel
theorem d_Po_valueFor_38 : decode prog_10_method_4_code 38 = .ok (.getfield 18, 3) := by decide +kernel
theorem d_Po_valueFor_41 : decode prog_10_method_4_code 41 = .ok (.iload 4, 2) := by decide +kernel
theorem d_Po_valueFor_43 : decode prog_10_method_4_code 43 = .ok (.iaload, 1) := by decide +kernel
theorem d_Po_valueFor_44 : decode prog_10_method_4_code 44 = .ok (.iaload, 1) := by decide +kernel
theorem d_Po_valueFor_45 : decode prog_10_method_4_code 45 = .ok (.isub, 1) := by decide +kernel
theorem d_Po_valueFor_46 : decode prog_10_method_4_code 46 = .ok (.i2l, 1) := by decide +kernel
theorem d_Po_valueFor_47 : decode prog_10_method_4_code 47 = .ok (.lmul, 1) := by decide +kernel
theorem d_Po_valueFor_48 : decode prog_10_method_4_code 48 = .ok (.ladd, 1) := by decide +kernel
theorem d_Po_valueFor_49 : decode prog_10_method_4_code 49 = .ok (.lstore_n 2, 1) := by decide +kernel
theorem d_Po_valueFor_50 : decode prog_10_method_4_code 50 = .ok (.iinc 4 1, 3) := by decide +kernel
theorem d_Po_valueFor_53 : decode prog_10_method_4_code 53 = .ok (.goto (-44), 3) := by decide +kernel
theorem d_Po_valueFor_56 : decode prog_10_method_4_code 56 = .ok (.lload_n 2, 1) := by decide +kernel
theorem d_Po_valueFor_57 : decode prog_10_method_4_code 57 = .ok (.lreturn, 1) := by decide +kernel
theorem d_CC_depth_0 : decode prog_1_method_11_code 0 = .ok (.aload_n 0, 1) := by decide +kernel
theorem d_CC_depth_1 : decode prog_1_method_11_code 1 = .ok (.iload_n 1, 1) := by decide +kernel
theorem d_CC_depth_2 : decode prog_1_method_11_code 2 = .ok (.invokevirtual 38, 3) := by decide +kernel
theorem d_CC_depth_5 : decode prog_1_method_11_code 5 = .ok (.ifnonnull 5, 3) := by decide +kernel
theorem d_CC_depth_8 : decode prog_1_method_11_code 8 = .ok (.iconst (-1), 1) := by decide +kernel
theorem d_CC_depth_9 : decode prog_1_method_11_code 9 = .ok (.ireturn, 1) := by decide +kernel
theorem d_CC_depth_10 : decode prog_1_method_11_code 10 = .ok (.iconst 0, 1) := by decide +kernel
theorem d_CC_depth_11 : decode prog_1_method_11_code 11 = .ok (.istore_n 2, 1) := by decide +kernel
theorem d_CC_depth_12 : decode prog_1_method_11_code 12 = .ok (.iload_n 2, 1) := by decide +kernel
theorem d_CC_depth_13 : decode prog_1_method_11_code 13 = .ok (.iload_n 1, 1) := by decide +kernel
theorem d_CC_depth_14 : decode prog_1_method_11_code 14 = .ok (.if_icmp .gt 19, 3) := by decide +kernel
theorem d_CC_depth_17 : decode prog_1_method_11_code 17 = .ok (.aload_n 0, 1) := by decide +kernel
theorem d_CC_depth_18 : decode prog_1_method_11_code 18 = .ok (.aload_n 0, 1) := by decide +kernel
theorem d_CC_depth_19 : decode prog_1_method_11_code 19 = .ok (.getfield 14, 3) := by decide +kernel
theorem d_CC_depth_22 : decode prog_1_method_11_code 22 = .ok (.iload_n 2, 1) := by decide +kernel
theorem d_CC_depth_23 : decode prog_1_method_11_code 23 = .ok (.aaload, 1) := by decide +kernel
theorem d_CC_depth_24 : decode prog_1_method_11_code 24 = .ok (.invokevirtual 117, 3) := by decide +kernel
theorem d_CC_depth_27 : decode prog_1_method_11_code 27 = .ok (.iinc 2 1, 3) := by decide +kernel
theorem d_CC_depth_30 : decode prog_1_method_11_code 30 = .ok (.goto (-18), 3) := by decide +kernel
theorem d_CC_depth_33 : decode prog_1_method_11_code 33 = .ok (.aload_n 0, 1) := by decide +kernel
theorem d_CC_depth_34 : decode prog_1_method_11_code 34 = .ok (.getfield 14, 3) := by decide +kernel
theorem d_CC_depth_37 : decode prog_1_method_11_code 37 = .ok (.iload_n 1, 1) := by decide +kernel
theorem d_CC_depth_38 : decode prog_1_method_11_code 38 = .ok (.aaload, 1) := by decide +kernel
theorem d_CC_depth_39 : decode prog_1_method_11_code 39 = .ok (.getfield 121, 3) := by decide +kernel
theorem d_CC_depth_42 : decode prog_1_method_11_code 42 = .ok (.ireturn, 1) := by decide +kernel
theorem d_CC_measureDepth_0 : decode prog_1_method_18_code 0 = .ok (.iconst 0, 1) := by decide +kernel
theorem d_CC_measureDepth_1 : decode prog_1_method_18_code 1 = .ok (.istore_n 2, 1) := by decide +kernel
theorem d_CC_measureDepth_2 : decode prog_1_method_18_code 2 = .ok (.iconst 0, 1) := by decide +kernel
theorem d_CC_measureDepth_3 : decode prog_1_method_18_code 3 = .ok (.istore_n 3, 1) := by decide +kernel
theorem d_CC_measureDepth_4 : decode prog_1_method_18_code 4 = .ok (.iload_n 3, 1) := by decide +kernel
theorem d_CC_measureDepth_5 : decode prog_1_method_18_code 5 = .ok (.aload_n 1, 1) := by decide +kernel
theorem d_CC_measureDepth_6 : decode prog_1_method_18_code 6 = .ok (.getfield 54, 3) := by decide +kernel
theorem d_CC_measureDepth_9 : decode prog_1_method_18_code 9 = .ok (.if_icmp .ge 57, 3) := by decide +kernel
theorem d_CC_measureDepth_12 : decode prog_1_method_18_code 12 = .ok (.aload_n 1, 1) := by decide +kernel
theorem d_CC_measureDepth_13 : decode prog_1_method_18_code 13 = .ok (.getfield 150, 3) := by decide +kernel
theorem d_CC_measureDepth_16 : decode prog_1_method_18_code 16 = .ok (.iload_n 3, 1) := by decide +kernel
theorem d_CC_measureDepth_17 : decode prog_1_method_18_code 17 = .ok (.iaload, 1) := by decide +kernel
theorem d_CC_measureDepth_18 : decode prog_1_method_18_code 18 = .ok (.istore 4, 2) := by decide +kernel
theorem d_CC_measureDepth_20 : decode prog_1_method_18_code 20 = .ok (.aload_n 1, 1) := by decide +kernel
theorem d_CC_measureDepth_21 : decode prog_1_method_18_code 21 = .ok (.getfield 153, 3) := by decide +kernel
theorem d_CC_measureDepth_24 : decode prog_1_method_18_code 24 = .ok (.iload_n 3, 1) := by decide +kernel
theorem d_CC_measureDepth_25 : decode prog_1_method_18_code 25 = .ok (.iaload, 1) := by decide +kernel
theorem d_CC_measureDepth_26 : decode prog_1_method_18_code 26 = .ok (.bipush 11, 2) := by decide +kernel
theorem d_CC_measureDepth_28 : decode prog_1_method_18_code 28 = .ok (.if_icmp .ne 32, 3) := by decide +kernel
theorem d_CC_measureDepth_31 : decode prog_1_method_18_code 31 = .ok (.iload 4, 2) := by decide +kernel
theorem d_CC_measureDepth_33 : decode prog_1_method_18_code 33 = .ok (.ifCond .lt 27, 3) := by decide +kernel
theorem d_CC_measureDepth_36 : decode prog_1_method_18_code 36 = .ok (.iload 4, 2) := by decide +kernel
theorem d_CC_measureDepth_38 : decode prog_1_method_18_code 38 = .ok (.aload_n 1, 1) := by decide +kernel
theorem d_CC_measureDepth_39 : decode prog_1_method_18_code 39 = .ok (.getfield 156, 3) := by decide +kernel
theorem d_CC_measureDepth_42 : decode prog_1_method_18_code 42 = .ok (.if_icmp .ge 18, 3) := by decide +kernel
theorem d_CC_measureDepth_45 : decode prog_1_method_18_code 45 = .ok (.iload_n 2, 1) := by decide +kernel
theorem d_CC_measureDepth_46 : decode prog_1_method_18_code 46 = .ok (.aload_n 0, 1) := by decide +kernel
theorem d_CC_measureDepth_47 : decode prog_1_method_18_code 47 = .ok (.getfield 14, 3) := by decide +kernel
theorem d_CC_measureDepth_50 : decode prog_1_method_18_code 50 = .ok (.iload 4, 2) := by decide +kernel
theorem d_CC_measureDepth_52 : decode prog_1_method_18_code 52 = .ok (.aaload, 1) := by decide +kernel
theorem d_CC_measureDepth_53 : decode prog_1_method_18_code 53 = .ok (.getfield 121, 3) := by decide +kernel
theorem d_CC_measureDepth_56 : decode prog_1_method_18_code 56 = .ok (.invokestatic 159, 3) := by decide +kernel
theorem d_CC_measureDepth_59 : decode prog_1_method_18_code 59 = .ok (.istore_n 2, 1) := by decide +kernel
theorem d_CC_measureDepth_60 : decode prog_1_method_18_code 60 = .ok (.iinc 3 1, 3) := by decide +kernel
theorem d_CC_measureDepth_63 : decode prog_1_method_18_code 63 = .ok (.goto (-59), 3) := by decide +kernel
theorem d_CC_measureDepth_66 : decode prog_1_method_18_code 66 = .ok (.aload_n 1, 1) := by decide +kernel
theorem d_CC_measureDepth_67 : decode prog_1_method_18_code 67 = .ok (.aload_n 1, 1) := by decide +kernel
theorem d_CC_measureDepth_68 : decode prog_1_method_18_code 68 = .ok (.getfield 54, 3) := by decide +kernel
theorem d_CC_measureDepth_71 : decode prog_1_method_18_code 71 = .ok (.ifCond .ne 7, 3) := by decide +kernel
theorem d_CC_measureDepth_74 : decode prog_1_method_18_code 74 = .ok (.iconst 0, 1) := by decide +kernel
theorem d_CC_measureDepth_75 : decode prog_1_method_18_code 75 = .ok (.goto 6, 3) := by decide +kernel
theorem d_CC_measureDepth_78 : decode prog_1_method_18_code 78 = .ok (.iload_n 2, 1) := by decide +kernel
theorem d_CC_measureDepth_79 : decode prog_1_method_18_code 79 = .ok (.iconst 1, 1) := by decide +kernel
theorem d_CC_measureDepth_80 : decode prog_1_method_18_code 80 = .ok (.iadd, 1) := by decide +kernel
theorem d_CC_measureDepth_81 : decode prog_1_method_18_code 81 = .ok (.putfield 121, 3) := by decide +kernel
theorem d_CC_measureDepth_84 : decode prog_1_method_18_code 84 = .ok (.return_, 1) := by decide +kernel
theorem d_CC_feed_0 : decode prog_1_method_12_code 0 = .ok (.iload_n 1, 1) := by decide +kernel
theorem d_CC_feed_1 : decode prog_1_method_12_code 1 = .ok (.invokestatic 124, 3) := by decide +kernel
theorem d_CC_feed_4 : decode prog_1_method_12_code 4 = .ok (.ifCond .eq 18, 3) := by decide +kernel
theorem d_CC_feed_7 : decode prog_1_method_12_code 7 = .ok (.aload_n 0, 1) := by decide +kernel
theorem d_CC_feed_8 : decode prog_1_method_12_code 8 = .ok (.getfield 23, 3) := by decide +kernel
theorem d_CC_feed_11 : decode prog_1_method_12_code 11 = .ok (.iload_n 1, 1) := by decide +kernel
theorem d_CC_feed_12 : decode prog_1_method_12_code 12 = .ok (.invokevirtual 127, 3) := by decide +kernel
theorem d_CC_feed_15 : decode prog_1_method_12_code 15 = .ok (.ifCond .eq 7, 3) := by decide +kernel
theorem d_CC_feed_18 : decode prog_1_method_12_code 18 = .ok (.iconst 1, 1) := by decide +kernel
theorem d_CC_feed_19 : decode prog_1_method_12_code 19 = .ok (.goto 4, 3) := by decide +kernel
theorem d_CC_feed_22 : decode prog_1_method_12_code 22 = .ok (.iconst 0, 1) := by decide +kernel
theorem d_CC_feed_23 : decode prog_1_method_12_code 23 = .ok (.ireturn, 1) := by decide +kernel
theorem d_CC_run_0 : decode prog_1_method_13_code 0 = .ok (.aload_n 0, 1) := by decide +kernel
theorem d_CC_run_1 : decode prog_1_method_13_code 1 = .ok (.iload_n 1, 1) := by decide +kernel
theorem d_CC_run_2 : decode prog_1_method_13_code 2 = .ok (.invokevirtual 38, 3) := by decide +kernel
theorem d_CC_run_5 : decode prog_1_method_13_code 5 = .ok (.astore 5, 2) := by decide +kernel
theorem d_CC_run_7 : decode prog_1_method_13_code 7 = .ok (.aload 5, 2) := by decide +kernel
theorem d_CC_run_9 : decode prog_1_method_13_code 9 = .ok (.ifnull 21, 3) := by decide +kernel
theorem d_CC_run_12 : decode prog_1_method_13_code 12 = .ok (.aload 5, 2) := by decide +kernel
theorem d_CC_run_14 : decode prog_1_method_13_code 14 = .ok (.getfield 54, 3) := by decide +kernel
theorem d_CC_run_17 : decode prog_1_method_13_code 17 = .ok (.ifCond .eq 13, 3) := by decide +kernel
theorem d_CC_run_20 : decode prog_1_method_13_code 20 = .ok (.iload_n 2, 1) := by decide +kernel
theorem d_CC_run_21 : decode prog_1_method_13_code 21 = .ok (.iload_n 3, 1) := by decide +kernel
theorem d_CC_run_22 : decode prog_1_method_13_code 22 = .ok (.iload 4, 2) := by decide +kernel
theorem d_CC_run_24 : decode prog_1_method_13_code 24 = .ok (.invokestatic 100, 3) := by decide +kernel
theorem d_CC_run_27 : decode prog_1_method_13_code 27 = .ok (.ifCond .ne 5, 3) := by decide +kernel
theorem d_CC_run_30 : decode prog_1_method_13_code 30 = .ok (.iconst (-1), 1) := by decide +kernel
theorem d_CC_run_31 : decode prog_1_method_13_code 31 = .ok (.ireturn, 1) := by decide +kernel
theorem d_CC_run_32 : decode prog_1_method_13_code 32 = .ok (.aload_n 0, 1) := by decide +kernel
theorem d_CC_run_33 : decode prog_1_method_13_code 33 = .ok (.getfield 23, 3) := by decide +kernel
theorem d_CC_run_36 : decode prog_1_method_13_code 36 = .ok (.iload_n 1, 1) := by decide +kernel
theorem d_CC_run_37 : decode prog_1_method_13_code 37 = .ok (.iload_n 2, 1) := by decide +kernel
theorem d_CC_run_38 : decode prog_1_method_13_code 38 = .ok (.iload_n 3, 1) := by decide +kernel
theorem d_CC_run_39 : decode prog_1_method_13_code 39 = .ok (.iload 4, 2) := by decide +kernel
theorem d_CC_run_41 : decode prog_1_method_13_code 41 = .ok (.invokevirtual 130, 3) := by decide +kernel
theorem d_CC_run_44 : decode prog_1_method_13_code 44 = .ok (.ireturn, 1) := by decide +kernel
theorem d_Fr_enter_0 : decode prog_5_method_2_code 0 = .ok (.aload_n 0, 1) := by decide +kernel
theorem d_Fr_enter_1 : decode prog_5_method_2_code 1 = .ok (.iload_n 1, 1) := by decide +kernel
theorem d_Fr_enter_2 : decode prog_5_method_2_code 2 = .ok (.putfield 18, 3) := by decide +kernel
theorem d_Fr_enter_5 : decode prog_5_method_2_code 5 = .ok (.aload_n 0, 1) := by decide +kernel
theorem d_Fr_enter_6 : decode prog_5_method_2_code 6 = .ok (.iconst 0, 1) := by decide +kernel
theorem d_Fr_enter_7 : decode prog_5_method_2_code 7 = .ok (.putfield 22, 3) := by decide +kernel
theorem d_Fr_enter_10 : decode prog_5_method_2_code 10 = .ok (.aload_n 0, 1) := by decide +kernel
theorem d_Fr_enter_11 : decode prog_5_method_2_code 11 = .ok (.iconst 0, 1) := by decide +kernel
theorem d_Fr_enter_12 : decode prog_5_method_2_code 12 = .ok (.putfield 25, 3) := by decide +kernel
theorem d_Fr_enter_15 : decode prog_5_method_2_code 15 = .ok (.aload_n 0, 1) := by decide +kernel
theorem d_Fr_enter_16 : decode prog_5_method_2_code 16 = .ok (.getfield 9, 3) := by decide +kernel
theorem d_Fr_enter_19 : decode prog_5_method_2_code 19 = .ok (.iconst 0, 1) := by decide +kernel
theorem d_Fr_enter_20 : decode prog_5_method_2_code 20 = .ok (.iload_n 2, 1) := by decide +kernel
theorem d_Fr_enter_21 : decode prog_5_method_2_code 21 = .ok (.iastore, 1) := by decide +kernel
theorem d_Fr_enter_22 : decode prog_5_method_2_code 22 = .ok (.aload_n 0, 1) := by decide +kernel
theorem d_Fr_enter_23 : decode prog_5_method_2_code 23 = .ok (.getfield 9, 3) := by decide +kernel
theorem d_Fr_enter_26 : decode prog_5_method_2_code 26 = .ok (.iconst 1, 1) := by decide +kernel
theorem d_Fr_enter_27 : decode prog_5_method_2_code 27 = .ok (.iload_n 3, 1) := by decide +kernel
theorem d_Fr_enter_28 : decode prog_5_method_2_code 28 = .ok (.iastore, 1) := by decide +kernel
theorem d_Fr_enter_29 : decode prog_5_method_2_code 29 = .ok (.aload_n 0, 1) := by decide +kernel
theorem d_Fr_enter_30 : decode prog_5_method_2_code 30 = .ok (.getfield 9, 3) := by decide +kernel
theorem d_Fr_enter_33 : decode prog_5_method_2_code 33 = .ok (.iconst 2, 1) := by decide +kernel
theorem d_Fr_enter_34 : decode prog_5_method_2_code 34 = .ok (.iload 4, 2) := by decide +kernel
theorem d_Fr_enter_36 : decode prog_5_method_2_code 36 = .ok (.iastore, 1) := by decide +kernel
theorem d_Fr_enter_37 : decode prog_5_method_2_code 37 = .ok (.aload_n 0, 1) := by decide +kernel
theorem d_Fr_enter_38 : decode prog_5_method_2_code 38 = .ok (.getfield 9, 3) := by decide +kernel
theorem d_Fr_enter_41 : decode prog_5_method_2_code 41 = .ok (.iconst 3, 1) := by decide +kernel
theorem d_Fr_enter_42 : decode prog_5_method_2_code 42 = .ok (.iconst 0, 1) := by decide +kernel
theorem d_Fr_enter_43 : decode prog_5_method_2_code 43 = .ok (.iastore, 1) := by decide +kernel
theorem d_Fr_enter_44 : decode prog_5_method_2_code 44 = .ok (.return_, 1) := by decide +kernel
theorem d_Fr_push_0 : decode prog_5_method_3_code 0 = .ok (.aload_n 0, 1) := by decide +kernel
theorem d_Fr_push_1 : decode prog_5_method_3_code 1 = .ok (.getfield 25, 3) := by decide +kernel
theorem d_Fr_push_4 : decode prog_5_method_3_code 4 = .ok (.bipush 6, 2) := by decide +kernel
theorem d_Fr_push_6 : decode prog_5_method_3_code 6 = .ok (.if_icmp .ge 23, 3) := by decide +kernel
theorem d_Fr_push_9 : decode prog_5_method_3_code 9 = .ok (.aload_n 0, 1) := by decide +kernel
theorem d_Fr_push_10 : decode prog_5_method_3_code 10 = .ok (.getfield 15, 3) := by decide +kernel
theorem d_Fr_push_13 : decode prog_5_method_3_code 13 = .ok (.aload_n 0, 1) := by decide +kernel
theorem d_Fr_push_14 : decode prog_5_method_3_code 14 = .ok (.getfield 25, 3) := by decide +kernel
theorem d_Fr_push_17 : decode prog_5_method_3_code 17 = .ok (.iload_n 1, 1) := by decide +kernel
theorem d_Fr_push_18 : decode prog_5_method_3_code 18 = .ok (.iastore, 1) := by decide +kernel
theorem d_Fr_push_19 : decode prog_5_method_3_code 19 = .ok (.aload_n 0, 1) := by decide +kernel
theorem d_Fr_push_20 : decode prog_5_method_3_code 20 = .ok (.dup, 1) := by decide +kernel
theorem d_Fr_push_21 : decode prog_5_method_3_code 21 = .ok (.getfield 25, 3) := by decide +kernel
theorem d_Fr_push_24 : decode prog_5_method_3_code 24 = .ok (.iconst 1, 1) := by decide +kernel
theorem d_Fr_push_25 : decode prog_5_method_3_code 25 = .ok (.iadd, 1) := by decide +kernel
theorem d_Fr_push_26 : decode prog_5_method_3_code 26 = .ok (.putfield 25, 3) := by decide +kernel
theorem d_Fr_push_29 : decode prog_5_method_3_code 29 = .ok (.return_, 1) := by decide +kernel
theorem d_Fr_pop_0 : decode prog_5_method_4_code 0 = .ok (.aload_n 0, 1) := by decide +kernel
theorem d_Fr_pop_1 : decode prog_5_method_4_code 1 = .ok (.getfield 25, 3) := by decide +kernel
theorem d_Fr_pop_4 : decode prog_5_method_4_code 4 = .ok (.ifCond .gt 5, 3) := by decide +kernel
theorem d_Fr_pop_7 : decode prog_5_method_4_code 7 = .ok (.iconst 0, 1) := by decide +kernel
theorem d_Fr_pop_8 : decode prog_5_method_4_code 8 = .ok (.ireturn, 1) := by decide +kernel
theorem d_Fr_pop_9 : decode prog_5_method_4_code 9 = .ok (.aload_n 0, 1) := by decide +kernel
theorem d_Fr_pop_10 : decode prog_5_method_4_code 10 = .ok (.dup, 1) := by decide +kernel
theorem d_Fr_pop_11 : decode prog_5_method_4_code 11 = .ok (.getfield 25, 3) := by decide +kernel
theorem d_Fr_pop_14 : decode prog_5_method_4_code 14 = .ok (.iconst 1, 1) := by decide +kernel
theorem d_Fr_pop_15 : decode prog_5_method_4_code 15 = .ok (.isub, 1) := by decide +kernel
theorem d_Fr_pop_16 : decode prog_5_method_4_code 16 = .ok (.putfield 25, 3) := by decide +kernel
theorem d_Fr_pop_19 : decode prog_5_method_4_code 19 = .ok (.aload_n 0, 1) := by decide +kernel
theorem d_Fr_pop_20 : decode prog_5_method_4_code 20 = .ok (.getfield 15, 3) := by decide +kernel
theorem d_Fr_pop_23 : decode prog_5_method_4_code 23 = .ok (.aload_n 0, 1) := by decide +kernel
theorem d_Fr_pop_24 : decode prog_5_method_4_code 24 = .ok (.getfield 25, 3) := by decide +kernel
theorem d_Fr_pop_27 : decode prog_5_method_4_code 27 = .ok (.iaload, 1) := by decide +kernel
theorem d_Fr_pop_28 : decode prog_5_method_4_code 28 = .ok (.ireturn, 1) := by decide +kernel
theorem d_CC_ran_0 : decode prog_1_method_14_code 0 = .ok (.iload_n 1, 1) := by decide +kernel
theorem d_CC_ran_1 : decode prog_1_method_14_code 1 = .ok (.tableswitch 63 0 3 #[31, 39, 47, 55], 31) := by decide +kernel
theorem d_CC_ran_32 : decode prog_1_method_14_code 32 = .ok (.aload_n 0, 1) := by decide +kernel
theorem d_CC_ran_33 : decode prog_1_method_14_code 33 = .ok (.getfield 23, 3) := by decide +kernel
theorem d_CC_ran_36 : decode prog_1_method_14_code 36 = .ok (.getfield 134, 3) := by decide +kernel
theorem d_CC_ran_39 : decode prog_1_method_14_code 39 = .ok (.ireturn, 1) := by decide +kernel
theorem d_CC_ran_40 : decode prog_1_method_14_code 40 = .ok (.aload_n 0, 1) := by decide +kernel
theorem d_CC_ran_41 : decode prog_1_method_14_code 41 = .ok (.getfield 23, 3) := by decide +kernel
theorem d_CC_ran_44 : decode prog_1_method_14_code 44 = .ok (.getfield 137, 3) := by decide +kernel
theorem d_CC_ran_47 : decode prog_1_method_14_code 47 = .ok (.ireturn, 1) := by decide +kernel
theorem d_CC_ran_48 : decode prog_1_method_14_code 48 = .ok (.aload_n 0, 1) := by decide +kernel
theorem d_CC_ran_49 : decode prog_1_method_14_code 49 = .ok (.getfield 23, 3) := by decide +kernel
theorem d_CC_ran_52 : decode prog_1_method_14_code 52 = .ok (.getfield 140, 3) := by decide +kernel
theorem d_CC_ran_55 : decode prog_1_method_14_code 55 = .ok (.ireturn, 1) := by decide +kernel
theorem d_CC_ran_56 : decode prog_1_method_14_code 56 = .ok (.aload_n 0, 1) := by decide +kernel
theorem d_CC_ran_57 : decode prog_1_method_14_code 57 = .ok (.getfield 23, 3) := by decide +kernel
theorem d_CC_ran_60 : decode prog_1_method_14_code 60 = .ok (.getfield 143, 3) := by decide +kernel
theorem d_CC_ran_63 : decode prog_1_method_14_code 63 = .ok (.ireturn, 1) := by decide +kernel
theorem d_CC_ran_64 : decode prog_1_method_14_code 64 = .ok (.iconst (-1), 1) := by decide +kernel
theorem d_CC_ran_65 : decode prog_1_method_14_code 65 = .ok (.ireturn, 1) := by decide +kernel
end
section
/-! Potential: base, terms -/
def pt_Po (sh : Nat → Nat × Nat) (R : Nat → Nat → Option Nat) (o : Nat) : Prop := sh o = (0, 3) ∧ sh (o + 1) = (1, 3) ∧ sh (o + 2) = (1, 3) ∧ sh (o + 3) = (1, 3) ∧ R o 2 = some (o + 1) ∧ R o 3 = some (o + 2) ∧ R o 4 = some (o + 3)
/-- base and terms (factor, a, b) -/
abbrev ab_Po : Type := Int32 × List (Nat × Nat × Nat)
/-- as a potential at o holds them -/
def po_at (I : Nat → Nat → Int32) (o : Nat) (p : ab_Po) : Prop := I o 0 = p.1 ∧ I o 1 = nI p.2.length ∧ p.2.length ≤ 3 ∧ ∀ (j : Nat) (t : Nat × Nat × Nat), p.2[j]? = some t → I (o + 1) j = nI t.1 ∧ I (o + 2) j = nI t.2.1 ∧ I (o + 3) j = nI t.2.2 ∧ t.2.1 < 5 ∧ t.2.2 < 5
theorem po_at.kept {I I' : Nat → Nat → Int32} {o : Nat} {p : ab_Po} (h : po_at I o p) (hq : ∀ q, o ≤ q → q < o + 4 → I' q = I q) : po_at I' o p := by
  obtain ⟨h1, h2, h3, h4⟩ := h
  exact ⟨by rw [hq o (by omega) (by omega)]; exact h1, by rw [hq o (by omega) (by omega)]; exact h2, h3, fun j t ht => by rw [hq (o + 1) (by omega) (by omega), hq (o + 2) (by omega) (by omega), hq (o + 3) (by omega) (by omega)]; exact h4 j t ht⟩
theorem gw_app {α : Type} {l : List α} {x t : α} {j : Nat} (h : (l ++ [x])[j]? = some t) : (j < l.length ∧ l[j]? = some t) ∨ (j = l.length ∧ t = x) := by
  by_cases hj : j < l.length
  · rw [List.getElem?_append_left hj] at h
    exact Or.inl ⟨hj, h⟩
  · rw [List.getElem?_append_right (by omega)] at h
    have hz : j - l.length < 1 := (List.getElem?_eq_some_iff.mp h).1
    rw [show j - l.length = 0 by omega] at h
    exact Or.inr ⟨by omega, (Option.some.inj h).symm⟩
theorem gw_inc {x : Int32} {i : Nat} (h : x = nI i) : x + Int32.ofInt 1 = nI (i + 1) := by rw [h, nI_succ]; rfl
theorem gw_dec {x : Int32} {i : Nat} (h : x = nI (i + 1)) : x + Int32.ofInt (-1) = nI i := by rw [h]; exact pk_m1 i
theorem gw_drop {α : Type} {l : List α} {i : Nat} {t : α} {ts : List α} (h : l.drop i = t :: ts) : i < l.length ∧ l[i]? = some t ∧ l.drop (i + 1) = ts := by
  have hl : i < l.length := by
    by_cases hi : i < l.length
    · exact hi
    · rw [List.drop_eq_nil_of_le (by omega)] at h; cases h
  refine ⟨hl, ?_, ?_⟩
  · have := congrArg List.head? h
    rw [List.head?_drop] at this
    exact this
  · rw [← List.tail_drop, h]; rfl
theorem gw_dropE {α : Type} {l : List α} {i : Nat} (h : l.drop i = []) : l.length ≤ i := List.drop_eq_nil_iff.mp h
section PO
variable {d n : Nat} {sh : Nat → Nat × Nat} {X : Nat × (Nat → Int32)} {R : Nat → Nat → Option Nat} {I : Nat → Nat → Int32} {L : Nat → Nat → Int64} {Q : Option Value → gw_Mem → Prop}
theorem c_Po_reset {o : Nat} (hp : pt_Po sh R o) (hQ : ∀ I', po_at I' o (0, []) → (∀ q, q ≠ o → I' q = I q) → Q none (n, sh, X, R, I', L)) : gw_Call y_Po_reset d 0 0 [.ref o] (n, sh, X, R, I, L) Q := by
  obtain ⟨s0, s1, s2, s3, r2, r3, r4⟩ := hp
  refine gw_call o_Po_reset (Nat.le_of_ble_eq_true rfl) ?_
  refine go_aload_n 0 d_Po_reset_0 rfl rfl ?_
  refine go_iconst (v := 0) d_Po_reset_1 rfl ?_
  refine go_putI d_Po_reset_2 f_Po_21 (by assumption) ?_
  refine go_aload_n 0 d_Po_reset_5 rfl rfl ?_
  refine go_iconst (v := 0) d_Po_reset_6 rfl ?_
  refine go_putI d_Po_reset_7 f_Po_25 (by assumption) ?_
  exact go_vret d_Po_reset_10 rfl (hQ _ ⟨by simp [va_up], by simp [va_up, nI_0], by simp, fun j t h => by simp at h⟩ (fun q h => by simp [va_up, h]))
theorem c_Po_addTerm {o k a b : Nat} {p : ab_Po} (hp : pt_Po sh R o) (ha : po_at I o p) (ha5 : a < 5) (hb5 : b < 5) (hf : ¬ p.2.length < 3 → Q (some (.int 0)) (n, sh, X, R, I, L)) (hQ : p.2.length < 3 → ∀ I', po_at I' o (p.1, p.2 ++ [(k, a, b)]) → (∀ q, q < o ∨ o + 4 ≤ q → I' q = I q) → Q (some (.int 1)) (n, sh, X, R, I', L)) : gw_Call y_Po_addTerm d 0 0 [.ref o, .int (nI k), .int (nI a), .int (nI b)] (n, sh, X, R, I, L) Q := by
  obtain ⟨s0, s1, s2, s3, r2, r3, r4⟩ := hp
  obtain ⟨a1, a2, a3, a4⟩ := ha
  refine gw_call o_Po_addTerm (Nat.le_of_ble_eq_true rfl) ?_
  refine go_aload_n 0 d_Po_addTerm_0 rfl rfl ?_
  refine go_getI d_Po_addTerm_1 f_Po_25 (by assumption) ?_
  refine go_iconst (v := 3) d_Po_addTerm_4 rfl ?_
  refine go_icmp_lt 10 d_Po_addTerm_5 rfl (fun h5 => ?_) (fun h5 => ?_)
  · have hlt : p.2.length < 3 := by rw [a2] at h5; exact (nI_ltI (b := 3) (by omega) (by decide)).mp h5
    refine go_aload_n 0 d_Po_addTerm_10 rfl rfl ?_
    refine go_getR d_Po_addTerm_11 f_Po_9 (by assumption) (by assumption) ?_
    refine go_aload_n 0 d_Po_addTerm_14 rfl rfl ?_
    refine go_getI d_Po_addTerm_15 f_Po_25 (by assumption) ?_
    refine go_iload_n 1 d_Po_addTerm_18 rfl rfl ?_
    refine go_iast (p.2.length) d_Po_addTerm_19 (by assumption) (a2) (hlt) (by decide) ?_
    refine go_aload_n 0 d_Po_addTerm_20 rfl rfl ?_
    refine go_getR d_Po_addTerm_21 f_Po_15 (by assumption) (by assumption) ?_
    refine go_aload_n 0 d_Po_addTerm_24 rfl rfl ?_
    refine go_getI d_Po_addTerm_25 f_Po_25 (by assumption) ?_
    refine go_iload_n 2 d_Po_addTerm_28 rfl rfl ?_
    refine go_iast (p.2.length) d_Po_addTerm_29 (by assumption) (by simp [va_up, a2]) (hlt) (by decide) ?_
    refine go_aload_n 0 d_Po_addTerm_30 rfl rfl ?_
    refine go_getR d_Po_addTerm_31 f_Po_18 (by assumption) (by assumption) ?_
    refine go_aload_n 0 d_Po_addTerm_34 rfl rfl ?_
    refine go_getI d_Po_addTerm_35 f_Po_25 (by assumption) ?_
    refine go_iload_n 3 d_Po_addTerm_38 rfl rfl ?_
    refine go_iast (p.2.length) d_Po_addTerm_39 (by assumption) (by simp [va_up, a2]) (hlt) (by decide) ?_
    refine go_aload_n 0 d_Po_addTerm_40 rfl rfl ?_
    refine go_dup d_Po_addTerm_41 rfl ?_
    refine go_getI d_Po_addTerm_42 f_Po_25 (by assumption) ?_
    refine go_iconst (v := 1) d_Po_addTerm_45 rfl ?_
    refine go_iadd d_Po_addTerm_46 ?_
    refine go_putI d_Po_addTerm_47 f_Po_25 (by assumption) ?_
    refine go_iconst (v := 1) d_Po_addTerm_50 rfl ?_
    have key : ∀ (j : Nat) (t : Nat × Nat × Nat), (p.2 ++ [(k, a, b)])[j]? = some t → (j ≠ p.2.length ∧ p.2[j]? = some t) ∨ (j = p.2.length ∧ t = (k, a, b)) := fun j t h => by rcases gw_app h with ⟨e1, e2⟩ | e; exact Or.inl ⟨by omega, e2⟩; exact Or.inr e
    exact go_zret d_Po_addTerm_51 rfl (by first | exact Or.inl rfl | exact Or.inr rfl | assumption) (hQ hlt _ ⟨by simp [va_up, a1], by simp [va_up, a2, nI_succ], by simp; omega, fun j t h => by rcases key j t h with ⟨e1, e2⟩ | ⟨rfl, rfl⟩; (have e4 := a4 j t e2; simp [va_up, e1, e4]); simp [va_up, ha5, hb5]⟩ (fun q h => by simp [va_up, show q ≠ o by omega, show q ≠ o + 1 by omega, show q ≠ o + 2 by omega, show q ≠ o + 3 by omega]))
  · refine go_iconst (v := 0) d_Po_addTerm_8 rfl ?_
    exact go_zret d_Po_addTerm_9 rfl (by first | exact Or.inl rfl | exact Or.inr rfl | assumption) (hf (fun h => h5 (by rw [a2]; exact nI_lt h (by decide))))
/-- the value when the sides have these values -/
def po_val (v : Nat → Int32) : List (Nat × Nat × Nat) → Int64 → Int64
  | [], s => s
  | t :: ts, s => po_val v ts (s + (nI t.1).toInt64 * (v t.2.1 - v t.2.2).toInt64)
theorem c_Po_valueFor {o v : Nat} {p : ab_Po} (hp : pt_Po sh R o) (ha : po_at I o p) (hv : sh v = (1, 5)) (hQ : Q (some (.long (po_val (I v) p.2 p.1.toInt64))) (n, sh, X, R, I, L)) : gw_Call y_Po_valueFor d 0 0 [.ref o, .ref v] (n, sh, X, R, I, L) Q := by
  obtain ⟨s0, s1, s2, s3, r2, r3, r4⟩ := hp
  obtain ⟨a1, a2, a3, a4⟩ := ha
  refine gw_call o_Po_valueFor (Nat.le_of_ble_eq_true rfl) ?_
  have loop : ∀ (ts : List (Nat × Nat × Nat)) (i : Nat) (x : Int32) (s : Int64), x = nI i → i ≤ p.2.length → p.2.drop i = ts → po_val (I v) p.2 p.1.toInt64 = po_val (I v) ts s → gw_Go y_Po_valueFor d 0 0 9 [some (.ref o), some (.ref v), some (.long s), none, some (.int x)] [] (n, sh, X, R, I, L) Q := by
    intro ts
    induction ts with
    | nil =>
      intro i x s hx h0 hd hs
      have hi := gw_dropE hd
      refine go_iload d_Po_valueFor_9 rfl ?_
      refine go_aload_n 0 d_Po_valueFor_11 rfl rfl ?_
      refine go_getI d_Po_valueFor_12 f_Po_25 (by assumption) ?_
      refine go_icmp_ge 56 d_Po_valueFor_15 rfl (fun _ => ?_) (fun hn => absurd (by rw [a2, hx]; exact nI_le hi (by omega)) hn)
      refine go_lload_n 2 d_Po_valueFor_56 rfl rfl ?_
      exact go_lret d_Po_valueFor_57 rfl (by rw [hs] at hQ; exact hQ)
    | cons t ts ih =>
      intro i x s hx h0 hd hs
      obtain ⟨hi, ht, hn⟩ := gw_drop hd
      obtain ⟨b1, b2, b3, b4, b5⟩ := a4 i t ht
      refine go_iload d_Po_valueFor_9 rfl ?_
      refine go_aload_n 0 d_Po_valueFor_11 rfl rfl ?_
      refine go_getI d_Po_valueFor_12 f_Po_25 (by assumption) ?_
      refine go_icmp_ge 56 d_Po_valueFor_15 rfl (fun hn => absurd hn (by rw [a2, hx]; exact nI_ge hi (by omega))) (fun _ => ?_)
      refine go_lload_n 2 d_Po_valueFor_18 rfl rfl ?_
      refine go_aload_n 0 d_Po_valueFor_19 rfl rfl ?_
      refine go_getR d_Po_valueFor_20 f_Po_9 (by assumption) (by assumption) ?_
      refine go_iload d_Po_valueFor_23 rfl ?_
      refine go_iald (i) d_Po_valueFor_25 (by assumption) (hx) (by omega) (by decide) ?_
      refine go_i2l d_Po_valueFor_26 (rfl) ?_
      refine go_aload_n 1 d_Po_valueFor_27 rfl rfl ?_
      refine go_aload_n 0 d_Po_valueFor_28 rfl rfl ?_
      refine go_getR d_Po_valueFor_29 f_Po_15 (by assumption) (by assumption) ?_
      refine go_iload d_Po_valueFor_32 rfl ?_
      refine go_iald (i) d_Po_valueFor_34 (by assumption) (hx) (by omega) (by decide) ?_
      refine go_iald (t.2.1) d_Po_valueFor_35 (by assumption) (b2) (b4) (by decide) ?_
      refine go_aload_n 1 d_Po_valueFor_36 rfl rfl ?_
      refine go_aload_n 0 d_Po_valueFor_37 rfl rfl ?_
      refine go_getR d_Po_valueFor_38 f_Po_18 (by assumption) (by assumption) ?_
      refine go_iload d_Po_valueFor_41 rfl ?_
      refine go_iald (i) d_Po_valueFor_43 (by assumption) (hx) (by omega) (by decide) ?_
      refine go_iald (t.2.2) d_Po_valueFor_44 (by assumption) (b3) (b5) (by decide) ?_
      refine go_isub d_Po_valueFor_45 ?_
      refine go_i2l d_Po_valueFor_46 (rfl) ?_
      refine go_lmul d_Po_valueFor_47 ?_
      refine go_ladd d_Po_valueFor_48 ?_
      refine go_lstore_n 2 d_Po_valueFor_49 rfl (Nat.le_of_ble_eq_true rfl) ?_
      refine go_iinc d_Po_valueFor_50 rfl rfl (Nat.le_of_ble_eq_true rfl) ?_
      refine go_goto 9 d_Po_valueFor_53 rfl ?_
      exact ih (i + 1) _ _ (gw_inc hx) (by omega) hn (by rw [hs, b1]; rfl)
  refine go_aload_n 0 d_Po_valueFor_0 rfl rfl ?_
  refine go_getI d_Po_valueFor_1 f_Po_21 (by assumption) ?_
  refine go_i2l d_Po_valueFor_4 (rfl) ?_
  refine go_lstore_n 2 d_Po_valueFor_5 rfl (Nat.le_of_ble_eq_true rfl) ?_
  refine go_iconst (v := 0) d_Po_valueFor_6 rfl ?_
  refine go_istore d_Po_valueFor_7 (Nat.le_of_ble_eq_true rfl) ?_
  exact loop _ 0 _ _ rfl (by omega) rfl (by rw [a1]; rfl)
end PO
end
section
/-! Cut: place, claims, two potentials -/
def bI : Bool → Int32
  | true => 1
  | false => 0
theorem bI_0 {b : Bool} : bI b = 0 ↔ b = false := by cases b <;> simp [bI]
theorem bI_01 (b : Bool) : bI b = 0 ∨ bI b = 1 := by cases b <;> simp [bI]
theorem bI_n0 {b : Bool} : ¬ bI b = 0 ↔ b = true := by cases b <;> simp [bI]
/-- claims (a, b, c), the potentials of steps and of words -/
abbrev ab_Cu : Type := List (Nat × Nat × Int32) × ab_Po × ab_Po
def pt_Cu (sh : Nat → Nat × Nat) (R : Nat → Nat → Option Nat) (o : Nat) : Prop := sh o = (0, 2) ∧ sh (o + 1) = (1, 6) ∧ sh (o + 2) = (1, 6) ∧ sh (o + 3) = (1, 6) ∧ sh (o + 4) = (2 + 4, 2) ∧ R o 2 = some (o + 1) ∧ R o 3 = some (o + 2) ∧ R o 4 = some (o + 3) ∧ R o 5 = some (o + 4) ∧ R (o + 4) 0 = some (o + 5) ∧ R (o + 4) 1 = some (o + 9) ∧ pt_Po sh R (o + 5) ∧ pt_Po sh R (o + 9)
theorem pt_Po.kept {sh : Nat → Nat × Nat} {R R' : Nat → Nat → Option Nat} {o : Nat} (h : pt_Po sh R o) (hq : ∀ q, o ≤ q → q < o + 4 → R' q = R q) : pt_Po sh R' o := by
  obtain ⟨s0, s1, s2, s3, r2, r3, r4⟩ := h
  exact ⟨s0, s1, s2, s3, by rw [hq o (by omega) (by omega)]; exact r2, by rw [hq o (by omega) (by omega)]; exact r3, by rw [hq o (by omega) (by omega)]; exact r4⟩
theorem pt_Cu.kept {sh : Nat → Nat × Nat} {R R' : Nat → Nat → Option Nat} {o : Nat} (h : pt_Cu sh R o) (hq : ∀ q, o ≤ q → q < o + 13 → R' q = R q) : pt_Cu sh R' o := by
  obtain ⟨s0, s1, s2, s3, s4, r2, r3, r4, r5, q0, q1, p0, p1⟩ := h
  have e0 := hq o (by omega) (by omega)
  have e4 := hq (o + 4) (by omega) (by omega)
  exact ⟨s0, s1, s2, s3, s4, by rw [e0]; exact r2, by rw [e0]; exact r3, by rw [e0]; exact r4, by rw [e0]; exact r5, by rw [e4]; exact q0, by rw [e4]; exact q1, p0.kept (fun q a b => hq q (by omega) (by omega)), p1.kept (fun q a b => hq q (by omega) (by omega))⟩
def cu_at (I : Nat → Nat → Int32) (o p : Nat) (c : ab_Cu) : Prop := I o 0 = nI p ∧ I o 1 = nI c.1.length ∧ c.1.length ≤ 6 ∧ (∀ (j : Nat) (t : Nat × Nat × Int32), c.1[j]? = some t → I (o + 1) j = nI t.1 ∧ I (o + 2) j = nI t.2.1 ∧ I (o + 3) j = t.2.2 ∧ t.1 < 5 ∧ t.2.1 < 5) ∧ po_at I (o + 5) c.2.1 ∧ po_at I (o + 9) c.2.2
theorem cu_at.kept {I I' : Nat → Nat → Int32} {o p : Nat} {c : ab_Cu} (h : cu_at I o p c) (hq : ∀ q, o ≤ q → q < o + 13 → I' q = I q) : cu_at I' o p c := by
  obtain ⟨h1, h2, h3, h4, h5, h6⟩ := h
  exact ⟨by rw [hq o (by omega) (by omega)]; exact h1, by rw [hq o (by omega) (by omega)]; exact h2, h3, fun j t ht => by rw [hq (o + 1) (by omega) (by omega), hq (o + 2) (by omega) (by omega), hq (o + 3) (by omega) (by omega)]; exact h4 j t ht, h5.kept (fun q a b => hq q (by omega) (by omega)), h6.kept (fun q a b => hq q (by omega) (by omega))⟩
section CU
variable {d n : Nat} {sh : Nat → Nat × Nat} {X : Nat × (Nat → Int32)} {R : Nat → Nat → Option Nat} {I : Nat → Nat → Int32} {L : Nat → Nat → Int64} {Q : Option Value → gw_Mem → Prop}
theorem c_Cu_reset {o p : Nat} (hp : pt_Cu sh R o) (hQ : ∀ I', cu_at I' o p ([], (0, []), (0, [])) → (∀ q, q < o ∨ o + 13 ≤ q → I' q = I q) → Q none (n, sh, X, R, I', L)) : gw_Call y_Cu_reset (d + 1) 0 0 [.ref o, .int (nI p)] (n, sh, X, R, I, L) Q := by
  obtain ⟨s0, s1, s2, s3, s4, r2, r3, r4, r5, q0, q1, p0, p1⟩ := hp
  have s5 := p0.1
  have s9 := p1.1
  refine gw_call o_Cu_reset (Nat.le_of_ble_eq_true rfl) ?_
  refine go_aload_n 0 d_Cu_reset_0 rfl rfl ?_
  refine go_iload_n 1 d_Cu_reset_1 rfl rfl ?_
  refine go_putI d_Cu_reset_2 f_Cu_28 (by assumption) ?_
  refine go_aload_n 0 d_Cu_reset_5 rfl rfl ?_
  refine go_iconst (v := 0) d_Cu_reset_6 rfl ?_
  refine go_putI d_Cu_reset_7 f_Cu_32 (by assumption) ?_
  refine go_iconst (v := 0) d_Cu_reset_10 rfl ?_
  refine go_istore_n 2 d_Cu_reset_11 rfl (Nat.le_of_ble_eq_true rfl) ?_
  refine go_iload_n 2 d_Cu_reset_12 rfl rfl ?_
  refine go_iconst (v := 2) d_Cu_reset_13 rfl ?_
  refine go_icmp_ge 32 d_Cu_reset_14 rfl (fun hn => absurd hn (by decide)) (fun _ => ?_)
  refine go_aload_n 0 d_Cu_reset_17 rfl rfl ?_
  refine go_getR d_Cu_reset_18 f_Cu_23 (by assumption) (by assumption) ?_
  refine go_iload_n 2 d_Cu_reset_21 rfl rfl ?_
  refine go_aald (t := 2) (0) d_Cu_reset_22 (by assumption) (by decide) (rfl) (by decide) (by decide) (by assumption) ?_
  refine go_V0 d_Cu_reset_23 k_Cu_35 (by assumption) (Nat.le_of_ble_eq_true rfl) (c_Po_reset p0 (fun I1 hI1 hk1 => ?_))
  refine go_iinc d_Cu_reset_26 rfl rfl (Nat.le_of_ble_eq_true rfl) ?_
  refine go_goto 12 d_Cu_reset_29 rfl ?_
  refine go_iload_n 2 d_Cu_reset_12 rfl rfl ?_
  refine go_iconst (v := 2) d_Cu_reset_13 rfl ?_
  refine go_icmp_ge 32 d_Cu_reset_14 rfl (fun hn => absurd hn (by decide)) (fun _ => ?_)
  refine go_aload_n 0 d_Cu_reset_17 rfl rfl ?_
  refine go_getR d_Cu_reset_18 f_Cu_23 (by assumption) (by assumption) ?_
  refine go_iload_n 2 d_Cu_reset_21 rfl rfl ?_
  refine go_aald (t := 2) (1) d_Cu_reset_22 (by assumption) (by decide) (rfl) (by decide) (by decide) (by assumption) ?_
  refine go_V0 d_Cu_reset_23 k_Cu_35 (by assumption) (Nat.le_of_ble_eq_true rfl) (c_Po_reset p1 (fun I2 hI2 hk2 => ?_))
  refine go_iinc d_Cu_reset_26 rfl rfl (Nat.le_of_ble_eq_true rfl) ?_
  refine go_goto 12 d_Cu_reset_29 rfl ?_
  refine go_iload_n 2 d_Cu_reset_12 rfl rfl ?_
  refine go_iconst (v := 2) d_Cu_reset_13 rfl ?_
  refine go_icmp_ge 32 d_Cu_reset_14 rfl (fun _ => ?_) (fun hn => absurd (by decide) hn)
  have e : ∀ q, q ≠ o → q ≠ o + 5 → q ≠ o + 9 → I2 q = I q := fun q a b c => by rw [hk2 q c, hk1 q b]; simp [va_up, a]
  have eo : I2 o = va_up (va_up (I o) 0 (nI p)) 1 0 := by rw [hk2 o (by omega), hk1 o (by omega)]; simp [va_up]
  exact go_vret d_Cu_reset_32 rfl (hQ I2 ⟨by rw [eo]; simp [va_up], by rw [eo]; simp [va_up, nI_0], by simp, fun j t h => by simp at h, hI1.kept (fun q a b => hk2 q (by omega)), hI2⟩ (fun q h => e q (by omega) (by omega) (by omega)))
theorem c_Cu_addClaim {o p a b : Nat} {c : Int32} {A : ab_Cu} (hp : pt_Cu sh R o) (ha : cu_at I o p A) (ha5 : a < 5) (hb5 : b < 5) (hf : ¬ A.1.length < 6 → Q (some (.int 0)) (n, sh, X, R, I, L)) (hQ : A.1.length < 6 → ∀ I', cu_at I' o p (A.1 ++ [(a, b, c)], A.2) → (∀ q, q < o ∨ o + 13 ≤ q → I' q = I q) → Q (some (.int 1)) (n, sh, X, R, I', L)) : gw_Call y_Cu_addClaim d 0 0 [.ref o, .int (nI a), .int (nI b), .int c] (n, sh, X, R, I, L) Q := by
  obtain ⟨s0, s1, s2, s3, s4, r2, r3, r4, r5, q0, q1, p0, p1⟩ := hp
  obtain ⟨a1, a2, a3, a4, a5, a6⟩ := ha
  refine gw_call o_Cu_addClaim (Nat.le_of_ble_eq_true rfl) ?_
  refine go_aload_n 0 d_Cu_addClaim_0 rfl rfl ?_
  refine go_getI d_Cu_addClaim_1 f_Cu_32 (by assumption) ?_
  refine go_bipush (v := 6) d_Cu_addClaim_4 rfl ?_
  refine go_icmp_lt 11 d_Cu_addClaim_6 rfl (fun h6 => ?_) (fun h6 => ?_)
  · have hlt : A.1.length < 6 := by rw [a2] at h6; exact (nI_ltI (b := 6) (by omega) (by decide)).mp h6
    refine go_aload_n 0 d_Cu_addClaim_11 rfl rfl ?_
    refine go_getR d_Cu_addClaim_12 f_Cu_9 (by assumption) (by assumption) ?_
    refine go_aload_n 0 d_Cu_addClaim_15 rfl rfl ?_
    refine go_getI d_Cu_addClaim_16 f_Cu_32 (by assumption) ?_
    refine go_iload_n 1 d_Cu_addClaim_19 rfl rfl ?_
    refine go_iast (A.1.length) d_Cu_addClaim_20 (by assumption) (a2) (hlt) (by decide) ?_
    refine go_aload_n 0 d_Cu_addClaim_21 rfl rfl ?_
    refine go_getR d_Cu_addClaim_22 f_Cu_15 (by assumption) (by assumption) ?_
    refine go_aload_n 0 d_Cu_addClaim_25 rfl rfl ?_
    refine go_getI d_Cu_addClaim_26 f_Cu_32 (by assumption) ?_
    refine go_iload_n 2 d_Cu_addClaim_29 rfl rfl ?_
    refine go_iast (A.1.length) d_Cu_addClaim_30 (by assumption) (by simp [va_up, a2]) (hlt) (by decide) ?_
    refine go_aload_n 0 d_Cu_addClaim_31 rfl rfl ?_
    refine go_getR d_Cu_addClaim_32 f_Cu_18 (by assumption) (by assumption) ?_
    refine go_aload_n 0 d_Cu_addClaim_35 rfl rfl ?_
    refine go_getI d_Cu_addClaim_36 f_Cu_32 (by assumption) ?_
    refine go_iload_n 3 d_Cu_addClaim_39 rfl rfl ?_
    refine go_iast (A.1.length) d_Cu_addClaim_40 (by assumption) (by simp [va_up, a2]) (hlt) (by decide) ?_
    refine go_aload_n 0 d_Cu_addClaim_41 rfl rfl ?_
    refine go_dup d_Cu_addClaim_42 rfl ?_
    refine go_getI d_Cu_addClaim_43 f_Cu_32 (by assumption) ?_
    refine go_iconst (v := 1) d_Cu_addClaim_46 rfl ?_
    refine go_iadd d_Cu_addClaim_47 ?_
    refine go_putI d_Cu_addClaim_48 f_Cu_32 (by assumption) ?_
    refine go_iconst (v := 1) d_Cu_addClaim_51 rfl ?_
    have key : ∀ (j : Nat) (t : Nat × Nat × Int32), (A.1 ++ [(a, b, c)])[j]? = some t → (j ≠ A.1.length ∧ A.1[j]? = some t) ∨ (j = A.1.length ∧ t = (a, b, c)) := fun j t h => by rcases gw_app h with ⟨e1, e2⟩ | e; exact Or.inl ⟨by omega, e2⟩; exact Or.inr e
    exact go_zret d_Cu_addClaim_52 rfl (by first | exact Or.inl rfl | exact Or.inr rfl | assumption) (hQ hlt _ ⟨by simp [va_up, a1], by simp [va_up, a2, nI_succ], by simp; omega, fun j t h => by rcases key j t h with ⟨e1, e2⟩ | ⟨rfl, rfl⟩; (have e4 := a4 j t e2; simp [va_up, e1, e4]); simp [va_up, ha5, hb5], a5.kept (fun q g1 g2 => by simp [va_up, show q ≠ o by omega, show q ≠ o + 1 by omega, show q ≠ o + 2 by omega, show q ≠ o + 3 by omega]), a6.kept (fun q g1 g2 => by simp [va_up, show q ≠ o by omega, show q ≠ o + 1 by omega, show q ≠ o + 2 by omega, show q ≠ o + 3 by omega])⟩ (fun q h => by simp [va_up, show q ≠ o by omega, show q ≠ o + 1 by omega, show q ≠ o + 2 by omega, show q ≠ o + 3 by omega]))
  · refine go_iconst (v := 0) d_Cu_addClaim_9 rfl ?_
    exact go_zret d_Cu_addClaim_10 rfl (by first | exact Or.inl rfl | exact Or.inr rfl | assumption) (hf (fun h => h6 (by rw [a2]; exact nI_lt h (by decide))))
/-- whether all claims hold when the sides have these values -/
def cu_holds (v : Nat → Int32) (l : List (Nat × Nat × Int32)) : Prop := ∀ t ∈ l, v t.1 - v t.2.1 ≤ t.2.2
theorem c_Cu_holdsFor {o p v : Nat} {A : ab_Cu} (hp : pt_Cu sh R o) (ha : cu_at I o p A) (hv : sh v = (1, 5)) (hQ : ∀ b : Bool, (b = true ↔ cu_holds (I v) A.1) → Q (some (.int (bI b))) (n, sh, X, R, I, L)) : gw_Call y_Cu_holdsFor d 0 0 [.ref o, .ref v] (n, sh, X, R, I, L) Q := by
  obtain ⟨s0, s1, s2, s3, s4, r2, r3, r4, r5, q0, q1, p0, p1⟩ := hp
  obtain ⟨a1, a2, a3, a4, a5, a6⟩ := ha
  refine gw_call o_Cu_holdsFor (Nat.le_of_ble_eq_true rfl) ?_
  have loop : ∀ (ts : List (Nat × Nat × Int32)) (i : Nat) (x : Int32), x = nI i → i ≤ A.1.length → A.1.drop i = ts → (cu_holds (I v) A.1 ↔ cu_holds (I v) ts) → gw_Go y_Cu_holdsFor d 0 0 2 [some (.ref o), some (.ref v), some (.int x)] [] (n, sh, X, R, I, L) Q := by
    intro ts
    induction ts with
    | nil =>
      intro i x hx h0 hd hs
      have hi := gw_dropE hd
      refine go_iload_n 2 d_Cu_holdsFor_2 rfl rfl ?_
      refine go_aload_n 0 d_Cu_holdsFor_3 rfl rfl ?_
      refine go_getI d_Cu_holdsFor_4 f_Cu_32 (by assumption) ?_
      refine go_icmp_ge 44 d_Cu_holdsFor_7 rfl (fun _ => ?_) (fun hn => absurd (by rw [a2, hx]; exact nI_le hi (by omega)) hn)
      refine go_iconst (v := 1) d_Cu_holdsFor_44 rfl ?_
      exact go_zret d_Cu_holdsFor_45 rfl (by first | exact Or.inl rfl | exact Or.inr rfl | assumption) (hQ true ⟨fun _ => hs.mpr (fun t h => by cases h), fun _ => rfl⟩)
    | cons t ts ih =>
      intro i x hx h0 hd hs
      obtain ⟨hi, ht, hn⟩ := gw_drop hd
      obtain ⟨b1, b2, b3, b4, b5⟩ := a4 i t ht
      refine go_iload_n 2 d_Cu_holdsFor_2 rfl rfl ?_
      refine go_aload_n 0 d_Cu_holdsFor_3 rfl rfl ?_
      refine go_getI d_Cu_holdsFor_4 f_Cu_32 (by assumption) ?_
      refine go_icmp_ge 44 d_Cu_holdsFor_7 rfl (fun hn => absurd hn (by rw [a2, hx]; exact nI_ge hi (by omega))) (fun _ => ?_)
      refine go_aload_n 1 d_Cu_holdsFor_10 rfl rfl ?_
      refine go_aload_n 0 d_Cu_holdsFor_11 rfl rfl ?_
      refine go_getR d_Cu_holdsFor_12 f_Cu_9 (by assumption) (by assumption) ?_
      refine go_iload_n 2 d_Cu_holdsFor_15 rfl rfl ?_
      refine go_iald (i) d_Cu_holdsFor_16 (by assumption) (hx) (by omega) (by decide) ?_
      refine go_iald (t.1) d_Cu_holdsFor_17 (by assumption) (b1) (b4) (by decide) ?_
      refine go_aload_n 1 d_Cu_holdsFor_18 rfl rfl ?_
      refine go_aload_n 0 d_Cu_holdsFor_19 rfl rfl ?_
      refine go_getR d_Cu_holdsFor_20 f_Cu_15 (by assumption) (by assumption) ?_
      refine go_iload_n 2 d_Cu_holdsFor_23 rfl rfl ?_
      refine go_iald (i) d_Cu_holdsFor_24 (by assumption) (hx) (by omega) (by decide) ?_
      refine go_iald (t.2.1) d_Cu_holdsFor_25 (by assumption) (b2) (b5) (by decide) ?_
      refine go_isub d_Cu_holdsFor_26 ?_
      refine go_aload_n 0 d_Cu_holdsFor_27 rfl rfl ?_
      refine go_getR d_Cu_holdsFor_28 f_Cu_18 (by assumption) (by assumption) ?_
      refine go_iload_n 2 d_Cu_holdsFor_31 rfl rfl ?_
      refine go_iald (i) d_Cu_holdsFor_32 (by assumption) (hx) (by omega) (by decide) ?_
      refine go_icmp_le 38 d_Cu_holdsFor_33 rfl (fun h33 => ?_) (fun h33 => ?_)
      · rw [b3] at h33
        refine go_iinc d_Cu_holdsFor_38 rfl rfl (Nat.le_of_ble_eq_true rfl) ?_
        refine go_goto 2 d_Cu_holdsFor_41 rfl ?_
        exact ih (i + 1) _ (gw_inc hx) (by omega) hn (hs.trans ⟨fun h q hq => h q (List.mem_cons_of_mem _ hq), fun h q hq => by rcases List.mem_cons.mp hq with rfl | hq; exact h33; exact h q hq⟩)
      · rw [b3] at h33
        refine go_iconst (v := 0) d_Cu_holdsFor_36 rfl ?_
        exact go_zret d_Cu_holdsFor_37 rfl (by first | exact Or.inl rfl | exact Or.inr rfl | assumption) (hQ false ⟨fun h => (by cases h), fun h => absurd (hs.mp h t List.mem_cons_self) h33⟩)
  refine go_iconst (v := 0) d_Cu_holdsFor_0 rfl ?_
  refine go_istore_n 2 d_Cu_holdsFor_1 rfl (Nat.le_of_ble_eq_true rfl) ?_
  exact loop _ 0 _ rfl (by omega) rfl Iff.rfl
end CU
end
section
/-! Method: its code, its cuts; the class's small static methods -/
section ST
variable {d : Nat} {M : gw_Mem} {Q : Option Value → gw_Mem → Prop}
theorem c_CC_isBetween {x lo hi : Int32} (hQ : ∀ b : Bool, (b = true ↔ lo ≤ x ∧ x ≤ hi) → Q (some (.int (bI b))) M) : gw_Call y_CC_isBetween d 0 0 [.int x, .int lo, .int hi] M Q := by
  refine gw_call o_CC_isBetween (Nat.le_of_ble_eq_true rfl) ?_
  refine go_iload_n 0 d_CC_isBetween_0 rfl rfl ?_
  refine go_iload_n 1 d_CC_isBetween_1 rfl rfl ?_
  refine go_icmp_lt 14 d_CC_isBetween_2 rfl (fun h2 => ?_) (fun h2 => ?_)
  · refine go_iconst (v := 0) d_CC_isBetween_14 rfl ?_
    exact go_zret d_CC_isBetween_15 rfl (Or.inl rfl) (hQ false ⟨fun h => (by cases h), fun h => absurd h.1 (Int32.not_le.mpr h2)⟩)
  · refine go_iload_n 0 d_CC_isBetween_5 rfl rfl ?_
    refine go_iload_n 2 d_CC_isBetween_6 rfl rfl ?_
    refine go_icmp_gt 14 d_CC_isBetween_7 rfl (fun h7 => ?_) (fun h7 => ?_)
    · refine go_iconst (v := 0) d_CC_isBetween_14 rfl ?_
      exact go_zret d_CC_isBetween_15 rfl (Or.inl rfl) (hQ false ⟨fun h => (by cases h), fun h => absurd h.2 (Int32.not_le.mpr h7)⟩)
    · refine go_iconst (v := 1) d_CC_isBetween_10 rfl ?_
      refine go_goto 15 d_CC_isBetween_11 rfl ?_
      exact go_zret d_CC_isBetween_15 rfl (Or.inr rfl) (hQ true ⟨fun _ => ⟨Int32.not_lt.mp h2, Int32.not_lt.mp h7⟩, fun _ => rfl⟩)
theorem c_CC_isValue {x : Int32} (hQ : ∀ b : Bool, (b = true ↔ -1000000 ≤ x ∧ x ≤ 1000000) → Q (some (.int (bI b))) M) : gw_Call y_CC_isValue (d + 1) 0 0 [.int x] M Q := by
  refine gw_call o_CC_isValue (Nat.le_of_ble_eq_true rfl) ?_
  refine go_iload_n 0 d_CC_isValue_0 rfl rfl ?_
  refine go_ldc d_CC_isValue_1 i_CC_165 ?_
  refine go_ldc d_CC_isValue_3 i_CC_166 ?_
  refine go_S3 d_CC_isValue_5 k_CC_42 (Nat.le_of_ble_eq_true rfl) (c_CC_isBetween (fun b hb => ?_))
  exact go_zret d_CC_isValue_8 rfl (bI_01 b) (hQ b hb)
theorem c_CC_isPotential {x : Int32} (hQ : ∀ b : Bool, (b = true ↔ 0 ≤ x ∧ x ≤ 1) → Q (some (.int (bI b))) M) : gw_Call y_CC_isPotential (d + 1) 0 0 [.int x] M Q := by
  refine gw_call o_CC_isPotential (Nat.le_of_ble_eq_true rfl) ?_
  refine go_iload_n 0 d_CC_isPotential_0 rfl rfl ?_
  refine go_iconst (v := 0) d_CC_isPotential_1 rfl ?_
  refine go_iconst (v := 1) d_CC_isPotential_2 rfl ?_
  refine go_S3 d_CC_isPotential_3 k_CC_42 (Nat.le_of_ble_eq_true rfl) (c_CC_isBetween (fun b hb => ?_))
  exact go_zret d_CC_isPotential_6 rfl (bI_01 b) (hQ b hb)
theorem c_CC_areValues {x y z : Int32} (hQ : ∀ b : Bool, (b = true ↔ (-1000000 ≤ x ∧ x ≤ 1000000) ∧ (-1000000 ≤ y ∧ y ≤ 1000000) ∧ (-1000000 ≤ z ∧ z ≤ 1000000)) → Q (some (.int (bI b))) M) : gw_Call y_CC_areValues (d + 2) 0 0 [.int x, .int y, .int z] M Q := by
  refine gw_call o_CC_areValues (Nat.le_of_ble_eq_true rfl) ?_
  refine go_iload_n 0 d_CC_areValues_0 rfl rfl ?_
  refine go_S1 d_CC_areValues_1 k_CC_124 (Nat.le_of_ble_eq_true rfl) (c_CC_isValue (fun b1 hb1 => ?_))
  refine go_if_eq 25 d_CC_areValues_4 rfl (fun h4 => ?_) (fun h4 => ?_)
  · refine go_iconst (v := 0) d_CC_areValues_25 rfl ?_
    first | exact go_zret d_CC_areValues_26 rfl (Or.inr rfl) (hQ true ⟨fun _ => ⟨hb1.mp (bI_n0.mp h4), hb2.mp (bI_n0.mp h11), hb3.mp (bI_n0.mp h18)⟩, fun _ => rfl⟩) | exact go_zret d_CC_areValues_26 rfl (Or.inl rfl) (hQ false ⟨fun h => (by cases h), fun h => (by rw [hb3.mpr h.2.2] at h18; cases h18)⟩) | exact go_zret d_CC_areValues_26 rfl (Or.inl rfl) (hQ false ⟨fun h => (by cases h), fun h => (by rw [hb2.mpr h.2.1] at h11; cases h11)⟩) | exact go_zret d_CC_areValues_26 rfl (Or.inl rfl) (hQ false ⟨fun h => (by cases h), fun h => (by rw [hb1.mpr h.1] at h4; cases h4)⟩)
  · refine go_iload_n 1 d_CC_areValues_7 rfl rfl ?_
    refine go_S1 d_CC_areValues_8 k_CC_124 (Nat.le_of_ble_eq_true rfl) (c_CC_isValue (fun b2 hb2 => ?_))
    refine go_if_eq 25 d_CC_areValues_11 rfl (fun h11 => ?_) (fun h11 => ?_)
    · refine go_iconst (v := 0) d_CC_areValues_25 rfl ?_
      first | exact go_zret d_CC_areValues_26 rfl (Or.inr rfl) (hQ true ⟨fun _ => ⟨hb1.mp (bI_n0.mp h4), hb2.mp (bI_n0.mp h11), hb3.mp (bI_n0.mp h18)⟩, fun _ => rfl⟩) | exact go_zret d_CC_areValues_26 rfl (Or.inl rfl) (hQ false ⟨fun h => (by cases h), fun h => (by rw [hb3.mpr h.2.2] at h18; cases h18)⟩) | exact go_zret d_CC_areValues_26 rfl (Or.inl rfl) (hQ false ⟨fun h => (by cases h), fun h => (by rw [hb2.mpr h.2.1] at h11; cases h11)⟩) | exact go_zret d_CC_areValues_26 rfl (Or.inl rfl) (hQ false ⟨fun h => (by cases h), fun h => (by rw [hb1.mpr h.1] at h4; cases h4)⟩)
    · refine go_iload_n 2 d_CC_areValues_14 rfl rfl ?_
      refine go_S1 d_CC_areValues_15 k_CC_124 (Nat.le_of_ble_eq_true rfl) (c_CC_isValue (fun b3 hb3 => ?_))
      refine go_if_eq 25 d_CC_areValues_18 rfl (fun h18 => ?_) (fun h18 => ?_)
      · refine go_iconst (v := 0) d_CC_areValues_25 rfl ?_
        first | exact go_zret d_CC_areValues_26 rfl (Or.inr rfl) (hQ true ⟨fun _ => ⟨hb1.mp (bI_n0.mp h4), hb2.mp (bI_n0.mp h11), hb3.mp (bI_n0.mp h18)⟩, fun _ => rfl⟩) | exact go_zret d_CC_areValues_26 rfl (Or.inl rfl) (hQ false ⟨fun h => (by cases h), fun h => (by rw [hb3.mpr h.2.2] at h18; cases h18)⟩) | exact go_zret d_CC_areValues_26 rfl (Or.inl rfl) (hQ false ⟨fun h => (by cases h), fun h => (by rw [hb2.mpr h.2.1] at h11; cases h11)⟩) | exact go_zret d_CC_areValues_26 rfl (Or.inl rfl) (hQ false ⟨fun h => (by cases h), fun h => (by rw [hb1.mpr h.1] at h4; cases h4)⟩)
      · refine go_iconst (v := 1) d_CC_areValues_21 rfl ?_
        refine go_goto 26 d_CC_areValues_22 rfl ?_
        first | exact go_zret d_CC_areValues_26 rfl (Or.inr rfl) (hQ true ⟨fun _ => ⟨hb1.mp (bI_n0.mp h4), hb2.mp (bI_n0.mp h11), hb3.mp (bI_n0.mp h18)⟩, fun _ => rfl⟩) | exact go_zret d_CC_areValues_26 rfl (Or.inl rfl) (hQ false ⟨fun h => (by cases h), fun h => (by rw [hb3.mpr h.2.2] at h18; cases h18)⟩) | exact go_zret d_CC_areValues_26 rfl (Or.inl rfl) (hQ false ⟨fun h => (by cases h), fun h => (by rw [hb2.mpr h.2.1] at h11; cases h11)⟩) | exact go_zret d_CC_areValues_26 rfl (Or.inl rfl) (hQ false ⟨fun h => (by cases h), fun h => (by rw [hb1.mpr h.1] at h4; cases h4)⟩)
theorem c_CC_areTwoSides {a b : Int32} (hQ : ∀ c : Bool, (c = true ↔ (0 ≤ a ∧ a ≤ 4) ∧ (0 ≤ b ∧ b ≤ 4) ∧ a ≠ b) → Q (some (.int (bI c))) M) : gw_Call y_CC_areTwoSides (d + 1) 0 0 [.int a, .int b] M Q := by
  refine gw_call o_CC_areTwoSides (Nat.le_of_ble_eq_true rfl) ?_
  refine go_iload_n 0 d_CC_areTwoSides_0 rfl rfl ?_
  refine go_iconst (v := 0) d_CC_areTwoSides_1 rfl ?_
  refine go_iconst (v := 4) d_CC_areTwoSides_2 rfl ?_
  refine go_S3 d_CC_areTwoSides_3 k_CC_42 (Nat.le_of_ble_eq_true rfl) (c_CC_isBetween (fun b1 hb1 => ?_))
  refine go_if_eq 27 d_CC_areTwoSides_6 rfl (fun h6 => ?_) (fun h6 => ?_)
  · refine go_iconst (v := 0) d_CC_areTwoSides_27 rfl ?_
    first | exact go_zret d_CC_areTwoSides_28 rfl (Or.inr rfl) (hQ true ⟨fun _ => ⟨hb1.mp (bI_n0.mp h6), hb2.mp (bI_n0.mp h15), h20⟩, fun _ => rfl⟩) | exact go_zret d_CC_areTwoSides_28 rfl (Or.inl rfl) (hQ false ⟨fun h => (by cases h), fun h => absurd h20 h.2.2⟩) | exact go_zret d_CC_areTwoSides_28 rfl (Or.inl rfl) (hQ false ⟨fun h => (by cases h), fun h => (by rw [hb2.mpr h.2.1] at h15; cases h15)⟩) | exact go_zret d_CC_areTwoSides_28 rfl (Or.inl rfl) (hQ false ⟨fun h => (by cases h), fun h => (by rw [hb1.mpr h.1] at h6; cases h6)⟩)
  · refine go_iload_n 1 d_CC_areTwoSides_9 rfl rfl ?_
    refine go_iconst (v := 0) d_CC_areTwoSides_10 rfl ?_
    refine go_iconst (v := 4) d_CC_areTwoSides_11 rfl ?_
    refine go_S3 d_CC_areTwoSides_12 k_CC_42 (Nat.le_of_ble_eq_true rfl) (c_CC_isBetween (fun b2 hb2 => ?_))
    refine go_if_eq 27 d_CC_areTwoSides_15 rfl (fun h15 => ?_) (fun h15 => ?_)
    · refine go_iconst (v := 0) d_CC_areTwoSides_27 rfl ?_
      first | exact go_zret d_CC_areTwoSides_28 rfl (Or.inr rfl) (hQ true ⟨fun _ => ⟨hb1.mp (bI_n0.mp h6), hb2.mp (bI_n0.mp h15), h20⟩, fun _ => rfl⟩) | exact go_zret d_CC_areTwoSides_28 rfl (Or.inl rfl) (hQ false ⟨fun h => (by cases h), fun h => absurd h20 h.2.2⟩) | exact go_zret d_CC_areTwoSides_28 rfl (Or.inl rfl) (hQ false ⟨fun h => (by cases h), fun h => (by rw [hb2.mpr h.2.1] at h15; cases h15)⟩) | exact go_zret d_CC_areTwoSides_28 rfl (Or.inl rfl) (hQ false ⟨fun h => (by cases h), fun h => (by rw [hb1.mpr h.1] at h6; cases h6)⟩)
    · refine go_iload_n 0 d_CC_areTwoSides_18 rfl rfl ?_
      refine go_iload_n 1 d_CC_areTwoSides_19 rfl rfl ?_
      refine go_icmp_eq 27 d_CC_areTwoSides_20 rfl (fun h20 => ?_) (fun h20 => ?_)
      · refine go_iconst (v := 0) d_CC_areTwoSides_27 rfl ?_
        first | exact go_zret d_CC_areTwoSides_28 rfl (Or.inr rfl) (hQ true ⟨fun _ => ⟨hb1.mp (bI_n0.mp h6), hb2.mp (bI_n0.mp h15), h20⟩, fun _ => rfl⟩) | exact go_zret d_CC_areTwoSides_28 rfl (Or.inl rfl) (hQ false ⟨fun h => (by cases h), fun h => absurd h20 h.2.2⟩) | exact go_zret d_CC_areTwoSides_28 rfl (Or.inl rfl) (hQ false ⟨fun h => (by cases h), fun h => (by rw [hb2.mpr h.2.1] at h15; cases h15)⟩) | exact go_zret d_CC_areTwoSides_28 rfl (Or.inl rfl) (hQ false ⟨fun h => (by cases h), fun h => (by rw [hb1.mpr h.1] at h6; cases h6)⟩)
      · refine go_iconst (v := 1) d_CC_areTwoSides_23 rfl ?_
        refine go_goto 28 d_CC_areTwoSides_24 rfl ?_
        first | exact go_zret d_CC_areTwoSides_28 rfl (Or.inr rfl) (hQ true ⟨fun _ => ⟨hb1.mp (bI_n0.mp h6), hb2.mp (bI_n0.mp h15), h20⟩, fun _ => rfl⟩) | exact go_zret d_CC_areTwoSides_28 rfl (Or.inl rfl) (hQ false ⟨fun h => (by cases h), fun h => absurd h20 h.2.2⟩) | exact go_zret d_CC_areTwoSides_28 rfl (Or.inl rfl) (hQ false ⟨fun h => (by cases h), fun h => (by rw [hb2.mpr h.2.1] at h15; cases h15)⟩) | exact go_zret d_CC_areTwoSides_28 rfl (Or.inl rfl) (hQ false ⟨fun h => (by cases h), fun h => (by rw [hb1.mpr h.1] at h6; cases h6)⟩)
end ST
/-- a method's cells: the object, its kinds, its numbers, its row of cuts, six cuts -/
def pt_Me (sh : Nat → Nat × Nat) (R : Nat → Nat → Option Nat) (o : Nat) : Prop := sh o = (0, 1) ∧ sh (o + 1) = (1, 24) ∧ sh (o + 2) = (1, 24) ∧ sh (o + 3) = (1 + 4, 6) ∧ R o 1 = some (o + 1) ∧ R o 2 = some (o + 2) ∧ R o 4 = some (o + 3) ∧ ∀ i, i < 6 → pt_Cu sh R (o + 4 + 13 * i)
theorem pt_Me.kept {sh : Nat → Nat × Nat} {R R' : Nat → Nat → Option Nat} {o : Nat} (h : pt_Me sh R o) (hq : ∀ q, o ≤ q → q < o + 82 → q ≠ o + 3 → R' q = R q) : pt_Me sh R' o := by
  obtain ⟨s0, s1, s2, s3, r1, r2, r4, hc⟩ := h
  have e0 := hq o (by omega) (by omega) (by omega)
  exact ⟨s0, s1, s2, s3, by rw [e0]; exact r1, by rw [e0]; exact r2, by rw [e0]; exact r4, fun i hi => (hc i hi).kept (fun q a b => hq q (by omega) (by omega) (by omega))⟩
/-- the code: kinds and numbers -/
def co_at (I : Nat → Nat → Int32) (o : Nat) (l : List (Nat × Int32)) : Prop := I o 3 = nI l.length ∧ l.length ≤ 24 ∧ ∀ (j : Nat) (t : Nat × Int32), l[j]? = some t → I (o + 1) j = nI t.1 ∧ I (o + 2) j = t.2 ∧ t.1 < 15
/-- the cuts, in their row, by way of which of the six cuts stands at each place -/
def cs_at (R : Nat → Nat → Option Nat) (I : Nat → Nat → Int32) (o : Nat) (w : Nat → Nat) (l : List (Nat × ab_Cu)) : Prop := I o 5 = nI l.length ∧ l.length ≤ 6 ∧ (∀ i, i < 6 → w i < 6) ∧ (∀ i j, i < 6 → j < 6 → w i = w j → i = j) ∧ (∀ i, i < 6 → R (o + 3) i = some (o + 4 + 13 * w i)) ∧ ∀ (i : Nat) (c : Nat × ab_Cu), l[i]? = some c → cu_at I (o + 4 + 13 * w i) c.1 c.2
section ME
variable {d n : Nat} {sh : Nat → Nat × Nat} {X : Nat × (Nat → Int32)} {R : Nat → Nat → Option Nat} {I : Nat → Nat → Int32} {L : Nat → Nat → Int64} {Q : Option Value → gw_Mem → Prop}
theorem c_Me_append {o k : Nat} {v : Int32} {l : List (Nat × Int32)} (hp : pt_Me sh R o) (ha : co_at I o l) (hk : k < 15) (hf : ¬ l.length < 24 → Q (some (.int 0)) (n, sh, X, R, I, L)) (hQ : l.length < 24 → ∀ I', co_at I' o (l ++ [(k, v)]) → (∀ q, q ≠ o → q ≠ o + 1 → q ≠ o + 2 → I' q = I q) → (∀ j, j ≠ 3 → I' o j = I o j) → Q (some (.int 1)) (n, sh, X, R, I', L)) : gw_Call y_Me_append d 0 0 [.ref o, .int (nI k), .int v] (n, sh, X, R, I, L) Q := by
  obtain ⟨s0, s1, s2, s3, r1, r2, r4, hc⟩ := hp
  obtain ⟨a2, a3, a4⟩ := ha
  refine gw_call o_Me_append (Nat.le_of_ble_eq_true rfl) ?_
  refine go_aload_n 0 d_Me_append_0 rfl rfl ?_
  refine go_getI d_Me_append_1 f_Me_32 (by assumption) ?_
  refine go_bipush (v := 24) d_Me_append_4 rfl ?_
  refine go_icmp_lt 11 d_Me_append_6 rfl (fun h6 => ?_) (fun h6 => ?_)
  · have hlt : l.length < 24 := by rw [a2] at h6; exact (nI_ltI (b := 24) (by omega) (by decide)).mp h6
    refine go_aload_n 0 d_Me_append_11 rfl rfl ?_
    refine go_getR d_Me_append_12 f_Me_9 (by assumption) (by assumption) ?_
    refine go_aload_n 0 d_Me_append_15 rfl rfl ?_
    refine go_getI d_Me_append_16 f_Me_32 (by assumption) ?_
    refine go_iload_n 1 d_Me_append_19 rfl rfl ?_
    refine go_iast (l.length) d_Me_append_20 (by assumption) (a2) (hlt) (by decide) ?_
    refine go_aload_n 0 d_Me_append_21 rfl rfl ?_
    refine go_getR d_Me_append_22 f_Me_15 (by assumption) (by assumption) ?_
    refine go_aload_n 0 d_Me_append_25 rfl rfl ?_
    refine go_getI d_Me_append_26 f_Me_32 (by assumption) ?_
    refine go_iload_n 2 d_Me_append_29 rfl rfl ?_
    refine go_iast (l.length) d_Me_append_30 (by assumption) (by simp [va_up, a2]) (hlt) (by decide) ?_
    refine go_aload_n 0 d_Me_append_31 rfl rfl ?_
    refine go_dup d_Me_append_32 rfl ?_
    refine go_getI d_Me_append_33 f_Me_32 (by assumption) ?_
    refine go_iconst (v := 1) d_Me_append_36 rfl ?_
    refine go_iadd d_Me_append_37 ?_
    refine go_putI d_Me_append_38 f_Me_32 (by assumption) ?_
    refine go_iconst (v := 1) d_Me_append_41 rfl ?_
    have key : ∀ (j : Nat) (t : Nat × Int32), (l ++ [(k, v)])[j]? = some t → (j ≠ l.length ∧ l[j]? = some t) ∨ (j = l.length ∧ t = (k, v)) := fun j t h => by rcases gw_app h with ⟨e1, e2⟩ | e; exact Or.inl ⟨by omega, e2⟩; exact Or.inr e
    exact go_zret d_Me_append_42 rfl (by first | exact Or.inl rfl | exact Or.inr rfl | assumption) (hQ hlt _ ⟨by simp [va_up, a2, nI_succ], by simp; omega, fun j t h => by rcases key j t h with ⟨e1, e2⟩ | ⟨rfl, rfl⟩; (have e4 := a4 j t e2; simp [va_up, e1, e4]); simp [va_up, hk]⟩ (fun q g0 g1 g2 => by simp [va_up, g0, g1, g2]) (fun j hj => by simp [va_up, hj]))
  · refine go_iconst (v := 0) d_Me_append_9 rfl ?_
    exact go_zret d_Me_append_10 rfl (by first | exact Or.inl rfl | exact Or.inr rfl | assumption) (hf (fun h => h6 (by rw [a2]; exact nI_lt h (by decide))))
theorem c_Me_hasPlace {o : Nat} {x : Int32} {l : List (Nat × Int32)} (hp : pt_Me sh R o) (ha : co_at I o l) (hQ : ∀ b : Bool, (b = true ↔ ∃ p, p < l.length ∧ x = nI p) → Q (some (.int (bI b))) (n, sh, X, R, I, L)) : gw_Call y_Me_hasPlace d 0 0 [.ref o, .int x] (n, sh, X, R, I, L) Q := by
  obtain ⟨s0, s1, s2, s3, r1, r2, r4, hc⟩ := hp
  obtain ⟨a2, a3, a4⟩ := ha
  refine gw_call o_Me_hasPlace (Nat.le_of_ble_eq_true rfl) ?_
  refine go_iload_n 1 d_Me_hasPlace_0 rfl rfl ?_
  refine go_if_lt 16 d_Me_hasPlace_1 rfl (fun h1 => ?_) (fun h1 => ?_)
  · refine go_iconst (v := 0) d_Me_hasPlace_16 rfl ?_
    first | exact go_zret d_Me_hasPlace_17 rfl (Or.inr rfl) (hQ true ⟨fun _ => by obtain ⟨j, hj, e⟩ := nI_of h1; refine ⟨j, ?_, e⟩; rw [a2, e] at h9; exact Nat.not_le.mp (fun hh => h9 (nI_le hh hj)), fun _ => rfl⟩) | exact go_zret d_Me_hasPlace_17 rfl (Or.inl rfl) (hQ false ⟨fun h => (by cases h), fun ⟨p, hp, e⟩ => absurd h9 (by rw [a2, e]; exact nI_ge hp (by omega))⟩) | exact go_zret d_Me_hasPlace_17 rfl (Or.inl rfl) (hQ false ⟨fun h => (by cases h), fun ⟨p, hp, e⟩ => absurd h1 (by rw [e]; exact nI_pos (by omega))⟩)
  · refine go_iload_n 1 d_Me_hasPlace_4 rfl rfl ?_
    refine go_aload_n 0 d_Me_hasPlace_5 rfl rfl ?_
    refine go_getI d_Me_hasPlace_6 f_Me_32 (by assumption) ?_
    refine go_icmp_ge 16 d_Me_hasPlace_9 rfl (fun h9 => ?_) (fun h9 => ?_)
    · refine go_iconst (v := 0) d_Me_hasPlace_16 rfl ?_
      first | exact go_zret d_Me_hasPlace_17 rfl (Or.inr rfl) (hQ true ⟨fun _ => by obtain ⟨j, hj, e⟩ := nI_of h1; refine ⟨j, ?_, e⟩; rw [a2, e] at h9; exact Nat.not_le.mp (fun hh => h9 (nI_le hh hj)), fun _ => rfl⟩) | exact go_zret d_Me_hasPlace_17 rfl (Or.inl rfl) (hQ false ⟨fun h => (by cases h), fun ⟨p, hp, e⟩ => absurd h9 (by rw [a2, e]; exact nI_ge hp (by omega))⟩) | exact go_zret d_Me_hasPlace_17 rfl (Or.inl rfl) (hQ false ⟨fun h => (by cases h), fun ⟨p, hp, e⟩ => absurd h1 (by rw [e]; exact nI_pos (by omega))⟩)
    · refine go_iconst (v := 1) d_Me_hasPlace_12 rfl ?_
      refine go_goto 17 d_Me_hasPlace_13 rfl ?_
      first | exact go_zret d_Me_hasPlace_17 rfl (Or.inr rfl) (hQ true ⟨fun _ => by obtain ⟨j, hj, e⟩ := nI_of h1; refine ⟨j, ?_, e⟩; rw [a2, e] at h9; exact Nat.not_le.mp (fun hh => h9 (nI_le hh hj)), fun _ => rfl⟩) | exact go_zret d_Me_hasPlace_17 rfl (Or.inl rfl) (hQ false ⟨fun h => (by cases h), fun ⟨p, hp, e⟩ => absurd h9 (by rw [a2, e]; exact nI_ge hp (by omega))⟩) | exact go_zret d_Me_hasPlace_17 rfl (Or.inl rfl) (hQ false ⟨fun h => (by cases h), fun ⟨p, hp, e⟩ => absurd h1 (by rw [e]; exact nI_pos (by omega))⟩)
theorem c_Me_findCut {o : Nat} {x : Int32} {w : Nat → Nat} {l : List (Nat × ab_Cu)} (hp : pt_Me sh R o) (ha : cs_at R I o w l) (hN : (∀ c ∈ l, nI c.1 ≠ x) → Q (some .null) (n, sh, X, R, I, L)) (hS : ∀ (i : Nat) (c : Nat × ab_Cu), l[i]? = some c → nI c.1 = x → Q (some (.ref (o + 4 + 13 * w i))) (n, sh, X, R, I, L)) : gw_Call y_Me_findCut d 0 0 [.ref o, .int x] (n, sh, X, R, I, L) Q := by
  obtain ⟨s0, s1, s2, s3, r1, r2, r4, hc⟩ := hp
  obtain ⟨a1, a2, a3, a4, a5, a6⟩ := ha
  refine gw_call o_Me_findCut (Nat.le_of_ble_eq_true rfl) ?_
  have loop : ∀ (ts : List (Nat × ab_Cu)) (i : Nat) (z : Int32), z = nI i → i ≤ l.length → l.drop i = ts → ((∀ c ∈ ts, nI c.1 ≠ x) → ∀ c ∈ l, nI c.1 ≠ x) → gw_Go y_Me_findCut d 0 0 2 [some (.ref o), some (.int x), some (.int z)] [] (n, sh, X, R, I, L) Q := by
    intro ts
    induction ts with
    | nil =>
      intro i z hz h0 hd hs
      have hi := gw_dropE hd
      refine go_iload_n 2 d_Me_findCut_2 rfl rfl ?_
      refine go_aload_n 0 d_Me_findCut_3 rfl rfl ?_
      refine go_getI d_Me_findCut_4 f_Me_29 (by assumption) ?_
      refine go_icmp_ge 36 d_Me_findCut_7 rfl (fun _ => ?_) (fun hn => absurd (by rw [a1, hz]; exact nI_le hi (by omega)) hn)
      refine go_null d_Me_findCut_36 ?_
      exact go_nret d_Me_findCut_37 rfl (hN (hs (fun c h => by cases h)))
    | cons t ts ih =>
      intro i z hz h0 hd hs
      obtain ⟨hi, ht, hn⟩ := gw_drop hd
      have hcu := hc (w i) (a3 i (by omega))
      have sc := hcu.1
      have hre := a5 i (by omega)
      have hpl := (a6 i t ht).1
      refine go_iload_n 2 d_Me_findCut_2 rfl rfl ?_
      refine go_aload_n 0 d_Me_findCut_3 rfl rfl ?_
      refine go_getI d_Me_findCut_4 f_Me_29 (by assumption) ?_
      refine go_icmp_ge 36 d_Me_findCut_7 rfl (fun hn => absurd hn (by rw [a1, hz]; exact nI_ge hi (by omega))) (fun _ => ?_)
      refine go_aload_n 0 d_Me_findCut_10 rfl rfl ?_
      refine go_getR d_Me_findCut_11 f_Me_20 (by assumption) (by assumption) ?_
      refine go_iload_n 2 d_Me_findCut_14 rfl rfl ?_
      refine go_aald (t := 1) (i) d_Me_findCut_15 (by assumption) (by decide) (hz) (by omega) (by decide) (by assumption) ?_
      refine go_getI d_Me_findCut_16 f_Me_39 (by assumption) ?_
      refine go_iload_n 1 d_Me_findCut_19 rfl rfl ?_
      refine go_icmp_ne 30 d_Me_findCut_20 rfl (fun h20 => ?_) (fun h20 => ?_)
      · refine go_iinc d_Me_findCut_30 rfl rfl (Nat.le_of_ble_eq_true rfl) ?_
        refine go_goto 2 d_Me_findCut_33 rfl ?_
        exact ih (i + 1) _ (gw_inc hz) (by omega) hn (fun hh => hs (fun c h => by rcases List.mem_cons.mp h with rfl | h; (rw [← hpl]; exact h20); exact hh c h))
      · refine go_aload_n 0 d_Me_findCut_23 rfl rfl ?_
        refine go_getR d_Me_findCut_24 f_Me_20 (by assumption) (by assumption) ?_
        refine go_iload_n 2 d_Me_findCut_27 rfl rfl ?_
        refine go_aald (t := 1) (i) d_Me_findCut_28 (by assumption) (by decide) (hz) (by omega) (by decide) (by assumption) ?_
        exact go_aret d_Me_findCut_29 rfl (hS i t ht (by rw [← hpl]; exact h20))
  refine go_iconst (v := 0) d_Me_findCut_0 rfl ?_
  refine go_istore_n 2 d_Me_findCut_1 rfl (Nat.le_of_ble_eq_true rfl) ?_
  exact loop _ 0 _ rfl (by omega) rfl (fun h => h)
end ME
end
section
/-! Method.reset, Method.addCut -/
abbrev cu_0 : ab_Cu := ([], (0, []), (0, []))
section ME2
variable {d n : Nat} {sh : Nat → Nat × Nat} {X : Nat × (Nat → Int32)} {R : Nat → Nat → Option Nat} {I : Nat → Nat → Int32} {L : Nat → Nat → Int64} {Q : Option Value → gw_Mem → Prop}
theorem c_Me_reset {o : Nat} {w : Nat → Nat} {l : List (Nat × ab_Cu)} (hp : pt_Me sh R o) (ha : cs_at R I o w l) (hQ : ∀ I', co_at I' o [] → cs_at R I' o w [(0, cu_0)] → (∀ q, q < o ∨ o + 82 ≤ q → I' q = I q) → (∀ j, j ≠ 3 → j ≠ 5 → I' o j = I o j) → Q none (n, sh, X, R, I', L)) : gw_Call y_Me_reset (d + 2) 0 0 [.ref o] (n, sh, X, R, I, L) Q := by
  obtain ⟨s0, s1, s2, s3, r1, r2, r4, hc⟩ := hp
  obtain ⟨a1, a2, a3, a4, a5, a6⟩ := ha
  refine gw_call o_Me_reset (Nat.le_of_ble_eq_true rfl) ?_
  have hw0 := a3 0 (by decide)
  have hcu := hc (w 0) hw0
  have sc := hcu.1
  have hre := a5 0 (by decide)
  refine go_aload_n 0 d_Me_reset_0 rfl rfl ?_
  refine go_iconst (v := 0) d_Me_reset_1 rfl ?_
  refine go_putI d_Me_reset_2 f_Me_32 (by assumption) ?_
  refine go_aload_n 0 d_Me_reset_5 rfl rfl ?_
  refine go_iconst (v := 1) d_Me_reset_6 rfl ?_
  refine go_putI d_Me_reset_7 f_Me_29 (by assumption) ?_
  refine go_aload_n 0 d_Me_reset_10 rfl rfl ?_
  refine go_getR d_Me_reset_11 f_Me_20 (by assumption) (by assumption) ?_
  refine go_iconst (v := 0) d_Me_reset_14 rfl ?_
  refine go_aald (t := 1) (0) d_Me_reset_15 (by assumption) (by decide) (rfl) (by decide) (by decide) (by assumption) ?_
  refine go_iconst (v := 0) d_Me_reset_16 rfl ?_
  refine go_V1 d_Me_reset_17 k_Me_35 (by assumption) (Nat.le_of_ble_eq_true rfl) (c_Cu_reset (p := 0) hcu (fun I1 hI1 hk1 => ?_))
  have eo : I1 o = va_up (va_up (I o) 3 0) 5 1 := by rw [hk1 o (by omega)]; simp [va_up]
  exact go_vret d_Me_reset_20 rfl (hQ I1 ⟨by rw [eo]; simp [va_up, nI_0], by simp, fun j t h => by simp at h⟩ ⟨by rw [eo]; simp [va_up]; rfl, by simp, a3, a4, a5, fun i c h => by have h1 : i = 0 := (by have := (List.getElem?_eq_some_iff.mp h).1; simp at this; exact this); subst h1; rw [List.getElem?_cons_zero] at h; cases h; exact hI1⟩ (fun q h => by rw [hk1 q (by omega)]; simp [va_up, show q ≠ o by omega]) (fun j h3 h5 => by rw [eo]; simp [va_up, h3, h5]))
/-- the cuts with a new one at place a of the list -/
def cs_ins (a p : Nat) (l : List (Nat × ab_Cu)) : List (Nat × ab_Cu) := l.take a ++ (p, cu_0) :: l.drop a
theorem cs_ins_at {a p i : Nat} {l : List (Nat × ab_Cu)} {c : Nat × ab_Cu} (ha : a ≤ l.length) (h : (cs_ins a p l)[i]? = some c) : (i < a ∧ l[i]? = some c) ∨ (i = a ∧ c = (p, cu_0)) ∨ (a < i ∧ l[i - 1]? = some c) := by
  have hl : (l.take a).length = a := by rw [List.length_take]; omega
  unfold cs_ins at h
  by_cases h1 : i < a
  · rw [List.getElem?_append_left (by omega), List.getElem?_take_of_lt h1] at h
    exact Or.inl ⟨h1, h⟩
  · rw [List.getElem?_append_right (by omega), hl] at h
    by_cases h2 : i = a
    · subst h2
      rw [Nat.sub_self, List.getElem?_cons_zero] at h
      exact Or.inr (Or.inl ⟨rfl, (Option.some.inj h).symm⟩)
    · refine Or.inr (Or.inr ⟨by omega, ?_⟩)
      rw [show i - a = (i - a - 1) + 1 by omega, List.getElem?_cons_succ, List.getElem?_drop, show a + (i - a - 1) = i - 1 by omega] at h
      exact h
theorem cs_ins_len {a p : Nat} {l : List (Nat × ab_Cu)} (ha : a ≤ l.length) : (cs_ins a p l).length = l.length + 1 := by
  unfold cs_ins
  rw [List.length_append, List.length_cons, List.length_take, List.length_drop]
  omega
def cs_f (a len i : Nat) : Nat := if i < a then i else if i = a then len else if i ≤ len then i - 1 else i
theorem cs_f_lt {a len i : Nat} (hl : len < 6) (hi : i < 6) : cs_f a len i < 6 := by unfold cs_f; split; omega; split; omega; split <;> omega
theorem cs_f_inj {a len i j : Nat} (ha : a ≤ len) (h : cs_f a len i = cs_f a len j) : i = j := by
  unfold cs_f at h
  repeat' split at h
  all_goals omega
theorem c_Me_addCut {o : Nat} {x : Int32} {w : Nat → Nat} {l : List (Nat × ab_Cu)} (hp : pt_Me sh R o) (ha : cs_at R I o w l) (hpl : ∀ c ∈ l, c.1 < 24)
    (hf : ¬ (∃ p, p < 24 ∧ x = nI p ∧ l.length < 6 ∧ ∀ c ∈ l, c.1 ≠ p) → Q (some (.int 0)) (n, sh, X, R, I, L))
    (hQ : ∀ p, p < 24 → x = nI p → l.length < 6 → (∀ c ∈ l, c.1 ≠ p) → ∀ (R' : Nat → Nat → Option Nat) (I' : Nat → Nat → Int32) (w' : Nat → Nat) (a : Nat), a ≤ l.length → (∀ i c, l[i]? = some c → a ≤ i → p < c.1) → (0 < a → ∃ c, l[a - 1]? = some c ∧ c.1 ≤ p) → cs_at R' I' o w' (cs_ins a p l) → (∀ q, q ≠ o + 3 → R' q = R q) → (∀ q, q < o ∨ o + 82 ≤ q → I' q = I q) → I' (o + 1) = I (o + 1) → I' (o + 2) = I (o + 2) → (∀ j, j ≠ 5 → I' o j = I o j) → Q (some (.int 1)) (n, sh, X, R', I', L)) : gw_Call y_Me_addCut (d + 2) 0 0 [.ref o, .int x] (n, sh, X, R, I, L) Q := by
  have hp0 := hp
  obtain ⟨s0, s1, s2, s3, r1, r2, r4, hc⟩ := hp
  have ha0 := ha
  obtain ⟨a1, a2, a3, a4, a5, a6⟩ := ha
  refine gw_call o_Me_addCut (Nat.le_of_ble_eq_true rfl) ?_
  refine go_iload_n 1 d_Me_addCut_0 rfl rfl ?_
  refine go_iconst (v := 0) d_Me_addCut_1 rfl ?_
  refine go_bipush (v := 23) d_Me_addCut_2 rfl ?_
  refine go_S3 d_Me_addCut_4 k_Me_42 (Nat.le_of_ble_eq_true rfl) (c_CC_isBetween (fun b hb => ?_))
  refine go_if_eq 27 d_Me_addCut_7 rfl (fun h7 => ?_) (fun h7 => ?_)
  · refine go_iconst (v := 0) d_Me_addCut_27 rfl ?_
    first | exact go_zret d_Me_addCut_28 rfl (Or.inl rfl) (hf (fun ⟨p, g1, g2, g3, g4⟩ => absurd h16 (nI_ge g3 (by decide)))) | exact go_zret d_Me_addCut_28 rfl (Or.inl rfl) (hf (fun ⟨p, g1, g2, g3, g4⟩ => by have := hb.mpr ⟨by rw [g2]; exact nI_pos' (by omega), by rw [g2]; exact nI_le (b := 23) (by omega) (by decide)⟩; rw [this] at h7; cases h7))
  · refine go_aload_n 0 d_Me_addCut_10 rfl rfl ?_
    refine go_getI d_Me_addCut_11 f_Me_29 (by assumption) ?_
    refine go_bipush (v := 6) d_Me_addCut_14 rfl ?_
    rw [a1]
    refine go_icmp_ge 27 d_Me_addCut_16 rfl (fun h16 => ?_) (fun h16 => ?_)
    · refine go_iconst (v := 0) d_Me_addCut_27 rfl ?_
      first | exact go_zret d_Me_addCut_28 rfl (Or.inl rfl) (hf (fun ⟨p, g1, g2, g3, g4⟩ => absurd h16 (nI_ge g3 (by decide)))) | exact go_zret d_Me_addCut_28 rfl (Or.inl rfl) (hf (fun ⟨p, g1, g2, g3, g4⟩ => by have := hb.mpr ⟨by rw [g2]; exact nI_pos' (by omega), by rw [g2]; exact nI_le (b := 23) (by omega) (by decide)⟩; rw [this] at h7; cases h7))
    · refine go_aload_n 0 d_Me_addCut_19 rfl rfl ?_
      refine go_iload_n 1 d_Me_addCut_20 rfl rfl ?_
      refine go_V1 d_Me_addCut_21 k_Me_46 (by assumption) (Nat.le_of_ble_eq_true rfl) (c_Me_findCut hp0 ha0 (fun hN => ?_) (fun i c hi he => ?_))
      · obtain ⟨g0, g23⟩ := hb.mp (bI_n0.mp h7)
        obtain ⟨p, hp24, rfl⟩ := nI_of2 (n := 23) (by decide) (Int32.not_lt.mpr g0) g23
        have hlt : l.length < 6 := Nat.not_le.mp (fun hh => h16 (nI_le (b := l.length) hh (by omega)))
        have hne : ∀ c ∈ l, c.1 ≠ p := fun c h e => hN c h (by rw [e])
        have hwl := a3 l.length hlt
        have hfr := hc (w l.length) hwl
        have sf := hfr.1
        have hrf := a5 l.length hlt
        have loop : ∀ (a : Nat) (z : Int32) (R1 : Nat → Nat → Option Nat) (I1 : Nat → Nat → Int32), z = nI a → a ≤ l.length → (∀ i c, l[i]? = some c → a ≤ i → p < c.1) → (∀ q, q ≠ o + 3 → R1 q = R q) → (∀ i, i < a → R1 (o + 3) i = some (o + 4 + 13 * w i)) → (∀ i, a < i → i ≤ l.length → R1 (o + 3) i = some (o + 4 + 13 * w (i - 1))) → (∀ i, l.length < i → i < 6 → R1 (o + 3) i = some (o + 4 + 13 * w i)) → cu_at I1 (o + 4 + 13 * w l.length) p cu_0 → (∀ q, q < o + 4 + 13 * w l.length ∨ o + 4 + 13 * w l.length + 13 ≤ q → I1 q = I q) → gw_Go y_Me_addCut (d + 2) 0 0 49 [some (.ref o), some (.int (nI p)), some (.ref (o + 4 + 13 * w l.length)), some (.int z)] [] (n, sh, X, R1, I1, L) Q := by
          have fin : ∀ (a : Nat) (z : Int32) (R1 : Nat → Nat → Option Nat) (I1 : Nat → Nat → Int32), z = nI a → a ≤ l.length → (∀ i c, l[i]? = some c → a ≤ i → p < c.1) → (0 < a → ∃ c, l[a - 1]? = some c ∧ c.1 ≤ p) → (∀ q, q ≠ o + 3 → R1 q = R q) → (∀ i, i < a → R1 (o + 3) i = some (o + 4 + 13 * w i)) → (∀ i, a < i → i ≤ l.length → R1 (o + 3) i = some (o + 4 + 13 * w (i - 1))) → (∀ i, l.length < i → i < 6 → R1 (o + 3) i = some (o + 4 + 13 * w i)) → cu_at I1 (o + 4 + 13 * w l.length) p cu_0 → (∀ q, q < o + 4 + 13 * w l.length ∨ o + 4 + 13 * w l.length + 13 ≤ q → I1 q = I q) → gw_Go y_Me_addCut (d + 2) 0 0 88 [some (.ref o), some (.int (nI p)), some (.ref (o + 4 + 13 * w l.length)), some (.int z)] [] (n, sh, X, R1, I1, L) Q := by
            intro a z R1 I1 hz hal hgt hle hR h1 h2 h3 hnew hk1
            have r4' : R1 o 4 = some (o + 3) := by rw [hR o (by omega)]; exact r4
            have eo : I1 o = I o := hk1 o (by omega)
            have hdis : ∀ i, i < 6 → i ≠ l.length → w i ≠ w l.length := fun i hi hne he => hne (a4 i l.length hi hlt he)
            refine go_aload_n 0 d_Me_addCut_88 rfl rfl ?_
            refine go_getR d_Me_addCut_89 f_Me_20 (by assumption) (by assumption) ?_
            refine go_iload_n 3 d_Me_addCut_92 rfl rfl ?_
            refine go_aload_n 2 d_Me_addCut_93 rfl rfl ?_
            refine go_aast (t := 1) (ci := 2) (a) d_Me_addCut_94 (by assumption) (by decide) rfl rfl (by assumption) (hz) (by omega) (by decide) ?_
            refine go_aload_n 0 d_Me_addCut_95 rfl rfl ?_
            refine go_dup d_Me_addCut_96 rfl ?_
            refine go_getI d_Me_addCut_97 f_Me_29 (by assumption) ?_
            refine go_iconst (v := 1) d_Me_addCut_100 rfl ?_
            refine go_iadd d_Me_addCut_101 ?_
            refine go_putI d_Me_addCut_102 f_Me_29 (by assumption) ?_
            refine go_iconst (v := 1) d_Me_addCut_105 rfl ?_
            have hcu : ∀ (i : Nat) (c : Nat × ab_Cu), (cs_ins a p l)[i]? = some c → cu_at (va_up I1 o (va_up (I1 o) 5 (I1 o 5 + 1))) (o + 4 + 13 * w (cs_f a l.length i)) c.1 c.2 := by
              intro i c h
              have hx : ∀ (j : Nat), l[j]? = some c → cu_at (va_up I1 o (va_up (I1 o) 5 (I1 o 5 + 1))) (o + 4 + 13 * w j) c.1 c.2 := by
                intro j hj
                have hjl := (List.getElem?_eq_some_iff.mp hj).1
                have hd := hdis j (by omega) (by omega)
                exact (a6 j c hj).kept (fun q g1 g2 => by rw [gw_up_ne (by omega)]; exact hk1 q (by omega))
              rcases cs_ins_at hal h with ⟨e1, e2⟩ | ⟨e1, e2⟩ | ⟨e1, e2⟩
              · rw [show cs_f a l.length i = i by unfold cs_f; rw [if_pos e1]]; exact hx i e2
              · subst e1; subst e2
                rw [show cs_f i l.length i = l.length by unfold cs_f; rw [if_neg (by omega), if_pos rfl]]
                exact hnew.kept (fun q g1 g2 => gw_up_ne (by omega))
              · have hil := (List.getElem?_eq_some_iff.mp e2).1
                rw [show cs_f a l.length i = i - 1 by unfold cs_f; rw [if_neg (by omega), if_neg (by omega), if_pos (by omega)]]
                exact hx (i - 1) e2
            have hrow : ∀ i, i < 6 → va_up R1 (o + 3) (va_up (R1 (o + 3)) a (some (o + 4 + 13 * w l.length))) (o + 3) i = some (o + 4 + 13 * w (cs_f a l.length i)) := by
              intro i hi
              rw [gw_up_eq]
              unfold cs_f
              by_cases c1 : i < a
              · rw [if_pos c1, gw_up_ne (by omega)]; exact h1 i c1
              · rw [if_neg c1]
                by_cases c2 : i = a
                · subst c2; rw [if_pos rfl, gw_up_eq]
                · rw [if_neg c2, gw_up_ne c2]
                  by_cases c3 : i ≤ l.length
                  · rw [if_pos c3]; exact h2 i (by omega) c3
                  · rw [if_neg c3]; exact h3 i (by omega) hi
            exact go_zret d_Me_addCut_106 rfl (by first | exact Or.inl rfl | exact Or.inr rfl | assumption) (hQ p (by omega) rfl hlt hne _ _ (fun i => w (cs_f a l.length i)) a hal hgt hle ⟨by rw [cs_ins_len hal, gw_up_eq, gw_up_eq, eo, a1, nI_succ], by rw [cs_ins_len hal]; omega, fun i hi => a3 _ (cs_f_lt hlt hi), fun i j hi hj he => cs_f_inj hal (a4 _ _ (cs_f_lt hlt hi) (cs_f_lt hlt hj) he), hrow, hcu⟩ (fun q hq => by rw [gw_up_ne hq]; exact hR q hq) (fun q hq => by rw [gw_up_ne (by omega)]; exact hk1 q (by omega)) (by rw [gw_up_ne (by omega)]; exact hk1 _ (by omega)) (by rw [gw_up_ne (by omega)]; exact hk1 _ (by omega)) (fun j hj => by rw [gw_up_eq, gw_up_ne hj, eo]))
          intro a
          induction a with
          | zero =>
            intro z R1 I1 hz hal hgt hR h1 h2 h3 hnew hk1
            refine go_iload_n 3 d_Me_addCut_49 rfl rfl ?_
            refine go_if_le 88 d_Me_addCut_50 rfl (fun _ => ?_) (fun hn => absurd (by rw [hz]; decide) hn)
            exact fin 0 z R1 I1 hz hal hgt (fun h => by omega) hR h1 h2 h3 hnew hk1
          | succ a ih =>
            intro z R1 I1 hz hal hgt hR h1 h2 h3 hnew hk1
            have r4' : R1 o 4 = some (o + 3) := by rw [hR o (by omega)]; exact r4
            have hra := h1 a (by omega)
            have hz1 : z - 1 = nI a := by rw [hz]; exact nI_pred a
            obtain ⟨c, hca⟩ : ∃ c, l[a]? = some c := ⟨_, List.getElem?_eq_getElem (by omega)⟩
            have hcua := a6 a c hca
            have sa := (hc (w a) (a3 a (by omega))).1
            have hpla : I1 (o + 4 + 13 * w a) 0 = nI c.1 := by
              have hd : w a ≠ w l.length := fun he => by have := a4 a l.length (by omega) hlt he; omega
              rw [hk1 _ (by omega)]; exact hcua.1
            have hc24 := hpl c (List.mem_of_getElem? hca)
            refine go_iload_n 3 d_Me_addCut_49 rfl rfl ?_
            refine go_if_le 88 d_Me_addCut_50 rfl (fun hn => absurd hn (by rw [hz]; exact nI_nle (by omega) (by omega))) (fun _ => ?_)
            refine go_aload_n 0 d_Me_addCut_53 rfl rfl ?_
            refine go_getR d_Me_addCut_54 f_Me_20 (by assumption) (by assumption) ?_
            refine go_iload_n 3 d_Me_addCut_57 rfl rfl ?_
            refine go_iconst (v := 1) d_Me_addCut_58 rfl ?_
            refine go_isub d_Me_addCut_59 ?_
            refine go_aald (t := 1) (a) d_Me_addCut_60 (by assumption) (by decide) (hz1) (by omega) (by decide) (by assumption) ?_
            refine go_getI d_Me_addCut_61 f_Me_39 (by assumption) ?_
            refine go_iload_n 1 d_Me_addCut_64 rfl rfl ?_
            rw [hpla]
            refine go_icmp_le 88 d_Me_addCut_65 rfl (fun h65 => ?_) (fun h65 => ?_)
            · exact fin (a + 1) z R1 I1 hz hal hgt (fun _ => ⟨c, hca, (nI_leI (by omega) (by omega)).mp h65⟩) hR h1 h2 h3 hnew hk1
            · refine go_aload_n 0 d_Me_addCut_68 rfl rfl ?_
              refine go_getR d_Me_addCut_69 f_Me_20 (by assumption) (by assumption) ?_
              refine go_iload_n 3 d_Me_addCut_72 rfl rfl ?_
              refine go_aload_n 0 d_Me_addCut_73 rfl rfl ?_
              refine go_getR d_Me_addCut_74 f_Me_20 (by assumption) (by assumption) ?_
              refine go_iload_n 3 d_Me_addCut_77 rfl rfl ?_
              refine go_iconst (v := 1) d_Me_addCut_78 rfl ?_
              refine go_isub d_Me_addCut_79 ?_
              refine go_aald (t := 1) (a) d_Me_addCut_80 (by assumption) (by decide) (hz1) (by omega) (by decide) (by assumption) ?_
              refine go_aast (t := 1) (ci := 2) (a + 1) d_Me_addCut_81 (by assumption) (by decide) rfl rfl (by assumption) (hz) (by omega) (by decide) ?_
              refine go_iinc d_Me_addCut_82 rfl rfl (Nat.le_of_ble_eq_true rfl) ?_
              refine go_goto 49 d_Me_addCut_85 rfl ?_
              exact ih _ _ I1 (gw_dec hz) (by omega) (fun i c' h hi => by by_cases he : i = a; (subst he; rw [hca] at h; cases h; exact Nat.not_le.mp (fun hh => h65 (nI_le hh (by omega)))); exact hgt i c' h (by omega)) (fun q hq => by rw [gw_up_ne hq]; exact hR q hq) (fun i hi => by rw [gw_up_eq, gw_up_ne (by omega)]; exact h1 i (by omega)) (fun i g1 g2 => by rw [gw_up_eq]; by_cases he : i = a + 1; (subst he; rw [gw_up_eq]; rfl); (rw [gw_up_ne he]; exact h2 i (by omega) g2)) (fun i g1 g2 => by rw [gw_up_eq, gw_up_ne (by omega)]; exact h3 i g1 g2) hnew hk1
        refine go_ifnullN 29 d_Me_addCut_24 rfl ?_
        refine go_aload_n 0 d_Me_addCut_29 rfl rfl ?_
        refine go_getR d_Me_addCut_30 f_Me_20 (by assumption) (by assumption) ?_
        refine go_aload_n 0 d_Me_addCut_33 rfl rfl ?_
        refine go_getI d_Me_addCut_34 f_Me_29 (by assumption) ?_
        refine go_aald (t := 1) (l.length) d_Me_addCut_37 (by assumption) (by decide) (a1) (hlt) (by decide) (by assumption) ?_
        refine go_astore_n 2 d_Me_addCut_38 rfl (Nat.le_of_ble_eq_true rfl) ?_
        refine go_aload_n 2 d_Me_addCut_39 rfl rfl ?_
        refine go_iload_n 1 d_Me_addCut_40 rfl rfl ?_
        refine go_V1 d_Me_addCut_41 k_Me_35 (by assumption) (Nat.le_of_ble_eq_true rfl) (c_Cu_reset (p := p) hfr (fun I1 hI1 hk1 => ?_))
        refine go_aload_n 0 d_Me_addCut_44 rfl rfl ?_
        refine go_getI d_Me_addCut_45 f_Me_29 (by assumption) ?_
        refine go_istore_n 3 d_Me_addCut_48 rfl (Nat.le_of_ble_eq_true rfl) ?_
        exact loop l.length _ R I1 (by rw [hk1 o (by omega)]; exact a1) (Nat.le_refl _) (fun i c h h2 => by have := (List.getElem?_eq_some_iff.mp h).1; omega) (fun q _ => rfl) (fun i h => a5 i (by omega)) (fun i h1 h2 => by omega) (fun i h1 h2 => a5 i h2) hI1 hk1
      · skip
        refine go_ifnull d_Me_addCut_24 ?_
        refine go_iconst (v := 0) d_Me_addCut_27 rfl ?_
        exact go_zret d_Me_addCut_28 rfl (by first | exact Or.inl rfl | exact Or.inr rfl | assumption) (hf (fun ⟨p, g1, g2, g3, g4⟩ => g4 c (List.mem_of_getElem? hi) (by rw [g2] at he; exact (nI_eq (by have := hpl c (List.mem_of_getElem? hi); omega) (by omega)).mp he)))
end ME2
end
section
/-! CostChecker itself: the four methods, what changes of them do -/
/-- a method: code, cuts by ascending places, accepted -/
abbrev ab_Me : Type := List (Nat × Int32) × List (Nat × ab_Cu) × Bool
def me_at (R : Nat → Nat → Option Nat) (I : Nat → Nat → Int32) (m : Nat) (w : Nat → Nat) (A : ab_Me) : Prop := I (2 + 82 * m) 0 = nI m ∧ co_at I (2 + 82 * m) A.1 ∧ cs_at R I (2 + 82 * m) w A.2.1 ∧ I (2 + 82 * m) 6 = bI A.2.2
theorem co_at.kept {I I' : Nat → Nat → Int32} {o : Nat} {l : List (Nat × Int32)} (h : co_at I o l) (h0 : I' o 3 = I o 3) (h1 : I' (o + 1) = I (o + 1)) (h2 : I' (o + 2) = I (o + 2)) : co_at I' o l := ⟨h0.trans h.1, h.2.1, fun j t ht => by rw [h1, h2]; exact h.2.2 j t ht⟩
theorem cs_at.kept {R R' : Nat → Nat → Option Nat} {I I' : Nat → Nat → Int32} {o : Nat} {w : Nat → Nat} {l : List (Nat × ab_Cu)} (h : cs_at R I o w l) (h0 : I' o 5 = I o 5) (hR : R' (o + 3) = R (o + 3)) (hI : ∀ q, o + 4 ≤ q → q < o + 82 → I' q = I q) : cs_at R' I' o w l := by
  obtain ⟨h1, h2, h3, h4, h5, h6⟩ := h
  refine ⟨h0.trans h1, h2, h3, h4, fun i hi => by rw [hR]; exact h5 i hi, fun i c hc => (h6 i c hc).kept (fun q a b => ?_)⟩
  have := (List.getElem?_eq_some_iff.mp hc).1
  have := h3 i (by omega)
  exact hI q (by omega) (by omega)
theorem me_at.kept {R R' : Nat → Nat → Option Nat} {I I' : Nat → Nat → Int32} {m : Nat} {w : Nat → Nat} {A : ab_Me} (h : me_at R I m w A) (hR : R' (2 + 82 * m + 3) = R (2 + 82 * m + 3)) (hI : ∀ q, 2 + 82 * m ≤ q → q < 2 + 82 * m + 82 → I' q = I q) : me_at R' I' m w A := by
  have e := hI (2 + 82 * m) (by omega) (by omega)
  exact ⟨by rw [e]; exact h.1, h.2.1.kept (by rw [e]) (hI _ (by omega) (by omega)) (hI _ (by omega) (by omega)), h.2.2.1.kept (by rw [e]) hR (fun q a b => hI q (by omega) (by omega)), by rw [e]; exact h.2.2.2⟩
def cc_at (R : Nat → Nat → Option Nat) (I : Nat → Nat → Int32) (S : Nat → ab_Me) : Prop := ∀ m, m < 4 → ∃ w, me_at R I m w (S m)
def pt_CC (sh : Nat → Nat × Nat) (R : Nat → Nat → Option Nat) : Prop := sh 0 = (0, 0) ∧ sh 1 = (0 + 4, 4) ∧ R 0 0 = some 1 ∧ ∀ m, m < 4 → R 1 m = some (2 + 82 * m) ∧ pt_Me sh R (2 + 82 * m)
theorem pt_CC.kept {sh : Nat → Nat × Nat} {R R' : Nat → Nat → Option Nat} (h : pt_CC sh R) (hq : ∀ q, q < 330 → (∀ m, m < 4 → q ≠ 2 + 82 * m + 3) → R' q = R q) : pt_CC sh R' := by
  obtain ⟨h1, h2, h3, h4⟩ := h
  have e0 := hq 0 (by omega) (fun m _ => by omega)
  have e1 := hq 1 (by omega) (fun m _ => by omega)
  exact ⟨h1, h2, by rw [e0]; exact h3, fun m hm => ⟨by rw [e1]; exact (h4 m hm).1, (h4 m hm).2.kept (fun q a b c => hq q (by omega) (fun j hj => by omega))⟩⟩
/-- method k is another; the rest stays -/
theorem cc_at.one {R R' : Nat → Nat → Option Nat} {I I' : Nat → Nat → Int32} {S : Nat → ab_Me} {k : Nat} {w : Nat → Nat} {A : ab_Me} (h : cc_at R I S) (hk : me_at R' I' k w A) (hR : ∀ q, q ≠ 2 + 82 * k + 3 → R' q = R q) (hI : ∀ q, q < 2 + 82 * k ∨ 2 + 82 * k + 82 ≤ q → I' q = I q) : cc_at R' I' (va_up S k A) := by
  intro m hm
  by_cases he : m = k
  · subst he
    rw [gw_up_eq]
    exact ⟨w, hk⟩
  · rw [gw_up_ne he]
    obtain ⟨w', h'⟩ := h m hm
    exact ⟨w', h'.kept (hR _ (by omega)) (fun q a b => hI q (by omega))⟩
/-- a change of method k takes the acceptance of it and of those above away -/
def cc_chg (k : Nat) (S : Nat → ab_Me) : Nat → ab_Me := fun j => if k ≤ j then ((S j).1, (S j).2.1, false) else S j
theorem cc_at.chg {R : Nat → Nat → Option Nat} {I I' : Nat → Nat → Int32} {S : Nat → ab_Me} {k : Nat} (h : cc_at R I S) (h0 : ∀ q j, (j ≠ 6 ∨ ∀ i, k ≤ i → i < 4 → q ≠ 2 + 82 * i) → I' q j = I q j) (h1 : ∀ i, k ≤ i → i < 4 → I' (2 + 82 * i) 6 = 0) : cc_at R I' (cc_chg k S) := by
  intro m hm
  obtain ⟨w, g1, g2, g3, g4⟩ := h m hm
  have er : ∀ q, 2 + 82 * m < q → q < 2 + 82 * m + 82 → I' q = I q := fun q a b => by
    funext j
    exact h0 q j (Or.inr (fun i _ _ => by omega))
  refine ⟨w, ?_⟩
  unfold cc_chg
  by_cases hk : k ≤ m
  · rw [if_pos hk]
    exact ⟨by rw [h0 _ _ (Or.inl (by decide))]; exact g1, g2.kept (h0 _ _ (Or.inl (by decide))) (er _ (by omega) (by omega)) (er _ (by omega) (by omega)), g3.kept (h0 _ _ (Or.inl (by decide))) rfl (fun q a b => er q (by omega) (by omega)), h1 m hk hm⟩
  · rw [if_neg hk]
    have e6 : I' (2 + 82 * m) 6 = I (2 + 82 * m) 6 := h0 _ _ (Or.inr (fun i a _ => by omega))
    exact ⟨by rw [h0 _ _ (Or.inl (by decide))]; exact g1, g2.kept (h0 _ _ (Or.inl (by decide))) (er _ (by omega) (by omega)) (er _ (by omega) (by omega)), g3.kept (h0 _ _ (Or.inl (by decide))) rfl (fun q a b => er q (by omega) (by omega)), e6.trans g4⟩
section CC
variable {d n : Nat} {sh : Nat → Nat × Nat} {X : Nat × (Nat → Int32)} {R : Nat → Nat → Option Nat} {I : Nat → Nat → Int32} {L : Nat → Nat → Int64} {Q : Option Value → gw_Mem → Prop}
theorem c_CC_methodAt {x : Int32} (hp : pt_CC sh R) (hN : ¬ (∃ k, k < 4 ∧ x = nI k) → Q (some .null) (n, sh, X, R, I, L)) (hS : ∀ k, k < 4 → x = nI k → Q (some (.ref (2 + 82 * k))) (n, sh, X, R, I, L)) : gw_Call y_CC_methodAt d 0 0 [.ref 0, .int x] (n, sh, X, R, I, L) Q := by
  obtain ⟨s0, s1, r0, hm⟩ := hp
  refine gw_call o_CC_methodAt (Nat.le_of_ble_eq_true rfl) ?_
  refine go_iload_n 1 d_CC_methodAt_0 rfl rfl ?_
  refine go_if_lt 18 d_CC_methodAt_1 rfl (fun h1 => ?_) (fun h1 => ?_)
  · refine go_null d_CC_methodAt_18 ?_
    first | exact go_aret d_CC_methodAt_19 rfl (hS k hk4 e) | exact go_nret d_CC_methodAt_19 rfl (hN (fun ⟨k, hk, e⟩ => absurd h6 (by rw [e]; exact nI_ge hk (by decide)))) | exact go_nret d_CC_methodAt_19 rfl (hN (fun ⟨k, hk, e⟩ => absurd h1 (by rw [e]; exact nI_pos (by omega))))
  · refine go_iload_n 1 d_CC_methodAt_4 rfl rfl ?_
    refine go_iconst (v := 4) d_CC_methodAt_5 rfl ?_
    refine go_icmp_ge 18 d_CC_methodAt_6 rfl (fun h6 => ?_) (fun h6 => ?_)
    · refine go_null d_CC_methodAt_18 ?_
      first | exact go_aret d_CC_methodAt_19 rfl (hS k hk4 e) | exact go_nret d_CC_methodAt_19 rfl (hN (fun ⟨k, hk, e⟩ => absurd h6 (by rw [e]; exact nI_ge hk (by decide)))) | exact go_nret d_CC_methodAt_19 rfl (hN (fun ⟨k, hk, e⟩ => absurd h1 (by rw [e]; exact nI_pos (by omega))))
    · obtain ⟨k, hk, e⟩ := nI_of h1
      have hk4 : k < 4 := Nat.not_le.mp (fun hh => h6 (by rw [e]; exact nI_le hh hk))
      have hr := (hm k hk4).1
      refine go_aload_n 0 d_CC_methodAt_9 rfl rfl ?_
      refine go_getR d_CC_methodAt_10 f_CC_14 (by assumption) (by assumption) ?_
      refine go_iload_n 1 d_CC_methodAt_13 rfl rfl ?_
      refine go_aald (t := 0) (k) d_CC_methodAt_14 (by assumption) (by decide) (e) (hk4) (by decide) (by assumption) ?_
      refine go_goto 19 d_CC_methodAt_15 rfl ?_
      first | exact go_aret d_CC_methodAt_19 rfl (hS k hk4 e) | exact go_nret d_CC_methodAt_19 rfl (hN (fun ⟨k, hk, e⟩ => absurd h6 (by rw [e]; exact nI_ge hk (by decide)))) | exact go_nret d_CC_methodAt_19 rfl (hN (fun ⟨k, hk, e⟩ => absurd h1 (by rw [e]; exact nI_pos (by omega))))
theorem c_CC_noteChange {k : Nat} {b : Bool} (hp : pt_CC sh R) (hk : k < 4) (hf : b = false → Q (some (.int 0)) (n, sh, X, R, I, L)) (hQ : b = true → ∀ I', (∀ q j, (j ≠ 6 ∨ ∀ i, k ≤ i → i < 4 → q ≠ 2 + 82 * i) → I' q j = I q j) → (∀ i, k ≤ i → i < 4 → I' (2 + 82 * i) 6 = 0) → Q (some (.int 1)) (n, sh, X, R, I', L)) : gw_Call y_CC_noteChange d 0 0 [.ref 0, .int (nI k), .int (bI b)] (n, sh, X, R, I, L) Q := by
  obtain ⟨s0, s1, r0, hm⟩ := hp
  refine gw_call o_CC_noteChange (Nat.le_of_ble_eq_true rfl) ?_
  cases b with
  | false =>
    refine go_iload_n 2 d_CC_noteChange_0 rfl rfl ?_
    refine go_if_eq 27 d_CC_noteChange_1 rfl (fun _ => ?_) (fun hn => absurd (rfl) hn)
    refine go_iload_n 2 d_CC_noteChange_27 rfl rfl ?_
    exact go_zret d_CC_noteChange_28 rfl (by first | exact Or.inl rfl | exact Or.inr rfl | assumption) (hf rfl)
  | true =>
    have loop : ∀ (r i : Nat) (z : Int32) (I1 : Nat → Nat → Int32), z = nI i → k ≤ i → i + r = 4 → (∀ q j, (j ≠ 6 ∨ ∀ i', k ≤ i' → i' < i → q ≠ 2 + 82 * i') → I1 q j = I q j) → (∀ i', k ≤ i' → i' < i → I1 (2 + 82 * i') 6 = 0) → gw_Go y_CC_noteChange d 0 0 6 [some (.ref 0), some (.int (nI k)), some (.int (bI true)), some (.int z)] [] (n, sh, X, R, I1, L) Q := by
      intro r
      induction r with
      | zero =>
        intro i z I1 hz hki hi h0 h1
        have hi4 : i = 4 := by omega
        subst hi4
        refine go_iload_n 3 d_CC_noteChange_6 rfl rfl ?_
        refine go_iconst (v := 4) d_CC_noteChange_7 rfl ?_
        refine go_icmp_ge 27 d_CC_noteChange_8 rfl (fun _ => ?_) (fun hn => absurd (by rw [hz]; decide) hn)
        refine go_iload_n 2 d_CC_noteChange_27 rfl rfl ?_
        exact go_zret d_CC_noteChange_28 rfl (by first | exact Or.inl rfl | exact Or.inr rfl | assumption) (hQ rfl I1 h0 h1)
      | succ r ih =>
        intro i z I1 hz hki hi h0 h1
        have hr := (hm i (by omega)).1
        have sm := (hm i (by omega)).2.1
        refine go_iload_n 3 d_CC_noteChange_6 rfl rfl ?_
        refine go_iconst (v := 4) d_CC_noteChange_7 rfl ?_
        refine go_icmp_ge 27 d_CC_noteChange_8 rfl (fun hn => absurd hn (by rw [hz]; exact nI_ge (b := 4) (by omega) (by decide))) (fun _ => ?_)
        refine go_aload_n 0 d_CC_noteChange_11 rfl rfl ?_
        refine go_getR d_CC_noteChange_12 f_CC_14 (by assumption) (by assumption) ?_
        refine go_iload_n 3 d_CC_noteChange_15 rfl rfl ?_
        refine go_aald (t := 0) (i) d_CC_noteChange_16 (by assumption) (by decide) (hz) (by omega) (by decide) (by assumption) ?_
        refine go_iconst (v := 0) d_CC_noteChange_17 rfl ?_
        refine go_putZ d_CC_noteChange_18 f_CC_96 (by assumption) (by first | exact Or.inl rfl | exact Or.inr rfl | assumption) ?_
        refine go_iinc d_CC_noteChange_21 rfl rfl (Nat.le_of_ble_eq_true rfl) ?_
        refine go_goto 6 d_CC_noteChange_24 rfl ?_
        exact ih (i + 1) _ _ (gw_inc hz) (by omega) (by omega) (fun q j h => by by_cases hq : q = 2 + 82 * i; (subst hq; rw [gw_up_eq]; rcases h with h | h; (rw [gw_up_ne h]; exact h0 _ _ (Or.inl h)); exact absurd rfl (h i hki (by omega))); (rw [gw_up_ne hq]; exact h0 q j (h.elim Or.inl (fun g => Or.inr (fun i' a b => g i' a (by omega)))))) (fun i' a b => by by_cases he : i' = i; (subst he; rw [gw_up_eq, gw_up_eq]); (rw [gw_up_ne (by omega)]; exact h1 i' a (by omega)))
    refine go_iload_n 2 d_CC_noteChange_0 rfl rfl ?_
    refine go_if_eq 27 d_CC_noteChange_1 rfl (fun hn => absurd hn (by decide)) (fun _ => ?_)
    refine go_iload_n 1 d_CC_noteChange_4 rfl rfl ?_
    refine go_istore_n 3 d_CC_noteChange_5 rfl (Nat.le_of_ble_eq_true rfl) ?_
    exact loop (4 - k) k _ I rfl (Nat.le_refl _) (by omega) (fun q j _ => rfl) (fun i' a b => by omega)
end CC
end
section
/-! the public methods that change code and certificates -/
section PUB
variable {d n : Nat} {sh : Nat → Nat × Nat} {X : Nat × (Nat → Int32)} {R : Nat → Nat → Option Nat} {I : Nat → Nat → Int32} {L : Nat → Nat → Int64} {Q : Option Value → gw_Mem → Prop} {S : Nat → ab_Me}
/-- noteChange behind a change of method k that was made -/
theorem c_CC_note1 {k : Nat} {w : Nat → Nat} {A : ab_Me} {R' : Nat → Nat → Option Nat} {I' : Nat → Nat → Int32} (hp : pt_CC sh R) (hc : cc_at R I S) (hk : k < 4) (hm : me_at R' I' k w A) (hR : ∀ q, q ≠ 2 + 82 * k + 3 → R' q = R q) (hI : ∀ q, q < 2 + 82 * k ∨ 2 + 82 * k + 82 ≤ q → I' q = I q)
    (hQ : ∀ I2, cc_at R' I2 (cc_chg k (va_up S k A)) → (∀ q, q < 2 ∨ 330 ≤ q → I2 q = I q) → (∀ q j, j ≠ 6 → I2 q j = I' q j) → Q (some (.int 1)) (n, sh, X, R', I2, L)) : gw_Call y_CC_noteChange d 0 0 [.ref 0, .int (nI k), .int 1] (n, sh, X, R', I', L) Q := by
  refine c_CC_noteChange (b := true) (hp.kept (fun q a b => hR q (b k hk))) hk (fun h => by cases h) (fun _ I2 h0 h1 => ?_)
  refine hQ I2 ((hc.one hm hR hI).chg h0 h1) (fun q hq => ?_) (fun q j hj => h0 q j (Or.inl hj))
  funext j
  rw [h0 q j (Or.inr (fun i a b => by omega)), hI q (by omega)]
theorem c_CC_put {x y z : Int32} (hp : pt_CC sh R) (hc : cc_at R I S) (hf : ¬ (∃ k, k < 4 ∧ x = nI k ∧ (0 ≤ y ∧ y ≤ 14) ∧ (-1000 ≤ z ∧ z ≤ 1000) ∧ (S k).1.length < 24) → Q (some (.int (-1))) (n, sh, X, R, I, L))
    (hQ : ∀ k kd, k < 4 → x = nI k → kd < 15 → y = nI kd → (-1000 ≤ z ∧ z ≤ 1000) → (S k).1.length < 24 → ∀ I', cc_at R I' (cc_chg k (va_up S k ((S k).1 ++ [(kd, z)], (S k).2))) → (∀ q, q < 2 ∨ 330 ≤ q → I' q = I q) → Q (some (.int (nI (S k).1.length))) (n, sh, X, R, I', L)) : gw_Call y_CC_put (d + 1) 0 0 [.ref 0, .int x, .int y, .int z] (n, sh, X, R, I, L) Q := by
  have s0 := hp.1
  refine gw_call o_CC_put (Nat.le_of_ble_eq_true rfl) ?_
  refine go_aload_n 0 d_CC_put_0 rfl rfl ?_
  refine go_iload_n 1 d_CC_put_1 rfl rfl ?_
  refine go_V1 d_CC_put_2 k_CC_38 (by assumption) (Nat.le_of_ble_eq_true rfl) (c_CC_methodAt hp (fun hN => ?_) (fun k hk e => ?_))
  · skip
    refine go_astoreN d_CC_put_5 (Nat.le_of_ble_eq_true rfl) ?_
    refine go_aloadN d_CC_put_7 rfl ?_
    refine go_ifnullN 35 d_CC_put_9 rfl ?_
    refine go_iconst (v := (-1)) d_CC_put_35 rfl ?_
    exact go_iret d_CC_put_36 rfl (hf (fun ⟨k, a, b, _⟩ => hN ⟨k, a, b⟩))
  · subst e
    obtain ⟨w, g1, g2, g3, g4⟩ := hc k hk
    have hme := (hp.2.2.2 k hk).2
    have sm := hme.1
    refine go_astore d_CC_put_5 (Nat.le_of_ble_eq_true rfl) ?_
    refine go_aload d_CC_put_7 rfl ?_
    refine go_ifnull d_CC_put_9 ?_
    refine go_iload_n 2 d_CC_put_12 rfl rfl ?_
    refine go_iconst (v := 0) d_CC_put_13 rfl ?_
    refine go_bipush (v := 14) d_CC_put_14 rfl ?_
    refine go_S3 d_CC_put_16 k_CC_42 (Nat.le_of_ble_eq_true rfl) (c_CC_isBetween (fun b1 hb1 => ?_))
    refine go_if_eq 35 d_CC_put_19 rfl (fun h19 => ?_) (fun h19 => ?_)
    · refine go_iconst (v := (-1)) d_CC_put_35 rfl ?_
      first | exact go_iret d_CC_put_36 rfl (hf (fun ⟨k', q1, q2, q3, q4, q5⟩ => by rw [hb2.mpr q4] at h32; exact absurd h32 (by decide))) | exact go_iret d_CC_put_36 rfl (hf (fun ⟨k', q1, q2, q3, q4, q5⟩ => by rw [hb1.mpr q3] at h19; exact absurd h19 (by decide)))
    · refine go_iload_n 3 d_CC_put_22 rfl rfl ?_
      refine go_sipush (v := (-1000)) d_CC_put_23 rfl ?_
      refine go_sipush (v := 1000) d_CC_put_26 rfl ?_
      refine go_S3 d_CC_put_29 k_CC_42 (Nat.le_of_ble_eq_true rfl) (c_CC_isBetween (fun b2 hb2 => ?_))
      refine go_if_ne 37 d_CC_put_32 rfl (fun h32 => ?_) (fun h32 => ?_)
      · obtain ⟨y0, y14⟩ := hb1.mp (bI_n0.mp h19)
        have z2 := hb2.mp (bI_n0.mp h32)
        obtain ⟨kd, hkd, rfl⟩ := nI_of2 (n := 14) (by decide) (Int32.not_lt.mpr y0) y14
        refine go_aload_n 0 d_CC_put_37 rfl rfl ?_
        refine go_iload_n 1 d_CC_put_38 rfl rfl ?_
        refine go_aload d_CC_put_39 rfl ?_
        refine go_iload_n 2 d_CC_put_41 rfl rfl ?_
        refine go_iload_n 3 d_CC_put_42 rfl rfl ?_
        refine go_V2 d_CC_put_43 k_CC_46 (by assumption) (Nat.le_of_ble_eq_true rfl) (c_Me_append hme g2 (by omega) (fun hlen => ?_) (fun hlen I1 c1 c2 c3 => ?_))
        · skip
          refine go_V2 d_CC_put_46 k_CC_50 (by assumption) (Nat.le_of_ble_eq_true rfl) (c_CC_noteChange (b := false) hp hk (fun _ => ?_) (fun h => by cases h))
          refine go_if_eq 62 d_CC_put_49 rfl (fun _ => ?_) (fun hn => absurd (rfl) hn)
          refine go_iconst (v := (-1)) d_CC_put_62 rfl ?_
          exact go_iret d_CC_put_63 rfl (hf (fun ⟨k', q1, q2, q3, q4, q5⟩ => by have e := (nI_eq (by omega) (by omega)).mp q2; subst e; exact hlen q5))
        · have hm1 : me_at R I1 k w ((S k).1 ++ [(kd, z)], (S k).2) := ⟨by rw [c3 0 (by decide)]; exact g1, c1, g3.kept (c3 5 (by decide)) rfl (fun q a b => c2 q (by omega) (by omega) (by omega)), by rw [c3 6 (by decide)]; exact g4⟩
          refine go_V2 d_CC_put_46 k_CC_50 (by assumption) (Nat.le_of_ble_eq_true rfl) (c_CC_note1 hp hc hk hm1 (fun _ _ => rfl) (fun q hq => c2 q (by omega) (by omega) (by omega)) (fun I2 e1 e2 e3 => ?_))
          refine go_if_eq 62 d_CC_put_49 rfl (fun hn => absurd hn (by decide)) (fun _ => ?_)
          refine go_aload d_CC_put_52 rfl ?_
          refine go_getI d_CC_put_54 f_CC_54 (by assumption) ?_
          refine go_iconst (v := 1) d_CC_put_57 rfl ?_
          refine go_isub d_CC_put_58 ?_
          refine go_goto 63 d_CC_put_59 rfl ?_
          have el : I2 (2 + 82 * k) 3 - 1 = nI (S k).1.length := by rw [e3 _ 3 (by decide), c1.1, List.length_append]; exact nI_pred _
          rw [el]
          exact go_iret d_CC_put_63 rfl (hQ k kd hk rfl (by omega) rfl z2 hlen I2 e1 e2)
      · refine go_iconst (v := (-1)) d_CC_put_35 rfl ?_
        first | exact go_iret d_CC_put_36 rfl (hf (fun ⟨k', q1, q2, q3, q4, q5⟩ => by rw [hb2.mpr q4] at h32; exact absurd h32 (by decide))) | exact go_iret d_CC_put_36 rfl (hf (fun ⟨k', q1, q2, q3, q4, q5⟩ => by rw [hb1.mpr q3] at h19; exact absurd h19 (by decide)))
theorem c_CC_clear {x : Int32} (hp : pt_CC sh R) (hc : cc_at R I S) (hf : ¬ (∃ k, k < 4 ∧ x = nI k) → Q (some (.int 0)) (n, sh, X, R, I, L)) (hQ : ∀ k, k < 4 → x = nI k → ∀ I', cc_at R I' (cc_chg k (va_up S k ([], [(0, cu_0)], (S k).2.2))) → (∀ q, q < 2 ∨ 330 ≤ q → I' q = I q) → Q (some (.int 1)) (n, sh, X, R, I', L)) : gw_Call y_CC_clear (d + 3) 0 0 [.ref 0, .int x] (n, sh, X, R, I, L) Q := by
  have s0 := hp.1
  refine gw_call o_CC_clear (Nat.le_of_ble_eq_true rfl) ?_
  refine go_aload_n 0 d_CC_clear_0 rfl rfl ?_
  refine go_iload_n 1 d_CC_clear_1 rfl rfl ?_
  refine go_V1 d_CC_clear_2 k_CC_38 (by assumption) (Nat.le_of_ble_eq_true rfl) (c_CC_methodAt hp (fun hN => ?_) (fun k hk e => ?_))
  · skip
    refine go_astore_nN 2 d_CC_clear_5 rfl (Nat.le_of_ble_eq_true rfl) ?_
    refine go_aload_nN 2 d_CC_clear_6 rfl rfl ?_
    refine go_ifnonnullN d_CC_clear_7 ?_
    refine go_iconst (v := 0) d_CC_clear_10 rfl ?_
    exact go_zret d_CC_clear_11 rfl (by first | exact Or.inl rfl | exact Or.inr rfl | assumption) (hf hN)
  · subst e
    obtain ⟨w, g1, g2, g3, g4⟩ := hc k hk
    have hme := (hp.2.2.2 k hk).2
    have sm := hme.1
    refine go_astore_n 2 d_CC_clear_5 rfl (Nat.le_of_ble_eq_true rfl) ?_
    refine go_aload_n 2 d_CC_clear_6 rfl rfl ?_
    refine go_ifnonnull 12 d_CC_clear_7 rfl ?_
    refine go_aload_n 2 d_CC_clear_12 rfl rfl ?_
    refine go_V0 d_CC_clear_13 k_CC_58 (by assumption) (Nat.le_of_ble_eq_true rfl) (c_Me_reset hme g3 (fun I1 c1 c2 c3 c4 => ?_))
    have hm1 : me_at R I1 k w ([], [(0, cu_0)], (S k).2.2) := ⟨by rw [c4 0 (by decide) (by decide)]; exact g1, c1, c2, by rw [c4 6 (by decide) (by decide)]; exact g4⟩
    refine go_aload_n 0 d_CC_clear_16 rfl rfl ?_
    refine go_iload_n 1 d_CC_clear_17 rfl rfl ?_
    refine go_iconst (v := 1) d_CC_clear_18 rfl ?_
    refine go_V2 d_CC_clear_19 k_CC_50 (by assumption) (Nat.le_of_ble_eq_true rfl) (c_CC_note1 hp hc hk hm1 (fun _ _ => rfl) c3 (fun I2 e1 e2 e3 => ?_))
    exact go_zret d_CC_clear_22 rfl (by first | exact Or.inl rfl | exact Or.inr rfl | assumption) (hQ k hk rfl I2 e1 e2)
theorem c_CC_cut {x y : Int32} (hp : pt_CC sh R) (hc : cc_at R I S) (hpl : ∀ k, k < 4 → ∀ c ∈ (S k).2.1, c.1 < 24) (hf : ¬ (∃ k p, k < 4 ∧ x = nI k ∧ p < 24 ∧ y = nI p ∧ (S k).2.1.length < 6 ∧ ∀ c ∈ (S k).2.1, c.1 ≠ p) → Q (some (.int 0)) (n, sh, X, R, I, L))
    (hQ : ∀ k p, k < 4 → x = nI k → p < 24 → y = nI p → (S k).2.1.length < 6 → (∀ c ∈ (S k).2.1, c.1 ≠ p) → ∀ (R' : Nat → Nat → Option Nat) (I' : Nat → Nat → Int32) (a : Nat), a ≤ (S k).2.1.length → (∀ i c, (S k).2.1[i]? = some c → a ≤ i → p < c.1) → (0 < a → ∃ c, (S k).2.1[a - 1]? = some c ∧ c.1 ≤ p) → cc_at R' I' (cc_chg k (va_up S k ((S k).1, cs_ins a p (S k).2.1, (S k).2.2))) → (∀ q, q ≠ 2 + 82 * k + 3 → R' q = R q) → (∀ q, q < 2 ∨ 330 ≤ q → I' q = I q) → Q (some (.int 1)) (n, sh, X, R', I', L)) : gw_Call y_CC_cut (d + 3) 0 0 [.ref 0, .int x, .int y] (n, sh, X, R, I, L) Q := by
  have s0 := hp.1
  refine gw_call o_CC_cut (Nat.le_of_ble_eq_true rfl) ?_
  refine go_aload_n 0 d_CC_cut_0 rfl rfl ?_
  refine go_iload_n 1 d_CC_cut_1 rfl rfl ?_
  refine go_V1 d_CC_cut_2 k_CC_38 (by assumption) (Nat.le_of_ble_eq_true rfl) (c_CC_methodAt hp (fun hN => ?_) (fun k hk e => ?_))
  · skip
    refine go_astore_nN 3 d_CC_cut_5 rfl (Nat.le_of_ble_eq_true rfl) ?_
    refine go_aload_nN 3 d_CC_cut_6 rfl rfl ?_
    refine go_ifnullN 27 d_CC_cut_7 rfl ?_
    refine go_iconst (v := 0) d_CC_cut_27 rfl ?_
    exact go_zret d_CC_cut_28 rfl (by first | exact Or.inl rfl | exact Or.inr rfl | assumption) (hf (fun ⟨k, p, a, b, _⟩ => hN ⟨k, a, b⟩))
  · subst e
    obtain ⟨w, g1, g2, g3, g4⟩ := hc k hk
    have hme := (hp.2.2.2 k hk).2
    have sm := hme.1
    refine go_astore_n 3 d_CC_cut_5 rfl (Nat.le_of_ble_eq_true rfl) ?_
    refine go_aload_n 3 d_CC_cut_6 rfl rfl ?_
    refine go_ifnull d_CC_cut_7 ?_
    refine go_aload_n 0 d_CC_cut_10 rfl rfl ?_
    refine go_iload_n 1 d_CC_cut_11 rfl rfl ?_
    refine go_aload_n 3 d_CC_cut_12 rfl rfl ?_
    refine go_iload_n 2 d_CC_cut_13 rfl rfl ?_
    refine go_V1 d_CC_cut_14 k_CC_61 (by assumption) (Nat.le_of_ble_eq_true rfl) (c_Me_addCut hme g3 (hpl k hk) (fun hno => ?_) (fun p hp24 ey hlen hne R1 I1 w1 a ha hgt hle hcs hR hI e1 e2 e3 => ?_))
    · skip
      refine go_V2 d_CC_cut_17 k_CC_50 (by assumption) (Nat.le_of_ble_eq_true rfl) (c_CC_noteChange (b := false) hp hk (fun _ => ?_) (fun h => by cases h))
      refine go_if_eq 27 d_CC_cut_20 rfl (fun _ => ?_) (fun hn => absurd (rfl) hn)
      refine go_iconst (v := 0) d_CC_cut_27 rfl ?_
      exact go_zret d_CC_cut_28 rfl (by first | exact Or.inl rfl | exact Or.inr rfl | assumption) (hf (fun ⟨k', p, q1, q2, q3, q4, q5, q6⟩ => by have e := (nI_eq (by omega) (by omega)).mp q2; subst e; exact hno ⟨p, q3, q4, q5, q6⟩))
    · have hm1 : me_at R1 I1 k w1 ((S k).1, cs_ins a p (S k).2.1, (S k).2.2) := ⟨by rw [e3 0 (by decide)]; exact g1, g2.kept (e3 3 (by decide)) e1 e2, hcs, by rw [e3 6 (by decide)]; exact g4⟩
      refine go_V2 d_CC_cut_17 k_CC_50 (by assumption) (Nat.le_of_ble_eq_true rfl) (c_CC_note1 hp hc hk hm1 hR hI (fun I2 f1 f2 f3 => ?_))
      refine go_if_eq 27 d_CC_cut_20 rfl (fun hn => absurd hn (by decide)) (fun _ => ?_)
      refine go_iconst (v := 1) d_CC_cut_23 rfl ?_
      refine go_goto 28 d_CC_cut_24 rfl ?_
      exact go_zret d_CC_cut_28 rfl (by first | exact Or.inl rfl | exact Or.inr rfl | assumption) (hQ k p hk rfl hp24 ey hlen hne R1 I2 a ha hgt hle f1 hR f2)
end PUB
end
section
/-! claim, base, term -/
theorem cs_at.set {R : Nat → Nat → Option Nat} {I I' : Nat → Nat → Int32} {o i : Nat} {w : Nat → Nat} {l : List (Nat × ab_Cu)} {c : Nat × ab_Cu} {A : ab_Cu} (h : cs_at R I o w l) (hi : l[i]? = some c) (hn : cu_at I' (o + 4 + 13 * w i) c.1 A) (hI : ∀ q, q < o + 4 + 13 * w i ∨ o + 4 + 13 * w i + 13 ≤ q → I' q = I q) : cs_at R I' o w (l.set i (c.1, A)) := by
  obtain ⟨h1, h2, h3, h4, h5, h6⟩ := h
  have hil := (List.getElem?_eq_some_iff.mp hi).1
  refine ⟨by rw [hI o (by omega), List.length_set]; exact h1, by rw [List.length_set]; exact h2, h3, h4, h5, fun j c' hc => ?_⟩
  by_cases hj : j = i
  · subst hj
    rw [List.getElem?_set_self hil] at hc
    cases hc
    exact hn
  · rw [List.getElem?_set_ne (Ne.symm hj)] at hc
    have hjl := (List.getElem?_eq_some_iff.mp hc).1
    have hd : w j ≠ w i := fun he => hj (h4 j i (by omega) (by omega) he)
    exact (h6 j c' hc).kept (fun q a b => hI q (by omega))
def cu_pot (w : Nat) (A : ab_Cu) : ab_Po := if w = 0 then A.2.1 else A.2.2
def cu_setp (w : Nat) (p : ab_Po) (A : ab_Cu) : ab_Cu := if w = 0 then (A.1, p, A.2.2) else (A.1, A.2.1, p)
theorem cu_at.pot {I : Nat → Nat → Int32} {o p w : Nat} {A : ab_Cu} (h : cu_at I o p A) (hw : w < 2) : po_at I (o + 5 + 4 * w) (cu_pot w A) := by
  have : w = 0 ∨ w = 1 := by omega
  rcases this with rfl | rfl
  · exact h.2.2.2.2.1
  · exact h.2.2.2.2.2
theorem pt_Cu.pot {sh : Nat → Nat × Nat} {R : Nat → Nat → Option Nat} {o w : Nat} (h : pt_Cu sh R o) (hw : w < 2) : R (o + 4) w = some (o + 5 + 4 * w) ∧ pt_Po sh R (o + 5 + 4 * w) := by
  obtain ⟨s0, s1, s2, s3, s4, r2, r3, r4, r5, q0, q1, p0, p1⟩ := h
  have : w = 0 ∨ w = 1 := by omega
  rcases this with rfl | rfl
  · exact ⟨q0, p0⟩
  · exact ⟨q1, p1⟩
theorem cu_at.setp {I I' : Nat → Nat → Int32} {o p w : Nat} {A : ab_Cu} {P : ab_Po} (h : cu_at I o p A) (hw : w < 2) (hn : po_at I' (o + 5 + 4 * w) P) (hI : ∀ q, q < o + 5 + 4 * w ∨ o + 5 + 4 * w + 4 ≤ q → I' q = I q) : cu_at I' o p (cu_setp w P A) := by
  obtain ⟨h1, h2, h3, h4, h5, h6⟩ := h
  have : w = 0 ∨ w = 1 := by omega
  rcases this with rfl | rfl
  · exact ⟨by rw [hI o (by omega)]; exact h1, by rw [hI o (by omega)]; exact h2, h3, fun j t ht => by rw [hI (o + 1) (by omega), hI (o + 2) (by omega), hI (o + 3) (by omega)]; exact h4 j t ht, hn, h6.kept (fun q a b => hI q (by omega))⟩
  · exact ⟨by rw [hI o (by omega)]; exact h1, by rw [hI o (by omega)]; exact h2, h3, fun j t ht => by rw [hI (o + 1) (by omega), hI (o + 2) (by omega), hI (o + 3) (by omega)]; exact h4 j t ht, h5.kept (fun q a b => hI q (by omega)), hn⟩
section PU2
variable {d n : Nat} {sh : Nat → Nat × Nat} {X : Nat × (Nat → Int32)} {R : Nat → Nat → Option Nat} {I : Nat → Nat → Int32} {L : Nat → Nat → Int64} {Q : Option Value → gw_Mem → Prop} {S : Nat → ab_Me}
theorem c_CC_cutAt {x y : Int32} (hp : pt_CC sh R) (hc : cc_at R I S) (hN : ¬ (∃ k c, k < 4 ∧ x = nI k ∧ c ∈ (S k).2.1 ∧ nI c.1 = y) → Q (some .null) (n, sh, X, R, I, L)) (hS : ∀ k i c w, k < 4 → x = nI k → me_at R I k w (S k) → (S k).2.1[i]? = some c → nI c.1 = y → Q (some (.ref (2 + 82 * k + 4 + 13 * w i))) (n, sh, X, R, I, L)) : gw_Call y_CC_cutAt (d + 1) 0 0 [.ref 0, .int x, .int y] (n, sh, X, R, I, L) Q := by
  have s0 := hp.1
  refine gw_call o_CC_cutAt (Nat.le_of_ble_eq_true rfl) ?_
  refine go_aload_n 0 d_CC_cutAt_0 rfl rfl ?_
  refine go_iload_n 1 d_CC_cutAt_1 rfl rfl ?_
  refine go_V1 d_CC_cutAt_2 k_CC_38 (by assumption) (Nat.le_of_ble_eq_true rfl) (c_CC_methodAt hp (fun hno => ?_) (fun k hk e => ?_))
  · skip
    refine go_astore_nN 3 d_CC_cutAt_5 rfl (Nat.le_of_ble_eq_true rfl) ?_
    refine go_aload_nN 3 d_CC_cutAt_6 rfl rfl ?_
    refine go_ifnonnullN d_CC_cutAt_7 ?_
    refine go_null d_CC_cutAt_10 ?_
    refine go_goto 19 d_CC_cutAt_11 rfl ?_
    exact go_nret d_CC_cutAt_19 rfl (hN (fun ⟨k, c, a, b, _⟩ => hno ⟨k, a, b⟩))
  · subst e
    obtain ⟨w, hw⟩ := hc k hk
    have hme := (hp.2.2.2 k hk).2
    have sm := hme.1
    refine go_astore_n 3 d_CC_cutAt_5 rfl (Nat.le_of_ble_eq_true rfl) ?_
    refine go_aload_n 3 d_CC_cutAt_6 rfl rfl ?_
    refine go_ifnonnull 14 d_CC_cutAt_7 rfl ?_
    refine go_aload_n 3 d_CC_cutAt_14 rfl rfl ?_
    refine go_iload_n 2 d_CC_cutAt_15 rfl rfl ?_
    refine go_V1 d_CC_cutAt_16 k_CC_146 (by assumption) (Nat.le_of_ble_eq_true rfl) (c_Me_findCut hme hw.2.2.1 (fun hno => ?_) (fun i c hi he => ?_))
    · exact go_nret d_CC_cutAt_19 rfl (hN (fun ⟨k', c, a, b, c1, c2⟩ => by have e := (nI_eq (by omega) (by omega)).mp b; subst e; exact hno c c1 c2))
    · exact go_aret d_CC_cutAt_19 rfl (hS k i c w hk rfl hw hi he)
theorem c_CC_claim {x y a b c : Int32} (hp : pt_CC sh R) (hc : cc_at R I S) (hpl : ∀ k, k < 4 → ∀ c ∈ (S k).2.1, c.1 < 24)
    (hf : ¬ (∃ k e, k < 4 ∧ x = nI k ∧ e ∈ (S k).2.1 ∧ nI e.1 = y ∧ ((0 ≤ a ∧ a ≤ 4) ∧ (0 ≤ b ∧ b ≤ 4) ∧ a ≠ b) ∧ (-1000 ≤ c ∧ c ≤ 1000) ∧ e.2.1.length < 6) → Q (some (.int 0)) (n, sh, X, R, I, L))
    (hu : ∀ k, k < 4 → ∀ (i j : Nat) (e f : Nat × ab_Cu), (S k).2.1[i]? = some e → (S k).2.1[j]? = some f → e.1 = f.1 → i = j)
    (hQ : ∀ k i e a' b', k < 4 → x = nI k → (S k).2.1[i]? = some e → nI e.1 = y → a' < 5 → a = nI a' → b' < 5 → b = nI b' → a' ≠ b' → (-1000 ≤ c ∧ c ≤ 1000) → e.2.1.length < 6 → ∀ I', cc_at R I' (cc_chg k (va_up S k ((S k).1, (S k).2.1.set i (e.1, (e.2.1 ++ [(a', b', c)], e.2.2)), (S k).2.2))) → (∀ q, q < 2 ∨ 330 ≤ q → I' q = I q) → Q (some (.int 1)) (n, sh, X, R, I', L)) : gw_Call y_CC_claim (d + 2) 0 0 [.ref 0, .int x, .int y, .int a, .int b, .int c] (n, sh, X, R, I, L) Q := by
  have s0 := hp.1
  refine gw_call o_CC_claim (Nat.le_of_ble_eq_true rfl) ?_
  refine go_aload_n 0 d_CC_claim_0 rfl rfl ?_
  refine go_iload_n 1 d_CC_claim_1 rfl rfl ?_
  refine go_iload_n 2 d_CC_claim_2 rfl rfl ?_
  refine go_V2 d_CC_claim_3 k_CC_65 (by assumption) (Nat.le_of_ble_eq_true rfl) (c_CC_cutAt hp hc (fun hno => ?_) (fun k i e w hk ex hw hi he => ?_))
  · skip
    refine go_astoreN d_CC_claim_6 (Nat.le_of_ble_eq_true rfl) ?_
    refine go_aloadN d_CC_claim_8 rfl ?_
    refine go_ifnullN 36 d_CC_claim_10 rfl ?_
    refine go_iconst (v := 0) d_CC_claim_36 rfl ?_
    exact go_zret d_CC_claim_37 rfl (by first | exact Or.inl rfl | exact Or.inr rfl | assumption) (hf (fun ⟨k, e, q1, q2, q3, q4, _⟩ => hno ⟨k, e, q1, q2, q3, q4⟩))
  · subst ex
    obtain ⟨g1, g2, g3, g4⟩ := hw
    have hme := (hp.2.2.2 k hk).2
    have hil := (List.getElem?_eq_some_iff.mp hi).1
    have hw6 := g3.2.2.1 i (by have := g3.2.1; omega)
    have hcu := hme.2.2.2.2.2.2.2 (w i) hw6
    have sc := hcu.1
    have hca := g3.2.2.2.2.2 i e hi
    refine go_astore d_CC_claim_6 (Nat.le_of_ble_eq_true rfl) ?_
    refine go_aload d_CC_claim_8 rfl ?_
    refine go_ifnull d_CC_claim_10 ?_
    refine go_iload_n 3 d_CC_claim_13 rfl rfl ?_
    refine go_iload d_CC_claim_14 rfl ?_
    refine go_S2 d_CC_claim_16 k_CC_69 (Nat.le_of_ble_eq_true rfl) (c_CC_areTwoSides (fun b1 hb1 => ?_))
    refine go_if_eq 36 d_CC_claim_19 rfl (fun h19 => ?_) (fun h19 => ?_)
    · refine go_iconst (v := 0) d_CC_claim_36 rfl ?_
      first | exact go_zret d_CC_claim_37 rfl (Or.inl rfl) (hf (fun ⟨k', e', q1, q2, q3, q4, q5, q6, q7⟩ => by rw [hb2.mpr q6] at h33; exact absurd h33 (by decide))) | exact go_zret d_CC_claim_37 rfl (Or.inl rfl) (hf (fun ⟨k', e', q1, q2, q3, q4, q5, q6, q7⟩ => by rw [hb1.mpr q5] at h19; exact absurd h19 (by decide)))
    · refine go_iload d_CC_claim_22 rfl ?_
      refine go_sipush (v := (-1000)) d_CC_claim_24 rfl ?_
      refine go_sipush (v := 1000) d_CC_claim_27 rfl ?_
      refine go_S3 d_CC_claim_30 k_CC_42 (Nat.le_of_ble_eq_true rfl) (c_CC_isBetween (fun b2 hb2 => ?_))
      refine go_if_ne 38 d_CC_claim_33 rfl (fun h33 => ?_) (fun h33 => ?_)
      · obtain ⟨⟨y0, y4⟩, ⟨z0, z4⟩, hab⟩ := hb1.mp (bI_n0.mp h19)
        have hc2 := hb2.mp (bI_n0.mp h33)
        obtain ⟨a', ha', rfl⟩ := nI_of2 (n := 4) (by decide) (Int32.not_lt.mpr y0) y4
        obtain ⟨b', hb', rfl⟩ := nI_of2 (n := 4) (by decide) (Int32.not_lt.mpr z0) z4
        refine go_aload_n 0 d_CC_claim_38 rfl rfl ?_
        refine go_iload_n 1 d_CC_claim_39 rfl rfl ?_
        refine go_aload d_CC_claim_40 rfl ?_
        refine go_iload_n 3 d_CC_claim_42 rfl rfl ?_
        refine go_iload d_CC_claim_43 rfl ?_
        refine go_iload d_CC_claim_45 rfl ?_
        refine go_V3 d_CC_claim_47 k_CC_72 (by assumption) (Nat.le_of_ble_eq_true rfl) (c_Cu_addClaim hcu hca (by omega) (by omega) (fun hlen => ?_) (fun hlen I1 c1 c2 => ?_))
        · skip
          refine go_V2 d_CC_claim_50 k_CC_50 (by assumption) (Nat.le_of_ble_eq_true rfl) (c_CC_noteChange (b := false) hp hk (fun _ => ?_) (fun h => by cases h))
          exact go_zret d_CC_claim_53 rfl (by first | exact Or.inl rfl | exact Or.inr rfl | assumption) (hf (fun ⟨k', e', q1, q2, q3, q4, q5, q6, q7⟩ => by have ek := (nI_eq (by omega) (by omega)).mp q2; subst ek; obtain ⟨j, hj⟩ := List.getElem?_of_mem q3; have hp1 := hpl k hk e (List.mem_of_getElem? hi); have hp2 := hpl k hk e' q3; have ep : e.1 = e'.1 := (nI_eq (by omega) (by omega)).mp (he.trans q4.symm); have ej := hu k hk i j e e' hi hj ep; subst ej; rw [hi] at hj; cases hj; exact hlen q7))
        · have hm1 : me_at R I1 k w ((S k).1, (S k).2.1.set i (e.1, (e.2.1 ++ [(a', b', c)], e.2.2)), (S k).2.2) := ⟨by rw [c2 _ (by omega)]; exact g1, g2.kept (by rw [c2 _ (by omega)]) (c2 _ (by omega)) (c2 _ (by omega)), g3.set hi c1 c2, by rw [c2 _ (by omega)]; exact g4⟩
          refine go_V2 d_CC_claim_50 k_CC_50 (by assumption) (Nat.le_of_ble_eq_true rfl) (c_CC_note1 hp hc hk hm1 (fun _ _ => rfl) (fun q hq => c2 q (by omega)) (fun I2 e1 e2 e3 => ?_))
          exact go_zret d_CC_claim_53 rfl (by first | exact Or.inl rfl | exact Or.inr rfl | assumption) (hQ k i e a' b' hk rfl hi he (by omega) rfl (by omega) rfl (fun h => hab (by rw [h])) hc2 hlen I2 e1 e2)
      · refine go_iconst (v := 0) d_CC_claim_36 rfl ?_
        first | exact go_zret d_CC_claim_37 rfl (Or.inl rfl) (hf (fun ⟨k', e', q1, q2, q3, q4, q5, q6, q7⟩ => by rw [hb2.mpr q6] at h33; exact absurd h33 (by decide))) | exact go_zret d_CC_claim_37 rfl (Or.inl rfl) (hf (fun ⟨k', e', q1, q2, q3, q4, q5, q6, q7⟩ => by rw [hb1.mpr q5] at h19; exact absurd h19 (by decide)))
theorem c_CC_base {x y a b : Int32} (hp : pt_CC sh R) (hc : cc_at R I S)
    (hf : ¬ (∃ k e, k < 4 ∧ x = nI k ∧ e ∈ (S k).2.1 ∧ nI e.1 = y ∧ (0 ≤ a ∧ a ≤ 1) ∧ (-10000 ≤ b ∧ b ≤ 10000)) → Q (some (.int 0)) (n, sh, X, R, I, L))
    (hQ : ∀ k i e v, k < 4 → x = nI k → (S k).2.1[i]? = some e → nI e.1 = y → v < 2 → a = nI v → (-10000 ≤ b ∧ b ≤ 10000) → ∀ I', cc_at R I' (cc_chg k (va_up S k ((S k).1, (S k).2.1.set i (e.1, cu_setp v (b, (cu_pot v e.2).2) e.2), (S k).2.2))) → (∀ q, q < 2 ∨ 330 ≤ q → I' q = I q) → Q (some (.int 1)) (n, sh, X, R, I', L)) : gw_Call y_CC_base (d + 3) 0 0 [.ref 0, .int x, .int y, .int a, .int b] (n, sh, X, R, I, L) Q := by
  have s0 := hp.1
  refine gw_call o_CC_base (Nat.le_of_ble_eq_true rfl) ?_
  refine go_aload_n 0 d_CC_base_0 rfl rfl ?_
  refine go_iload_n 1 d_CC_base_1 rfl rfl ?_
  refine go_iload_n 2 d_CC_base_2 rfl rfl ?_
  refine go_V2 d_CC_base_3 k_CC_65 (by assumption) (Nat.le_of_ble_eq_true rfl) (c_CC_cutAt hp hc (fun hno => ?_) (fun k i e w hk ex hw hi he => ?_))
  · skip
    refine go_astoreN d_CC_base_6 (Nat.le_of_ble_eq_true rfl) ?_
    refine go_aloadN d_CC_base_8 rfl ?_
    refine go_ifnullN 34 d_CC_base_10 rfl ?_
    refine go_iconst (v := 0) d_CC_base_34 rfl ?_
    exact go_zret d_CC_base_35 rfl (by first | exact Or.inl rfl | exact Or.inr rfl | assumption) (hf (fun ⟨k, e, q1, q2, q3, q4, _⟩ => hno ⟨k, e, q1, q2, q3, q4⟩))
  · subst ex
    obtain ⟨g1, g2, g3, g4⟩ := hw
    have hme := (hp.2.2.2 k hk).2
    have hil := (List.getElem?_eq_some_iff.mp hi).1
    have hw6 := g3.2.2.1 i (by have := g3.2.1; omega)
    have hcu := hme.2.2.2.2.2.2.2 (w i) hw6
    have sc := hcu.1
    have s4c := hcu.2.2.2.2.1
    have r5c := hcu.2.2.2.2.2.2.2.2.1
    have hca := g3.2.2.2.2.2 i e hi
    refine go_astore d_CC_base_6 (Nat.le_of_ble_eq_true rfl) ?_
    refine go_aload d_CC_base_8 rfl ?_
    refine go_ifnull d_CC_base_10 ?_
    refine go_iload_n 3 d_CC_base_13 rfl rfl ?_
    refine go_S1 d_CC_base_14 k_CC_77 (Nat.le_of_ble_eq_true rfl) (c_CC_isPotential (fun b1 hb1 => ?_))
    refine go_if_eq 34 d_CC_base_17 rfl (fun h17 => ?_) (fun h17 => ?_)
    · refine go_iconst (v := 0) d_CC_base_34 rfl ?_
      first | exact go_zret d_CC_base_35 rfl (Or.inl rfl) (hf (fun ⟨k', e', q1, q2, q3, q4, q5, q6⟩ => by rw [hb2.mpr q6] at h31; exact absurd h31 (by decide))) | exact go_zret d_CC_base_35 rfl (Or.inl rfl) (hf (fun ⟨k', e', q1, q2, q3, q4, q5, q6⟩ => by rw [hb1.mpr q5] at h17; exact absurd h17 (by decide)))
    · refine go_iload d_CC_base_20 rfl ?_
      refine go_sipush (v := (-10000)) d_CC_base_22 rfl ?_
      refine go_sipush (v := 10000) d_CC_base_25 rfl ?_
      refine go_S3 d_CC_base_28 k_CC_42 (Nat.le_of_ble_eq_true rfl) (c_CC_isBetween (fun b2 hb2 => ?_))
      refine go_if_ne 36 d_CC_base_31 rfl (fun h31 => ?_) (fun h31 => ?_)
      · obtain ⟨y0, y1⟩ := hb1.mp (bI_n0.mp h17)
        have hc2 := hb2.mp (bI_n0.mp h31)
        obtain ⟨v, hv, rfl⟩ := nI_of2 (n := 1) (by decide) (Int32.not_lt.mpr y0) y1
        obtain ⟨hrp, hpp⟩ := hcu.pot (w := v) (by omega)
        have sp := hpp.1
        have hpo := hca.pot (w := v) (by omega)
        refine go_aload d_CC_base_36 rfl ?_
        refine go_getR d_CC_base_38 f_CC_80 (by assumption) (by assumption) ?_
        refine go_iload_n 3 d_CC_base_41 rfl rfl ?_
        refine go_aald (t := 2) (v) d_CC_base_42 (by assumption) (by decide) (rfl) (by omega) (by decide) (by assumption) ?_
        refine go_iload d_CC_base_43 rfl ?_
        refine go_putI d_CC_base_45 f_CC_84 (by assumption) ?_
        have hpo1 : po_at (va_up I (2 + 82 * k + 4 + 13 * w i + 5 + 4 * v) (va_up (I (2 + 82 * k + 4 + 13 * w i + 5 + 4 * v)) 0 b)) (2 + 82 * k + 4 + 13 * w i + 5 + 4 * v) (b, (cu_pot v e.2).2) := ⟨by simp [va_up], by simp [va_up]; exact hpo.2.1, hpo.2.2.1, fun j t ht => by simp [va_up]; exact hpo.2.2.2 j t ht⟩
        have c2 : ∀ q, q ≠ 2 + 82 * k + 4 + 13 * w i + 5 + 4 * v → va_up I (2 + 82 * k + 4 + 13 * w i + 5 + 4 * v) (va_up (I (2 + 82 * k + 4 + 13 * w i + 5 + 4 * v)) 0 b) q = I q := fun q hq => gw_up_ne hq
        have hcu1 := hca.setp (w := v) (by omega) hpo1 (fun q hq => c2 q (by omega))
        have hm1 : me_at R (va_up I (2 + 82 * k + 4 + 13 * w i + 5 + 4 * v) (va_up (I (2 + 82 * k + 4 + 13 * w i + 5 + 4 * v)) 0 b)) k w ((S k).1, (S k).2.1.set i (e.1, cu_setp v (b, (cu_pot v e.2).2) e.2), (S k).2.2) := ⟨by rw [c2 _ (by omega)]; exact g1, g2.kept (by rw [c2 _ (by omega)]) (c2 _ (by omega)) (c2 _ (by omega)), g3.set hi hcu1 (fun q hq => c2 q (by omega)), by rw [c2 _ (by omega)]; exact g4⟩
        refine go_aload_n 0 d_CC_base_48 rfl rfl ?_
        refine go_iload_n 1 d_CC_base_49 rfl rfl ?_
        refine go_iconst (v := 1) d_CC_base_50 rfl ?_
        refine go_V2 d_CC_base_51 k_CC_50 (by assumption) (Nat.le_of_ble_eq_true rfl) (c_CC_note1 hp hc hk hm1 (fun _ _ => rfl) (fun q hq => c2 q (by omega)) (fun I2 e1 e2 e3 => ?_))
        exact go_zret d_CC_base_54 rfl (by first | exact Or.inl rfl | exact Or.inr rfl | assumption) (hQ k i e v hk rfl hi he (by omega) rfl hc2 I2 e1 e2)
      · refine go_iconst (v := 0) d_CC_base_34 rfl ?_
        first | exact go_zret d_CC_base_35 rfl (Or.inl rfl) (hf (fun ⟨k', e', q1, q2, q3, q4, q5, q6⟩ => by rw [hb2.mpr q6] at h31; exact absurd h31 (by decide))) | exact go_zret d_CC_base_35 rfl (Or.inl rfl) (hf (fun ⟨k', e', q1, q2, q3, q4, q5, q6⟩ => by rw [hb1.mpr q5] at h17; exact absurd h17 (by decide)))
end PU2
end
section
/-! term, accepted -/
section PU3
variable {d n : Nat} {sh : Nat → Nat × Nat} {X : Nat × (Nat → Int32)} {R : Nat → Nat → Option Nat} {I : Nat → Nat → Int32} {L : Nat → Nat → Int64} {Q : Option Value → gw_Mem → Prop} {S : Nat → ab_Me}
theorem c_CC_term {x y a f z : Int32} (hp : pt_CC sh R) (hc : cc_at R I S) (hpl : ∀ k, k < 4 → ∀ c ∈ (S k).2.1, c.1 < 24)
    (hu : ∀ k, k < 4 → ∀ (i j : Nat) (e f : Nat × ab_Cu), (S k).2.1[i]? = some e → (S k).2.1[j]? = some f → e.1 = f.1 → i = j)
    (hf : ¬ (∃ k e v s, k < 4 ∧ x = nI k ∧ e ∈ (S k).2.1 ∧ nI e.1 = y ∧ v < 2 ∧ a = nI v ∧ (1 ≤ f ∧ f ≤ 100) ∧ s < 25 ∧ z = nI s ∧ s / 5 ≠ s % 5 ∧ (cu_pot v e.2).2.length < 3) → Q (some (.int 0)) (n, sh, X, R, I, L))
    (hQ : ∀ k i e v g s, k < 4 → x = nI k → (S k).2.1[i]? = some e → nI e.1 = y → v < 2 → a = nI v → 1 ≤ g → g ≤ 100 → f = nI g → s < 25 → z = nI s → s / 5 ≠ s % 5 → (cu_pot v e.2).2.length < 3 → ∀ I', cc_at R I' (cc_chg k (va_up S k ((S k).1, (S k).2.1.set i (e.1, cu_setp v ((cu_pot v e.2).1, (cu_pot v e.2).2 ++ [(g, s / 5, s % 5)]) e.2), (S k).2.2))) → (∀ q, q < 2 ∨ 330 ≤ q → I' q = I q) → Q (some (.int 1)) (n, sh, X, R, I', L)) : gw_Call y_CC_term (d + 3) 0 0 [.ref 0, .int x, .int y, .int a, .int f, .int z] (n, sh, X, R, I, L) Q := by
  have s0 := hp.1
  refine gw_call o_CC_term (Nat.le_of_ble_eq_true rfl) ?_
  refine go_aload_n 0 d_CC_term_0 rfl rfl ?_
  refine go_iload_n 1 d_CC_term_1 rfl rfl ?_
  refine go_iload_n 2 d_CC_term_2 rfl rfl ?_
  refine go_V2 d_CC_term_3 k_CC_65 (by assumption) (Nat.le_of_ble_eq_true rfl) (c_CC_cutAt hp hc (fun hno => ?_) (fun k i e w hk ex hw hi he => ?_))
  · skip
    refine go_astoreN d_CC_term_6 (Nat.le_of_ble_eq_true rfl) ?_
    refine go_aloadN d_CC_term_8 rfl ?_
    refine go_ifnullN 31 d_CC_term_10 rfl ?_
    refine go_iconst (v := 0) d_CC_term_31 rfl ?_
    exact go_zret d_CC_term_32 rfl (by first | exact Or.inl rfl | exact Or.inr rfl | assumption) (hf (fun ⟨k, e, v, s, q1, q2, q3, q4, _⟩ => hno ⟨k, e, q1, q2, q3, q4⟩))
  · subst ex
    obtain ⟨g1, g2, g3, g4⟩ := hw
    have hme := (hp.2.2.2 k hk).2
    have hil := (List.getElem?_eq_some_iff.mp hi).1
    have hw6 := g3.2.2.1 i (by have := g3.2.1; omega)
    have hcu := hme.2.2.2.2.2.2.2 (w i) hw6
    have sc := hcu.1
    have s4c := hcu.2.2.2.2.1
    have r5c := hcu.2.2.2.2.2.2.2.2.1
    have hca := g3.2.2.2.2.2 i e hi
    refine go_astore d_CC_term_6 (Nat.le_of_ble_eq_true rfl) ?_
    refine go_aload d_CC_term_8 rfl ?_
    refine go_ifnull d_CC_term_10 ?_
    refine go_iload_n 3 d_CC_term_13 rfl rfl ?_
    refine go_S1 d_CC_term_14 k_CC_77 (Nat.le_of_ble_eq_true rfl) (c_CC_isPotential (fun b1 hb1 => ?_))
    refine go_if_eq 31 d_CC_term_17 rfl (fun h17 => ?_) (fun h17 => ?_)
    · refine go_iconst (v := 0) d_CC_term_31 rfl ?_
      first | exact go_zret d_CC_term_32 rfl (Or.inl rfl) (hf (fun ⟨k', e', v, s, q1, q2, q3, q4, q5, q6, q7, _⟩ => by rw [hb2.mpr q7] at h28; exact absurd h28 (by decide))) | exact go_zret d_CC_term_32 rfl (Or.inl rfl) (hf (fun ⟨k', e', v, s, q1, q2, q3, q4, q5, q6, q7, _⟩ => by rw [hb1.mpr ⟨by rw [q6]; exact nI_pos' (by omega), by rw [q6]; exact nI_le (b := 1) (by omega) (by decide)⟩] at h17; exact absurd h17 (by decide)))
    · refine go_iload d_CC_term_20 rfl ?_
      refine go_iconst (v := 1) d_CC_term_22 rfl ?_
      refine go_bipush (v := 100) d_CC_term_23 rfl ?_
      refine go_S3 d_CC_term_25 k_CC_42 (Nat.le_of_ble_eq_true rfl) (c_CC_isBetween (fun b2 hb2 => ?_))
      refine go_if_ne 33 d_CC_term_28 rfl (fun h28 => ?_) (fun h28 => ?_)
      · obtain ⟨y0, y1⟩ := hb1.mp (bI_n0.mp h17)
        have hc2 := hb2.mp (bI_n0.mp h28)
        obtain ⟨v, hv, rfl⟩ := nI_of2 (n := 1) (by decide) (Int32.not_lt.mpr y0) y1
        obtain ⟨g, hg, rfl⟩ := nI_of2 (n := 100) (by decide) (fun hh => absurd (Int32.le_trans (show (0 : Int32) ≤ 1 by decide) hc2.1) (Int32.not_le.mpr hh)) hc2.2
        have hg1 : 1 ≤ g := (nI_leI (a := 1) (by decide) (by omega)).mp hc2.1
        refine go_iload d_CC_term_33 rfl ?_
        refine go_iconst (v := 0) d_CC_term_35 rfl ?_
        refine go_bipush (v := 24) d_CC_term_36 rfl ?_
        refine go_S3 d_CC_term_38 k_CC_42 (Nat.le_of_ble_eq_true rfl) (c_CC_isBetween (fun b3 hb3 => ?_))
        refine go_if_eq 58 d_CC_term_41 rfl (fun h41 => ?_) (fun h41 => ?_)
        · refine go_iconst (v := 0) d_CC_term_58 rfl ?_
          first | exact go_zret d_CC_term_59 rfl (Or.inl rfl) (hf (fun ⟨k', e', v', s', q1, q2, q3, q4, q5, q6, q7, q8, q9, q10, q11⟩ => by have es := (nI_eq (by omega) (by omega)).mp q9; subst es; rw [hb4.mpr ⟨⟨nI_pos' (by omega), nI_le (b := 4) (by omega) (by decide)⟩, ⟨nI_pos' (by omega), nI_le (b := 4) (by omega) (by decide)⟩, fun hh => q10 ((nI_eq (by omega) (by omega)).mp hh)⟩] at h55; exact absurd h55 (by decide))) | exact go_zret d_CC_term_59 rfl (Or.inl rfl) (hf (fun ⟨k', e', v', s', q1, q2, q3, q4, q5, q6, q7, q8, q9, q10, q11⟩ => by rw [hb3.mpr ⟨by rw [q9]; exact nI_pos' (by omega), by rw [q9]; exact nI_le (b := 24) (by omega) (by decide)⟩] at h41; exact absurd h41 (by decide)))
        · obtain ⟨z0, z24⟩ := hb3.mp (bI_n0.mp h41)
          obtain ⟨s, hs, rfl⟩ := nI_of2 (n := 24) (by decide) (Int32.not_lt.mpr z0) z24
          have er : nI s - nI s / 5 * 5 = nI (s % 5) := pk_rem (d := 5) (by omega) (by decide) (by decide)
          have ed : nI s / 5 = nI (s / 5) := pk_div (d := 5) (by omega) (by decide) (by decide)
          refine go_iload d_CC_term_44 rfl ?_
          refine go_iconst (v := 5) d_CC_term_46 rfl ?_
          refine go_idiv d_CC_term_47 (by decide) ?_
          refine go_iload d_CC_term_48 rfl ?_
          refine go_iconst (v := 5) d_CC_term_50 rfl ?_
          refine go_irem d_CC_term_51 (by decide) ?_
          rw [er, ed]
          refine go_S2 d_CC_term_52 k_CC_69 (Nat.le_of_ble_eq_true rfl) (c_CC_areTwoSides (fun b4 hb4 => ?_))
          refine go_if_ne 60 d_CC_term_55 rfl (fun h55 => ?_) (fun h55 => ?_)
          · have hab := (hb4.mp (bI_n0.mp h55)).2.2
            have hab' : s / 5 ≠ s % 5 := fun hh => hab (by rw [hh])
            obtain ⟨hrp, hpp⟩ := hcu.pot (w := v) (by omega)
            have sp := hpp.1
            have hpo := hca.pot (w := v) (by omega)
            refine go_aload_n 0 d_CC_term_60 rfl rfl ?_
            refine go_iload_n 1 d_CC_term_61 rfl rfl ?_
            refine go_aload d_CC_term_62 rfl ?_
            refine go_getR d_CC_term_64 f_CC_80 (by assumption) (by assumption) ?_
            refine go_iload_n 3 d_CC_term_67 rfl rfl ?_
            refine go_aald (t := 2) (v) d_CC_term_68 (by assumption) (by decide) (rfl) (by omega) (by decide) (by assumption) ?_
            refine go_iload d_CC_term_69 rfl ?_
            refine go_iload d_CC_term_71 rfl ?_
            refine go_iconst (v := 5) d_CC_term_73 rfl ?_
            refine go_idiv d_CC_term_74 (by decide) ?_
            refine go_iload d_CC_term_75 rfl ?_
            refine go_iconst (v := 5) d_CC_term_77 rfl ?_
            refine go_irem d_CC_term_78 (by decide) ?_
            rw [er, ed]
            refine go_V3 d_CC_term_79 k_CC_89 (by assumption) (Nat.le_of_ble_eq_true rfl) (c_Po_addTerm hpp hpo (by omega) (by omega) (fun hlen => ?_) (fun hlen I1 c1 c2 => ?_))
            · skip
              refine go_V2 d_CC_term_82 k_CC_50 (by assumption) (Nat.le_of_ble_eq_true rfl) (c_CC_noteChange (b := false) hp hk (fun _ => ?_) (fun h => by cases h))
              exact go_zret d_CC_term_85 rfl (by first | exact Or.inl rfl | exact Or.inr rfl | assumption) (hf (fun ⟨k', e', v', s', q1, q2, q3, q4, q5, q6, q7, q8, q9, q10, q11⟩ => by have ek := (nI_eq (by omega) (by omega)).mp q2; subst ek; have ev := (nI_eq (by omega) (by omega)).mp q6; subst ev; obtain ⟨j, hj⟩ := List.getElem?_of_mem q3; have hp1 := hpl k hk e (List.mem_of_getElem? hi); have hp2 := hpl k hk e' q3; have ep : e.1 = e'.1 := (nI_eq (by omega) (by omega)).mp (he.trans q4.symm); have ej := hu k hk i j e e' hi hj ep; subst ej; rw [hi] at hj; cases hj; exact hlen q11))
            · have hcu1 := hca.setp (w := v) (by omega) c1 c2
              have hm1 : me_at R I1 k w ((S k).1, (S k).2.1.set i (e.1, cu_setp v ((cu_pot v e.2).1, (cu_pot v e.2).2 ++ [(g, s / 5, s % 5)]) e.2), (S k).2.2) := ⟨by rw [c2 _ (by omega)]; exact g1, g2.kept (by rw [c2 _ (by omega)]) (c2 _ (by omega)) (c2 _ (by omega)), g3.set hi hcu1 (fun q hq => c2 q (by omega)), by rw [c2 _ (by omega)]; exact g4⟩
              refine go_V2 d_CC_term_82 k_CC_50 (by assumption) (Nat.le_of_ble_eq_true rfl) (c_CC_note1 hp hc hk hm1 (fun _ _ => rfl) (fun q hq => c2 q (by omega)) (fun I2 e1 e2 e3 => ?_))
              exact go_zret d_CC_term_85 rfl (by first | exact Or.inl rfl | exact Or.inr rfl | assumption) (hQ k i e v g s hk rfl hi he (by omega) rfl hg1 hg rfl (by omega) rfl hab' hlen I2 e1 e2)
          · refine go_iconst (v := 0) d_CC_term_58 rfl ?_
            first | exact go_zret d_CC_term_59 rfl (Or.inl rfl) (hf (fun ⟨k', e', v', s', q1, q2, q3, q4, q5, q6, q7, q8, q9, q10, q11⟩ => by have es := (nI_eq (by omega) (by omega)).mp q9; subst es; rw [hb4.mpr ⟨⟨nI_pos' (by omega), nI_le (b := 4) (by omega) (by decide)⟩, ⟨nI_pos' (by omega), nI_le (b := 4) (by omega) (by decide)⟩, fun hh => q10 ((nI_eq (by omega) (by omega)).mp hh)⟩] at h55; exact absurd h55 (by decide))) | exact go_zret d_CC_term_59 rfl (Or.inl rfl) (hf (fun ⟨k', e', v', s', q1, q2, q3, q4, q5, q6, q7, q8, q9, q10, q11⟩ => by rw [hb3.mpr ⟨by rw [q9]; exact nI_pos' (by omega), by rw [q9]; exact nI_le (b := 24) (by omega) (by decide)⟩] at h41; exact absurd h41 (by decide)))
      · refine go_iconst (v := 0) d_CC_term_31 rfl ?_
        first | exact go_zret d_CC_term_32 rfl (Or.inl rfl) (hf (fun ⟨k', e', v, s, q1, q2, q3, q4, q5, q6, q7, _⟩ => by rw [hb2.mpr q7] at h28; exact absurd h28 (by decide))) | exact go_zret d_CC_term_32 rfl (Or.inl rfl) (hf (fun ⟨k', e', v, s, q1, q2, q3, q4, q5, q6, q7, _⟩ => by rw [hb1.mpr ⟨by rw [q6]; exact nI_pos' (by omega), by rw [q6]; exact nI_le (b := 1) (by omega) (by decide)⟩] at h17; exact absurd h17 (by decide)))
end PU3
end

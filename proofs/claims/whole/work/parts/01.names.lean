-- ===== PART A: goes FIRST, ahead of the names: the tables' words, and 'selects' of the private methods out of them =====
/-- a private method of a class that the tables say can be made, by its rows of tables_1 -/
def lw_okq (q : MethodName × Nat) : Prop := (q.1.cls ≠ "java/lang/invoke/MethodHandle" ∧ q.1.cls ≠ "java/lang/invoke/VarHandle") ∧ Cond.instantiable q.1.cls q.2 ∈ tables_1 ∧ Cond.privateMethod q.1 ∈ tables_1 ∧ Cond.instanceMethod q.1 ∈ tables_1
theorem lw_p0 : lw_okq (⟨"TwinTrees$Model", "renumber", "()V"⟩, 14) := ⟨⟨by decide +kernel, by decide +kernel⟩, List.mem_of_getElem? (i := 106) (by decide +kernel), List.mem_of_getElem? (i := 112) (by decide +kernel), List.mem_of_getElem? (i := 113) (by decide +kernel)⟩
theorem lw_p1 : lw_okq (⟨"TwinTrees$Parser", "begin", "(I)V"⟩, 5) := ⟨⟨by decide +kernel, by decide +kernel⟩, List.mem_of_getElem? (i := 60) (by decide +kernel), List.mem_of_getElem? (i := 577) (by decide +kernel), List.mem_of_getElem? (i := 578) (by decide +kernel)⟩
theorem lw_p2 : lw_okq (⟨"TwinTrees$Tape", "readRun", "(Z)V"⟩, 7) := ⟨⟨by decide +kernel, by decide +kernel⟩, List.mem_of_getElem? (i := 26) (by decide +kernel), List.mem_of_getElem? (i := 592) (by decide +kernel), List.mem_of_getElem? (i := 593) (by decide +kernel)⟩
theorem lw_p3 : lw_okq (⟨"TwinTrees$Parser", "grammarLine", "(LTwinTrees$Model;)Z"⟩, 5) := ⟨⟨by decide +kernel, by decide +kernel⟩, List.mem_of_getElem? (i := 60) (by decide +kernel), List.mem_of_getElem? (i := 597) (by decide +kernel), List.mem_of_getElem? (i := 598) (by decide +kernel)⟩
theorem lw_p4 : lw_okq (⟨"TwinTrees$Parser", "fail", "(I)Z"⟩, 5) := ⟨⟨by decide +kernel, by decide +kernel⟩, List.mem_of_getElem? (i := 60) (by decide +kernel), List.mem_of_getElem? (i := 606) (by decide +kernel), List.mem_of_getElem? (i := 607) (by decide +kernel)⟩
theorem lw_p5 : lw_okq (⟨"TwinTrees$Parser", "nameLine", "(LTwinTrees$Model;Z)Z"⟩, 5) := ⟨⟨by decide +kernel, by decide +kernel⟩, List.mem_of_getElem? (i := 60) (by decide +kernel), List.mem_of_getElem? (i := 610) (by decide +kernel), List.mem_of_getElem? (i := 611) (by decide +kernel)⟩
theorem lw_p6 : lw_okq (⟨"TwinTrees$Parser", "lineEnds", "()Z"⟩, 5) := ⟨⟨by decide +kernel, by decide +kernel⟩, List.mem_of_getElem? (i := 60) (by decide +kernel), List.mem_of_getElem? (i := 625) (by decide +kernel), List.mem_of_getElem? (i := 626) (by decide +kernel)⟩
theorem lw_p7 : lw_okq (⟨"TwinTrees$Parser", "ruleLine", "(LTwinTrees$Model;)Z"⟩, 5) := ⟨⟨by decide +kernel, by decide +kernel⟩, List.mem_of_getElem? (i := 60) (by decide +kernel), List.mem_of_getElem? (i := 643) (by decide +kernel), List.mem_of_getElem? (i := 644) (by decide +kernel)⟩
theorem lw_p8 : lw_okq (⟨"TwinTrees$Parser", "knownName", "(LTwinTrees$Model;)I"⟩, 5) := ⟨⟨by decide +kernel, by decide +kernel⟩, List.mem_of_getElem? (i := 60) (by decide +kernel), List.mem_of_getElem? (i := 647) (by decide +kernel), List.mem_of_getElem? (i := 648) (by decide +kernel)⟩
theorem lw_p9 : lw_okq (⟨"TwinTrees", "changed", "()V"⟩, 19) := ⟨⟨by decide +kernel, by decide +kernel⟩, List.mem_of_getElem? (i := 18) (by decide +kernel), List.mem_of_getElem? (i := 670) (by decide +kernel), List.mem_of_getElem? (i := 671) (by decide +kernel)⟩
theorem lw_p10 : lw_okq (⟨"TwinTrees$Kinds", "closure", "(LTwinTrees$Model;Z)I"⟩, 7) := ⟨⟨by decide +kernel, by decide +kernel⟩, List.mem_of_getElem? (i := 250) (by decide +kernel), List.mem_of_getElem? (i := 694) (by decide +kernel), List.mem_of_getElem? (i := 695) (by decide +kernel)⟩
theorem lw_p11 : lw_okq (⟨"TwinTrees$Kinds", "learnBegins", "(LTwinTrees$Model;)V"⟩, 7) := ⟨⟨by decide +kernel, by decide +kernel⟩, List.mem_of_getElem? (i := 250) (by decide +kernel), List.mem_of_getElem? (i := 702) (by decide +kernel), List.mem_of_getElem? (i := 703) (by decide +kernel)⟩
theorem lw_p12 : lw_okq (⟨"TwinTrees$Kinds", "beginsFrom", "(LTwinTrees$Model;II)I"⟩, 7) := ⟨⟨by decide +kernel, by decide +kernel⟩, List.mem_of_getElem? (i := 250) (by decide +kernel), List.mem_of_getElem? (i := 706) (by decide +kernel), List.mem_of_getElem? (i := 707) (by decide +kernel)⟩
theorem lw_p13 : lw_okq (⟨"TwinTrees$Kinds", "isEmpty", "(I)Z"⟩, 7) := ⟨⟨by decide +kernel, by decide +kernel⟩, List.mem_of_getElem? (i := 250) (by decide +kernel), List.mem_of_getElem? (i := 710) (by decide +kernel), List.mem_of_getElem? (i := 711) (by decide +kernel)⟩
theorem lw_p14 : lw_okq (⟨"TwinTrees$Kinds", "learnFollows", "(LTwinTrees$Model;I)V"⟩, 7) := ⟨⟨by decide +kernel, by decide +kernel⟩, List.mem_of_getElem? (i := 250) (by decide +kernel), List.mem_of_getElem? (i := 720) (by decide +kernel), List.mem_of_getElem? (i := 721) (by decide +kernel)⟩
theorem lw_p15 : lw_okq (⟨"TwinTrees$Kinds", "emptyFrom", "(LTwinTrees$Model;II)Z"⟩, 7) := ⟨⟨by decide +kernel, by decide +kernel⟩, List.mem_of_getElem? (i := 250) (by decide +kernel), List.mem_of_getElem? (i := 724) (by decide +kernel), List.mem_of_getElem? (i := 725) (by decide +kernel)⟩
def lw_privs_1 : List (MethodName × Nat) := [(⟨"TwinTrees$Model", "renumber", "()V"⟩, 14), (⟨"TwinTrees$Parser", "begin", "(I)V"⟩, 5), (⟨"TwinTrees$Tape", "readRun", "(Z)V"⟩, 7), (⟨"TwinTrees$Parser", "grammarLine", "(LTwinTrees$Model;)Z"⟩, 5), (⟨"TwinTrees$Parser", "fail", "(I)Z"⟩, 5), (⟨"TwinTrees$Parser", "nameLine", "(LTwinTrees$Model;Z)Z"⟩, 5), (⟨"TwinTrees$Parser", "lineEnds", "()Z"⟩, 5), (⟨"TwinTrees$Parser", "ruleLine", "(LTwinTrees$Model;)Z"⟩, 5), (⟨"TwinTrees$Parser", "knownName", "(LTwinTrees$Model;)I"⟩, 5), (⟨"TwinTrees", "changed", "()V"⟩, 19), (⟨"TwinTrees$Kinds", "closure", "(LTwinTrees$Model;Z)I"⟩, 7), (⟨"TwinTrees$Kinds", "learnBegins", "(LTwinTrees$Model;)V"⟩, 7), (⟨"TwinTrees$Kinds", "beginsFrom", "(LTwinTrees$Model;II)I"⟩, 7), (⟨"TwinTrees$Kinds", "isEmpty", "(I)Z"⟩, 7), (⟨"TwinTrees$Kinds", "learnFollows", "(LTwinTrees$Model;I)V"⟩, 7), (⟨"TwinTrees$Kinds", "emptyFrom", "(LTwinTrees$Model;II)Z"⟩, 7)]
theorem lw_r1 : ∀ q ∈ lw_privs_1, lw_okq q := List.forall_mem_cons.mpr ⟨lw_p0, List.forall_mem_cons.mpr ⟨lw_p1, List.forall_mem_cons.mpr ⟨lw_p2, List.forall_mem_cons.mpr ⟨lw_p3, List.forall_mem_cons.mpr ⟨lw_p4, List.forall_mem_cons.mpr ⟨lw_p5, List.forall_mem_cons.mpr ⟨lw_p6, List.forall_mem_cons.mpr ⟨lw_p7, List.forall_mem_cons.mpr ⟨lw_p8, List.forall_mem_cons.mpr ⟨lw_p9, List.forall_mem_cons.mpr ⟨lw_p10, List.forall_mem_cons.mpr ⟨lw_p11, List.forall_mem_cons.mpr ⟨lw_p12, List.forall_mem_cons.mpr ⟨lw_p13, List.forall_mem_cons.mpr ⟨lw_p14, List.forall_mem_cons.mpr ⟨lw_p15, fun _ h => absurd h List.not_mem_nil⟩⟩⟩⟩⟩⟩⟩⟩⟩⟩⟩⟩⟩⟩⟩⟩
theorem lw_p16 : lw_okq (⟨"TwinTrees$Kinds", "learnEndless", "(LTwinTrees$Model;)V"⟩, 7) := ⟨⟨by decide +kernel, by decide +kernel⟩, List.mem_of_getElem? (i := 250) (by decide +kernel), List.mem_of_getElem? (i := 728) (by decide +kernel), List.mem_of_getElem? (i := 729) (by decide +kernel)⟩
theorem lw_p17 : lw_okq (⟨"TwinTrees$Kinds", "emptyBut", "(LTwinTrees$Model;II)Z"⟩, 7) := ⟨⟨by decide +kernel, by decide +kernel⟩, List.mem_of_getElem? (i := 250) (by decide +kernel), List.mem_of_getElem? (i := 732) (by decide +kernel), List.mem_of_getElem? (i := 733) (by decide +kernel)⟩
theorem lw_p18 : lw_okq (⟨"TwinTrees", "isPlace", "(I)Z"⟩, 19) := ⟨⟨by decide +kernel, by decide +kernel⟩, List.mem_of_getElem? (i := 18) (by decide +kernel), List.mem_of_getElem? (i := 757) (by decide +kernel), List.mem_of_getElem? (i := 758) (by decide +kernel)⟩
theorem lw_p19 : lw_okq (⟨"TwinTrees", "placed", "()Z"⟩, 19) := ⟨⟨by decide +kernel, by decide +kernel⟩, List.mem_of_getElem? (i := 18) (by decide +kernel), List.mem_of_getElem? (i := 761) (by decide +kernel), List.mem_of_getElem? (i := 762) (by decide +kernel)⟩
theorem lw_p20 : lw_okq (⟨"TwinTrees$Places", "learnItems", "(LTwinTrees$Model;)V"⟩, 15) := ⟨⟨by decide +kernel, by decide +kernel⟩, List.mem_of_getElem? (i := 284) (by decide +kernel), List.mem_of_getElem? (i := 769) (by decide +kernel), List.mem_of_getElem? (i := 770) (by decide +kernel)⟩
theorem lw_p21 : lw_okq (⟨"TwinTrees$Places", "listPlaces", "(LTwinTrees$Model;)V"⟩, 15) := ⟨⟨by decide +kernel, by decide +kernel⟩, List.mem_of_getElem? (i := 284) (by decide +kernel), List.mem_of_getElem? (i := 778) (by decide +kernel), List.mem_of_getElem? (i := 779) (by decide +kernel)⟩
theorem lw_p22 : lw_okq (⟨"TwinTrees$Places", "listPlace", "(II)V"⟩, 15) := ⟨⟨by decide +kernel, by decide +kernel⟩, List.mem_of_getElem? (i := 284) (by decide +kernel), List.mem_of_getElem? (i := 782) (by decide +kernel), List.mem_of_getElem? (i := 783) (by decide +kernel)⟩
theorem lw_p23 : lw_okq (⟨"TwinTrees$Places", "clearSteps", "()V"⟩, 15) := ⟨⟨by decide +kernel, by decide +kernel⟩, List.mem_of_getElem? (i := 284) (by decide +kernel), List.mem_of_getElem? (i := 789) (by decide +kernel), List.mem_of_getElem? (i := 790) (by decide +kernel)⟩
theorem lw_p24 : lw_okq (⟨"TwinTrees$Places", "openFrom", "(LTwinTrees$Model;II)V"⟩, 15) := ⟨⟨by decide +kernel, by decide +kernel⟩, List.mem_of_getElem? (i := 284) (by decide +kernel), List.mem_of_getElem? (i := 793) (by decide +kernel), List.mem_of_getElem? (i := 794) (by decide +kernel)⟩
theorem lw_p25 : lw_okq (⟨"TwinTrees$Places", "placeOf", "(LTwinTrees$Model;II)I"⟩, 15) := ⟨⟨by decide +kernel, by decide +kernel⟩, List.mem_of_getElem? (i := 284) (by decide +kernel), List.mem_of_getElem? (i := 797) (by decide +kernel), List.mem_of_getElem? (i := 798) (by decide +kernel)⟩
theorem lw_p26 : lw_okq (⟨"TwinTrees$Places", "addStep", "(III)V"⟩, 15) := ⟨⟨by decide +kernel, by decide +kernel⟩, List.mem_of_getElem? (i := 284) (by decide +kernel), List.mem_of_getElem? (i := 801) (by decide +kernel), List.mem_of_getElem? (i := 802) (by decide +kernel)⟩
theorem lw_p27 : lw_okq (⟨"TwinTrees$Places", "stepsOf", "(LTwinTrees$Model;I)V"⟩, 15) := ⟨⟨by decide +kernel, by decide +kernel⟩, List.mem_of_getElem? (i := 284) (by decide +kernel), List.mem_of_getElem? (i := 805) (by decide +kernel), List.mem_of_getElem? (i := 806) (by decide +kernel)⟩
theorem lw_p28 : lw_okq (⟨"TwinTrees$Places", "closeFrom", "(LTwinTrees$Model;II)V"⟩, 15) := ⟨⟨by decide +kernel, by decide +kernel⟩, List.mem_of_getElem? (i := 284) (by decide +kernel), List.mem_of_getElem? (i := 809) (by decide +kernel), List.mem_of_getElem? (i := 810) (by decide +kernel)⟩
theorem lw_p29 : lw_okq (⟨"TwinTrees$Places", "closeTo", "(LTwinTrees$Model;III)V"⟩, 15) := ⟨⟨by decide +kernel, by decide +kernel⟩, List.mem_of_getElem? (i := 284) (by decide +kernel), List.mem_of_getElem? (i := 813) (by decide +kernel), List.mem_of_getElem? (i := 814) (by decide +kernel)⟩
theorem lw_p30 : lw_okq (⟨"TwinTrees$Places", "gather", "()V"⟩, 15) := ⟨⟨by decide +kernel, by decide +kernel⟩, List.mem_of_getElem? (i := 284) (by decide +kernel), List.mem_of_getElem? (i := 817) (by decide +kernel), List.mem_of_getElem? (i := 818) (by decide +kernel)⟩
theorem lw_p31 : lw_okq (⟨"TwinTrees", "settled", "(I)I"⟩, 19) := ⟨⟨by decide +kernel, by decide +kernel⟩, List.mem_of_getElem? (i := 18) (by decide +kernel), List.mem_of_getElem? (i := 863) (by decide +kernel), List.mem_of_getElem? (i := 864) (by decide +kernel)⟩
def lw_privs_2 : List (MethodName × Nat) := [(⟨"TwinTrees$Kinds", "learnEndless", "(LTwinTrees$Model;)V"⟩, 7), (⟨"TwinTrees$Kinds", "emptyBut", "(LTwinTrees$Model;II)Z"⟩, 7), (⟨"TwinTrees", "isPlace", "(I)Z"⟩, 19), (⟨"TwinTrees", "placed", "()Z"⟩, 19), (⟨"TwinTrees$Places", "learnItems", "(LTwinTrees$Model;)V"⟩, 15), (⟨"TwinTrees$Places", "listPlaces", "(LTwinTrees$Model;)V"⟩, 15), (⟨"TwinTrees$Places", "listPlace", "(II)V"⟩, 15), (⟨"TwinTrees$Places", "clearSteps", "()V"⟩, 15), (⟨"TwinTrees$Places", "openFrom", "(LTwinTrees$Model;II)V"⟩, 15), (⟨"TwinTrees$Places", "placeOf", "(LTwinTrees$Model;II)I"⟩, 15), (⟨"TwinTrees$Places", "addStep", "(III)V"⟩, 15), (⟨"TwinTrees$Places", "stepsOf", "(LTwinTrees$Model;I)V"⟩, 15), (⟨"TwinTrees$Places", "closeFrom", "(LTwinTrees$Model;II)V"⟩, 15), (⟨"TwinTrees$Places", "closeTo", "(LTwinTrees$Model;III)V"⟩, 15), (⟨"TwinTrees$Places", "gather", "()V"⟩, 15), (⟨"TwinTrees", "settled", "(I)I"⟩, 19)]
theorem lw_r2 : ∀ q ∈ lw_privs_2, lw_okq q := List.forall_mem_cons.mpr ⟨lw_p16, List.forall_mem_cons.mpr ⟨lw_p17, List.forall_mem_cons.mpr ⟨lw_p18, List.forall_mem_cons.mpr ⟨lw_p19, List.forall_mem_cons.mpr ⟨lw_p20, List.forall_mem_cons.mpr ⟨lw_p21, List.forall_mem_cons.mpr ⟨lw_p22, List.forall_mem_cons.mpr ⟨lw_p23, List.forall_mem_cons.mpr ⟨lw_p24, List.forall_mem_cons.mpr ⟨lw_p25, List.forall_mem_cons.mpr ⟨lw_p26, List.forall_mem_cons.mpr ⟨lw_p27, List.forall_mem_cons.mpr ⟨lw_p28, List.forall_mem_cons.mpr ⟨lw_p29, List.forall_mem_cons.mpr ⟨lw_p30, List.forall_mem_cons.mpr ⟨lw_p31, fun _ h => absurd h List.not_mem_nil⟩⟩⟩⟩⟩⟩⟩⟩⟩⟩⟩⟩⟩⟩⟩⟩
theorem lw_p32 : lw_okq (⟨"TwinTrees", "remember", "(LTwinTrees$Model;)V"⟩, 19) := ⟨⟨by decide +kernel, by decide +kernel⟩, List.mem_of_getElem? (i := 18) (by decide +kernel), List.mem_of_getElem? (i := 867) (by decide +kernel), List.mem_of_getElem? (i := 868) (by decide +kernel)⟩
theorem lw_p33 : lw_okq (⟨"TwinTrees", "followed", "()Z"⟩, 19) := ⟨⟨by decide +kernel, by decide +kernel⟩, List.mem_of_getElem? (i := 18) (by decide +kernel), List.mem_of_getElem? (i := 904) (by decide +kernel), List.mem_of_getElem? (i := 905) (by decide +kernel)⟩
theorem lw_p34 : lw_okq (⟨"TwinTrees$Twins", "raise", "()Z"⟩, 11) := ⟨⟨by decide +kernel, by decide +kernel⟩, List.mem_of_getElem? (i := 348) (by decide +kernel), List.mem_of_getElem? (i := 912) (by decide +kernel), List.mem_of_getElem? (i := 913) (by decide +kernel)⟩
theorem lw_p35 : lw_okq (⟨"TwinTrees$Twins", "enter", "([JIJ)V"⟩, 11) := ⟨⟨by decide +kernel, by decide +kernel⟩, List.mem_of_getElem? (i := 348) (by decide +kernel), List.mem_of_getElem? (i := 916) (by decide +kernel), List.mem_of_getElem? (i := 917) (by decide +kernel)⟩
theorem lw_p36 : lw_okq (⟨"TwinTrees$Twins", "go", "(III)V"⟩, 11) := ⟨⟨by decide +kernel, by decide +kernel⟩, List.mem_of_getElem? (i := 348) (by decide +kernel), List.mem_of_getElem? (i := 922) (by decide +kernel), List.mem_of_getElem? (i := 923) (by decide +kernel)⟩
theorem lw_p37 : lw_okq (⟨"TwinTrees$Twins", "goBySigns", "(III)V"⟩, 11) := ⟨⟨by decide +kernel, by decide +kernel⟩, List.mem_of_getElem? (i := 348) (by decide +kernel), List.mem_of_getElem? (i := 926) (by decide +kernel), List.mem_of_getElem? (i := 927) (by decide +kernel)⟩
theorem lw_p38 : lw_okq (⟨"TwinTrees$Twins", "leaveBeyond", "(IJIJJ)V"⟩, 11) := ⟨⟨by decide +kernel, by decide +kernel⟩, List.mem_of_getElem? (i := 348) (by decide +kernel), List.mem_of_getElem? (i := 930) (by decide +kernel), List.mem_of_getElem? (i := 931) (by decide +kernel)⟩
theorem lw_p39 : lw_okq (⟨"TwinTrees$Twins", "goTogether", "(II)V"⟩, 11) := ⟨⟨by decide +kernel, by decide +kernel⟩, List.mem_of_getElem? (i := 348) (by decide +kernel), List.mem_of_getElem? (i := 934) (by decide +kernel), List.mem_of_getElem? (i := 935) (by decide +kernel)⟩
theorem lw_p40 : lw_okq (⟨"TwinTrees$Twins", "enterAll", "(IJIJJ)V"⟩, 11) := ⟨⟨by decide +kernel, by decide +kernel⟩, List.mem_of_getElem? (i := 348) (by decide +kernel), List.mem_of_getElem? (i := 938) (by decide +kernel), List.mem_of_getElem? (i := 939) (by decide +kernel)⟩
theorem lw_p41 : lw_okq (⟨"TwinTrees$Twins", "goLeft", "(III)V"⟩, 11) := ⟨⟨by decide +kernel, by decide +kernel⟩, List.mem_of_getElem? (i := 348) (by decide +kernel), List.mem_of_getElem? (i := 942) (by decide +kernel), List.mem_of_getElem? (i := 943) (by decide +kernel)⟩
theorem lw_p42 : lw_okq (⟨"TwinTrees$Twins", "goRight", "(III)V"⟩, 11) := ⟨⟨by decide +kernel, by decide +kernel⟩, List.mem_of_getElem? (i := 348) (by decide +kernel), List.mem_of_getElem? (i := 946) (by decide +kernel), List.mem_of_getElem? (i := 947) (by decide +kernel)⟩
theorem lw_p43 : lw_okq (⟨"TwinTrees$Twins", "back", "(III)V"⟩, 11) := ⟨⟨by decide +kernel, by decide +kernel⟩, List.mem_of_getElem? (i := 348) (by decide +kernel), List.mem_of_getElem? (i := 967) (by decide +kernel), List.mem_of_getElem? (i := 968) (by decide +kernel)⟩
theorem lw_p44 : lw_okq (⟨"TwinTrees$Twins", "suspectAll", "(IJIJJ)V"⟩, 11) := ⟨⟨by decide +kernel, by decide +kernel⟩, List.mem_of_getElem? (i := 348) (by decide +kernel), List.mem_of_getElem? (i := 971) (by decide +kernel), List.mem_of_getElem? (i := 972) (by decide +kernel)⟩
theorem lw_p45 : lw_okq (⟨"TwinTrees$Twins", "suspectRow", "(IJJ)V"⟩, 11) := ⟨⟨by decide +kernel, by decide +kernel⟩, List.mem_of_getElem? (i := 348) (by decide +kernel), List.mem_of_getElem? (i := 975) (by decide +kernel), List.mem_of_getElem? (i := 976) (by decide +kernel)⟩
theorem lw_p46 : lw_okq (⟨"TwinTrees$Twins", "suspectIn", "(III)I"⟩, 11) := ⟨⟨by decide +kernel, by decide +kernel⟩, List.mem_of_getElem? (i := 348) (by decide +kernel), List.mem_of_getElem? (i := 991) (by decide +kernel), List.mem_of_getElem? (i := 992) (by decide +kernel)⟩
theorem lw_p47 : lw_okq (⟨"TwinTrees$Chart", "learn", "(LTwinTrees$Model;)V"⟩, 14) := ⟨⟨by decide +kernel, by decide +kernel⟩, List.mem_of_getElem? (i := 393) (by decide +kernel), List.mem_of_getElem? (i := 1018) (by decide +kernel), List.mem_of_getElem? (i := 1019) (by decide +kernel)⟩
def lw_privs_3 : List (MethodName × Nat) := [(⟨"TwinTrees", "remember", "(LTwinTrees$Model;)V"⟩, 19), (⟨"TwinTrees", "followed", "()Z"⟩, 19), (⟨"TwinTrees$Twins", "raise", "()Z"⟩, 11), (⟨"TwinTrees$Twins", "enter", "([JIJ)V"⟩, 11), (⟨"TwinTrees$Twins", "go", "(III)V"⟩, 11), (⟨"TwinTrees$Twins", "goBySigns", "(III)V"⟩, 11), (⟨"TwinTrees$Twins", "leaveBeyond", "(IJIJJ)V"⟩, 11), (⟨"TwinTrees$Twins", "goTogether", "(II)V"⟩, 11), (⟨"TwinTrees$Twins", "enterAll", "(IJIJJ)V"⟩, 11), (⟨"TwinTrees$Twins", "goLeft", "(III)V"⟩, 11), (⟨"TwinTrees$Twins", "goRight", "(III)V"⟩, 11), (⟨"TwinTrees$Twins", "back", "(III)V"⟩, 11), (⟨"TwinTrees$Twins", "suspectAll", "(IJIJJ)V"⟩, 11), (⟨"TwinTrees$Twins", "suspectRow", "(IJJ)V"⟩, 11), (⟨"TwinTrees$Twins", "suspectIn", "(III)I"⟩, 11), (⟨"TwinTrees$Chart", "learn", "(LTwinTrees$Model;)V"⟩, 14)]
theorem lw_r3 : ∀ q ∈ lw_privs_3, lw_okq q := List.forall_mem_cons.mpr ⟨lw_p32, List.forall_mem_cons.mpr ⟨lw_p33, List.forall_mem_cons.mpr ⟨lw_p34, List.forall_mem_cons.mpr ⟨lw_p35, List.forall_mem_cons.mpr ⟨lw_p36, List.forall_mem_cons.mpr ⟨lw_p37, List.forall_mem_cons.mpr ⟨lw_p38, List.forall_mem_cons.mpr ⟨lw_p39, List.forall_mem_cons.mpr ⟨lw_p40, List.forall_mem_cons.mpr ⟨lw_p41, List.forall_mem_cons.mpr ⟨lw_p42, List.forall_mem_cons.mpr ⟨lw_p43, List.forall_mem_cons.mpr ⟨lw_p44, List.forall_mem_cons.mpr ⟨lw_p45, List.forall_mem_cons.mpr ⟨lw_p46, List.forall_mem_cons.mpr ⟨lw_p47, fun _ h => absurd h List.not_mem_nil⟩⟩⟩⟩⟩⟩⟩⟩⟩⟩⟩⟩⟩⟩⟩⟩
theorem lw_p48 : lw_okq (⟨"TwinTrees$Chart", "kindWays", "(IIII)I"⟩, 14) := ⟨⟨by decide +kernel, by decide +kernel⟩, List.mem_of_getElem? (i := 393) (by decide +kernel), List.mem_of_getElem? (i := 1024) (by decide +kernel), List.mem_of_getElem? (i := 1025) (by decide +kernel)⟩
theorem lw_p49 : lw_okq (⟨"TwinTrees$Chart", "ruleWays", "(IIII)I"⟩, 14) := ⟨⟨by decide +kernel, by decide +kernel⟩, List.mem_of_getElem? (i := 393) (by decide +kernel), List.mem_of_getElem? (i := 1028) (by decide +kernel), List.mem_of_getElem? (i := 1029) (by decide +kernel)⟩
theorem lw_p50 : lw_okq (⟨"TwinTrees$Chart", "chained", "(IIII)I"⟩, 14) := ⟨⟨by decide +kernel, by decide +kernel⟩, List.mem_of_getElem? (i := 393) (by decide +kernel), List.mem_of_getElem? (i := 1037) (by decide +kernel), List.mem_of_getElem? (i := 1038) (by decide +kernel)⟩
theorem lw_p51 : lw_okq (⟨"TwinTrees$Chart", "waysOf", "(III)I"⟩, 14) := ⟨⟨by decide +kernel, by decide +kernel⟩, List.mem_of_getElem? (i := 393) (by decide +kernel), List.mem_of_getElem? (i := 1041) (by decide +kernel), List.mem_of_getElem? (i := 1042) (by decide +kernel)⟩
theorem lw_p52 : lw_okq (⟨"TwinTrees$Chart", "learnLinks", "(LTwinTrees$Model;)V"⟩, 14) := ⟨⟨by decide +kernel, by decide +kernel⟩, List.mem_of_getElem? (i := 393) (by decide +kernel), List.mem_of_getElem? (i := 1048) (by decide +kernel), List.mem_of_getElem? (i := 1049) (by decide +kernel)⟩
theorem lw_p53 : lw_okq (⟨"TwinTrees$Chart", "emptyBut", "(LTwinTrees$Model;II)I"⟩, 14) := ⟨⟨by decide +kernel, by decide +kernel⟩, List.mem_of_getElem? (i := 393) (by decide +kernel), List.mem_of_getElem? (i := 1052) (by decide +kernel), List.mem_of_getElem? (i := 1053) (by decide +kernel)⟩
theorem lw_p54 : lw_okq (⟨"TwinTrees$Chart", "learnChain", "(LTwinTrees$Model;II)V"⟩, 14) := ⟨⟨by decide +kernel, by decide +kernel⟩, List.mem_of_getElem? (i := 393) (by decide +kernel), List.mem_of_getElem? (i := 1056) (by decide +kernel), List.mem_of_getElem? (i := 1057) (by decide +kernel)⟩
theorem lw_p55 : lw_okq (⟨"TwinTrees$Chart", "column", "(I)V"⟩, 14) := ⟨⟨by decide +kernel, by decide +kernel⟩, List.mem_of_getElem? (i := 393) (by decide +kernel), List.mem_of_getElem? (i := 1060) (by decide +kernel), List.mem_of_getElem? (i := 1061) (by decide +kernel)⟩
theorem lw_p56 : lw_okq (⟨"TwinTrees$Picker", "push", "(IIIII)V"⟩, 12) := ⟨⟨by decide +kernel, by decide +kernel⟩, List.mem_of_getElem? (i := 448) (by decide +kernel), List.mem_of_getElem? (i := 1072) (by decide +kernel), List.mem_of_getElem? (i := 1073) (by decide +kernel)⟩
theorem lw_p57 : lw_okq (⟨"TwinTrees$Picker", "pop", "()V"⟩, 12) := ⟨⟨by decide +kernel, by decide +kernel⟩, List.mem_of_getElem? (i := 448) (by decide +kernel), List.mem_of_getElem? (i := 1076) (by decide +kernel), List.mem_of_getElem? (i := 1077) (by decide +kernel)⟩
theorem lw_p58 : lw_okq (⟨"TwinTrees$Picker", "pickRule", "()Z"⟩, 12) := ⟨⟨by decide +kernel, by decide +kernel⟩, List.mem_of_getElem? (i := 448) (by decide +kernel), List.mem_of_getElem? (i := 1081) (by decide +kernel), List.mem_of_getElem? (i := 1082) (by decide +kernel)⟩
theorem lw_p59 : lw_okq (⟨"TwinTrees$Picker", "pickParts", "(I)Z"⟩, 12) := ⟨⟨by decide +kernel, by decide +kernel⟩, List.mem_of_getElem? (i := 448) (by decide +kernel), List.mem_of_getElem? (i := 1085) (by decide +kernel), List.mem_of_getElem? (i := 1086) (by decide +kernel)⟩
theorem lw_p60 : lw_okq (⟨"TwinTrees$Picker", "overFor", "(II)I"⟩, 12) := ⟨⟨by decide +kernel, by decide +kernel⟩, List.mem_of_getElem? (i := 448) (by decide +kernel), List.mem_of_getElem? (i := 1092) (by decide +kernel), List.mem_of_getElem? (i := 1093) (by decide +kernel)⟩
theorem lw_p61 : lw_okq (⟨"TwinTrees$Chart", "keepWitness", "(I)I"⟩, 14) := ⟨⟨by decide +kernel, by decide +kernel⟩, List.mem_of_getElem? (i := 393) (by decide +kernel), List.mem_of_getElem? (i := 1108) (by decide +kernel), List.mem_of_getElem? (i := 1109) (by decide +kernel)⟩
theorem lw_p62 : lw_okq (⟨"TwinTrees$Chart", "nextRow", "(I)I"⟩, 14) := ⟨⟨by decide +kernel, by decide +kernel⟩, List.mem_of_getElem? (i := 393) (by decide +kernel), List.mem_of_getElem? (i := 1112) (by decide +kernel), List.mem_of_getElem? (i := 1113) (by decide +kernel)⟩
theorem lw_p63 : lw_okq (⟨"TwinTrees", "tagName", "(J)V"⟩, 19) := ⟨⟨by decide +kernel, by decide +kernel⟩, List.mem_of_getElem? (i := 18) (by decide +kernel), List.mem_of_getElem? (i := 1124) (by decide +kernel), List.mem_of_getElem? (i := 1125) (by decide +kernel)⟩
def lw_privs_4 : List (MethodName × Nat) := [(⟨"TwinTrees$Chart", "kindWays", "(IIII)I"⟩, 14), (⟨"TwinTrees$Chart", "ruleWays", "(IIII)I"⟩, 14), (⟨"TwinTrees$Chart", "chained", "(IIII)I"⟩, 14), (⟨"TwinTrees$Chart", "waysOf", "(III)I"⟩, 14), (⟨"TwinTrees$Chart", "learnLinks", "(LTwinTrees$Model;)V"⟩, 14), (⟨"TwinTrees$Chart", "emptyBut", "(LTwinTrees$Model;II)I"⟩, 14), (⟨"TwinTrees$Chart", "learnChain", "(LTwinTrees$Model;II)V"⟩, 14), (⟨"TwinTrees$Chart", "column", "(I)V"⟩, 14), (⟨"TwinTrees$Picker", "push", "(IIIII)V"⟩, 12), (⟨"TwinTrees$Picker", "pop", "()V"⟩, 12), (⟨"TwinTrees$Picker", "pickRule", "()Z"⟩, 12), (⟨"TwinTrees$Picker", "pickParts", "(I)Z"⟩, 12), (⟨"TwinTrees$Picker", "overFor", "(II)I"⟩, 12), (⟨"TwinTrees$Chart", "keepWitness", "(I)I"⟩, 14), (⟨"TwinTrees$Chart", "nextRow", "(I)I"⟩, 14), (⟨"TwinTrees", "tagName", "(J)V"⟩, 19)]
theorem lw_r4 : ∀ q ∈ lw_privs_4, lw_okq q := List.forall_mem_cons.mpr ⟨lw_p48, List.forall_mem_cons.mpr ⟨lw_p49, List.forall_mem_cons.mpr ⟨lw_p50, List.forall_mem_cons.mpr ⟨lw_p51, List.forall_mem_cons.mpr ⟨lw_p52, List.forall_mem_cons.mpr ⟨lw_p53, List.forall_mem_cons.mpr ⟨lw_p54, List.forall_mem_cons.mpr ⟨lw_p55, List.forall_mem_cons.mpr ⟨lw_p56, List.forall_mem_cons.mpr ⟨lw_p57, List.forall_mem_cons.mpr ⟨lw_p58, List.forall_mem_cons.mpr ⟨lw_p59, List.forall_mem_cons.mpr ⟨lw_p60, List.forall_mem_cons.mpr ⟨lw_p61, List.forall_mem_cons.mpr ⟨lw_p62, List.forall_mem_cons.mpr ⟨lw_p63, fun _ h => absurd h List.not_mem_nil⟩⟩⟩⟩⟩⟩⟩⟩⟩⟩⟩⟩⟩⟩⟩⟩
theorem lw_p64 : lw_okq (⟨"TwinTrees", "tagByte", "(I)V"⟩, 19) := ⟨⟨by decide +kernel, by decide +kernel⟩, List.mem_of_getElem? (i := 18) (by decide +kernel), List.mem_of_getElem? (i := 1128) (by decide +kernel), List.mem_of_getElem? (i := 1129) (by decide +kernel)⟩
theorem lw_p65 : lw_okq (⟨"TwinTrees$Draws", "deed", "(LTwinTrees$Model;)I"⟩, 1) := ⟨⟨by decide +kernel, by decide +kernel⟩, List.mem_of_getElem? (i := 240) (by decide +kernel), List.mem_of_getElem? (i := 1148) (by decide +kernel), List.mem_of_getElem? (i := 1149) (by decide +kernel)⟩
theorem lw_p66 : lw_okq (⟨"TwinTrees$Draws", "draw", "(I)I"⟩, 1) := ⟨⟨by decide +kernel, by decide +kernel⟩, List.mem_of_getElem? (i := 240) (by decide +kernel), List.mem_of_getElem? (i := 1152) (by decide +kernel), List.mem_of_getElem? (i := 1153) (by decide +kernel)⟩
theorem lw_p67 : lw_okq (⟨"TwinTrees$Draws", "addition", "(LTwinTrees$Model;)I"⟩, 1) := ⟨⟨by decide +kernel, by decide +kernel⟩, List.mem_of_getElem? (i := 240) (by decide +kernel), List.mem_of_getElem? (i := 1160) (by decide +kernel), List.mem_of_getElem? (i := 1161) (by decide +kernel)⟩
theorem lw_p68 : lw_okq (⟨"TwinTrees$Draws", "symbol", "(LTwinTrees$Model;)I"⟩, 1) := ⟨⟨by decide +kernel, by decide +kernel⟩, List.mem_of_getElem? (i := 240) (by decide +kernel), List.mem_of_getElem? (i := 1164) (by decide +kernel), List.mem_of_getElem? (i := 1165) (by decide +kernel)⟩
theorem lw_p69 : lw_okq (⟨"TwinTrees$Parser", "bookLine", "(LTwinTrees$Model;LTwinTrees$Book;I)Z"⟩, 5) := ⟨⟨by decide +kernel, by decide +kernel⟩, List.mem_of_getElem? (i := 60) (by decide +kernel), List.mem_of_getElem? (i := 1181) (by decide +kernel), List.mem_of_getElem? (i := 1182) (by decide +kernel)⟩
theorem lw_p70 : lw_okq (⟨"TwinTrees$Parser", "number", "(III)Z"⟩, 5) := ⟨⟨by decide +kernel, by decide +kernel⟩, List.mem_of_getElem? (i := 60) (by decide +kernel), List.mem_of_getElem? (i := 1192) (by decide +kernel), List.mem_of_getElem? (i := 1193) (by decide +kernel)⟩
theorem lw_p71 : lw_okq (⟨"TwinTrees$Book", "live", "(LTwinTrees$Model;I)I"⟩, 8) := ⟨⟨by decide +kernel, by decide +kernel⟩, List.mem_of_getElem? (i := 203) (by decide +kernel), List.mem_of_getElem? (i := 1200) (by decide +kernel), List.mem_of_getElem? (i := 1201) (by decide +kernel)⟩
theorem lw_p72 : lw_okq (⟨"TwinTrees$Parser", "readCond", "(LTwinTrees$Model;I)Z"⟩, 5) := ⟨⟨by decide +kernel, by decide +kernel⟩, List.mem_of_getElem? (i := 60) (by decide +kernel), List.mem_of_getElem? (i := 1225) (by decide +kernel), List.mem_of_getElem? (i := 1226) (by decide +kernel)⟩
theorem lw_p73 : lw_okq (⟨"TwinTrees$Parser", "readOne", "(LTwinTrees$Model;I)Z"⟩, 5) := ⟨⟨by decide +kernel, by decide +kernel⟩, List.mem_of_getElem? (i := 60) (by decide +kernel), List.mem_of_getElem? (i := 1229) (by decide +kernel), List.mem_of_getElem? (i := 1230) (by decide +kernel)⟩
theorem lw_p74 : lw_okq (⟨"TwinTrees$Parser", "beginsOne", "()Z"⟩, 5) := ⟨⟨by decide +kernel, by decide +kernel⟩, List.mem_of_getElem? (i := 60) (by decide +kernel), List.mem_of_getElem? (i := 1233) (by decide +kernel), List.mem_of_getElem? (i := 1234) (by decide +kernel)⟩
theorem lw_p75 : lw_okq (⟨"TwinTrees$Parser", "readPlain", "(LTwinTrees$Model;J)Z"⟩, 5) := ⟨⟨by decide +kernel, by decide +kernel⟩, List.mem_of_getElem? (i := 60) (by decide +kernel), List.mem_of_getElem? (i := 1249) (by decide +kernel), List.mem_of_getElem? (i := 1250) (by decide +kernel)⟩
theorem lw_p76 : lw_okq (⟨"TwinTreesModel", "four", "(I)V"⟩, 92) := ⟨⟨by decide +kernel, by decide +kernel⟩, List.mem_of_getElem? (i := 1296) (by decide +kernel), List.mem_of_getElem? (i := 1294) (by decide +kernel), List.mem_of_getElem? (i := 1295) (by decide +kernel)⟩
theorem lw_p77 : lw_okq (⟨"TwinTreesModel", "taken", "(I)V"⟩, 92) := ⟨⟨by decide +kernel, by decide +kernel⟩, List.mem_of_getElem? (i := 1296) (by decide +kernel), List.mem_of_getElem? (i := 1607) (by decide +kernel), List.mem_of_getElem? (i := 1608) (by decide +kernel)⟩
theorem lw_p78 : lw_okq (⟨"TwinTreesModel", "next", "()V"⟩, 92) := ⟨⟨by decide +kernel, by decide +kernel⟩, List.mem_of_getElem? (i := 1296) (by decide +kernel), List.mem_of_getElem? (i := 1611) (by decide +kernel), List.mem_of_getElem? (i := 1612) (by decide +kernel)⟩
theorem lw_p79 : lw_okq (⟨"TwinTreesModel", "peek", "()I"⟩, 92) := ⟨⟨by decide +kernel, by decide +kernel⟩, List.mem_of_getElem? (i := 1296) (by decide +kernel), List.mem_of_getElem? (i := 1615) (by decide +kernel), List.mem_of_getElem? (i := 1616) (by decide +kernel)⟩
def lw_privs_5 : List (MethodName × Nat) := [(⟨"TwinTrees", "tagByte", "(I)V"⟩, 19), (⟨"TwinTrees$Draws", "deed", "(LTwinTrees$Model;)I"⟩, 1), (⟨"TwinTrees$Draws", "draw", "(I)I"⟩, 1), (⟨"TwinTrees$Draws", "addition", "(LTwinTrees$Model;)I"⟩, 1), (⟨"TwinTrees$Draws", "symbol", "(LTwinTrees$Model;)I"⟩, 1), (⟨"TwinTrees$Parser", "bookLine", "(LTwinTrees$Model;LTwinTrees$Book;I)Z"⟩, 5), (⟨"TwinTrees$Parser", "number", "(III)Z"⟩, 5), (⟨"TwinTrees$Book", "live", "(LTwinTrees$Model;I)I"⟩, 8), (⟨"TwinTrees$Parser", "readCond", "(LTwinTrees$Model;I)Z"⟩, 5), (⟨"TwinTrees$Parser", "readOne", "(LTwinTrees$Model;I)Z"⟩, 5), (⟨"TwinTrees$Parser", "beginsOne", "()Z"⟩, 5), (⟨"TwinTrees$Parser", "readPlain", "(LTwinTrees$Model;J)Z"⟩, 5), (⟨"TwinTreesModel", "four", "(I)V"⟩, 92), (⟨"TwinTreesModel", "taken", "(I)V"⟩, 92), (⟨"TwinTreesModel", "next", "()V"⟩, 92), (⟨"TwinTreesModel", "peek", "()I"⟩, 92)]
theorem lw_r5 : ∀ q ∈ lw_privs_5, lw_okq q := List.forall_mem_cons.mpr ⟨lw_p64, List.forall_mem_cons.mpr ⟨lw_p65, List.forall_mem_cons.mpr ⟨lw_p66, List.forall_mem_cons.mpr ⟨lw_p67, List.forall_mem_cons.mpr ⟨lw_p68, List.forall_mem_cons.mpr ⟨lw_p69, List.forall_mem_cons.mpr ⟨lw_p70, List.forall_mem_cons.mpr ⟨lw_p71, List.forall_mem_cons.mpr ⟨lw_p72, List.forall_mem_cons.mpr ⟨lw_p73, List.forall_mem_cons.mpr ⟨lw_p74, List.forall_mem_cons.mpr ⟨lw_p75, List.forall_mem_cons.mpr ⟨lw_p76, List.forall_mem_cons.mpr ⟨lw_p77, List.forall_mem_cons.mpr ⟨lw_p78, List.forall_mem_cons.mpr ⟨lw_p79, fun _ h => absurd h List.not_mem_nil⟩⟩⟩⟩⟩⟩⟩⟩⟩⟩⟩⟩⟩⟩⟩⟩
theorem lw_p80 : lw_okq (⟨"TwinTreesModel", "readLine", "()Z"⟩, 92) := ⟨⟨by decide +kernel, by decide +kernel⟩, List.mem_of_getElem? (i := 1296) (by decide +kernel), List.mem_of_getElem? (i := 1625) (by decide +kernel), List.mem_of_getElem? (i := 1626) (by decide +kernel)⟩
theorem lw_p81 : lw_okq (⟨"TwinTreesModel", "isWord", "(J)Z"⟩, 92) := ⟨⟨by decide +kernel, by decide +kernel⟩, List.mem_of_getElem? (i := 1296) (by decide +kernel), List.mem_of_getElem? (i := 1629) (by decide +kernel), List.mem_of_getElem? (i := 1630) (by decide +kernel)⟩
theorem lw_p82 : lw_okq (⟨"TwinTreesModel", "readName", "(III)Z"⟩, 92) := ⟨⟨by decide +kernel, by decide +kernel⟩, List.mem_of_getElem? (i := 1296) (by decide +kernel), List.mem_of_getElem? (i := 1633) (by decide +kernel), List.mem_of_getElem? (i := 1634) (by decide +kernel)⟩
theorem lw_p83 : lw_okq (⟨"TwinTreesModel", "bad", "(I)Z"⟩, 92) := ⟨⟨by decide +kernel, by decide +kernel⟩, List.mem_of_getElem? (i := 1296) (by decide +kernel), List.mem_of_getElem? (i := 1637) (by decide +kernel), List.mem_of_getElem? (i := 1638) (by decide +kernel)⟩
theorem lw_p84 : lw_okq (⟨"TwinTreesModel", "isName", "()Z"⟩, 92) := ⟨⟨by decide +kernel, by decide +kernel⟩, List.mem_of_getElem? (i := 1296) (by decide +kernel), List.mem_of_getElem? (i := 1641) (by decide +kernel), List.mem_of_getElem? (i := 1642) (by decide +kernel)⟩
theorem lw_p85 : lw_okq (⟨"TwinTreesModel", "seek", "(II)I"⟩, 92) := ⟨⟨by decide +kernel, by decide +kernel⟩, List.mem_of_getElem? (i := 1296) (by decide +kernel), List.mem_of_getElem? (i := 1645) (by decide +kernel), List.mem_of_getElem? (i := 1646) (by decide +kernel)⟩
theorem lw_p86 : lw_okq (⟨"TwinTreesModel", "readRule", "([IIIII)Z"⟩, 92) := ⟨⟨by decide +kernel, by decide +kernel⟩, List.mem_of_getElem? (i := 1296) (by decide +kernel), List.mem_of_getElem? (i := 1649) (by decide +kernel), List.mem_of_getElem? (i := 1650) (by decide +kernel)⟩
theorem lw_p87 : lw_okq (⟨"TwinTreesModel", "looksAt", "(IIIZ)Z"⟩, 92) := ⟨⟨by decide +kernel, by decide +kernel⟩, List.mem_of_getElem? (i := 1296) (by decide +kernel), List.mem_of_getElem? (i := 1653) (by decide +kernel), List.mem_of_getElem? (i := 1654) (by decide +kernel)⟩
theorem lw_p88 : lw_okq (⟨"TwinTreesModel", "isSign", "(I)Z"⟩, 92) := ⟨⟨by decide +kernel, by decide +kernel⟩, List.mem_of_getElem? (i := 1296) (by decide +kernel), List.mem_of_getElem? (i := 1657) (by decide +kernel), List.mem_of_getElem? (i := 1658) (by decide +kernel)⟩
theorem lw_p89 : lw_okq (⟨"TwinTreesModel", "sign", "(I)Z"⟩, 92) := ⟨⟨by decide +kernel, by decide +kernel⟩, List.mem_of_getElem? (i := 1296) (by decide +kernel), List.mem_of_getElem? (i := 1661) (by decide +kernel), List.mem_of_getElem? (i := 1662) (by decide +kernel)⟩
theorem lw_p90 : lw_okq (⟨"TwinTreesModel", "alone", "()V"⟩, 92) := ⟨⟨by decide +kernel, by decide +kernel⟩, List.mem_of_getElem? (i := 1296) (by decide +kernel), List.mem_of_getElem? (i := 1665) (by decide +kernel), List.mem_of_getElem? (i := 1666) (by decide +kernel)⟩
theorem lw_p91 : lw_okq (⟨"TwinTreesModel", "other", "()V"⟩, 92) := ⟨⟨by decide +kernel, by decide +kernel⟩, List.mem_of_getElem? (i := 1296) (by decide +kernel), List.mem_of_getElem? (i := 1669) (by decide +kernel), List.mem_of_getElem? (i := 1670) (by decide +kernel)⟩
theorem lw_p92 : lw_okq (⟨"TwinTreesModel", "isRule", "(I)Z"⟩, 92) := ⟨⟨by decide +kernel, by decide +kernel⟩, List.mem_of_getElem? (i := 1296) (by decide +kernel), List.mem_of_getElem? (i := 1681) (by decide +kernel), List.mem_of_getElem? (i := 1682) (by decide +kernel)⟩
theorem lw_p93 : lw_okq (⟨"TwinTreesModel", "laysItems", "()V"⟩, 92) := ⟨⟨by decide +kernel, by decide +kernel⟩, List.mem_of_getElem? (i := 1296) (by decide +kernel), List.mem_of_getElem? (i := 1688) (by decide +kernel), List.mem_of_getElem? (i := 1689) (by decide +kernel)⟩
theorem lw_p94 : lw_okq (⟨"TwinTreesModel", "many", "(I)I"⟩, 92) := ⟨⟨by decide +kernel, by decide +kernel⟩, List.mem_of_getElem? (i := 1296) (by decide +kernel), List.mem_of_getElem? (i := 1692) (by decide +kernel), List.mem_of_getElem? (i := 1693) (by decide +kernel)⟩
theorem lw_p95 : lw_okq (⟨"TwinTreesModel", "symbol", "(II)I"⟩, 92) := ⟨⟨by decide +kernel, by decide +kernel⟩, List.mem_of_getElem? (i := 1296) (by decide +kernel), List.mem_of_getElem? (i := 1696) (by decide +kernel), List.mem_of_getElem? (i := 1697) (by decide +kernel)⟩
def lw_privs_6 : List (MethodName × Nat) := [(⟨"TwinTreesModel", "readLine", "()Z"⟩, 92), (⟨"TwinTreesModel", "isWord", "(J)Z"⟩, 92), (⟨"TwinTreesModel", "readName", "(III)Z"⟩, 92), (⟨"TwinTreesModel", "bad", "(I)Z"⟩, 92), (⟨"TwinTreesModel", "isName", "()Z"⟩, 92), (⟨"TwinTreesModel", "seek", "(II)I"⟩, 92), (⟨"TwinTreesModel", "readRule", "([IIIII)Z"⟩, 92), (⟨"TwinTreesModel", "looksAt", "(IIIZ)Z"⟩, 92), (⟨"TwinTreesModel", "isSign", "(I)Z"⟩, 92), (⟨"TwinTreesModel", "sign", "(I)Z"⟩, 92), (⟨"TwinTreesModel", "alone", "()V"⟩, 92), (⟨"TwinTreesModel", "other", "()V"⟩, 92), (⟨"TwinTreesModel", "isRule", "(I)Z"⟩, 92), (⟨"TwinTreesModel", "laysItems", "()V"⟩, 92), (⟨"TwinTreesModel", "many", "(I)I"⟩, 92), (⟨"TwinTreesModel", "symbol", "(II)I"⟩, 92)]
theorem lw_r6 : ∀ q ∈ lw_privs_6, lw_okq q := List.forall_mem_cons.mpr ⟨lw_p80, List.forall_mem_cons.mpr ⟨lw_p81, List.forall_mem_cons.mpr ⟨lw_p82, List.forall_mem_cons.mpr ⟨lw_p83, List.forall_mem_cons.mpr ⟨lw_p84, List.forall_mem_cons.mpr ⟨lw_p85, List.forall_mem_cons.mpr ⟨lw_p86, List.forall_mem_cons.mpr ⟨lw_p87, List.forall_mem_cons.mpr ⟨lw_p88, List.forall_mem_cons.mpr ⟨lw_p89, List.forall_mem_cons.mpr ⟨lw_p90, List.forall_mem_cons.mpr ⟨lw_p91, List.forall_mem_cons.mpr ⟨lw_p92, List.forall_mem_cons.mpr ⟨lw_p93, List.forall_mem_cons.mpr ⟨lw_p94, List.forall_mem_cons.mpr ⟨lw_p95, fun _ h => absurd h List.not_mem_nil⟩⟩⟩⟩⟩⟩⟩⟩⟩⟩⟩⟩⟩⟩⟩⟩
theorem lw_p96 : lw_okq (⟨"TwinTreesModel", "isItem", "(I)Z"⟩, 92) := ⟨⟨by decide +kernel, by decide +kernel⟩, List.mem_of_getElem? (i := 1296) (by decide +kernel), List.mem_of_getElem? (i := 1704) (by decide +kernel), List.mem_of_getElem? (i := 1705) (by decide +kernel)⟩
theorem lw_p97 : lw_okq (⟨"TwinTreesModel", "inClass", "(I)I"⟩, 92) := ⟨⟨by decide +kernel, by decide +kernel⟩, List.mem_of_getElem? (i := 1296) (by decide +kernel), List.mem_of_getElem? (i := 1708) (by decide +kernel), List.mem_of_getElem? (i := 1709) (by decide +kernel)⟩
theorem lw_p98 : lw_okq (⟨"TwinTreesModel", "isKind", "(I)Z"⟩, 92) := ⟨⟨by decide +kernel, by decide +kernel⟩, List.mem_of_getElem? (i := 1296) (by decide +kernel), List.mem_of_getElem? (i := 1716) (by decide +kernel), List.mem_of_getElem? (i := 1717) (by decide +kernel)⟩
theorem lw_p99 : lw_okq (⟨"TwinTreesModel", "rulesOf", "(I)I"⟩, 92) := ⟨⟨by decide +kernel, by decide +kernel⟩, List.mem_of_getElem? (i := 1296) (by decide +kernel), List.mem_of_getElem? (i := 1720) (by decide +kernel), List.mem_of_getElem? (i := 1721) (by decide +kernel)⟩
theorem lw_p100 : lw_okq (⟨"TwinTreesModel", "kindOf", "(I)I"⟩, 92) := ⟨⟨by decide +kernel, by decide +kernel⟩, List.mem_of_getElem? (i := 1296) (by decide +kernel), List.mem_of_getElem? (i := 1724) (by decide +kernel), List.mem_of_getElem? (i := 1725) (by decide +kernel)⟩
theorem lw_p101 : lw_okq (⟨"TwinTreesModel", "laysEmpties", "()V"⟩, 92) := ⟨⟨by decide +kernel, by decide +kernel⟩, List.mem_of_getElem? (i := 1296) (by decide +kernel), List.mem_of_getElem? (i := 1728) (by decide +kernel), List.mem_of_getElem? (i := 1729) (by decide +kernel)⟩
theorem lw_p102 : lw_okq (⟨"TwinTreesModel", "isAll", "(IIIZ)Z"⟩, 92) := ⟨⟨by decide +kernel, by decide +kernel⟩, List.mem_of_getElem? (i := 1296) (by decide +kernel), List.mem_of_getElem? (i := 1732) (by decide +kernel), List.mem_of_getElem? (i := 1733) (by decide +kernel)⟩
theorem lw_p103 : lw_okq (⟨"TwinTreesModel", "laysBegins", "()V"⟩, 92) := ⟨⟨by decide +kernel, by decide +kernel⟩, List.mem_of_getElem? (i := 1296) (by decide +kernel), List.mem_of_getElem? (i := 1739) (by decide +kernel), List.mem_of_getElem? (i := 1740) (by decide +kernel)⟩
theorem lw_p104 : lw_okq (⟨"TwinTreesModel", "beginOf", "(I)I"⟩, 92) := ⟨⟨by decide +kernel, by decide +kernel⟩, List.mem_of_getElem? (i := 1296) (by decide +kernel), List.mem_of_getElem? (i := 1743) (by decide +kernel), List.mem_of_getElem? (i := 1744) (by decide +kernel)⟩
theorem lw_p105 : lw_okq (⟨"TwinTreesModel", "laysFollows", "()V"⟩, 92) := ⟨⟨by decide +kernel, by decide +kernel⟩, List.mem_of_getElem? (i := 1296) (by decide +kernel), List.mem_of_getElem? (i := 1747) (by decide +kernel), List.mem_of_getElem? (i := 1748) (by decide +kernel)⟩
theorem lw_p106 : lw_okq (⟨"TwinTreesModel", "isEndless", "(I)Z"⟩, 92) := ⟨⟨by decide +kernel, by decide +kernel⟩, List.mem_of_getElem? (i := 1296) (by decide +kernel), List.mem_of_getElem? (i := 1751) (by decide +kernel), List.mem_of_getElem? (i := 1752) (by decide +kernel)⟩
theorem lw_p107 : lw_okq (⟨"TwinTreesModel", "isUsed", "(I)Z"⟩, 92) := ⟨⟨by decide +kernel, by decide +kernel⟩, List.mem_of_getElem? (i := 1296) (by decide +kernel), List.mem_of_getElem? (i := 1755) (by decide +kernel), List.mem_of_getElem? (i := 1756) (by decide +kernel)⟩
theorem lw_p108 : lw_okq (⟨"TwinTreesModel", "isPlace", "(I)Z"⟩, 92) := ⟨⟨by decide +kernel, by decide +kernel⟩, List.mem_of_getElem? (i := 1296) (by decide +kernel), List.mem_of_getElem? (i := 1763) (by decide +kernel), List.mem_of_getElem? (i := 1764) (by decide +kernel)⟩
theorem lw_p109 : lw_okq (⟨"TwinTreesModel", "laysPlaces", "()Z"⟩, 92) := ⟨⟨by decide +kernel, by decide +kernel⟩, List.mem_of_getElem? (i := 1296) (by decide +kernel), List.mem_of_getElem? (i := 1767) (by decide +kernel), List.mem_of_getElem? (i := 1768) (by decide +kernel)⟩
theorem lw_p110 : lw_okq (⟨"TwinTreesModel", "newPlace", "(II)Z"⟩, 92) := ⟨⟨by decide +kernel, by decide +kernel⟩, List.mem_of_getElem? (i := 1296) (by decide +kernel), List.mem_of_getElem? (i := 1771) (by decide +kernel), List.mem_of_getElem? (i := 1772) (by decide +kernel)⟩
theorem lw_p111 : lw_okq (⟨"TwinTreesModel", "isPair", "(II)Z"⟩, 92) := ⟨⟨by decide +kernel, by decide +kernel⟩, List.mem_of_getElem? (i := 1296) (by decide +kernel), List.mem_of_getElem? (i := 1775) (by decide +kernel), List.mem_of_getElem? (i := 1776) (by decide +kernel)⟩
def lw_privs_7 : List (MethodName × Nat) := [(⟨"TwinTreesModel", "isItem", "(I)Z"⟩, 92), (⟨"TwinTreesModel", "inClass", "(I)I"⟩, 92), (⟨"TwinTreesModel", "isKind", "(I)Z"⟩, 92), (⟨"TwinTreesModel", "rulesOf", "(I)I"⟩, 92), (⟨"TwinTreesModel", "kindOf", "(I)I"⟩, 92), (⟨"TwinTreesModel", "laysEmpties", "()V"⟩, 92), (⟨"TwinTreesModel", "isAll", "(IIIZ)Z"⟩, 92), (⟨"TwinTreesModel", "laysBegins", "()V"⟩, 92), (⟨"TwinTreesModel", "beginOf", "(I)I"⟩, 92), (⟨"TwinTreesModel", "laysFollows", "()V"⟩, 92), (⟨"TwinTreesModel", "isEndless", "(I)Z"⟩, 92), (⟨"TwinTreesModel", "isUsed", "(I)Z"⟩, 92), (⟨"TwinTreesModel", "isPlace", "(I)Z"⟩, 92), (⟨"TwinTreesModel", "laysPlaces", "()Z"⟩, 92), (⟨"TwinTreesModel", "newPlace", "(II)Z"⟩, 92), (⟨"TwinTreesModel", "isPair", "(II)Z"⟩, 92)]
theorem lw_r7 : ∀ q ∈ lw_privs_7, lw_okq q := List.forall_mem_cons.mpr ⟨lw_p96, List.forall_mem_cons.mpr ⟨lw_p97, List.forall_mem_cons.mpr ⟨lw_p98, List.forall_mem_cons.mpr ⟨lw_p99, List.forall_mem_cons.mpr ⟨lw_p100, List.forall_mem_cons.mpr ⟨lw_p101, List.forall_mem_cons.mpr ⟨lw_p102, List.forall_mem_cons.mpr ⟨lw_p103, List.forall_mem_cons.mpr ⟨lw_p104, List.forall_mem_cons.mpr ⟨lw_p105, List.forall_mem_cons.mpr ⟨lw_p106, List.forall_mem_cons.mpr ⟨lw_p107, List.forall_mem_cons.mpr ⟨lw_p108, List.forall_mem_cons.mpr ⟨lw_p109, List.forall_mem_cons.mpr ⟨lw_p110, List.forall_mem_cons.mpr ⟨lw_p111, fun _ h => absurd h List.not_mem_nil⟩⟩⟩⟩⟩⟩⟩⟩⟩⟩⟩⟩⟩⟩⟩⟩
theorem lw_p112 : lw_okq (⟨"TwinTreesModel", "isFrom", "(II)Z"⟩, 92) := ⟨⟨by decide +kernel, by decide +kernel⟩, List.mem_of_getElem? (i := 1296) (by decide +kernel), List.mem_of_getElem? (i := 1779) (by decide +kernel), List.mem_of_getElem? (i := 1780) (by decide +kernel)⟩
theorem lw_p113 : lw_okq (⟨"TwinTreesModel", "laysSteps", "(I)V"⟩, 92) := ⟨⟨by decide +kernel, by decide +kernel⟩, List.mem_of_getElem? (i := 1296) (by decide +kernel), List.mem_of_getElem? (i := 1783) (by decide +kernel), List.mem_of_getElem? (i := 1784) (by decide +kernel)⟩
theorem lw_p114 : lw_okq (⟨"TwinTreesModel", "stepsOf", "(II)V"⟩, 92) := ⟨⟨by decide +kernel, by decide +kernel⟩, List.mem_of_getElem? (i := 1296) (by decide +kernel), List.mem_of_getElem? (i := 1787) (by decide +kernel), List.mem_of_getElem? (i := 1788) (by decide +kernel)⟩
theorem lw_p115 : lw_okq (⟨"TwinTreesModel", "atItem", "(II)I"⟩, 92) := ⟨⟨by decide +kernel, by decide +kernel⟩, List.mem_of_getElem? (i := 1296) (by decide +kernel), List.mem_of_getElem? (i := 1791) (by decide +kernel), List.mem_of_getElem? (i := 1792) (by decide +kernel)⟩
theorem lw_p116 : lw_okq (⟨"TwinTreesModel", "closes", "(II)V"⟩, 92) := ⟨⟨by decide +kernel, by decide +kernel⟩, List.mem_of_getElem? (i := 1296) (by decide +kernel), List.mem_of_getElem? (i := 1795) (by decide +kernel), List.mem_of_getElem? (i := 1796) (by decide +kernel)⟩
theorem lw_p117 : lw_okq (⟨"TwinTreesModel", "behind", "(I)I"⟩, 92) := ⟨⟨by decide +kernel, by decide +kernel⟩, List.mem_of_getElem? (i := 1296) (by decide +kernel), List.mem_of_getElem? (i := 1799) (by decide +kernel), List.mem_of_getElem? (i := 1800) (by decide +kernel)⟩
theorem lw_p118 : lw_okq (⟨"TwinTreesModel", "comers", "(I)I"⟩, 92) := ⟨⟨by decide +kernel, by decide +kernel⟩, List.mem_of_getElem? (i := 1296) (by decide +kernel), List.mem_of_getElem? (i := 1803) (by decide +kernel), List.mem_of_getElem? (i := 1804) (by decide +kernel)⟩
theorem lw_p119 : lw_okq (⟨"TwinTreesModel", "laysTwins", "()Z"⟩, 92) := ⟨⟨by decide +kernel, by decide +kernel⟩, List.mem_of_getElem? (i := 1296) (by decide +kernel), List.mem_of_getElem? (i := 1815) (by decide +kernel), List.mem_of_getElem? (i := 1816) (by decide +kernel)⟩
theorem lw_p120 : lw_okq (⟨"TwinTreesModel", "goesOn", "(I)V"⟩, 92) := ⟨⟨by decide +kernel, by decide +kernel⟩, List.mem_of_getElem? (i := 1296) (by decide +kernel), List.mem_of_getElem? (i := 1820) (by decide +kernel), List.mem_of_getElem? (i := 1821) (by decide +kernel)⟩
theorem lw_p121 : lw_okq (⟨"TwinTreesModel", "together", "(III)V"⟩, 92) := ⟨⟨by decide +kernel, by decide +kernel⟩, List.mem_of_getElem? (i := 1296) (by decide +kernel), List.mem_of_getElem? (i := 1824) (by decide +kernel), List.mem_of_getElem? (i := 1825) (by decide +kernel)⟩
theorem lw_p122 : lw_okq (⟨"TwinTreesModel", "comes", "(IIIZ)V"⟩, 92) := ⟨⟨by decide +kernel, by decide +kernel⟩, List.mem_of_getElem? (i := 1296) (by decide +kernel), List.mem_of_getElem? (i := 1828) (by decide +kernel), List.mem_of_getElem? (i := 1829) (by decide +kernel)⟩
theorem lw_p123 : lw_okq (⟨"TwinTreesModel", "hasSign", "(I)Z"⟩, 92) := ⟨⟨by decide +kernel, by decide +kernel⟩, List.mem_of_getElem? (i := 1296) (by decide +kernel), List.mem_of_getElem? (i := 1832) (by decide +kernel), List.mem_of_getElem? (i := 1833) (by decide +kernel)⟩
theorem lw_p124 : lw_okq (⟨"TwinTreesModel", "isProven", "()Z"⟩, 92) := ⟨⟨by decide +kernel, by decide +kernel⟩, List.mem_of_getElem? (i := 1296) (by decide +kernel), List.mem_of_getElem? (i := 1852) (by decide +kernel), List.mem_of_getElem? (i := 1853) (by decide +kernel)⟩
theorem lw_p125 : lw_okq (⟨"TwinTreesModel", "mayMerge", "(II)Z"⟩, 92) := ⟨⟨by decide +kernel, by decide +kernel⟩, List.mem_of_getElem? (i := 1296) (by decide +kernel), List.mem_of_getElem? (i := 1864) (by decide +kernel), List.mem_of_getElem? (i := 1865) (by decide +kernel)⟩
theorem lw_p126 : lw_okq (⟨"TwinTreesModel", "keeps", "()V"⟩, 92) := ⟨⟨by decide +kernel, by decide +kernel⟩, List.mem_of_getElem? (i := 1296) (by decide +kernel), List.mem_of_getElem? (i := 1868) (by decide +kernel), List.mem_of_getElem? (i := 1869) (by decide +kernel)⟩
theorem lw_p127 : lw_okq (⟨"TwinTreesModel", "copies", "([I)V"⟩, 92) := ⟨⟨by decide +kernel, by decide +kernel⟩, List.mem_of_getElem? (i := 1296) (by decide +kernel), List.mem_of_getElem? (i := 1872) (by decide +kernel), List.mem_of_getElem? (i := 1873) (by decide +kernel)⟩
def lw_privs_8 : List (MethodName × Nat) := [(⟨"TwinTreesModel", "isFrom", "(II)Z"⟩, 92), (⟨"TwinTreesModel", "laysSteps", "(I)V"⟩, 92), (⟨"TwinTreesModel", "stepsOf", "(II)V"⟩, 92), (⟨"TwinTreesModel", "atItem", "(II)I"⟩, 92), (⟨"TwinTreesModel", "closes", "(II)V"⟩, 92), (⟨"TwinTreesModel", "behind", "(I)I"⟩, 92), (⟨"TwinTreesModel", "comers", "(I)I"⟩, 92), (⟨"TwinTreesModel", "laysTwins", "()Z"⟩, 92), (⟨"TwinTreesModel", "goesOn", "(I)V"⟩, 92), (⟨"TwinTreesModel", "together", "(III)V"⟩, 92), (⟨"TwinTreesModel", "comes", "(IIIZ)V"⟩, 92), (⟨"TwinTreesModel", "hasSign", "(I)Z"⟩, 92), (⟨"TwinTreesModel", "isProven", "()Z"⟩, 92), (⟨"TwinTreesModel", "mayMerge", "(II)Z"⟩, 92), (⟨"TwinTreesModel", "keeps", "()V"⟩, 92), (⟨"TwinTreesModel", "copies", "([I)V"⟩, 92)]
theorem lw_r8 : ∀ q ∈ lw_privs_8, lw_okq q := List.forall_mem_cons.mpr ⟨lw_p112, List.forall_mem_cons.mpr ⟨lw_p113, List.forall_mem_cons.mpr ⟨lw_p114, List.forall_mem_cons.mpr ⟨lw_p115, List.forall_mem_cons.mpr ⟨lw_p116, List.forall_mem_cons.mpr ⟨lw_p117, List.forall_mem_cons.mpr ⟨lw_p118, List.forall_mem_cons.mpr ⟨lw_p119, List.forall_mem_cons.mpr ⟨lw_p120, List.forall_mem_cons.mpr ⟨lw_p121, List.forall_mem_cons.mpr ⟨lw_p122, List.forall_mem_cons.mpr ⟨lw_p123, List.forall_mem_cons.mpr ⟨lw_p124, List.forall_mem_cons.mpr ⟨lw_p125, List.forall_mem_cons.mpr ⟨lw_p126, List.forall_mem_cons.mpr ⟨lw_p127, fun _ h => absurd h List.not_mem_nil⟩⟩⟩⟩⟩⟩⟩⟩⟩⟩⟩⟩⟩⟩⟩⟩
theorem lw_p128 : lw_okq (⟨"TwinTreesModel", "stores", "([I)V"⟩, 92) := ⟨⟨by decide +kernel, by decide +kernel⟩, List.mem_of_getElem? (i := 1296) (by decide +kernel), List.mem_of_getElem? (i := 1876) (by decide +kernel), List.mem_of_getElem? (i := 1877) (by decide +kernel)⟩
theorem lw_p129 : lw_okq (⟨"TwinTreesModel", "merges", "(II)I"⟩, 92) := ⟨⟨by decide +kernel, by decide +kernel⟩, List.mem_of_getElem? (i := 1296) (by decide +kernel), List.mem_of_getElem? (i := 1880) (by decide +kernel), List.mem_of_getElem? (i := 1881) (by decide +kernel)⟩
theorem lw_p130 : lw_okq (⟨"TwinTreesModel", "depths", "(I)I"⟩, 92) := ⟨⟨by decide +kernel, by decide +kernel⟩, List.mem_of_getElem? (i := 1296) (by decide +kernel), List.mem_of_getElem? (i := 1888) (by decide +kernel), List.mem_of_getElem? (i := 1889) (by decide +kernel)⟩
theorem lw_p131 : lw_okq (⟨"TwinTreesModel", "drops", "(I)V"⟩, 92) := ⟨⟨by decide +kernel, by decide +kernel⟩, List.mem_of_getElem? (i := 1296) (by decide +kernel), List.mem_of_getElem? (i := 1896) (by decide +kernel), List.mem_of_getElem? (i := 1897) (by decide +kernel)⟩
theorem lw_p132 : lw_okq (⟨"TwinTreesModel", "adds", "([II)I"⟩, 92) := ⟨⟨by decide +kernel, by decide +kernel⟩, List.mem_of_getElem? (i := 1296) (by decide +kernel), List.mem_of_getElem? (i := 1904) (by decide +kernel), List.mem_of_getElem? (i := 1905) (by decide +kernel)⟩
theorem lw_p133 : lw_okq (⟨"TwinTreesModel", "brings", "([II)V"⟩, 92) := ⟨⟨by decide +kernel, by decide +kernel⟩, List.mem_of_getElem? (i := 1296) (by decide +kernel), List.mem_of_getElem? (i := 1912) (by decide +kernel), List.mem_of_getElem? (i := 1913) (by decide +kernel)⟩
theorem lw_p134 : lw_okq (⟨"TwinTreesModel", "laysRow", "()V"⟩, 92) := ⟨⟨by decide +kernel, by decide +kernel⟩, List.mem_of_getElem? (i := 1296) (by decide +kernel), List.mem_of_getElem? (i := 1920) (by decide +kernel), List.mem_of_getElem? (i := 1921) (by decide +kernel)⟩
theorem lw_p135 : lw_okq (⟨"TwinTreesModel", "laysCounts", "()V"⟩, 92) := ⟨⟨by decide +kernel, by decide +kernel⟩, List.mem_of_getElem? (i := 1296) (by decide +kernel), List.mem_of_getElem? (i := 1924) (by decide +kernel), List.mem_of_getElem? (i := 1925) (by decide +kernel)⟩
theorem lw_p136 : lw_okq (⟨"TwinTreesModel", "isFull", "(II)Z"⟩, 92) := ⟨⟨by decide +kernel, by decide +kernel⟩, List.mem_of_getElem? (i := 1296) (by decide +kernel), List.mem_of_getElem? (i := 1928) (by decide +kernel), List.mem_of_getElem? (i := 1929) (by decide +kernel)⟩
theorem lw_p137 : lw_okq (⟨"TwinTreesModel", "nothings", "(II)I"⟩, 92) := ⟨⟨by decide +kernel, by decide +kernel⟩, List.mem_of_getElem? (i := 1296) (by decide +kernel), List.mem_of_getElem? (i := 1932) (by decide +kernel), List.mem_of_getElem? (i := 1933) (by decide +kernel)⟩
theorem lw_p138 : lw_okq (⟨"TwinTreesModel", "others", "(III)I"⟩, 92) := ⟨⟨by decide +kernel, by decide +kernel⟩, List.mem_of_getElem? (i := 1296) (by decide +kernel), List.mem_of_getElem? (i := 1936) (by decide +kernel), List.mem_of_getElem? (i := 1937) (by decide +kernel)⟩
theorem lw_p139 : lw_okq (⟨"TwinTreesModel", "chains", "(III)I"⟩, 92) := ⟨⟨by decide +kernel, by decide +kernel⟩, List.mem_of_getElem? (i := 1296) (by decide +kernel), List.mem_of_getElem? (i := 1944) (by decide +kernel), List.mem_of_getElem? (i := 1945) (by decide +kernel)⟩
theorem lw_p140 : lw_okq (⟨"TwinTreesModel", "laysEnd", "([II)V"⟩, 92) := ⟨⟨by decide +kernel, by decide +kernel⟩, List.mem_of_getElem? (i := 1296) (by decide +kernel), List.mem_of_getElem? (i := 1948) (by decide +kernel), List.mem_of_getElem? (i := 1949) (by decide +kernel)⟩
theorem lw_p141 : lw_okq (⟨"TwinTreesModel", "ways", "([IIIII)I"⟩, 92) := ⟨⟨by decide +kernel, by decide +kernel⟩, List.mem_of_getElem? (i := 1296) (by decide +kernel), List.mem_of_getElem? (i := 1952) (by decide +kernel), List.mem_of_getElem? (i := 1953) (by decide +kernel)⟩
theorem lw_p142 : lw_okq (⟨"TwinTreesModel", "symbolOn", "([IIIIIII)I"⟩, 92) := ⟨⟨by decide +kernel, by decide +kernel⟩, List.mem_of_getElem? (i := 1296) (by decide +kernel), List.mem_of_getElem? (i := 1956) (by decide +kernel), List.mem_of_getElem? (i := 1957) (by decide +kernel)⟩
theorem lw_p143 : lw_okq (⟨"TwinTreesModel", "treesOf", "(IIII)I"⟩, 92) := ⟨⟨by decide +kernel, by decide +kernel⟩, List.mem_of_getElem? (i := 1296) (by decide +kernel), List.mem_of_getElem? (i := 1960) (by decide +kernel), List.mem_of_getElem? (i := 1961) (by decide +kernel)⟩
def lw_privs_9 : List (MethodName × Nat) := [(⟨"TwinTreesModel", "stores", "([I)V"⟩, 92), (⟨"TwinTreesModel", "merges", "(II)I"⟩, 92), (⟨"TwinTreesModel", "depths", "(I)I"⟩, 92), (⟨"TwinTreesModel", "drops", "(I)V"⟩, 92), (⟨"TwinTreesModel", "adds", "([II)I"⟩, 92), (⟨"TwinTreesModel", "brings", "([II)V"⟩, 92), (⟨"TwinTreesModel", "laysRow", "()V"⟩, 92), (⟨"TwinTreesModel", "laysCounts", "()V"⟩, 92), (⟨"TwinTreesModel", "isFull", "(II)Z"⟩, 92), (⟨"TwinTreesModel", "nothings", "(II)I"⟩, 92), (⟨"TwinTreesModel", "others", "(III)I"⟩, 92), (⟨"TwinTreesModel", "chains", "(III)I"⟩, 92), (⟨"TwinTreesModel", "laysEnd", "([II)V"⟩, 92), (⟨"TwinTreesModel", "ways", "([IIIII)I"⟩, 92), (⟨"TwinTreesModel", "symbolOn", "([IIIIIII)I"⟩, 92), (⟨"TwinTreesModel", "treesOf", "(IIII)I"⟩, 92)]
theorem lw_r9 : ∀ q ∈ lw_privs_9, lw_okq q := List.forall_mem_cons.mpr ⟨lw_p128, List.forall_mem_cons.mpr ⟨lw_p129, List.forall_mem_cons.mpr ⟨lw_p130, List.forall_mem_cons.mpr ⟨lw_p131, List.forall_mem_cons.mpr ⟨lw_p132, List.forall_mem_cons.mpr ⟨lw_p133, List.forall_mem_cons.mpr ⟨lw_p134, List.forall_mem_cons.mpr ⟨lw_p135, List.forall_mem_cons.mpr ⟨lw_p136, List.forall_mem_cons.mpr ⟨lw_p137, List.forall_mem_cons.mpr ⟨lw_p138, List.forall_mem_cons.mpr ⟨lw_p139, List.forall_mem_cons.mpr ⟨lw_p140, List.forall_mem_cons.mpr ⟨lw_p141, List.forall_mem_cons.mpr ⟨lw_p142, List.forall_mem_cons.mpr ⟨lw_p143, fun _ h => absurd h List.not_mem_nil⟩⟩⟩⟩⟩⟩⟩⟩⟩⟩⟩⟩⟩⟩⟩⟩
theorem lw_p144 : lw_okq (⟨"TwinTreesModel", "piles", "(IIIII)V"⟩, 92) := ⟨⟨by decide +kernel, by decide +kernel⟩, List.mem_of_getElem? (i := 1296) (by decide +kernel), List.mem_of_getElem? (i := 1968) (by decide +kernel), List.mem_of_getElem? (i := 1969) (by decide +kernel)⟩
theorem lw_p145 : lw_okq (⟨"TwinTreesModel", "tells", "(IIIII)I"⟩, 92) := ⟨⟨by decide +kernel, by decide +kernel⟩, List.mem_of_getElem? (i := 1296) (by decide +kernel), List.mem_of_getElem? (i := 1972) (by decide +kernel), List.mem_of_getElem? (i := 1973) (by decide +kernel)⟩
theorem lw_p146 : lw_okq (⟨"TwinTreesModel", "ahead", "(IIIII)I"⟩, 92) := ⟨⟨by decide +kernel, by decide +kernel⟩, List.mem_of_getElem? (i := 1296) (by decide +kernel), List.mem_of_getElem? (i := 1976) (by decide +kernel), List.mem_of_getElem? (i := 1977) (by decide +kernel)⟩
theorem lw_p147 : lw_okq (⟨"TwinTreesModel", "seeksOf", "(I)Z"⟩, 92) := ⟨⟨by decide +kernel, by decide +kernel⟩, List.mem_of_getElem? (i := 1296) (by decide +kernel), List.mem_of_getElem? (i := 1988) (by decide +kernel), List.mem_of_getElem? (i := 1989) (by decide +kernel)⟩
theorem lw_p148 : lw_okq (⟨"TwinTreesModel", "spells", "(J)V"⟩, 92) := ⟨⟨by decide +kernel, by decide +kernel⟩, List.mem_of_getElem? (i := 1296) (by decide +kernel), List.mem_of_getElem? (i := 2000) (by decide +kernel), List.mem_of_getElem? (i := 2001) (by decide +kernel)⟩
theorem lw_p149 : lw_okq (⟨"TwinTreesModel", "lays", "(I)V"⟩, 92) := ⟨⟨by decide +kernel, by decide +kernel⟩, List.mem_of_getElem? (i := 1296) (by decide +kernel), List.mem_of_getElem? (i := 2005) (by decide +kernel), List.mem_of_getElem? (i := 2006) (by decide +kernel)⟩
theorem lw_p150 : lw_okq (⟨"TwinTreesModel", "spellsBlank", "(J)V"⟩, 92) := ⟨⟨by decide +kernel, by decide +kernel⟩, List.mem_of_getElem? (i := 1296) (by decide +kernel), List.mem_of_getElem? (i := 2010) (by decide +kernel), List.mem_of_getElem? (i := 2011) (by decide +kernel)⟩
theorem lw_p151 : lw_okq (⟨"TwinTreesModel", "drawDeed", "()Z"⟩, 92) := ⟨⟨by decide +kernel, by decide +kernel⟩, List.mem_of_getElem? (i := 1296) (by decide +kernel), List.mem_of_getElem? (i := 2023) (by decide +kernel), List.mem_of_getElem? (i := 2024) (by decide +kernel)⟩
theorem lw_p152 : lw_okq (⟨"TwinTreesModel", "draw", "(I)I"⟩, 92) := ⟨⟨by decide +kernel, by decide +kernel⟩, List.mem_of_getElem? (i := 1296) (by decide +kernel), List.mem_of_getElem? (i := 2027) (by decide +kernel), List.mem_of_getElem? (i := 2028) (by decide +kernel)⟩
theorem lw_p153 : lw_okq (⟨"TwinTreesModel", "drawsMerge", "()Z"⟩, 92) := ⟨⟨by decide +kernel, by decide +kernel⟩, List.mem_of_getElem? (i := 1296) (by decide +kernel), List.mem_of_getElem? (i := 2032) (by decide +kernel), List.mem_of_getElem? (i := 2033) (by decide +kernel)⟩
theorem lw_p154 : lw_okq (⟨"TwinTreesModel", "drawsRule", "()Z"⟩, 92) := ⟨⟨by decide +kernel, by decide +kernel⟩, List.mem_of_getElem? (i := 1296) (by decide +kernel), List.mem_of_getElem? (i := 2036) (by decide +kernel), List.mem_of_getElem? (i := 2037) (by decide +kernel)⟩
theorem lw_p155 : lw_okq (⟨"TwinTreesModel", "bookLine", "()Z"⟩, 92) := ⟨⟨by decide +kernel, by decide +kernel⟩, List.mem_of_getElem? (i := 1296) (by decide +kernel), List.mem_of_getElem? (i := 2048) (by decide +kernel), List.mem_of_getElem? (i := 2049) (by decide +kernel)⟩
theorem lw_p156 : lw_okq (⟨"TwinTreesModel", "takesTwo", "(IIIZ)Z"⟩, 92) := ⟨⟨by decide +kernel, by decide +kernel⟩, List.mem_of_getElem? (i := 1296) (by decide +kernel), List.mem_of_getElem? (i := 2052) (by decide +kernel), List.mem_of_getElem? (i := 2053) (by decide +kernel)⟩
theorem lw_p157 : lw_okq (⟨"TwinTreesModel", "takes", "(II)Z"⟩, 92) := ⟨⟨by decide +kernel, by decide +kernel⟩, List.mem_of_getElem? (i := 1296) (by decide +kernel), List.mem_of_getElem? (i := 2056) (by decide +kernel), List.mem_of_getElem? (i := 2057) (by decide +kernel)⟩
theorem lw_p158 : lw_okq (⟨"TwinTreesModel", "does", "(I)I"⟩, 92) := ⟨⟨by decide +kernel, by decide +kernel⟩, List.mem_of_getElem? (i := 1296) (by decide +kernel), List.mem_of_getElem? (i := 2060) (by decide +kernel), List.mem_of_getElem? (i := 2061) (by decide +kernel)⟩
theorem lw_p159 : lw_okq (⟨"TwinTreesModel", "classes", "()I"⟩, 92) := ⟨⟨by decide +kernel, by decide +kernel⟩, List.mem_of_getElem? (i := 1296) (by decide +kernel), List.mem_of_getElem? (i := 2064) (by decide +kernel), List.mem_of_getElem? (i := 2065) (by decide +kernel)⟩
def lw_privs_10 : List (MethodName × Nat) := [(⟨"TwinTreesModel", "piles", "(IIIII)V"⟩, 92), (⟨"TwinTreesModel", "tells", "(IIIII)I"⟩, 92), (⟨"TwinTreesModel", "ahead", "(IIIII)I"⟩, 92), (⟨"TwinTreesModel", "seeksOf", "(I)Z"⟩, 92), (⟨"TwinTreesModel", "spells", "(J)V"⟩, 92), (⟨"TwinTreesModel", "lays", "(I)V"⟩, 92), (⟨"TwinTreesModel", "spellsBlank", "(J)V"⟩, 92), (⟨"TwinTreesModel", "drawDeed", "()Z"⟩, 92), (⟨"TwinTreesModel", "draw", "(I)I"⟩, 92), (⟨"TwinTreesModel", "drawsMerge", "()Z"⟩, 92), (⟨"TwinTreesModel", "drawsRule", "()Z"⟩, 92), (⟨"TwinTreesModel", "bookLine", "()Z"⟩, 92), (⟨"TwinTreesModel", "takesTwo", "(IIIZ)Z"⟩, 92), (⟨"TwinTreesModel", "takes", "(II)Z"⟩, 92), (⟨"TwinTreesModel", "does", "(I)I"⟩, 92), (⟨"TwinTreesModel", "classes", "()I"⟩, 92)]
theorem lw_r10 : ∀ q ∈ lw_privs_10, lw_okq q := List.forall_mem_cons.mpr ⟨lw_p144, List.forall_mem_cons.mpr ⟨lw_p145, List.forall_mem_cons.mpr ⟨lw_p146, List.forall_mem_cons.mpr ⟨lw_p147, List.forall_mem_cons.mpr ⟨lw_p148, List.forall_mem_cons.mpr ⟨lw_p149, List.forall_mem_cons.mpr ⟨lw_p150, List.forall_mem_cons.mpr ⟨lw_p151, List.forall_mem_cons.mpr ⟨lw_p152, List.forall_mem_cons.mpr ⟨lw_p153, List.forall_mem_cons.mpr ⟨lw_p154, List.forall_mem_cons.mpr ⟨lw_p155, List.forall_mem_cons.mpr ⟨lw_p156, List.forall_mem_cons.mpr ⟨lw_p157, List.forall_mem_cons.mpr ⟨lw_p158, List.forall_mem_cons.mpr ⟨lw_p159, fun _ h => absurd h List.not_mem_nil⟩⟩⟩⟩⟩⟩⟩⟩⟩⟩⟩⟩⟩⟩⟩⟩
theorem lw_p160 : lw_okq (⟨"TwinTreesModel", "nots", "()V"⟩, 92) := ⟨⟨by decide +kernel, by decide +kernel⟩, List.mem_of_getElem? (i := 1296) (by decide +kernel), List.mem_of_getElem? (i := 2076) (by decide +kernel), List.mem_of_getElem? (i := 2077) (by decide +kernel)⟩
theorem lw_p161 : lw_okq (⟨"TwinTreesModel", "code", "(III)V"⟩, 92) := ⟨⟨by decide +kernel, by decide +kernel⟩, List.mem_of_getElem? (i := 1296) (by decide +kernel), List.mem_of_getElem? (i := 2080) (by decide +kernel), List.mem_of_getElem? (i := 2081) (by decide +kernel)⟩
theorem lw_p162 : lw_okq (⟨"TwinTreesModel", "joins", "(I)V"⟩, 92) := ⟨⟨by decide +kernel, by decide +kernel⟩, List.mem_of_getElem? (i := 1296) (by decide +kernel), List.mem_of_getElem? (i := 2084) (by decide +kernel), List.mem_of_getElem? (i := 2085) (by decide +kernel)⟩
theorem lw_p163 : lw_okq (⟨"TwinTreesModel", "behindOne", "()Z"⟩, 92) := ⟨⟨by decide +kernel, by decide +kernel⟩, List.mem_of_getElem? (i := 1296) (by decide +kernel), List.mem_of_getElem? (i := 2088) (by decide +kernel), List.mem_of_getElem? (i := 2089) (by decide +kernel)⟩
theorem lw_p164 : lw_okq (⟨"TwinTreesModel", "operand", "()Z"⟩, 92) := ⟨⟨by decide +kernel, by decide +kernel⟩, List.mem_of_getElem? (i := 1296) (by decide +kernel), List.mem_of_getElem? (i := 2092) (by decide +kernel), List.mem_of_getElem? (i := 2093) (by decide +kernel)⟩
theorem lw_p165 : lw_okq (⟨"TwinTreesModel", "leafOf", "()I"⟩, 92) := ⟨⟨by decide +kernel, by decide +kernel⟩, List.mem_of_getElem? (i := 1296) (by decide +kernel), List.mem_of_getElem? (i := 2096) (by decide +kernel), List.mem_of_getElem? (i := 2097) (by decide +kernel)⟩
theorem lw_p166 : lw_okq (⟨"TwinTreesModel", "isSaid", "(I)Z"⟩, 92) := ⟨⟨by decide +kernel, by decide +kernel⟩, List.mem_of_getElem? (i := 1296) (by decide +kernel), List.mem_of_getElem? (i := 2104) (by decide +kernel), List.mem_of_getElem? (i := 2105) (by decide +kernel)⟩
theorem lw_p167 : lw_okq (⟨"TwinTreesModel", "isLeaf", "(IIII)Z"⟩, 92) := ⟨⟨by decide +kernel, by decide +kernel⟩, List.mem_of_getElem? (i := 1296) (by decide +kernel), List.mem_of_getElem? (i := 2108) (by decide +kernel), List.mem_of_getElem? (i := 2109) (by decide +kernel)⟩
def lw_privs_11 : List (MethodName × Nat) := [(⟨"TwinTreesModel", "nots", "()V"⟩, 92), (⟨"TwinTreesModel", "code", "(III)V"⟩, 92), (⟨"TwinTreesModel", "joins", "(I)V"⟩, 92), (⟨"TwinTreesModel", "behindOne", "()Z"⟩, 92), (⟨"TwinTreesModel", "operand", "()Z"⟩, 92), (⟨"TwinTreesModel", "leafOf", "()I"⟩, 92), (⟨"TwinTreesModel", "isSaid", "(I)Z"⟩, 92), (⟨"TwinTreesModel", "isLeaf", "(IIII)Z"⟩, 92)]
theorem lw_r11 : ∀ q ∈ lw_privs_11, lw_okq q := List.forall_mem_cons.mpr ⟨lw_p160, List.forall_mem_cons.mpr ⟨lw_p161, List.forall_mem_cons.mpr ⟨lw_p162, List.forall_mem_cons.mpr ⟨lw_p163, List.forall_mem_cons.mpr ⟨lw_p164, List.forall_mem_cons.mpr ⟨lw_p165, List.forall_mem_cons.mpr ⟨lw_p166, List.forall_mem_cons.mpr ⟨lw_p167, fun _ h => absurd h List.not_mem_nil⟩⟩⟩⟩⟩⟩⟩⟩
def lw_privs : List (MethodName × Nat) := lw_privs_1 ++ (lw_privs_2 ++ (lw_privs_3 ++ (lw_privs_4 ++ (lw_privs_5 ++ (lw_privs_6 ++ (lw_privs_7 ++ (lw_privs_8 ++ (lw_privs_9 ++ (lw_privs_10 ++ (lw_privs_11))))))))))
def lw_tbl : List Cond := k2_sels lw_privs ++ tables_1
theorem lw_privs_ok : ∀ q ∈ lw_privs, lw_okq q := by
  show ∀ q ∈ lw_privs_1 ++ (lw_privs_2 ++ (lw_privs_3 ++ (lw_privs_4 ++ (lw_privs_5 ++ (lw_privs_6 ++ (lw_privs_7 ++ (lw_privs_8 ++ (lw_privs_9 ++ (lw_privs_10 ++ (lw_privs_11)))))))))), lw_okq q
  exact List.forall_mem_append.mpr ⟨lw_r1, List.forall_mem_append.mpr ⟨lw_r2, List.forall_mem_append.mpr ⟨lw_r3, List.forall_mem_append.mpr ⟨lw_r4, List.forall_mem_append.mpr ⟨lw_r5, List.forall_mem_append.mpr ⟨lw_r6, List.forall_mem_append.mpr ⟨lw_r7, List.forall_mem_append.mpr ⟨lw_r8, List.forall_mem_append.mpr ⟨lw_r9, List.forall_mem_append.mpr ⟨lw_r10, lw_r11⟩⟩⟩⟩⟩⟩⟩⟩⟩⟩

def RX0 : String := "TwinTrees$Book"
def TX0 : u_T := fun k => match k with
  | 0 => ("TwinTrees$Book", "op", "[I", true)
  | 1 => ("TwinTrees$Book", "row", "[I", true)
  | 2 => ("TwinTrees$Book", "size", "I", false)
  | 3 => ("TwinTrees$Book", "judged", "Z", false)
  | 4 => ("TwinTrees$Book", "why", "I", false)
  | 5 => ("TwinTrees$Book", "ahead", "I", false)
  | 6 => ("TwinTrees$Book", "rulesThen", "I", false)
  | _ => ("TwinTrees$Book", "groupsThen", "I", false)
def tyX0 : Nat → FieldType := fun k => match k with
  | 0 => .array .int
  | 1 => .array .int
  | 2 => .int
  | 3 => .boolean
  | 4 => .int
  | 5 => .int
  | 6 => .int
  | _ => .int
abbrev wsX00 : List Cond := u_ws RX0 TX0 8
theorem nmX0 : ∀ a, a < 8 → ∀ b, b < 8 → a ≠ b → (TX0 a).2.1 ≠ (TX0 b).2.1 := by decide +kernel
theorem tyX0_ok : ∀ k, k < 8 → parseFieldDescriptor (TX0 k).2.2.1 = some (tyX0 k) := by decide +kernel
abbrev cX0_init : ByteArray := prog_2_method_1_code
def yX0_init : MethodName := ⟨RX0, "<init>", "()V"⟩
abbrev cX0_put : ByteArray := prog_2_method_2_code
def yX0_put : MethodName := ⟨RX0, "put", "(I[I)V"⟩
abbrev cX0_judge : ByteArray := prog_2_method_3_code
def yX0_judge : MethodName := ⟨RX0, "judge", "(LTwinTrees$Model;)V"⟩
abbrev cX0_live : ByteArray := prog_2_method_4_code
def yX0_live : MethodName := ⟨RX0, "live", "(LTwinTrees$Model;I)I"⟩
def RX1 : String := "TwinTrees$Chart"
def TX1 : u_T := fun k => match k with
  | 0 => ("TwinTrees$Chart", "fresh", "Z", false)
  | 1 => ("TwinTrees$Chart", "filled", "Z", false)
  | 2 => ("TwinTrees$Chart", "askedSize", "I", false)
  | 3 => ("TwinTrees$Chart", "asked", "[I", true)
  | 4 => ("TwinTrees$Chart", "witnessSize", "I", false)
  | 5 => ("TwinTrees$Chart", "witnessRow", "[I", true)
  | 6 => ("TwinTrees$Chart", "full", "I", false)
  | 7 => ("TwinTrees$Chart", "model", "LTwinTrees$Model;", false)
  | 8 => ("TwinTrees$Chart", "row", "[I", true)
  | 9 => ("TwinTrees$Chart", "emptyWays", "[I", true)
  | 10 => ("TwinTrees$Chart", "link", "[I", true)
  | 11 => ("TwinTrees$Chart", "chain", "[I", true)
  | 12 => ("TwinTrees$Chart", "broken", "[I", true)
  | _ => ("TwinTrees$Chart", "whole", "[I", true)
def tyX1 : Nat → FieldType := fun k => match k with
  | 0 => .boolean
  | 1 => .boolean
  | 2 => .int
  | 3 => .array .int
  | 4 => .int
  | 5 => .array .int
  | 6 => .int
  | 7 => .object "TwinTrees$Model"
  | 8 => .array .int
  | 9 => .array .int
  | 10 => .array .int
  | 11 => .array .int
  | 12 => .array .int
  | _ => .array .int
abbrev wsX10 : List Cond := u_ws RX1 TX1 14
theorem nmX1 : ∀ a, a < 14 → ∀ b, b < 14 → a ≠ b → (TX1 a).2.1 ≠ (TX1 b).2.1 := by decide +kernel
theorem tyX1_ok : ∀ k, k < 14 → parseFieldDescriptor (TX1 k).2.2.1 = some (tyX1 k) := by decide +kernel
abbrev cX1_init : ByteArray := prog_3_method_1_code
def yX1_init : MethodName := ⟨RX1, "<init>", "()V"⟩
abbrev cX1_ask : ByteArray := prog_3_method_2_code
def yX1_ask : MethodName := ⟨RX1, "ask", "(LTwinTrees$Tape;)V"⟩
abbrev cX1_answer : ByteArray := prog_3_method_3_code
def yX1_answer : MethodName := ⟨RX1, "answer", "(LTwinTrees$Model;)I"⟩
abbrev cX1_learn : ByteArray := prog_3_method_4_code
def yX1_learn : MethodName := ⟨RX1, "learn", "(LTwinTrees$Model;)V"⟩
abbrev cX1_learnLinks : ByteArray := prog_3_method_5_code
def yX1_learnLinks : MethodName := ⟨RX1, "learnLinks", "(LTwinTrees$Model;)V"⟩
abbrev cX1_emptyBut : ByteArray := prog_3_method_6_code
def yX1_emptyBut : MethodName := ⟨RX1, "emptyBut", "(LTwinTrees$Model;II)I"⟩
abbrev cX1_learnChain : ByteArray := prog_3_method_7_code
def yX1_learnChain : MethodName := ⟨RX1, "learnChain", "(LTwinTrees$Model;II)V"⟩
abbrev cX1_capped : ByteArray := prog_3_method_8_code
def yX1_capped : MethodName := ⟨RX1, "capped", "(I)I"⟩
abbrev cX1_column : ByteArray := prog_3_method_9_code
def yX1_column : MethodName := ⟨RX1, "column", "(I)V"⟩
abbrev cX1_kindWays : ByteArray := prog_3_method_10_code
def yX1_kindWays : MethodName := ⟨RX1, "kindWays", "(IIII)I"⟩
abbrev cX1_ruleWays : ByteArray := prog_3_method_11_code
def yX1_ruleWays : MethodName := ⟨RX1, "ruleWays", "(IIII)I"⟩
abbrev cX1_part : ByteArray := prog_3_method_12_code
def yX1_part : MethodName := ⟨RX1, "part", "(IIIZI)I"⟩
abbrev cX1_waysOf : ByteArray := prog_3_method_13_code
def yX1_waysOf : MethodName := ⟨RX1, "waysOf", "(III)I"⟩
abbrev cX1_chained : ByteArray := prog_3_method_14_code
def yX1_chained : MethodName := ⟨RX1, "chained", "(IIII)I"⟩
abbrev cX1_findWitness : ByteArray := prog_3_method_15_code
def yX1_findWitness : MethodName := ⟨RX1, "findWitness", "(LTwinTrees$Model;I)I"⟩
abbrev cX1_keepWitness : ByteArray := prog_3_method_16_code
def yX1_keepWitness : MethodName := ⟨RX1, "keepWitness", "(I)I"⟩
abbrev cX1_nextRow : ByteArray := prog_3_method_17_code
def yX1_nextRow : MethodName := ⟨RX1, "nextRow", "(I)I"⟩
def RX2 : String := "TwinTrees$Draws"
def TX2 : u_T := fun k => match k with
  | _ => ("TwinTrees$Draws", "x", "I", false)
def tyX2 : Nat → FieldType := fun k => match k with
  | _ => .int
abbrev wsX20 : List Cond := u_ws RX2 TX2 1
theorem nmX2 : ∀ a, a < 1 → ∀ b, b < 1 → a ≠ b → (TX2 a).2.1 ≠ (TX2 b).2.1 := by decide +kernel
theorem tyX2_ok : ∀ k, k < 1 → parseFieldDescriptor (TX2 k).2.2.1 = some (tyX2 k) := by decide +kernel
abbrev cX2_init : ByteArray := prog_4_method_1_code
def yX2_init : MethodName := ⟨RX2, "<init>", "()V"⟩
abbrev cX2_deeds : ByteArray := prog_4_method_2_code
def yX2_deeds : MethodName := ⟨RX2, "deeds", "(LTwinTrees$Model;II)I"⟩
abbrev cX2_draw : ByteArray := prog_4_method_3_code
def yX2_draw : MethodName := ⟨RX2, "draw", "(I)I"⟩
abbrev cX2_deed : ByteArray := prog_4_method_4_code
def yX2_deed : MethodName := ⟨RX2, "deed", "(LTwinTrees$Model;)I"⟩
abbrev cX2_addition : ByteArray := prog_4_method_5_code
def yX2_addition : MethodName := ⟨RX2, "addition", "(LTwinTrees$Model;)I"⟩
abbrev cX2_symbol : ByteArray := prog_4_method_6_code
def yX2_symbol : MethodName := ⟨RX2, "symbol", "(LTwinTrees$Model;)I"⟩
def RX3 : String := "TwinTrees$Kinds"
def TX3 : u_T := fun k => match k with
  | 0 => ("TwinTrees$Kinds", "fresh", "Z", false)
  | 1 => ("TwinTrees$Kinds", "empty", "I", false)
  | 2 => ("TwinTrees$Kinds", "endless", "I", false)
  | 3 => ("TwinTrees$Kinds", "used", "I", false)
  | 4 => ("TwinTrees$Kinds", "begins", "[I", true)
  | 5 => ("TwinTrees$Kinds", "follows", "[I", true)
  | _ => ("TwinTrees$Kinds", "itself", "[I", true)
def tyX3 : Nat → FieldType := fun k => match k with
  | 0 => .boolean
  | 1 => .int
  | 2 => .int
  | 3 => .int
  | 4 => .array .int
  | 5 => .array .int
  | _ => .array .int
abbrev wsX30 : List Cond := u_ws RX3 TX3 7
theorem nmX3 : ∀ a, a < 7 → ∀ b, b < 7 → a ≠ b → (TX3 a).2.1 ≠ (TX3 b).2.1 := by decide +kernel
theorem tyX3_ok : ∀ k, k < 7 → parseFieldDescriptor (TX3 k).2.2.1 = some (tyX3 k) := by decide +kernel
abbrev cX3_init : ByteArray := prog_5_method_1_code
def yX3_init : MethodName := ⟨RX3, "<init>", "()V"⟩
abbrev cX3_learn : ByteArray := prog_5_method_2_code
def yX3_learn : MethodName := ⟨RX3, "learn", "(LTwinTrees$Model;)V"⟩
abbrev cX3_closure : ByteArray := prog_5_method_3_code
def yX3_closure : MethodName := ⟨RX3, "closure", "(LTwinTrees$Model;Z)I"⟩
abbrev cX3_within : ByteArray := prog_5_method_4_code
def yX3_within : MethodName := ⟨RX3, "within", "(LTwinTrees$Model;IIZ)Z"⟩
abbrev cX3_made : ByteArray := prog_5_method_5_code
def yX3_made : MethodName := ⟨RX3, "made", "(LTwinTrees$Model;I)I"⟩
abbrev cX3_kindsIn : ByteArray := prog_5_method_6_code
def yX3_kindsIn : MethodName := ⟨RX3, "kindsIn", "(LTwinTrees$Model;I)I"⟩
abbrev cX3_isEmpty : ByteArray := prog_5_method_7_code
def yX3_isEmpty : MethodName := ⟨RX3, "isEmpty", "(I)Z"⟩
abbrev cX3_beginsFrom : ByteArray := prog_5_method_8_code
def yX3_beginsFrom : MethodName := ⟨RX3, "beginsFrom", "(LTwinTrees$Model;II)I"⟩
abbrev cX3_emptyFrom : ByteArray := prog_5_method_9_code
def yX3_emptyFrom : MethodName := ⟨RX3, "emptyFrom", "(LTwinTrees$Model;II)Z"⟩
abbrev cX3_learnBegins : ByteArray := prog_5_method_10_code
def yX3_learnBegins : MethodName := ⟨RX3, "learnBegins", "(LTwinTrees$Model;)V"⟩
abbrev cX3_learnFollows : ByteArray := prog_5_method_11_code
def yX3_learnFollows : MethodName := ⟨RX3, "learnFollows", "(LTwinTrees$Model;I)V"⟩
abbrev cX3_learnEndless : ByteArray := prog_5_method_12_code
def yX3_learnEndless : MethodName := ⟨RX3, "learnEndless", "(LTwinTrees$Model;)V"⟩
abbrev cX3_emptyBut : ByteArray := prog_5_method_13_code
def yX3_emptyBut : MethodName := ⟨RX3, "emptyBut", "(LTwinTrees$Model;II)Z"⟩
def RX4 : String := "TwinTrees$Model"
def TX4 : u_T := fun k => match k with
  | 0 => ("TwinTrees$Model", "signs", "I", false)
  | 1 => ("TwinTrees$Model", "kinds", "I", false)
  | 2 => ("TwinTrees$Model", "rules", "I", false)
  | 3 => ("TwinTrees$Model", "items", "I", false)
  | 4 => ("TwinTrees$Model", "callers", "I", false)
  | 5 => ("TwinTrees$Model", "signName", "[J", true)
  | 6 => ("TwinTrees$Model", "kindName", "[J", true)
  | 7 => ("TwinTrees$Model", "ruleKind", "[I", true)
  | 8 => ("TwinTrees$Model", "ruleSize", "[I", true)
  | 9 => ("TwinTrees$Model", "ruleFirst", "[I", true)
  | 10 => ("TwinTrees$Model", "symbol", "[I", true)
  | 11 => ("TwinTrees$Model", "itemRule", "[I", true)
  | 12 => ("TwinTrees$Model", "itemDot", "[I", true)
  | _ => ("TwinTrees$Model", "group", "[I", true)
def tyX4 : Nat → FieldType := fun k => match k with
  | 0 => .int
  | 1 => .int
  | 2 => .int
  | 3 => .int
  | 4 => .int
  | 5 => .array .long
  | 6 => .array .long
  | 7 => .array .int
  | 8 => .array .int
  | 9 => .array .int
  | 10 => .array .int
  | 11 => .array .int
  | 12 => .array .int
  | _ => .array .int
abbrev wsX40 : List Cond := u_ws RX4 TX4 14
theorem nmX4 : ∀ a, a < 14 → ∀ b, b < 14 → a ≠ b → (TX4 a).2.1 ≠ (TX4 b).2.1 := by decide +kernel
theorem tyX4_ok : ∀ k, k < 14 → parseFieldDescriptor (TX4 k).2.2.1 = some (tyX4 k) := by decide +kernel
abbrev cX4_init : ByteArray := prog_6_method_1_code
def yX4_init : MethodName := ⟨RX4, "<init>", "()V"⟩
abbrev cX4_clear : ByteArray := prog_6_method_2_code
def yX4_clear : MethodName := ⟨RX4, "clear", "()V"⟩
abbrev cX4_copyFrom : ByteArray := prog_6_method_3_code
def yX4_copyFrom : MethodName := ⟨RX4, "copyFrom", "(LTwinTrees$Model;)V"⟩
abbrev cX4_find : ByteArray := prog_6_method_4_code
def yX4_find : MethodName := ⟨RX4, "find", "(J)I"⟩
abbrev cX4_nameOf : ByteArray := prog_6_method_5_code
def yX4_nameOf : MethodName := ⟨RX4, "nameOf", "(I)J"⟩
abbrev cX4_newSign : ByteArray := prog_6_method_6_code
def yX4_newSign : MethodName := ⟨RX4, "newSign", "(J)V"⟩
abbrev cX4_newKind : ByteArray := prog_6_method_7_code
def yX4_newKind : MethodName := ⟨RX4, "newKind", "(J)V"⟩
abbrev cX4_isSymbol : ByteArray := prog_6_method_8_code
def yX4_isSymbol : MethodName := ⟨RX4, "isSymbol", "(I)Z"⟩
abbrev cX4_symbolAt : ByteArray := prog_6_method_9_code
def yX4_symbolAt : MethodName := ⟨RX4, "symbolAt", "(II)I"⟩
abbrev cX4_rulesOf : ByteArray := prog_6_method_10_code
def yX4_rulesOf : MethodName := ⟨RX4, "rulesOf", "(I)I"⟩
abbrev cX4_nextOf : ByteArray := prog_6_method_11_code
def yX4_nextOf : MethodName := ⟨RX4, "nextOf", "(I)I"⟩
abbrev cX4_kindOf : ByteArray := prog_6_method_12_code
def yX4_kindOf : MethodName := ⟨RX4, "kindOf", "(I)I"⟩
abbrev cX4_groups : ByteArray := prog_6_method_13_code
def yX4_groups : MethodName := ⟨RX4, "groups", "()I"⟩
abbrev cX4_groupSize : ByteArray := prog_6_method_14_code
def yX4_groupSize : MethodName := ⟨RX4, "groupSize", "(I)I"⟩
abbrev cX4_unite : ByteArray := prog_6_method_15_code
def yX4_unite : MethodName := ⟨RX4, "unite", "(II)I"⟩
abbrev cX4_deepen : ByteArray := prog_6_method_16_code
def yX4_deepen : MethodName := ⟨RX4, "deepen", "(I)I"⟩
abbrev cX4_removeRule : ByteArray := prog_6_method_17_code
def yX4_removeRule : MethodName := ⟨RX4, "removeRule", "(I)I"⟩
abbrev cX4_appendRule : ByteArray := prog_6_method_18_code
def yX4_appendRule : MethodName := ⟨RX4, "appendRule", "(IIIII)I"⟩
abbrev cX4_renumber : ByteArray := prog_6_method_19_code
def yX4_renumber : MethodName := ⟨RX4, "renumber", "()V"⟩
def RX5 : String := "TwinTrees$Parser"
def TX5 : u_T := fun k => match k with
  | 0 => ("TwinTrees$Parser", "tape", "LTwinTrees$Tape;", true)
  | 1 => ("TwinTrees$Parser", "row", "[I", true)
  | 2 => ("TwinTrees$Parser", "draft", "LTwinTrees$Sentence;", true)
  | 3 => ("TwinTrees$Parser", "fault", "I", false)
  | _ => ("TwinTrees$Parser", "faultPlace", "I", false)
def tyX5 : Nat → FieldType := fun k => match k with
  | 0 => .object "TwinTrees$Tape"
  | 1 => .array .int
  | 2 => .object "TwinTrees$Sentence"
  | 3 => .int
  | _ => .int
abbrev wsX50 : List Cond := u_ws RX5 TX5 5
theorem nmX5 : ∀ a, a < 5 → ∀ b, b < 5 → a ≠ b → (TX5 a).2.1 ≠ (TX5 b).2.1 := by decide +kernel
theorem tyX5_ok : ∀ k, k < 5 → parseFieldDescriptor (TX5 k).2.2.1 = some (tyX5 k) := by decide +kernel
abbrev cX5_init : ByteArray := prog_7_method_1_code
def yX5_init : MethodName := ⟨RX5, "<init>", "(LTwinTrees$Tape;)V"⟩
abbrev cX5_fail : ByteArray := prog_7_method_2_code
def yX5_fail : MethodName := ⟨RX5, "fail", "(I)Z"⟩
abbrev cX5_begin : ByteArray := prog_7_method_3_code
def yX5_begin : MethodName := ⟨RX5, "begin", "(I)V"⟩
abbrev cX5_readGrammar : ByteArray := prog_7_method_4_code
def yX5_readGrammar : MethodName := ⟨RX5, "readGrammar", "(LTwinTrees$Model;)I"⟩
abbrev cX5_grammarLine : ByteArray := prog_7_method_5_code
def yX5_grammarLine : MethodName := ⟨RX5, "grammarLine", "(LTwinTrees$Model;)Z"⟩
abbrev cX5_nameLine : ByteArray := prog_7_method_6_code
def yX5_nameLine : MethodName := ⟨RX5, "nameLine", "(LTwinTrees$Model;Z)Z"⟩
abbrev cX5_lineEnds : ByteArray := prog_7_method_7_code
def yX5_lineEnds : MethodName := ⟨RX5, "lineEnds", "()Z"⟩
abbrev cX5_ruleLine : ByteArray := prog_7_method_8_code
def yX5_ruleLine : MethodName := ⟨RX5, "ruleLine", "(LTwinTrees$Model;)Z"⟩
abbrev cX5_knownName : ByteArray := prog_7_method_9_code
def yX5_knownName : MethodName := ⟨RX5, "knownName", "(LTwinTrees$Model;)I"⟩
abbrev cX5_readBook : ByteArray := prog_7_method_10_code
def yX5_readBook : MethodName := ⟨RX5, "readBook", "(LTwinTrees$Model;LTwinTrees$Book;)Z"⟩
abbrev cX5_bookLine : ByteArray := prog_7_method_11_code
def yX5_bookLine : MethodName := ⟨RX5, "bookLine", "(LTwinTrees$Model;LTwinTrees$Book;I)Z"⟩
abbrev cX5_number : ByteArray := prog_7_method_12_code
def yX5_number : MethodName := ⟨RX5, "number", "(III)Z"⟩
abbrev cX5_readSentence : ByteArray := prog_7_method_13_code
def yX5_readSentence : MethodName := ⟨RX5, "readSentence", "(LTwinTrees$Model;)Z"⟩
abbrev cX5_readCond : ByteArray := prog_7_method_14_code
def yX5_readCond : MethodName := ⟨RX5, "readCond", "(LTwinTrees$Model;I)Z"⟩
abbrev cX5_readOne : ByteArray := prog_7_method_15_code
def yX5_readOne : MethodName := ⟨RX5, "readOne", "(LTwinTrees$Model;I)Z"⟩
abbrev cX5_beginsOne : ByteArray := prog_7_method_16_code
def yX5_beginsOne : MethodName := ⟨RX5, "beginsOne", "()Z"⟩
abbrev cX5_readPlain : ByteArray := prog_7_method_17_code
def yX5_readPlain : MethodName := ⟨RX5, "readPlain", "(LTwinTrees$Model;J)Z"⟩
def RX6 : String := "TwinTrees$Picker"
def TX6 : u_T := fun k => match k with
  | 0 => ("TwinTrees$Picker", "picked", "[I", true)
  | 1 => ("TwinTrees$Picker", "pickedSize", "I", false)
  | 2 => ("TwinTrees$Picker", "chart", "LTwinTrees$Chart;", true)
  | 3 => ("TwinTrees$Picker", "draft", "[I", true)
  | 4 => ("TwinTrees$Picker", "draftSize", "I", false)
  | 5 => ("TwinTrees$Picker", "waiting", "[I", true)
  | 6 => ("TwinTrees$Picker", "waitingSize", "I", false)
  | 7 => ("TwinTrees$Picker", "kindNow", "I", false)
  | 8 => ("TwinTrees$Picker", "begin", "I", false)
  | 9 => ("TwinTrees$Picker", "end", "I", false)
  | 10 => ("TwinTrees$Picker", "above", "I", false)
  | _ => ("TwinTrees$Picker", "rank", "I", false)
def tyX6 : Nat → FieldType := fun k => match k with
  | 0 => .array .int
  | 1 => .int
  | 2 => .object "TwinTrees$Chart"
  | 3 => .array .int
  | 4 => .int
  | 5 => .array .int
  | 6 => .int
  | 7 => .int
  | 8 => .int
  | 9 => .int
  | 10 => .int
  | _ => .int
abbrev wsX60 : List Cond := u_ws RX6 TX6 12
theorem nmX6 : ∀ a, a < 12 → ∀ b, b < 12 → a ≠ b → (TX6 a).2.1 ≠ (TX6 b).2.1 := by decide +kernel
theorem tyX6_ok : ∀ k, k < 12 → parseFieldDescriptor (TX6 k).2.2.1 = some (tyX6 k) := by decide +kernel
abbrev cX6_init : ByteArray := prog_8_method_1_code
def yX6_init : MethodName := ⟨RX6, "<init>", "(LTwinTrees$Chart;)V"⟩
abbrev cX6_pick : ByteArray := prog_8_method_2_code
def yX6_pick : MethodName := ⟨RX6, "pick", "(I)I"⟩
abbrev cX6_push : ByteArray := prog_8_method_3_code
def yX6_push : MethodName := ⟨RX6, "push", "(IIIII)V"⟩
abbrev cX6_pop : ByteArray := prog_8_method_4_code
def yX6_pop : MethodName := ⟨RX6, "pop", "()V"⟩
abbrev cX6_pickRule : ByteArray := prog_8_method_5_code
def yX6_pickRule : MethodName := ⟨RX6, "pickRule", "()Z"⟩
abbrev cX6_pickParts : ByteArray := prog_8_method_6_code
def yX6_pickParts : MethodName := ⟨RX6, "pickParts", "(I)Z"⟩
abbrev cX6_overFor : ByteArray := prog_8_method_7_code
def yX6_overFor : MethodName := ⟨RX6, "overFor", "(II)I"⟩
def RX7 : String := "TwinTrees$Places"
def TX7 : u_T := fun k => match k with
  | 0 => ("TwinTrees$Places", "fresh", "Z", false)
  | 1 => ("TwinTrees$Places", "tooMany", "Z", false)
  | 2 => ("TwinTrees$Places", "count", "I", false)
  | 3 => ("TwinTrees$Places", "placeGroup", "[I", true)
  | 4 => ("TwinTrees$Places", "placeCaller", "[I", true)
  | 5 => ("TwinTrees$Places", "to", "[J", true)
  | 6 => ("TwinTrees$Places", "from", "[J", true)
  | 7 => ("TwinTrees$Places", "once", "[J", true)
  | 8 => ("TwinTrees$Places", "twice", "[J", true)
  | 9 => ("TwinTrees$Places", "hasSign", "[Z", true)
  | 10 => ("TwinTrees$Places", "index", "[I", true)
  | 11 => ("TwinTrees$Places", "next", "[I", true)
  | 12 => ("TwinTrees$Places", "kindOf", "[I", true)
  | 13 => ("TwinTrees$Places", "ofKinds", "[I", true)
  | _ => ("TwinTrees$Places", "callsKinds", "[I", true)
def tyX7 : Nat → FieldType := fun k => match k with
  | 0 => .boolean
  | 1 => .boolean
  | 2 => .int
  | 3 => .array .int
  | 4 => .array .int
  | 5 => .array .long
  | 6 => .array .long
  | 7 => .array .long
  | 8 => .array .long
  | 9 => .array .boolean
  | 10 => .array .int
  | 11 => .array .int
  | 12 => .array .int
  | 13 => .array .int
  | _ => .array .int
abbrev wsX70 : List Cond := u_ws RX7 TX7 15
theorem nmX7 : ∀ a, a < 15 → ∀ b, b < 15 → a ≠ b → (TX7 a).2.1 ≠ (TX7 b).2.1 := by decide +kernel
theorem tyX7_ok : ∀ k, k < 15 → parseFieldDescriptor (TX7 k).2.2.1 = some (tyX7 k) := by decide +kernel
abbrev cX7_init : ByteArray := prog_9_method_1_code
def yX7_init : MethodName := ⟨RX7, "<init>", "()V"⟩
abbrev cX7_build : ByteArray := prog_9_method_2_code
def yX7_build : MethodName := ⟨RX7, "build", "(LTwinTrees$Model;)V"⟩
abbrev cX7_learnItems : ByteArray := prog_9_method_3_code
def yX7_learnItems : MethodName := ⟨RX7, "learnItems", "(LTwinTrees$Model;)V"⟩
abbrev cX7_listPlaces : ByteArray := prog_9_method_4_code
def yX7_listPlaces : MethodName := ⟨RX7, "listPlaces", "(LTwinTrees$Model;)V"⟩
abbrev cX7_listPlace : ByteArray := prog_9_method_5_code
def yX7_listPlace : MethodName := ⟨RX7, "listPlace", "(II)V"⟩
abbrev cX7_clearSteps : ByteArray := prog_9_method_6_code
def yX7_clearSteps : MethodName := ⟨RX7, "clearSteps", "()V"⟩
abbrev cX7_placeOf : ByteArray := prog_9_method_7_code
def yX7_placeOf : MethodName := ⟨RX7, "placeOf", "(LTwinTrees$Model;II)I"⟩
abbrev cX7_addStep : ByteArray := prog_9_method_8_code
def yX7_addStep : MethodName := ⟨RX7, "addStep", "(III)V"⟩
abbrev cX7_openFrom : ByteArray := prog_9_method_9_code
def yX7_openFrom : MethodName := ⟨RX7, "openFrom", "(LTwinTrees$Model;II)V"⟩
abbrev cX7_stepsOf : ByteArray := prog_9_method_10_code
def yX7_stepsOf : MethodName := ⟨RX7, "stepsOf", "(LTwinTrees$Model;I)V"⟩
abbrev cX7_closeFrom : ByteArray := prog_9_method_11_code
def yX7_closeFrom : MethodName := ⟨RX7, "closeFrom", "(LTwinTrees$Model;II)V"⟩
abbrev cX7_closeTo : ByteArray := prog_9_method_12_code
def yX7_closeTo : MethodName := ⟨RX7, "closeTo", "(LTwinTrees$Model;III)V"⟩
abbrev cX7_gather : ByteArray := prog_9_method_13_code
def yX7_gather : MethodName := ⟨RX7, "gather", "()V"⟩
abbrev cX7_hasSort : ByteArray := prog_9_method_14_code
def yX7_hasSort : MethodName := ⟨RX7, "hasSort", "(II)Z"⟩
abbrev cX7_stepCount : ByteArray := prog_9_method_15_code
def yX7_stepCount : MethodName := ⟨RX7, "stepCount", "(I)I"⟩
abbrev cX7_comersTo : ByteArray := prog_9_method_16_code
def yX7_comersTo : MethodName := ⟨RX7, "comersTo", "(I)I"⟩
abbrev cX7_stepAt : ByteArray := prog_9_method_17_code
def yX7_stepAt : MethodName := ⟨RX7, "stepAt", "(III)I"⟩
abbrev cX7_sortCode : ByteArray := prog_9_method_18_code
def yX7_sortCode : MethodName := ⟨RX7, "sortCode", "(I)I"⟩
abbrev cX7_nthBit : ByteArray := prog_9_method_19_code
def yX7_nthBit : MethodName := ⟨RX7, "nthBit", "(JI)I"⟩
def RX8 : String := "TwinTrees$Sentence"
def TX8 : u_T := fun k => match k with
  | 0 => ("TwinTrees$Sentence", "op", "[I", true)
  | 1 => ("TwinTrees$Sentence", "arg", "[I", true)
  | 2 => ("TwinTrees$Sentence", "size", "I", false)
  | _ => ("TwinTrees$Sentence", "ones", "I", false)
def tyX8 : Nat → FieldType := fun k => match k with
  | 0 => .array .int
  | 1 => .array .int
  | 2 => .int
  | _ => .int
abbrev wsX80 : List Cond := u_ws RX8 TX8 4
theorem nmX8 : ∀ a, a < 4 → ∀ b, b < 4 → a ≠ b → (TX8 a).2.1 ≠ (TX8 b).2.1 := by decide +kernel
theorem tyX8_ok : ∀ k, k < 4 → parseFieldDescriptor (TX8 k).2.2.1 = some (tyX8 k) := by decide +kernel
abbrev cX8_init : ByteArray := prog_10_method_1_code
def yX8_init : MethodName := ⟨RX8, "<init>", "()V"⟩
abbrev cX8_clear : ByteArray := prog_10_method_2_code
def yX8_clear : MethodName := ⟨RX8, "clear", "()V"⟩
abbrev cX8_copyFrom : ByteArray := prog_10_method_3_code
def yX8_copyFrom : MethodName := ⟨RX8, "copyFrom", "(LTwinTrees$Sentence;)V"⟩
abbrev cX8_emit : ByteArray := prog_10_method_4_code
def yX8_emit : MethodName := ⟨RX8, "emit", "(II)V"⟩
abbrev cX8_holdsOf : ByteArray := prog_10_method_5_code
def yX8_holdsOf : MethodName := ⟨RX8, "holdsOf", "(LTwinTrees$Model;I)Z"⟩
abbrev cX8_simple : ByteArray := prog_10_method_6_code
def yX8_simple : MethodName := ⟨RX8, "simple", "(LTwinTrees$Model;III)Z"⟩
abbrev cX8_compares : ByteArray := prog_10_method_7_code
def yX8_compares : MethodName := ⟨RX8, "compares", "(III)Z"⟩
def RX9 : String := "TwinTrees$Tape"
def TX9 : u_T := fun k => match k with
  | 0 => ("TwinTrees$Tape", "cell", "[I", true)
  | 1 => ("TwinTrees$Tape", "size", "I", false)
  | 2 => ("TwinTrees$Tape", "limit", "I", false)
  | 3 => ("TwinTrees$Tape", "at", "I", false)
  | 4 => ("TwinTrees$Tape", "token", "I", false)
  | 5 => ("TwinTrees$Tape", "place", "I", false)
  | _ => ("TwinTrees$Tape", "value", "J", false)
def tyX9 : Nat → FieldType := fun k => match k with
  | 0 => .array .int
  | 1 => .int
  | 2 => .int
  | 3 => .int
  | 4 => .int
  | 5 => .int
  | _ => .long
abbrev wsX90 : List Cond := u_ws RX9 TX9 7
theorem nmX9 : ∀ a, a < 7 → ∀ b, b < 7 → a ≠ b → (TX9 a).2.1 ≠ (TX9 b).2.1 := by decide +kernel
theorem tyX9_ok : ∀ k, k < 7 → parseFieldDescriptor (TX9 k).2.2.1 = some (tyX9 k) := by decide +kernel
abbrev cX9_init : ByteArray := prog_11_method_1_code
def yX9_init : MethodName := ⟨RX9, "<init>", "()V"⟩
abbrev cX9_put : ByteArray := prog_11_method_2_code
def yX9_put : MethodName := ⟨RX9, "put", "(I)V"⟩
abbrev cX9_byteOr : ByteArray := prog_11_method_3_code
def yX9_byteOr : MethodName := ⟨RX9, "byteOr", "(II)I"⟩
abbrev cX9_open : ByteArray := prog_11_method_4_code
def yX9_open : MethodName := ⟨RX9, "open", "(I)V"⟩
abbrev cX9_advance : ByteArray := prog_11_method_5_code
def yX9_advance : MethodName := ⟨RX9, "advance", "()V"⟩
abbrev cX9_isMark : ByteArray := prog_11_method_6_code
def yX9_isMark : MethodName := ⟨RX9, "isMark", "(I)Z"⟩
abbrev cX9_isWord : ByteArray := prog_11_method_7_code
def yX9_isWord : MethodName := ⟨RX9, "isWord", "(J)Z"⟩
abbrev cX9_isName : ByteArray := prog_11_method_8_code
def yX9_isName : MethodName := ⟨RX9, "isName", "()Z"⟩
abbrev cX9_readRun : ByteArray := prog_11_method_9_code
def yX9_readRun : MethodName := ⟨RX9, "readRun", "(Z)V"⟩
def RX10 : String := "TwinTrees$Twins"
def TX10 : u_T := fun k => match k with
  | 0 => ("TwinTrees$Twins", "fresh", "Z", false)
  | 1 => ("TwinTrees$Twins", "searched", "Z", false)
  | 2 => ("TwinTrees$Twins", "meets", "Z", false)
  | 3 => ("TwinTrees$Twins", "fewest", "I", false)
  | 4 => ("TwinTrees$Twins", "reached", "[J", true)
  | 5 => ("TwinTrees$Twins", "suspected", "[J", true)
  | 6 => ("TwinTrees$Twins", "beyond", "[J", true)
  | 7 => ("TwinTrees$Twins", "queue", "[I", true)
  | 8 => ("TwinTrees$Twins", "head", "I", false)
  | 9 => ("TwinTrees$Twins", "tail", "I", false)
  | _ => ("TwinTrees$Twins", "places", "LTwinTrees$Places;", true)
def tyX10 : Nat → FieldType := fun k => match k with
  | 0 => .boolean
  | 1 => .boolean
  | 2 => .boolean
  | 3 => .int
  | 4 => .array .long
  | 5 => .array .long
  | 6 => .array .long
  | 7 => .array .int
  | 8 => .int
  | 9 => .int
  | _ => .object "TwinTrees$Places"
abbrev wsX100 : List Cond := u_ws RX10 TX10 11
theorem nmX10 : ∀ a, a < 11 → ∀ b, b < 11 → a ≠ b → (TX10 a).2.1 ≠ (TX10 b).2.1 := by decide +kernel
theorem tyX10_ok : ∀ k, k < 11 → parseFieldDescriptor (TX10 k).2.2.1 = some (tyX10 k) := by decide +kernel
abbrev cX10_init : ByteArray := prog_12_method_1_code
def yX10_init : MethodName := ⟨RX10, "<init>", "(LTwinTrees$Places;)V"⟩
abbrev cX10_follow : ByteArray := prog_12_method_2_code
def yX10_follow : MethodName := ⟨RX10, "follow", "()V"⟩
abbrev cX10_raise : ByteArray := prog_12_method_3_code
def yX10_raise : MethodName := ⟨RX10, "raise", "()Z"⟩
abbrev cX10_enter : ByteArray := prog_12_method_4_code
def yX10_enter : MethodName := ⟨RX10, "enter", "([JIJ)V"⟩
abbrev cX10_go : ByteArray := prog_12_method_5_code
def yX10_go : MethodName := ⟨RX10, "go", "(III)V"⟩
abbrev cX10_goBySigns : ByteArray := prog_12_method_6_code
def yX10_goBySigns : MethodName := ⟨RX10, "goBySigns", "(III)V"⟩
abbrev cX10_leaveBeyond : ByteArray := prog_12_method_7_code
def yX10_leaveBeyond : MethodName := ⟨RX10, "leaveBeyond", "(IJIJJ)V"⟩
abbrev cX10_goTogether : ByteArray := prog_12_method_8_code
def yX10_goTogether : MethodName := ⟨RX10, "goTogether", "(II)V"⟩
abbrev cX10_enterAll : ByteArray := prog_12_method_9_code
def yX10_enterAll : MethodName := ⟨RX10, "enterAll", "(IJIJJ)V"⟩
abbrev cX10_goLeft : ByteArray := prog_12_method_10_code
def yX10_goLeft : MethodName := ⟨RX10, "goLeft", "(III)V"⟩
abbrev cX10_goRight : ByteArray := prog_12_method_11_code
def yX10_goRight : MethodName := ⟨RX10, "goRight", "(III)V"⟩
abbrev cX10_findSuspects : ByteArray := prog_12_method_12_code
def yX10_findSuspects : MethodName := ⟨RX10, "findSuspects", "()V"⟩
abbrev cX10_back : ByteArray := prog_12_method_13_code
def yX10_back : MethodName := ⟨RX10, "back", "(III)V"⟩
abbrev cX10_suspectAll : ByteArray := prog_12_method_14_code
def yX10_suspectAll : MethodName := ⟨RX10, "suspectAll", "(IJIJJ)V"⟩
abbrev cX10_suspectRow : ByteArray := prog_12_method_15_code
def yX10_suspectRow : MethodName := ⟨RX10, "suspectRow", "(IJJ)V"⟩
abbrev cX10_countIn : ByteArray := prog_12_method_16_code
def yX10_countIn : MethodName := ⟨RX10, "countIn", "([JI)I"⟩
abbrev cX10_holds : ByteArray := prog_12_method_17_code
def yX10_holds : MethodName := ⟨RX10, "holds", "([JIII)Z"⟩
abbrev cX10_suspectPart : ByteArray := prog_12_method_18_code
def yX10_suspectPart : MethodName := ⟨RX10, "suspectPart", "(II)I"⟩
abbrev cX10_suspectIn : ByteArray := prog_12_method_19_code
def yX10_suspectIn : MethodName := ⟨RX10, "suspectIn", "(III)I"⟩
def RX11 : String := "TwinTrees"
def TX11 : u_T := fun k => match k with
  | 0 => ("TwinTrees", "tape", "LTwinTrees$Tape;", true)
  | 1 => ("TwinTrees", "parser", "LTwinTrees$Parser;", true)
  | 2 => ("TwinTrees", "model", "LTwinTrees$Model;", true)
  | 3 => ("TwinTrees", "scratch", "LTwinTrees$Model;", true)
  | 4 => ("TwinTrees", "condition", "LTwinTrees$Sentence;", true)
  | 5 => ("TwinTrees", "lines", "LTwinTrees$Book;", true)
  | 6 => ("TwinTrees", "draws", "LTwinTrees$Draws;", true)
  | 7 => ("TwinTrees", "facts", "LTwinTrees$Kinds;", true)
  | 8 => ("TwinTrees", "places", "LTwinTrees$Places;", true)
  | 9 => ("TwinTrees", "pairs", "LTwinTrees$Twins;", true)
  | 10 => ("TwinTrees", "chart", "LTwinTrees$Chart;", true)
  | 11 => ("TwinTrees", "picker", "LTwinTrees$Picker;", true)
  | 12 => ("TwinTrees", "past", "[LTwinTrees$Model;", true)
  | 13 => ("TwinTrees", "keptModel", "[LTwinTrees$Model;", true)
  | 14 => ("TwinTrees", "keptCondition", "[LTwinTrees$Sentence;", true)
  | 15 => ("TwinTrees", "tagBytes", "[I", true)
  | 16 => ("TwinTrees", "pastCount", "I", false)
  | 17 => ("TwinTrees", "keptMask", "I", false)
  | _ => ("TwinTrees", "tagSize", "I", false)
def tyX11 : Nat → FieldType := fun k => match k with
  | 0 => .object "TwinTrees$Tape"
  | 1 => .object "TwinTrees$Parser"
  | 2 => .object "TwinTrees$Model"
  | 3 => .object "TwinTrees$Model"
  | 4 => .object "TwinTrees$Sentence"
  | 5 => .object "TwinTrees$Book"
  | 6 => .object "TwinTrees$Draws"
  | 7 => .object "TwinTrees$Kinds"
  | 8 => .object "TwinTrees$Places"
  | 9 => .object "TwinTrees$Twins"
  | 10 => .object "TwinTrees$Chart"
  | 11 => .object "TwinTrees$Picker"
  | 12 => .array (.object "TwinTrees$Model")
  | 13 => .array (.object "TwinTrees$Model")
  | 14 => .array (.object "TwinTrees$Sentence")
  | 15 => .array .int
  | 16 => .int
  | 17 => .int
  | _ => .int
abbrev wsX110 : List Cond := u_ws RX11 TX11 19
theorem nmX11 : ∀ a, a < 19 → ∀ b, b < 19 → a ≠ b → (TX11 a).2.1 ≠ (TX11 b).2.1 := by decide +kernel
theorem tyX11_ok : ∀ k, k < 19 → parseFieldDescriptor (TX11 k).2.2.1 = some (tyX11 k) := by decide +kernel
abbrev cX11_init : ByteArray := prog_1_method_1_code
def yX11_init : MethodName := ⟨RX11, "<init>", "()V"⟩
abbrev cX11_feed : ByteArray := prog_1_method_2_code
def yX11_feed : MethodName := ⟨RX11, "feed", "(IIIII)I"⟩
abbrev cX11_end : ByteArray := prog_1_method_3_code
def yX11_end : MethodName := ⟨RX11, "end", "(I)Z"⟩
abbrev cX11_grammar : ByteArray := prog_1_method_4_code
def yX11_grammar : MethodName := ⟨RX11, "grammar", "()I"⟩
abbrev cX11_fault : ByteArray := prog_1_method_5_code
def yX11_fault : MethodName := ⟨RX11, "fault", "()I"⟩
abbrev cX11_rule : ByteArray := prog_1_method_6_code
def yX11_rule : MethodName := ⟨RX11, "rule", "(II)I"⟩
abbrev cX11_kind : ByteArray := prog_1_method_7_code
def yX11_kind : MethodName := ⟨RX11, "kind", "(II)I"⟩
abbrev cX11_item : ByteArray := prog_1_method_8_code
def yX11_item : MethodName := ⟨RX11, "item", "(II)I"⟩
abbrev cX11_place : ByteArray := prog_1_method_9_code
def yX11_place : MethodName := ⟨RX11, "place", "(II)I"⟩
abbrev cX11_step : ByteArray := prog_1_method_10_code
def yX11_step : MethodName := ⟨RX11, "step", "(III)I"⟩
abbrev cX11_merge : ByteArray := prog_1_method_11_code
def yX11_merge : MethodName := ⟨RX11, "merge", "(II)I"⟩
abbrev cX11_depth : ByteArray := prog_1_method_12_code
def yX11_depth : MethodName := ⟨RX11, "depth", "(I)I"⟩
abbrev cX11_drop : ByteArray := prog_1_method_13_code
def yX11_drop : MethodName := ⟨RX11, "drop", "(I)I"⟩
abbrev cX11_add : ByteArray := prog_1_method_14_code
def yX11_add : MethodName := ⟨RX11, "add", "(I)I"⟩
abbrev cX11_undo : ByteArray := prog_1_method_15_code
def yX11_undo : MethodName := ⟨RX11, "undo", "()I"⟩
abbrev cX11_twins : ByteArray := prog_1_method_16_code
def yX11_twins : MethodName := ⟨RX11, "twins", "(I)I"⟩
abbrev cX11_twin : ByteArray := prog_1_method_17_code
def yX11_twin : MethodName := ⟨RX11, "twin", "(III)I"⟩
abbrev cX11_suspects : ByteArray := prog_1_method_18_code
def yX11_suspects : MethodName := ⟨RX11, "suspects", "(I)I"⟩
abbrev cX11_suspectAt : ByteArray := prog_1_method_19_code
def yX11_suspectAt : MethodName := ⟨RX11, "suspectAt", "(II)I"⟩
abbrev cX11_proven : ByteArray := prog_1_method_20_code
def yX11_proven : MethodName := ⟨RX11, "proven", "()I"⟩
abbrev cX11_shadow : ByteArray := prog_1_method_21_code
def yX11_shadow : MethodName := ⟨RX11, "shadow", "()I"⟩
abbrev cX11_trees : ByteArray := prog_1_method_22_code
def yX11_trees : MethodName := ⟨RX11, "trees", "()I"⟩
abbrev cX11_tree : ByteArray := prog_1_method_23_code
def yX11_tree : MethodName := ⟨RX11, "tree", "(I)I"⟩
abbrev cX11_treeAt : ByteArray := prog_1_method_24_code
def yX11_treeAt : MethodName := ⟨RX11, "treeAt", "(I)I"⟩
abbrev cX11_witness : ByteArray := prog_1_method_25_code
def yX11_witness : MethodName := ⟨RX11, "witness", "(I)I"⟩
abbrev cX11_witnessAt : ByteArray := prog_1_method_26_code
def yX11_witnessAt : MethodName := ⟨RX11, "witnessAt", "(I)I"⟩
abbrev cX11_tag : ByteArray := prog_1_method_27_code
def yX11_tag : MethodName := ⟨RX11, "tag", "(I)I"⟩
abbrev cX11_byteAt : ByteArray := prog_1_method_28_code
def yX11_byteAt : MethodName := ⟨RX11, "byteAt", "(I)I"⟩
abbrev cX11_drawn : ByteArray := prog_1_method_29_code
def yX11_drawn : MethodName := ⟨RX11, "drawn", "(II)I"⟩
abbrev cX11_odds : ByteArray := prog_1_method_30_code
def yX11_odds : MethodName := ⟨RX11, "odds", "(II)I"⟩
abbrev cX11_book : ByteArray := prog_1_method_31_code
def yX11_book : MethodName := ⟨RX11, "book", "(I)I"⟩
abbrev cX11_told : ByteArray := prog_1_method_32_code
def yX11_told : MethodName := ⟨RX11, "told", "(I)I"⟩
abbrev cX11_sentence : ByteArray := prog_1_method_33_code
def yX11_sentence : MethodName := ⟨RX11, "sentence", "()I"⟩
abbrev cX11_said : ByteArray := prog_1_method_34_code
def yX11_said : MethodName := ⟨RX11, "said", "(I)I"⟩
abbrev cX11_image : ByteArray := prog_1_method_35_code
def yX11_image : MethodName := ⟨RX11, "image", "(I)Z"⟩
abbrev cX11_restore : ByteArray := prog_1_method_36_code
def yX11_restore : MethodName := ⟨RX11, "restore", "(I)Z"⟩
abbrev cX11_count : ByteArray := prog_1_method_37_code
def yX11_count : MethodName := ⟨RX11, "count", "(I)I"⟩
abbrev cX11_changed : ByteArray := prog_1_method_38_code
def yX11_changed : MethodName := ⟨RX11, "changed", "()V"⟩
abbrev cX11_settled : ByteArray := prog_1_method_39_code
def yX11_settled : MethodName := ⟨RX11, "settled", "(I)I"⟩
abbrev cX11_remember : ByteArray := prog_1_method_40_code
def yX11_remember : MethodName := ⟨RX11, "remember", "(LTwinTrees$Model;)V"⟩
abbrev cX11_placed : ByteArray := prog_1_method_41_code
def yX11_placed : MethodName := ⟨RX11, "placed", "()Z"⟩
abbrev cX11_isPlace : ByteArray := prog_1_method_42_code
def yX11_isPlace : MethodName := ⟨RX11, "isPlace", "(I)Z"⟩
abbrev cX11_followed : ByteArray := prog_1_method_43_code
def yX11_followed : MethodName := ⟨RX11, "followed", "()Z"⟩
abbrev cX11_tagByte : ByteArray := prog_1_method_44_code
def yX11_tagByte : MethodName := ⟨RX11, "tagByte", "(I)V"⟩
abbrev cX11_tagName : ByteArray := prog_1_method_45_code
def yX11_tagName : MethodName := ⟨RX11, "tagName", "(J)V"⟩
def RX12 : String := "TwinTreesModel"
def TX12 : u_T := fun k => match k with
  | 0 => ("TwinTreesModel", "tape", "[B", true)
  | 1 => ("TwinTreesModel", "length", "I", false)
  | 2 => ("TwinTreesModel", "size", "I", false)
  | 3 => ("TwinTreesModel", "p", "I", false)
  | 4 => ("TwinTreesModel", "limit", "I", false)
  | 5 => ("TwinTreesModel", "s", "[I", true)
  | 6 => ("TwinTreesModel", "h", "[I", true)
  | 7 => ("TwinTreesModel", "read", "[I", true)
  | 8 => ("TwinTreesModel", "line", "[I", true)
  | 9 => ("TwinTreesModel", "names", "[J", true)
  | 10 => ("TwinTreesModel", "reserved", "[J", true)
  | 11 => ("TwinTreesModel", "token", "I", false)
  | 12 => ("TwinTreesModel", "at", "I", false)
  | 13 => ("TwinTreesModel", "span", "I", false)
  | 14 => ("TwinTreesModel", "number", "I", false)
  | 15 => ("TwinTreesModel", "fault", "I", false)
  | 16 => ("TwinTreesModel", "faultAt", "I", false)
  | 17 => ("TwinTreesModel", "word", "J", false)
  | 18 => ("TwinTreesModel", "got", "I", false)
  | 19 => ("TwinTreesModel", "lines", "I", false)
  | 20 => ("TwinTreesModel", "ruleOf", "[I", true)
  | 21 => ("TwinTreesModel", "dotOf", "[I", true)
  | 22 => ("TwinTreesModel", "nextOf", "[I", true)
  | 23 => ("TwinTreesModel", "firstOf", "[I", true)
  | 24 => ("TwinTreesModel", "items", "I", false)
  | 25 => ("TwinTreesModel", "hasItems", "Z", false)
  | 26 => ("TwinTreesModel", "hasPlaces", "Z", false)
  | 27 => ("TwinTreesModel", "hasTwins", "Z", false)
  | 28 => ("TwinTreesModel", "hasCounts", "Z", false)
  | 29 => ("TwinTreesModel", "empties", "I", false)
  | 30 => ("TwinTreesModel", "lives", "I", false)
  | 31 => ("TwinTreesModel", "begin", "[I", true)
  | 32 => ("TwinTreesModel", "follow", "[I", true)
  | 33 => ("TwinTreesModel", "same", "[I", true)
  | 34 => ("TwinTreesModel", "placeClass", "[I", true)
  | 35 => ("TwinTreesModel", "placeCaller", "[I", true)
  | 36 => ("TwinTreesModel", "placeAt", "[I", true)
  | 37 => ("TwinTreesModel", "firstStep", "[I", true)
  | 38 => ("TwinTreesModel", "steps", "[I", true)
  | 39 => ("TwinTreesModel", "goes", "[Z", true)
  | 40 => ("TwinTreesModel", "places", "I", false)
  | 41 => ("TwinTreesModel", "stepMany", "I", false)
  | 42 => ("TwinTreesModel", "far", "[I", true)
  | 43 => ("TwinTreesModel", "order", "[I", true)
  | 44 => ("TwinTreesModel", "queue", "[I", true)
  | 45 => ("TwinTreesModel", "later", "[I", true)
  | 46 => ("TwinTreesModel", "meets", "[Z", true)
  | 47 => ("TwinTreesModel", "ordered", "I", false)
  | 48 => ("TwinTreesModel", "queued", "I", false)
  | 49 => ("TwinTreesModel", "latered", "I", false)
  | 50 => ("TwinTreesModel", "signsNow", "I", false)
  | 51 => ("TwinTreesModel", "asks", "Z", false)
  | 52 => ("TwinTreesModel", "found", "Z", false)
  | 53 => ("TwinTreesModel", "fresh", "[I", true)
  | 54 => ("TwinTreesModel", "undone", "[I", true)
  | 55 => ("TwinTreesModel", "before", "[I", true)
  | 56 => ("TwinTreesModel", "first", "[I", true)
  | 57 => ("TwinTreesModel", "undoMany", "I", false)
  | 58 => ("TwinTreesModel", "nothing", "[I", true)
  | 59 => ("TwinTreesModel", "chain", "[I", true)
  | 60 => ("TwinTreesModel", "unit", "[I", true)
  | 61 => ("TwinTreesModel", "base", "[I", true)
  | 62 => ("TwinTreesModel", "whole", "[I", true)
  | 63 => ("TwinTreesModel", "powers", "[I", true)
  | 64 => ("TwinTreesModel", "row", "[I", true)
  | 65 => ("TwinTreesModel", "trial", "[I", true)
  | 66 => ("TwinTreesModel", "rowMany", "I", false)
  | 67 => ("TwinTreesModel", "rest", "[I", true)
  | 68 => ("TwinTreesModel", "pile", "[I", true)
  | 69 => ("TwinTreesModel", "treeTry", "[I", true)
  | 70 => ("TwinTreesModel", "tree", "[I", true)
  | 71 => ("TwinTreesModel", "ends", "[I", true)
  | 72 => ("TwinTreesModel", "piled", "I", false)
  | 73 => ("TwinTreesModel", "treeMany", "I", false)
  | 74 => ("TwinTreesModel", "witness", "[I", true)
  | 75 => ("TwinTreesModel", "witnessMany", "I", false)
  | 76 => ("TwinTreesModel", "text", "[B", true)
  | 77 => ("TwinTreesModel", "textMany", "I", false)
  | 78 => ("TwinTreesModel", "seed", "I", false)
  | 79 => ("TwinTreesModel", "bookMany", "I", false)
  | 80 => ("TwinTreesModel", "toldAt", "[I", true)
  | 81 => ("TwinTreesModel", "hasTold", "Z", false)
  | 82 => ("TwinTreesModel", "stack", "[I", true)
  | 83 => ("TwinTreesModel", "codes", "I", false)
  | 84 => ("TwinTreesModel", "ones", "I", false)
  | 85 => ("TwinTreesModel", "top", "I", false)
  | 86 => ("TwinTreesModel", "deep", "I", false)
  | 87 => ("TwinTreesModel", "isWhole", "Z", false)
  | 88 => ("TwinTreesModel", "truths", "[Z", true)
  | 89 => ("TwinTreesModel", "imaged", "[I", true)
  | 90 => ("TwinTreesModel", "namesKept", "[J", true)
  | _ => ("TwinTreesModel", "areKept", "[Z", true)
def tyX12 : Nat → FieldType := fun k => match k with
  | 0 => .array .byte
  | 1 => .int
  | 2 => .int
  | 3 => .int
  | 4 => .int
  | 5 => .array .int
  | 6 => .array .int
  | 7 => .array .int
  | 8 => .array .int
  | 9 => .array .long
  | 10 => .array .long
  | 11 => .int
  | 12 => .int
  | 13 => .int
  | 14 => .int
  | 15 => .int
  | 16 => .int
  | 17 => .long
  | 18 => .int
  | 19 => .int
  | 20 => .array .int
  | 21 => .array .int
  | 22 => .array .int
  | 23 => .array .int
  | 24 => .int
  | 25 => .boolean
  | 26 => .boolean
  | 27 => .boolean
  | 28 => .boolean
  | 29 => .int
  | 30 => .int
  | 31 => .array .int
  | 32 => .array .int
  | 33 => .array .int
  | 34 => .array .int
  | 35 => .array .int
  | 36 => .array .int
  | 37 => .array .int
  | 38 => .array .int
  | 39 => .array .boolean
  | 40 => .int
  | 41 => .int
  | 42 => .array .int
  | 43 => .array .int
  | 44 => .array .int
  | 45 => .array .int
  | 46 => .array .boolean
  | 47 => .int
  | 48 => .int
  | 49 => .int
  | 50 => .int
  | 51 => .boolean
  | 52 => .boolean
  | 53 => .array .int
  | 54 => .array .int
  | 55 => .array .int
  | 56 => .array .int
  | 57 => .int
  | 58 => .array .int
  | 59 => .array .int
  | 60 => .array .int
  | 61 => .array .int
  | 62 => .array .int
  | 63 => .array .int
  | 64 => .array .int
  | 65 => .array .int
  | 66 => .int
  | 67 => .array .int
  | 68 => .array .int
  | 69 => .array .int
  | 70 => .array .int
  | 71 => .array .int
  | 72 => .int
  | 73 => .int
  | 74 => .array .int
  | 75 => .int
  | 76 => .array .byte
  | 77 => .int
  | 78 => .int
  | 79 => .int
  | 80 => .array .int
  | 81 => .boolean
  | 82 => .array .int
  | 83 => .int
  | 84 => .int
  | 85 => .int
  | 86 => .int
  | 87 => .boolean
  | 88 => .array .boolean
  | 89 => .array .int
  | 90 => .array .long
  | _ => .array .boolean
abbrev wsX120 : List Cond := u_ws RX12 TX12 92
theorem nmX12 : ∀ a, a < 92 → ∀ b, b < 92 → a ≠ b → (TX12 a).2.1 ≠ (TX12 b).2.1 := by decide +kernel
theorem tyX12_ok : ∀ k, k < 92 → parseFieldDescriptor (TX12 k).2.2.1 = some (tyX12 k) := by decide +kernel
abbrev cX12_feed : ByteArray := prog_14_method_1_code
def yX12_feed : MethodName := ⟨RX12, "feed", "(IIIII)I"⟩
abbrev cX12_four : ByteArray := prog_14_method_2_code
def yX12_four : MethodName := ⟨RX12, "four", "(I)V"⟩
abbrev cX12_end : ByteArray := prog_14_method_3_code
def yX12_end : MethodName := ⟨RX12, "end", "(I)Z"⟩
abbrev cX12_taken : ByteArray := prog_14_method_4_code
def yX12_taken : MethodName := ⟨RX12, "taken", "(I)V"⟩
abbrev cX12_isIn : ByteArray := prog_14_method_5_code
def yX12_isIn : MethodName := ⟨RX12, "isIn", "(III)Z"⟩
abbrev cX12_bitOf : ByteArray := prog_14_method_6_code
def yX12_bitOf : MethodName := ⟨RX12, "bitOf", "(II)Z"⟩
abbrev cX12_init : ByteArray := prog_14_method_7_code
def yX12_init : MethodName := ⟨RX12, "<init>", "()V"⟩
abbrev cX12_peek : ByteArray := prog_14_method_8_code
def yX12_peek : MethodName := ⟨RX12, "peek", "()I"⟩
abbrev cX12_isSmall : ByteArray := prog_14_method_9_code
def yX12_isSmall : MethodName := ⟨RX12, "isSmall", "(I)Z"⟩
abbrev cX12_isDigit : ByteArray := prog_14_method_10_code
def yX12_isDigit : MethodName := ⟨RX12, "isDigit", "(I)Z"⟩
abbrev cX12_next : ByteArray := prog_14_method_11_code
def yX12_next : MethodName := ⟨RX12, "next", "()V"⟩
abbrev cX12_bad : ByteArray := prog_14_method_12_code
def yX12_bad : MethodName := ⟨RX12, "bad", "(I)Z"⟩
abbrev cX12_isWord : ByteArray := prog_14_method_13_code
def yX12_isWord : MethodName := ⟨RX12, "isWord", "(J)Z"⟩
abbrev cX12_isSign : ByteArray := prog_14_method_14_code
def yX12_isSign : MethodName := ⟨RX12, "isSign", "(I)Z"⟩
abbrev cX12_sign : ByteArray := prog_14_method_15_code
def yX12_sign : MethodName := ⟨RX12, "sign", "(I)Z"⟩
abbrev cX12_isName : ByteArray := prog_14_method_16_code
def yX12_isName : MethodName := ⟨RX12, "isName", "()Z"⟩
abbrev cX12_takes : ByteArray := prog_14_method_17_code
def yX12_takes : MethodName := ⟨RX12, "takes", "(II)Z"⟩
abbrev cX12_seek : ByteArray := prog_14_method_18_code
def yX12_seek : MethodName := ⟨RX12, "seek", "(II)I"⟩
abbrev cX12_looksAt : ByteArray := prog_14_method_19_code
def yX12_looksAt : MethodName := ⟨RX12, "looksAt", "(IIIZ)Z"⟩
abbrev cX12_readName : ByteArray := prog_14_method_20_code
def yX12_readName : MethodName := ⟨RX12, "readName", "(III)Z"⟩
abbrev cX12_readRule : ByteArray := prog_14_method_21_code
def yX12_readRule : MethodName := ⟨RX12, "readRule", "([IIIII)Z"⟩
abbrev cX12_readLine : ByteArray := prog_14_method_22_code
def yX12_readLine : MethodName := ⟨RX12, "readLine", "()Z"⟩
abbrev cX12_grammar : ByteArray := prog_14_method_23_code
def yX12_grammar : MethodName := ⟨RX12, "grammar", "()I"⟩
abbrev cX12_fault : ByteArray := prog_14_method_24_code
def yX12_fault : MethodName := ⟨RX12, "fault", "()I"⟩
abbrev cX12_other : ByteArray := prog_14_method_25_code
def yX12_other : MethodName := ⟨RX12, "other", "()V"⟩
abbrev cX12_alone : ByteArray := prog_14_method_26_code
def yX12_alone : MethodName := ⟨RX12, "alone", "()V"⟩
abbrev cX12_kindOf : ByteArray := prog_14_method_27_code
def yX12_kindOf : MethodName := ⟨RX12, "kindOf", "(I)I"⟩
abbrev cX12_many : ByteArray := prog_14_method_28_code
def yX12_many : MethodName := ⟨RX12, "many", "(I)I"⟩
abbrev cX12_symbol : ByteArray := prog_14_method_29_code
def yX12_symbol : MethodName := ⟨RX12, "symbol", "(II)I"⟩
abbrev cX12_isRule : ByteArray := prog_14_method_30_code
def yX12_isRule : MethodName := ⟨RX12, "isRule", "(I)Z"⟩
abbrev cX12_isKind : ByteArray := prog_14_method_31_code
def yX12_isKind : MethodName := ⟨RX12, "isKind", "(I)Z"⟩
abbrev cX12_laysItems : ByteArray := prog_14_method_32_code
def yX12_laysItems : MethodName := ⟨RX12, "laysItems", "()V"⟩
abbrev cX12_isItem : ByteArray := prog_14_method_33_code
def yX12_isItem : MethodName := ⟨RX12, "isItem", "(I)Z"⟩
abbrev cX12_classes : ByteArray := prog_14_method_34_code
def yX12_classes : MethodName := ⟨RX12, "classes", "()I"⟩
abbrev cX12_inClass : ByteArray := prog_14_method_35_code
def yX12_inClass : MethodName := ⟨RX12, "inClass", "(I)I"⟩
abbrev cX12_rule : ByteArray := prog_14_method_36_code
def yX12_rule : MethodName := ⟨RX12, "rule", "(II)I"⟩
abbrev cX12_item : ByteArray := prog_14_method_37_code
def yX12_item : MethodName := ⟨RX12, "item", "(II)I"⟩
abbrev cX12_isAll : ByteArray := prog_14_method_38_code
def yX12_isAll : MethodName := ⟨RX12, "isAll", "(IIIZ)Z"⟩
abbrev cX12_laysEmpties : ByteArray := prog_14_method_39_code
def yX12_laysEmpties : MethodName := ⟨RX12, "laysEmpties", "()V"⟩
abbrev cX12_beginOf : ByteArray := prog_14_method_40_code
def yX12_beginOf : MethodName := ⟨RX12, "beginOf", "(I)I"⟩
abbrev cX12_laysBegins : ByteArray := prog_14_method_41_code
def yX12_laysBegins : MethodName := ⟨RX12, "laysBegins", "()V"⟩
abbrev cX12_laysFollows : ByteArray := prog_14_method_42_code
def yX12_laysFollows : MethodName := ⟨RX12, "laysFollows", "()V"⟩
abbrev cX12_isEndless : ByteArray := prog_14_method_43_code
def yX12_isEndless : MethodName := ⟨RX12, "isEndless", "(I)Z"⟩
abbrev cX12_isUsed : ByteArray := prog_14_method_44_code
def yX12_isUsed : MethodName := ⟨RX12, "isUsed", "(I)Z"⟩
abbrev cX12_rulesOf : ByteArray := prog_14_method_45_code
def yX12_rulesOf : MethodName := ⟨RX12, "rulesOf", "(I)I"⟩
abbrev cX12_kind : ByteArray := prog_14_method_46_code
def yX12_kind : MethodName := ⟨RX12, "kind", "(II)I"⟩
abbrev cX12_behind : ByteArray := prog_14_method_47_code
def yX12_behind : MethodName := ⟨RX12, "behind", "(I)I"⟩
abbrev cX12_isFrom : ByteArray := prog_14_method_48_code
def yX12_isFrom : MethodName := ⟨RX12, "isFrom", "(II)Z"⟩
abbrev cX12_isPair : ByteArray := prog_14_method_49_code
def yX12_isPair : MethodName := ⟨RX12, "isPair", "(II)Z"⟩
abbrev cX12_newPlace : ByteArray := prog_14_method_50_code
def yX12_newPlace : MethodName := ⟨RX12, "newPlace", "(II)Z"⟩
abbrev cX12_laysPlaces : ByteArray := prog_14_method_51_code
def yX12_laysPlaces : MethodName := ⟨RX12, "laysPlaces", "()Z"⟩
abbrev cX12_atItem : ByteArray := prog_14_method_52_code
def yX12_atItem : MethodName := ⟨RX12, "atItem", "(II)I"⟩
abbrev cX12_laysSteps : ByteArray := prog_14_method_53_code
def yX12_laysSteps : MethodName := ⟨RX12, "laysSteps", "(I)V"⟩
abbrev cX12_stepsOf : ByteArray := prog_14_method_54_code
def yX12_stepsOf : MethodName := ⟨RX12, "stepsOf", "(II)V"⟩
abbrev cX12_closes : ByteArray := prog_14_method_55_code
def yX12_closes : MethodName := ⟨RX12, "closes", "(II)V"⟩
abbrev cX12_isPlace : ByteArray := prog_14_method_56_code
def yX12_isPlace : MethodName := ⟨RX12, "isPlace", "(I)Z"⟩
abbrev cX12_comers : ByteArray := prog_14_method_57_code
def yX12_comers : MethodName := ⟨RX12, "comers", "(I)I"⟩
abbrev cX12_place : ByteArray := prog_14_method_58_code
def yX12_place : MethodName := ⟨RX12, "place", "(II)I"⟩
abbrev cX12_step : ByteArray := prog_14_method_59_code
def yX12_step : MethodName := ⟨RX12, "step", "(III)I"⟩
abbrev cX12_comes : ByteArray := prog_14_method_60_code
def yX12_comes : MethodName := ⟨RX12, "comes", "(IIIZ)V"⟩
abbrev cX12_hasSign : ByteArray := prog_14_method_61_code
def yX12_hasSign : MethodName := ⟨RX12, "hasSign", "(I)Z"⟩
abbrev cX12_together : ByteArray := prog_14_method_62_code
def yX12_together : MethodName := ⟨RX12, "together", "(III)V"⟩
abbrev cX12_goesOn : ByteArray := prog_14_method_63_code
def yX12_goesOn : MethodName := ⟨RX12, "goesOn", "(I)V"⟩
abbrev cX12_laysTwins : ByteArray := prog_14_method_64_code
def yX12_laysTwins : MethodName := ⟨RX12, "laysTwins", "()Z"⟩
abbrev cX12_twins : ByteArray := prog_14_method_65_code
def yX12_twins : MethodName := ⟨RX12, "twins", "(I)I"⟩
abbrev cX12_twin : ByteArray := prog_14_method_66_code
def yX12_twin : MethodName := ⟨RX12, "twin", "(III)I"⟩
abbrev cX12_suspects : ByteArray := prog_14_method_67_code
def yX12_suspects : MethodName := ⟨RX12, "suspects", "(I)I"⟩
abbrev cX12_suspectAt : ByteArray := prog_14_method_68_code
def yX12_suspectAt : MethodName := ⟨RX12, "suspectAt", "(II)I"⟩
abbrev cX12_isProven : ByteArray := prog_14_method_69_code
def yX12_isProven : MethodName := ⟨RX12, "isProven", "()Z"⟩
abbrev cX12_proven : ByteArray := prog_14_method_70_code
def yX12_proven : MethodName := ⟨RX12, "proven", "()I"⟩
abbrev cX12_shadow : ByteArray := prog_14_method_71_code
def yX12_shadow : MethodName := ⟨RX12, "shadow", "()I"⟩
abbrev cX12_merges : ByteArray := prog_14_method_72_code
def yX12_merges : MethodName := ⟨RX12, "merges", "(II)I"⟩
abbrev cX12_mayMerge : ByteArray := prog_14_method_73_code
def yX12_mayMerge : MethodName := ⟨RX12, "mayMerge", "(II)Z"⟩
abbrev cX12_depths : ByteArray := prog_14_method_74_code
def yX12_depths : MethodName := ⟨RX12, "depths", "(I)I"⟩
abbrev cX12_drops : ByteArray := prog_14_method_75_code
def yX12_drops : MethodName := ⟨RX12, "drops", "(I)V"⟩
abbrev cX12_adds : ByteArray := prog_14_method_76_code
def yX12_adds : MethodName := ⟨RX12, "adds", "([II)I"⟩
abbrev cX12_merge : ByteArray := prog_14_method_77_code
def yX12_merge : MethodName := ⟨RX12, "merge", "(II)I"⟩
abbrev cX12_depth : ByteArray := prog_14_method_78_code
def yX12_depth : MethodName := ⟨RX12, "depth", "(I)I"⟩
abbrev cX12_drop : ByteArray := prog_14_method_79_code
def yX12_drop : MethodName := ⟨RX12, "drop", "(I)I"⟩
abbrev cX12_add : ByteArray := prog_14_method_80_code
def yX12_add : MethodName := ⟨RX12, "add", "(I)I"⟩
abbrev cX12_stores : ByteArray := prog_14_method_81_code
def yX12_stores : MethodName := ⟨RX12, "stores", "([I)V"⟩
abbrev cX12_copies : ByteArray := prog_14_method_82_code
def yX12_copies : MethodName := ⟨RX12, "copies", "([I)V"⟩
abbrev cX12_brings : ByteArray := prog_14_method_83_code
def yX12_brings : MethodName := ⟨RX12, "brings", "([II)V"⟩
abbrev cX12_keeps : ByteArray := prog_14_method_84_code
def yX12_keeps : MethodName := ⟨RX12, "keeps", "()V"⟩
abbrev cX12_undo : ByteArray := prog_14_method_85_code
def yX12_undo : MethodName := ⟨RX12, "undo", "()I"⟩
abbrev cX12_less : ByteArray := prog_14_method_86_code
def yX12_less : MethodName := ⟨RX12, "less", "(J)I"⟩
abbrev cX12_laysCounts : ByteArray := prog_14_method_87_code
def yX12_laysCounts : MethodName := ⟨RX12, "laysCounts", "()V"⟩
abbrev cX12_isFull : ByteArray := prog_14_method_88_code
def yX12_isFull : MethodName := ⟨RX12, "isFull", "(II)Z"⟩
abbrev cX12_others : ByteArray := prog_14_method_89_code
def yX12_others : MethodName := ⟨RX12, "others", "(III)I"⟩
abbrev cX12_nothings : ByteArray := prog_14_method_90_code
def yX12_nothings : MethodName := ⟨RX12, "nothings", "(II)I"⟩
abbrev cX12_chains : ByteArray := prog_14_method_91_code
def yX12_chains : MethodName := ⟨RX12, "chains", "(III)I"⟩
abbrev cX12_treesOf : ByteArray := prog_14_method_92_code
def yX12_treesOf : MethodName := ⟨RX12, "treesOf", "(IIII)I"⟩
abbrev cX12_symbolOn : ByteArray := prog_14_method_93_code
def yX12_symbolOn : MethodName := ⟨RX12, "symbolOn", "([IIIIIII)I"⟩
abbrev cX12_ways : ByteArray := prog_14_method_94_code
def yX12_ways : MethodName := ⟨RX12, "ways", "([IIIII)I"⟩
abbrev cX12_laysEnd : ByteArray := prog_14_method_95_code
def yX12_laysEnd : MethodName := ⟨RX12, "laysEnd", "([II)V"⟩
abbrev cX12_laysRow : ByteArray := prog_14_method_96_code
def yX12_laysRow : MethodName := ⟨RX12, "laysRow", "()V"⟩
abbrev cX12_trees : ByteArray := prog_14_method_97_code
def yX12_trees : MethodName := ⟨RX12, "trees", "()I"⟩
abbrev cX12_piles : ByteArray := prog_14_method_98_code
def yX12_piles : MethodName := ⟨RX12, "piles", "(IIIII)V"⟩
abbrev cX12_tells : ByteArray := prog_14_method_99_code
def yX12_tells : MethodName := ⟨RX12, "tells", "(IIIII)I"⟩
abbrev cX12_ahead : ByteArray := prog_14_method_100_code
def yX12_ahead : MethodName := ⟨RX12, "ahead", "(IIIII)I"⟩
abbrev cX12_tree : ByteArray := prog_14_method_101_code
def yX12_tree : MethodName := ⟨RX12, "tree", "(I)I"⟩
abbrev cX12_treeAt : ByteArray := prog_14_method_102_code
def yX12_treeAt : MethodName := ⟨RX12, "treeAt", "(I)I"⟩
abbrev cX12_seeksOf : ByteArray := prog_14_method_103_code
def yX12_seeksOf : MethodName := ⟨RX12, "seeksOf", "(I)Z"⟩
abbrev cX12_witness : ByteArray := prog_14_method_104_code
def yX12_witness : MethodName := ⟨RX12, "witness", "(I)I"⟩
abbrev cX12_witnessAt : ByteArray := prog_14_method_105_code
def yX12_witnessAt : MethodName := ⟨RX12, "witnessAt", "(I)I"⟩
abbrev cX12_lays : ByteArray := prog_14_method_106_code
def yX12_lays : MethodName := ⟨RX12, "lays", "(I)V"⟩
abbrev cX12_spells : ByteArray := prog_14_method_107_code
def yX12_spells : MethodName := ⟨RX12, "spells", "(J)V"⟩
abbrev cX12_spellsBlank : ByteArray := prog_14_method_108_code
def yX12_spellsBlank : MethodName := ⟨RX12, "spellsBlank", "(J)V"⟩
abbrev cX12_tag : ByteArray := prog_14_method_109_code
def yX12_tag : MethodName := ⟨RX12, "tag", "(I)I"⟩
abbrev cX12_byteAt : ByteArray := prog_14_method_110_code
def yX12_byteAt : MethodName := ⟨RX12, "byteAt", "(I)I"⟩
abbrev cX12_draw : ByteArray := prog_14_method_111_code
def yX12_draw : MethodName := ⟨RX12, "draw", "(I)I"⟩
abbrev cX12_drawsMerge : ByteArray := prog_14_method_112_code
def yX12_drawsMerge : MethodName := ⟨RX12, "drawsMerge", "()Z"⟩
abbrev cX12_drawsRule : ByteArray := prog_14_method_113_code
def yX12_drawsRule : MethodName := ⟨RX12, "drawsRule", "()Z"⟩
abbrev cX12_drawDeed : ByteArray := prog_14_method_114_code
def yX12_drawDeed : MethodName := ⟨RX12, "drawDeed", "()Z"⟩
abbrev cX12_drawn : ByteArray := prog_14_method_115_code
def yX12_drawn : MethodName := ⟨RX12, "drawn", "(II)I"⟩
abbrev cX12_odds : ByteArray := prog_14_method_116_code
def yX12_odds : MethodName := ⟨RX12, "odds", "(II)I"⟩
abbrev cX12_takesTwo : ByteArray := prog_14_method_117_code
def yX12_takesTwo : MethodName := ⟨RX12, "takesTwo", "(IIIZ)Z"⟩
abbrev cX12_bookLine : ByteArray := prog_14_method_118_code
def yX12_bookLine : MethodName := ⟨RX12, "bookLine", "()Z"⟩
abbrev cX12_does : ByteArray := prog_14_method_119_code
def yX12_does : MethodName := ⟨RX12, "does", "(I)I"⟩
abbrev cX12_book : ByteArray := prog_14_method_120_code
def yX12_book : MethodName := ⟨RX12, "book", "(I)I"⟩
abbrev cX12_told : ByteArray := prog_14_method_121_code
def yX12_told : MethodName := ⟨RX12, "told", "(I)I"⟩
abbrev cX12_code : ByteArray := prog_14_method_122_code
def yX12_code : MethodName := ⟨RX12, "code", "(III)V"⟩
abbrev cX12_joins : ByteArray := prog_14_method_123_code
def yX12_joins : MethodName := ⟨RX12, "joins", "(I)V"⟩
abbrev cX12_nots : ByteArray := prog_14_method_124_code
def yX12_nots : MethodName := ⟨RX12, "nots", "()V"⟩
abbrev cX12_leafOf : ByteArray := prog_14_method_125_code
def yX12_leafOf : MethodName := ⟨RX12, "leafOf", "()I"⟩
abbrev cX12_operand : ByteArray := prog_14_method_126_code
def yX12_operand : MethodName := ⟨RX12, "operand", "()Z"⟩
abbrev cX12_behindOne : ByteArray := prog_14_method_127_code
def yX12_behindOne : MethodName := ⟨RX12, "behindOne", "()Z"⟩
abbrev cX12_sentence : ByteArray := prog_14_method_128_code
def yX12_sentence : MethodName := ⟨RX12, "sentence", "()I"⟩
abbrev cX12_isSo : ByteArray := prog_14_method_129_code
def yX12_isSo : MethodName := ⟨RX12, "isSo", "(III)Z"⟩
abbrev cX12_isLeaf : ByteArray := prog_14_method_130_code
def yX12_isLeaf : MethodName := ⟨RX12, "isLeaf", "(IIII)Z"⟩
abbrev cX12_isSaid : ByteArray := prog_14_method_131_code
def yX12_isSaid : MethodName := ⟨RX12, "isSaid", "(I)Z"⟩
abbrev cX12_said : ByteArray := prog_14_method_132_code
def yX12_said : MethodName := ⟨RX12, "said", "(I)I"⟩
abbrev cX12_image : ByteArray := prog_14_method_133_code
def yX12_image : MethodName := ⟨RX12, "image", "(I)Z"⟩
abbrev cX12_restore : ByteArray := prog_14_method_134_code
def yX12_restore : MethodName := ⟨RX12, "restore", "(I)Z"⟩
abbrev cX12_count : ByteArray := prog_14_method_135_code
def yX12_count : MethodName := ⟨RX12, "count", "(I)I"⟩
def RJ13 : String := "java/lang/Long"
abbrev cJ13_bitCount_95d88 : ByteArray := prog_15_method_50_code
def yJ13_bitCount_95d88 : MethodName := ⟨RJ13, "bitCount", "(J)I"⟩
def RJ9 : String := "java/lang/Math"
abbrev cJ9_max_7cf53 : ByteArray := prog_16_method_65_code
def yJ9_max_7cf53 : MethodName := ⟨RJ9, "max", "(II)I"⟩
abbrev cJ9_min_7cf53 : ByteArray := prog_16_method_69_code
def yJ9_min_7cf53 : MethodName := ⟨RJ9, "min", "(II)I"⟩
def RJ10 : String := "java/lang/System"
def RL : String := "TwinTreesLaw"
abbrev cL_law : ByteArray := code
abbrev vwCl : List vw_C := [(RX0, TX0, 8), (RX1, TX1, 14), (RX2, TX2, 1), (RX3, TX3, 7), (RX4, TX4, 14), (RX5, TX5, 5), (RX6, TX6, 12), (RX7, TX7, 15), (RX8, TX8, 4), (RX9, TX9, 7), (RX10, TX10, 11), (RX11, TX11, 19), (RX12, TX12, 92)]

section
-- ===== PART A: goes FIRST, ahead of the names: the tables' words, and 'selects' of the private methods out of them =====
/-- a private method of a class that the tables say can be made, by its rows of tables_1 -/
def lw_okq (q : MethodName × Nat) : Prop := (q.1.cls ≠ "java/lang/invoke/MethodHandle" ∧ q.1.cls ≠ "java/lang/invoke/VarHandle") ∧ Cond.instantiable q.1.cls q.2 ∈ tables_1 ∧ Cond.privateMethod q.1 ∈ tables_1 ∧ Cond.instanceMethod q.1 ∈ tables_1
theorem lw_p0 : lw_okq (⟨"java/util/ArrayList", "add", "(Ljava/lang/Object;[Ljava/lang/Object;I)V"⟩, 3) := ⟨⟨by decide +kernel, by decide +kernel⟩, List.mem_of_getElem? (i := 29) (by decide +kernel), List.mem_of_getElem? (i := 259) (by decide +kernel), List.mem_of_getElem? (i := 260) (by decide +kernel)⟩
theorem lw_p1 : lw_okq (⟨"java/util/ArrayList", "grow", "()[Ljava/lang/Object;"⟩, 3) := ⟨⟨by decide +kernel, by decide +kernel⟩, List.mem_of_getElem? (i := 29) (by decide +kernel), List.mem_of_getElem? (i := 263) (by decide +kernel), List.mem_of_getElem? (i := 264) (by decide +kernel)⟩
theorem lw_p2 : lw_okq (⟨"java/util/ArrayList", "grow", "(I)[Ljava/lang/Object;"⟩, 3) := ⟨⟨by decide +kernel, by decide +kernel⟩, List.mem_of_getElem? (i := 29) (by decide +kernel), List.mem_of_getElem? (i := 267) (by decide +kernel), List.mem_of_getElem? (i := 268) (by decide +kernel)⟩
theorem lw_p3 : lw_okq (⟨"CrossingKeeper", "phaseAt", "(I)LCrossingKeeper$Phase;"⟩, 16) := ⟨⟨by decide +kernel, by decide +kernel⟩, List.mem_of_getElem? (i := 21) (by decide +kernel), List.mem_of_getElem? (i := 317) (by decide +kernel), List.mem_of_getElem? (i := 318) (by decide +kernel)⟩
theorem lw_p4 : lw_okq (⟨"CrossingKeeper", "detectorAt", "(I)LCrossingKeeper$Detector;"⟩, 16) := ⟨⟨by decide +kernel, by decide +kernel⟩, List.mem_of_getElem? (i := 21) (by decide +kernel), List.mem_of_getElem? (i := 414) (by decide +kernel), List.mem_of_getElem? (i := 415) (by decide +kernel)⟩
theorem lw_p5 : lw_okq (⟨"CrossingKeeper", "stageAt", "(I)LCrossingKeeper$Stage;"⟩, 16) := ⟨⟨by decide +kernel, by decide +kernel⟩, List.mem_of_getElem? (i := 21) (by decide +kernel), List.mem_of_getElem? (i := 501) (by decide +kernel), List.mem_of_getElem? (i := 502) (by decide +kernel)⟩
theorem lw_p6 : lw_okq (⟨"CrossingKeeper", "doOrders", "(I)V"⟩, 16) := ⟨⟨by decide +kernel, by decide +kernel⟩, List.mem_of_getElem? (i := 21) (by decide +kernel), List.mem_of_getElem? (i := 509) (by decide +kernel), List.mem_of_getElem? (i := 510) (by decide +kernel)⟩
theorem lw_p7 : lw_okq (⟨"java/util/ArrayList", "fastRemove", "([Ljava/lang/Object;I)V"⟩, 3) := ⟨⟨by decide +kernel, by decide +kernel⟩, List.mem_of_getElem? (i := 29) (by decide +kernel), List.mem_of_getElem? (i := 521) (by decide +kernel), List.mem_of_getElem? (i := 522) (by decide +kernel)⟩
theorem lw_p8 : lw_okq (⟨"CrossingKeeper", "runLights", "(I)V"⟩, 16) := ⟨⟨by decide +kernel, by decide +kernel⟩, List.mem_of_getElem? (i := 21) (by decide +kernel), List.mem_of_getElem? (i := 526) (by decide +kernel), List.mem_of_getElem? (i := 527) (by decide +kernel)⟩
theorem lw_p9 : lw_okq (⟨"CrossingKeeper", "readPhases", "(I)V"⟩, 16) := ⟨⟨by decide +kernel, by decide +kernel⟩, List.mem_of_getElem? (i := 21) (by decide +kernel), List.mem_of_getElem? (i := 530) (by decide +kernel), List.mem_of_getElem? (i := 531) (by decide +kernel)⟩
theorem lw_p10 : lw_okq (⟨"CrossingKeeper", "holdsIn", "(LCrossingKeeper$Phase;I)Z"⟩, 16) := ⟨⟨by decide +kernel, by decide +kernel⟩, List.mem_of_getElem? (i := 21) (by decide +kernel), List.mem_of_getElem? (i := 534) (by decide +kernel), List.mem_of_getElem? (i := 535) (by decide +kernel)⟩
theorem lw_p11 : lw_okq (⟨"CrossingKeeper$Bodies", "holdsAsCar", "(I)Z"⟩, 1) := ⟨⟨by decide +kernel, by decide +kernel⟩, List.mem_of_getElem? (i := 101) (by decide +kernel), List.mem_of_getElem? (i := 542) (by decide +kernel), List.mem_of_getElem? (i := 543) (by decide +kernel)⟩
theorem lw_p12 : lw_okq (⟨"CrossingKeeper$Bodies", "holdsAsWalk", "()Z"⟩, 1) := ⟨⟨by decide +kernel, by decide +kernel⟩, List.mem_of_getElem? (i := 101) (by decide +kernel), List.mem_of_getElem? (i := 546) (by decide +kernel), List.mem_of_getElem? (i := 547) (by decide +kernel)⟩
theorem lw_p13 : lw_okq (⟨"CrossingKeeper$Bodies", "holdsAsTram", "(I)Z"⟩, 1) := ⟨⟨by decide +kernel, by decide +kernel⟩, List.mem_of_getElem? (i := 101) (by decide +kernel), List.mem_of_getElem? (i := 550) (by decide +kernel), List.mem_of_getElem? (i := 551) (by decide +kernel)⟩
theorem lw_p14 : lw_okq (⟨"CrossingKeeper$Bodies", "holdsAsRest", "()Z"⟩, 1) := ⟨⟨by decide +kernel, by decide +kernel⟩, List.mem_of_getElem? (i := 101) (by decide +kernel), List.mem_of_getElem? (i := 554) (by decide +kernel), List.mem_of_getElem? (i := 555) (by decide +kernel)⟩
theorem lw_p15 : lw_okq (⟨"CrossingKeeper", "rowsUntil", "(LCrossingKeeper$Phase;I)LCrossingKeeper$Detector;"⟩, 16) := ⟨⟨by decide +kernel, by decide +kernel⟩, List.mem_of_getElem? (i := 21) (by decide +kernel), List.mem_of_getElem? (i := 558) (by decide +kernel), List.mem_of_getElem? (i := 559) (by decide +kernel)⟩
def lw_privs_1 : List (MethodName × Nat) := [(⟨"java/util/ArrayList", "add", "(Ljava/lang/Object;[Ljava/lang/Object;I)V"⟩, 3), (⟨"java/util/ArrayList", "grow", "()[Ljava/lang/Object;"⟩, 3), (⟨"java/util/ArrayList", "grow", "(I)[Ljava/lang/Object;"⟩, 3), (⟨"CrossingKeeper", "phaseAt", "(I)LCrossingKeeper$Phase;"⟩, 16), (⟨"CrossingKeeper", "detectorAt", "(I)LCrossingKeeper$Detector;"⟩, 16), (⟨"CrossingKeeper", "stageAt", "(I)LCrossingKeeper$Stage;"⟩, 16), (⟨"CrossingKeeper", "doOrders", "(I)V"⟩, 16), (⟨"java/util/ArrayList", "fastRemove", "([Ljava/lang/Object;I)V"⟩, 3), (⟨"CrossingKeeper", "runLights", "(I)V"⟩, 16), (⟨"CrossingKeeper", "readPhases", "(I)V"⟩, 16), (⟨"CrossingKeeper", "holdsIn", "(LCrossingKeeper$Phase;I)Z"⟩, 16), (⟨"CrossingKeeper$Bodies", "holdsAsCar", "(I)Z"⟩, 1), (⟨"CrossingKeeper$Bodies", "holdsAsWalk", "()Z"⟩, 1), (⟨"CrossingKeeper$Bodies", "holdsAsTram", "(I)Z"⟩, 1), (⟨"CrossingKeeper$Bodies", "holdsAsRest", "()Z"⟩, 1), (⟨"CrossingKeeper", "rowsUntil", "(LCrossingKeeper$Phase;I)LCrossingKeeper$Detector;"⟩, 16)]
theorem lw_r1 : ∀ q ∈ lw_privs_1, lw_okq q := List.forall_mem_cons.mpr ⟨lw_p0, List.forall_mem_cons.mpr ⟨lw_p1, List.forall_mem_cons.mpr ⟨lw_p2, List.forall_mem_cons.mpr ⟨lw_p3, List.forall_mem_cons.mpr ⟨lw_p4, List.forall_mem_cons.mpr ⟨lw_p5, List.forall_mem_cons.mpr ⟨lw_p6, List.forall_mem_cons.mpr ⟨lw_p7, List.forall_mem_cons.mpr ⟨lw_p8, List.forall_mem_cons.mpr ⟨lw_p9, List.forall_mem_cons.mpr ⟨lw_p10, List.forall_mem_cons.mpr ⟨lw_p11, List.forall_mem_cons.mpr ⟨lw_p12, List.forall_mem_cons.mpr ⟨lw_p13, List.forall_mem_cons.mpr ⟨lw_p14, List.forall_mem_cons.mpr ⟨lw_p15, fun _ h => absurd h List.not_mem_nil⟩⟩⟩⟩⟩⟩⟩⟩⟩⟩⟩⟩⟩⟩⟩⟩
theorem lw_p16 : lw_okq (⟨"CrossingKeeper", "asksIn", "(LCrossingKeeper$Phase;I)Z"⟩, 16) := ⟨⟨by decide +kernel, by decide +kernel⟩, List.mem_of_getElem? (i := 21) (by decide +kernel), List.mem_of_getElem? (i := 575) (by decide +kernel), List.mem_of_getElem? (i := 576) (by decide +kernel)⟩
theorem lw_p17 : lw_okq (⟨"CrossingKeeper$Bodies", "asksAsCar", "(II)Z"⟩, 1) := ⟨⟨by decide +kernel, by decide +kernel⟩, List.mem_of_getElem? (i := 101) (by decide +kernel), List.mem_of_getElem? (i := 587) (by decide +kernel), List.mem_of_getElem? (i := 588) (by decide +kernel)⟩
theorem lw_p18 : lw_okq (⟨"CrossingKeeper$Bodies", "asksAsTurn", "(II)Z"⟩, 1) := ⟨⟨by decide +kernel, by decide +kernel⟩, List.mem_of_getElem? (i := 101) (by decide +kernel), List.mem_of_getElem? (i := 591) (by decide +kernel), List.mem_of_getElem? (i := 592) (by decide +kernel)⟩
theorem lw_p19 : lw_okq (⟨"CrossingKeeper$Bodies", "asksAsWalk", "(I)Z"⟩, 1) := ⟨⟨by decide +kernel, by decide +kernel⟩, List.mem_of_getElem? (i := 101) (by decide +kernel), List.mem_of_getElem? (i := 595) (by decide +kernel), List.mem_of_getElem? (i := 596) (by decide +kernel)⟩
theorem lw_p20 : lw_okq (⟨"CrossingKeeper$Bodies", "asksAsTram", "(I)Z"⟩, 1) := ⟨⟨by decide +kernel, by decide +kernel⟩, List.mem_of_getElem? (i := 101) (by decide +kernel), List.mem_of_getElem? (i := 599) (by decide +kernel), List.mem_of_getElem? (i := 600) (by decide +kernel)⟩
theorem lw_p21 : lw_okq (⟨"CrossingKeeper", "lookAtPairs", "(I)V"⟩, 16) := ⟨⟨by decide +kernel, by decide +kernel⟩, List.mem_of_getElem? (i := 21) (by decide +kernel), List.mem_of_getElem? (i := 603) (by decide +kernel), List.mem_of_getElem? (i := 604) (by decide +kernel)⟩
theorem lw_p22 : lw_okq (⟨"CrossingKeeper$Pair", "differIn", "(I)Z"⟩, 4) := ⟨⟨by decide +kernel, by decide +kernel⟩, List.mem_of_getElem? (i := 470) (by decide +kernel), List.mem_of_getElem? (i := 611) (by decide +kernel), List.mem_of_getElem? (i := 612) (by decide +kernel)⟩
theorem lw_p23 : lw_okq (⟨"CrossingKeeper", "faultToMeet", "()I"⟩, 16) := ⟨⟨by decide +kernel, by decide +kernel⟩, List.mem_of_getElem? (i := 21) (by decide +kernel), List.mem_of_getElem? (i := 617) (by decide +kernel), List.mem_of_getElem? (i := 618) (by decide +kernel)⟩
theorem lw_p24 : lw_okq (⟨"CrossingKeeper", "meetFault", "(II)V"⟩, 16) := ⟨⟨by decide +kernel, by decide +kernel⟩, List.mem_of_getElem? (i := 21) (by decide +kernel), List.mem_of_getElem? (i := 629) (by decide +kernel), List.mem_of_getElem? (i := 630) (by decide +kernel)⟩
theorem lw_p25 : lw_okq (⟨"CrossingKeeper", "changeLight", "(LCrossingKeeper$Phase;II)V"⟩, 16) := ⟨⟨by decide +kernel, by decide +kernel⟩, List.mem_of_getElem? (i := 21) (by decide +kernel), List.mem_of_getElem? (i := 637) (by decide +kernel), List.mem_of_getElem? (i := 638) (by decide +kernel)⟩
theorem lw_p26 : lw_okq (⟨"CrossingKeeper", "gapOf", "(LCrossingKeeper$Phase;I)I"⟩, 16) := ⟨⟨by decide +kernel, by decide +kernel⟩, List.mem_of_getElem? (i := 21) (by decide +kernel), List.mem_of_getElem? (i := 641) (by decide +kernel), List.mem_of_getElem? (i := 642) (by decide +kernel)⟩
theorem lw_p27 : lw_okq (⟨"CrossingKeeper", "setEnd", "(LCrossingKeeper$Phase;I)V"⟩, 16) := ⟨⟨by decide +kernel, by decide +kernel⟩, List.mem_of_getElem? (i := 21) (by decide +kernel), List.mem_of_getElem? (i := 645) (by decide +kernel), List.mem_of_getElem? (i := 646) (by decide +kernel)⟩
theorem lw_p28 : lw_okq (⟨"CrossingKeeper", "endsIn", "(LCrossingKeeper$Stage;I)Z"⟩, 16) := ⟨⟨by decide +kernel, by decide +kernel⟩, List.mem_of_getElem? (i := 21) (by decide +kernel), List.mem_of_getElem? (i := 655) (by decide +kernel), List.mem_of_getElem? (i := 656) (by decide +kernel)⟩
theorem lw_p29 : lw_okq (⟨"CrossingKeeper", "nextStage", "()LCrossingKeeper$Stage;"⟩, 16) := ⟨⟨by decide +kernel, by decide +kernel⟩, List.mem_of_getElem? (i := 21) (by decide +kernel), List.mem_of_getElem? (i := 659) (by decide +kernel), List.mem_of_getElem? (i := 660) (by decide +kernel)⟩
theorem lw_p30 : lw_okq (⟨"CrossingKeeper", "endStage", "(LCrossingKeeper$Stage;I)V"⟩, 16) := ⟨⟨by decide +kernel, by decide +kernel⟩, List.mem_of_getElem? (i := 21) (by decide +kernel), List.mem_of_getElem? (i := 675) (by decide +kernel), List.mem_of_getElem? (i := 676) (by decide +kernel)⟩
theorem lw_p31 : lw_okq (⟨"CrossingKeeper", "endAmbers", "(I)V"⟩, 16) := ⟨⟨by decide +kernel, by decide +kernel⟩, List.mem_of_getElem? (i := 21) (by decide +kernel), List.mem_of_getElem? (i := 679) (by decide +kernel), List.mem_of_getElem? (i := 680) (by decide +kernel)⟩
def lw_privs_2 : List (MethodName × Nat) := [(⟨"CrossingKeeper", "asksIn", "(LCrossingKeeper$Phase;I)Z"⟩, 16), (⟨"CrossingKeeper$Bodies", "asksAsCar", "(II)Z"⟩, 1), (⟨"CrossingKeeper$Bodies", "asksAsTurn", "(II)Z"⟩, 1), (⟨"CrossingKeeper$Bodies", "asksAsWalk", "(I)Z"⟩, 1), (⟨"CrossingKeeper$Bodies", "asksAsTram", "(I)Z"⟩, 1), (⟨"CrossingKeeper", "lookAtPairs", "(I)V"⟩, 16), (⟨"CrossingKeeper$Pair", "differIn", "(I)Z"⟩, 4), (⟨"CrossingKeeper", "faultToMeet", "()I"⟩, 16), (⟨"CrossingKeeper", "meetFault", "(II)V"⟩, 16), (⟨"CrossingKeeper", "changeLight", "(LCrossingKeeper$Phase;II)V"⟩, 16), (⟨"CrossingKeeper", "gapOf", "(LCrossingKeeper$Phase;I)I"⟩, 16), (⟨"CrossingKeeper", "setEnd", "(LCrossingKeeper$Phase;I)V"⟩, 16), (⟨"CrossingKeeper", "endsIn", "(LCrossingKeeper$Stage;I)Z"⟩, 16), (⟨"CrossingKeeper", "nextStage", "()LCrossingKeeper$Stage;"⟩, 16), (⟨"CrossingKeeper", "endStage", "(LCrossingKeeper$Stage;I)V"⟩, 16), (⟨"CrossingKeeper", "endAmbers", "(I)V"⟩, 16)]
theorem lw_r2 : ∀ q ∈ lw_privs_2, lw_okq q := List.forall_mem_cons.mpr ⟨lw_p16, List.forall_mem_cons.mpr ⟨lw_p17, List.forall_mem_cons.mpr ⟨lw_p18, List.forall_mem_cons.mpr ⟨lw_p19, List.forall_mem_cons.mpr ⟨lw_p20, List.forall_mem_cons.mpr ⟨lw_p21, List.forall_mem_cons.mpr ⟨lw_p22, List.forall_mem_cons.mpr ⟨lw_p23, List.forall_mem_cons.mpr ⟨lw_p24, List.forall_mem_cons.mpr ⟨lw_p25, List.forall_mem_cons.mpr ⟨lw_p26, List.forall_mem_cons.mpr ⟨lw_p27, List.forall_mem_cons.mpr ⟨lw_p28, List.forall_mem_cons.mpr ⟨lw_p29, List.forall_mem_cons.mpr ⟨lw_p30, List.forall_mem_cons.mpr ⟨lw_p31, fun _ h => absurd h List.not_mem_nil⟩⟩⟩⟩⟩⟩⟩⟩⟩⟩⟩⟩⟩⟩⟩⟩
theorem lw_p32 : lw_okq (⟨"CrossingKeeper", "beginStage", "(LCrossingKeeper$Stage;I)V"⟩, 16) := ⟨⟨by decide +kernel, by decide +kernel⟩, List.mem_of_getElem? (i := 21) (by decide +kernel), List.mem_of_getElem? (i := 687) (by decide +kernel), List.mem_of_getElem? (i := 688) (by decide +kernel)⟩
theorem lw_p33 : lw_okq (⟨"CrossingKeeper", "flashIfDue", "(I)V"⟩, 16) := ⟨⟨by decide +kernel, by decide +kernel⟩, List.mem_of_getElem? (i := 21) (by decide +kernel), List.mem_of_getElem? (i := 702) (by decide +kernel), List.mem_of_getElem? (i := 703) (by decide +kernel)⟩
theorem lw_p34 : lw_okq (⟨"CrossingKeeper", "changeAllLights", "(I)V"⟩, 16) := ⟨⟨by decide +kernel, by decide +kernel⟩, List.mem_of_getElem? (i := 21) (by decide +kernel), List.mem_of_getElem? (i := 706) (by decide +kernel), List.mem_of_getElem? (i := 707) (by decide +kernel)⟩
theorem lw_p35 : lw_okq (⟨"CrossingKeeper", "keepLights", "(I)V"⟩, 16) := ⟨⟨by decide +kernel, by decide +kernel⟩, List.mem_of_getElem? (i := 21) (by decide +kernel), List.mem_of_getElem? (i := 710) (by decide +kernel), List.mem_of_getElem? (i := 711) (by decide +kernel)⟩
theorem lw_p36 : lw_okq (⟨"CrossingKeeperModel", "isPhase", "(I)Z"⟩, 53) := ⟨⟨by decide +kernel, by decide +kernel⟩, List.mem_of_getElem? (i := 791) (by decide +kernel), List.mem_of_getElem? (i := 969) (by decide +kernel), List.mem_of_getElem? (i := 970) (by decide +kernel)⟩
theorem lw_p37 : lw_okq (⟨"CrossingKeeperModel", "has", "(II)Z"⟩, 53) := ⟨⟨by decide +kernel, by decide +kernel⟩, List.mem_of_getElem? (i := 791) (by decide +kernel), List.mem_of_getElem? (i := 973) (by decide +kernel), List.mem_of_getElem? (i := 974) (by decide +kernel)⟩
theorem lw_p38 : lw_okq (⟨"CrossingKeeperModel", "meets", "(II)Z"⟩, 53) := ⟨⟨by decide +kernel, by decide +kernel⟩, List.mem_of_getElem? (i := 791) (by decide +kernel), List.mem_of_getElem? (i := 981) (by decide +kernel), List.mem_of_getElem? (i := 982) (by decide +kernel)⟩
theorem lw_p39 : lw_okq (⟨"CrossingKeeperModel", "isDetector", "(I)Z"⟩, 53) := ⟨⟨by decide +kernel, by decide +kernel⟩, List.mem_of_getElem? (i := 791) (by decide +kernel), List.mem_of_getElem? (i := 993) (by decide +kernel), List.mem_of_getElem? (i := 994) (by decide +kernel)⟩
theorem lw_p40 : lw_okq (⟨"CrossingKeeperModel", "isStage", "(I)Z"⟩, 53) := ⟨⟨by decide +kernel, by decide +kernel⟩, List.mem_of_getElem? (i := 791) (by decide +kernel), List.mem_of_getElem? (i := 1021) (by decide +kernel), List.mem_of_getElem? (i := 1022) (by decide +kernel)⟩
theorem lw_p41 : lw_okq (⟨"CrossingKeeperModel", "pass", "()Z"⟩, 53) := ⟨⟨by decide +kernel, by decide +kernel⟩, List.mem_of_getElem? (i := 791) (by decide +kernel), List.mem_of_getElem? (i := 1033) (by decide +kernel), List.mem_of_getElem? (i := 1034) (by decide +kernel)⟩
theorem lw_p42 : lw_okq (⟨"CrossingKeeperModel", "doOrders", "()V"⟩, 53) := ⟨⟨by decide +kernel, by decide +kernel⟩, List.mem_of_getElem? (i := 791) (by decide +kernel), List.mem_of_getElem? (i := 1037) (by decide +kernel), List.mem_of_getElem? (i := 1038) (by decide +kernel)⟩
theorem lw_p43 : lw_okq (⟨"CrossingKeeperModel", "change", "(II)V"⟩, 53) := ⟨⟨by decide +kernel, by decide +kernel⟩, List.mem_of_getElem? (i := 791) (by decide +kernel), List.mem_of_getElem? (i := 1041) (by decide +kernel), List.mem_of_getElem? (i := 1042) (by decide +kernel)⟩
theorem lw_p44 : lw_okq (⟨"CrossingKeeperModel", "gapOf", "(I)I"⟩, 53) := ⟨⟨by decide +kernel, by decide +kernel⟩, List.mem_of_getElem? (i := 791) (by decide +kernel), List.mem_of_getElem? (i := 1045) (by decide +kernel), List.mem_of_getElem? (i := 1046) (by decide +kernel)⟩
theorem lw_p45 : lw_okq (⟨"CrossingKeeperModel", "found", "(II)V"⟩, 53) := ⟨⟨by decide +kernel, by decide +kernel⟩, List.mem_of_getElem? (i := 791) (by decide +kernel), List.mem_of_getElem? (i := 1049) (by decide +kernel), List.mem_of_getElem? (i := 1050) (by decide +kernel)⟩
theorem lw_p46 : lw_okq (⟨"CrossingKeeperModel", "readAll", "()V"⟩, 53) := ⟨⟨by decide +kernel, by decide +kernel⟩, List.mem_of_getElem? (i := 791) (by decide +kernel), List.mem_of_getElem? (i := 1053) (by decide +kernel), List.mem_of_getElem? (i := 1054) (by decide +kernel)⟩
theorem lw_p47 : lw_okq (⟨"CrossingKeeperModel", "doesHold", "(I)Z"⟩, 53) := ⟨⟨by decide +kernel, by decide +kernel⟩, List.mem_of_getElem? (i := 791) (by decide +kernel), List.mem_of_getElem? (i := 1057) (by decide +kernel), List.mem_of_getElem? (i := 1058) (by decide +kernel)⟩
def lw_privs_3 : List (MethodName × Nat) := [(⟨"CrossingKeeper", "beginStage", "(LCrossingKeeper$Stage;I)V"⟩, 16), (⟨"CrossingKeeper", "flashIfDue", "(I)V"⟩, 16), (⟨"CrossingKeeper", "changeAllLights", "(I)V"⟩, 16), (⟨"CrossingKeeper", "keepLights", "(I)V"⟩, 16), (⟨"CrossingKeeperModel", "isPhase", "(I)Z"⟩, 53), (⟨"CrossingKeeperModel", "has", "(II)Z"⟩, 53), (⟨"CrossingKeeperModel", "meets", "(II)Z"⟩, 53), (⟨"CrossingKeeperModel", "isDetector", "(I)Z"⟩, 53), (⟨"CrossingKeeperModel", "isStage", "(I)Z"⟩, 53), (⟨"CrossingKeeperModel", "pass", "()Z"⟩, 53), (⟨"CrossingKeeperModel", "doOrders", "()V"⟩, 53), (⟨"CrossingKeeperModel", "change", "(II)V"⟩, 53), (⟨"CrossingKeeperModel", "gapOf", "(I)I"⟩, 53), (⟨"CrossingKeeperModel", "found", "(II)V"⟩, 53), (⟨"CrossingKeeperModel", "readAll", "()V"⟩, 53), (⟨"CrossingKeeperModel", "doesHold", "(I)Z"⟩, 53)]
theorem lw_r3 : ∀ q ∈ lw_privs_3, lw_okq q := List.forall_mem_cons.mpr ⟨lw_p32, List.forall_mem_cons.mpr ⟨lw_p33, List.forall_mem_cons.mpr ⟨lw_p34, List.forall_mem_cons.mpr ⟨lw_p35, List.forall_mem_cons.mpr ⟨lw_p36, List.forall_mem_cons.mpr ⟨lw_p37, List.forall_mem_cons.mpr ⟨lw_p38, List.forall_mem_cons.mpr ⟨lw_p39, List.forall_mem_cons.mpr ⟨lw_p40, List.forall_mem_cons.mpr ⟨lw_p41, List.forall_mem_cons.mpr ⟨lw_p42, List.forall_mem_cons.mpr ⟨lw_p43, List.forall_mem_cons.mpr ⟨lw_p44, List.forall_mem_cons.mpr ⟨lw_p45, List.forall_mem_cons.mpr ⟨lw_p46, List.forall_mem_cons.mpr ⟨lw_p47, fun _ h => absurd h List.not_mem_nil⟩⟩⟩⟩⟩⟩⟩⟩⟩⟩⟩⟩⟩⟩⟩⟩
theorem lw_p48 : lw_okq (⟨"CrossingKeeperModel", "readAt", "(I)I"⟩, 53) := ⟨⟨by decide +kernel, by decide +kernel⟩, List.mem_of_getElem? (i := 791) (by decide +kernel), List.mem_of_getElem? (i := 1061) (by decide +kernel), List.mem_of_getElem? (i := 1062) (by decide +kernel)⟩
theorem lw_p49 : lw_okq (⟨"CrossingKeeperModel", "doesAsk", "(I)Z"⟩, 53) := ⟨⟨by decide +kernel, by decide +kernel⟩, List.mem_of_getElem? (i := 791) (by decide +kernel), List.mem_of_getElem? (i := 1065) (by decide +kernel), List.mem_of_getElem? (i := 1066) (by decide +kernel)⟩
theorem lw_p50 : lw_okq (⟨"CrossingKeeperModel", "asksOfCar", "(I)Z"⟩, 53) := ⟨⟨by decide +kernel, by decide +kernel⟩, List.mem_of_getElem? (i := 791) (by decide +kernel), List.mem_of_getElem? (i := 1069) (by decide +kernel), List.mem_of_getElem? (i := 1070) (by decide +kernel)⟩
theorem lw_p51 : lw_okq (⟨"CrossingKeeperModel", "faultNow", "()I"⟩, 53) := ⟨⟨by decide +kernel, by decide +kernel⟩, List.mem_of_getElem? (i := 791) (by decide +kernel), List.mem_of_getElem? (i := 1073) (by decide +kernel), List.mem_of_getElem? (i := 1074) (by decide +kernel)⟩
theorem lw_p52 : lw_okq (⟨"CrossingKeeperModel", "meetFault", "(I)V"⟩, 53) := ⟨⟨by decide +kernel, by decide +kernel⟩, List.mem_of_getElem? (i := 791) (by decide +kernel), List.mem_of_getElem? (i := 1077) (by decide +kernel), List.mem_of_getElem? (i := 1078) (by decide +kernel)⟩
theorem lw_p53 : lw_okq (⟨"CrossingKeeperModel", "endsIn", "(II)V"⟩, 53) := ⟨⟨by decide +kernel, by decide +kernel⟩, List.mem_of_getElem? (i := 791) (by decide +kernel), List.mem_of_getElem? (i := 1081) (by decide +kernel), List.mem_of_getElem? (i := 1082) (by decide +kernel)⟩
theorem lw_p54 : lw_okq (⟨"CrossingKeeperModel", "perhapsEnd", "()V"⟩, 53) := ⟨⟨by decide +kernel, by decide +kernel⟩, List.mem_of_getElem? (i := 791) (by decide +kernel), List.mem_of_getElem? (i := 1085) (by decide +kernel), List.mem_of_getElem? (i := 1086) (by decide +kernel)⟩
theorem lw_p55 : lw_okq (⟨"CrossingKeeperModel", "isAnotherWanted", "()Z"⟩, 53) := ⟨⟨by decide +kernel, by decide +kernel⟩, List.mem_of_getElem? (i := 791) (by decide +kernel), List.mem_of_getElem? (i := 1089) (by decide +kernel), List.mem_of_getElem? (i := 1090) (by decide +kernel)⟩
theorem lw_p56 : lw_okq (⟨"CrossingKeeperModel", "askedFirst", "(I)I"⟩, 53) := ⟨⟨by decide +kernel, by decide +kernel⟩, List.mem_of_getElem? (i := 791) (by decide +kernel), List.mem_of_getElem? (i := 1093) (by decide +kernel), List.mem_of_getElem? (i := 1094) (by decide +kernel)⟩
theorem lw_p57 : lw_okq (⟨"CrossingKeeperModel", "perhapsBegin", "()V"⟩, 53) := ⟨⟨by decide +kernel, by decide +kernel⟩, List.mem_of_getElem? (i := 791) (by decide +kernel), List.mem_of_getElem? (i := 1097) (by decide +kernel), List.mem_of_getElem? (i := 1098) (by decide +kernel)⟩
theorem lw_p58 : lw_okq (⟨"CrossingKeeperModel", "next", "()I"⟩, 53) := ⟨⟨by decide +kernel, by decide +kernel⟩, List.mem_of_getElem? (i := 791) (by decide +kernel), List.mem_of_getElem? (i := 1101) (by decide +kernel), List.mem_of_getElem? (i := 1102) (by decide +kernel)⟩
theorem lw_p59 : lw_okq (⟨"CrossingKeeperModel", "leastOf", "(I)I"⟩, 53) := ⟨⟨by decide +kernel, by decide +kernel⟩, List.mem_of_getElem? (i := 791) (by decide +kernel), List.mem_of_getElem? (i := 1105) (by decide +kernel), List.mem_of_getElem? (i := 1106) (by decide +kernel)⟩
theorem lw_p60 : lw_okq (⟨"CrossingKeeperModel", "greatestOf", "(I)I"⟩, 53) := ⟨⟨by decide +kernel, by decide +kernel⟩, List.mem_of_getElem? (i := 791) (by decide +kernel), List.mem_of_getElem? (i := 1109) (by decide +kernel), List.mem_of_getElem? (i := 1110) (by decide +kernel)⟩
def lw_privs_4 : List (MethodName × Nat) := [(⟨"CrossingKeeperModel", "readAt", "(I)I"⟩, 53), (⟨"CrossingKeeperModel", "doesAsk", "(I)Z"⟩, 53), (⟨"CrossingKeeperModel", "asksOfCar", "(I)Z"⟩, 53), (⟨"CrossingKeeperModel", "faultNow", "()I"⟩, 53), (⟨"CrossingKeeperModel", "meetFault", "(I)V"⟩, 53), (⟨"CrossingKeeperModel", "endsIn", "(II)V"⟩, 53), (⟨"CrossingKeeperModel", "perhapsEnd", "()V"⟩, 53), (⟨"CrossingKeeperModel", "isAnotherWanted", "()Z"⟩, 53), (⟨"CrossingKeeperModel", "askedFirst", "(I)I"⟩, 53), (⟨"CrossingKeeperModel", "perhapsBegin", "()V"⟩, 53), (⟨"CrossingKeeperModel", "next", "()I"⟩, 53), (⟨"CrossingKeeperModel", "leastOf", "(I)I"⟩, 53), (⟨"CrossingKeeperModel", "greatestOf", "(I)I"⟩, 53)]
theorem lw_r4 : ∀ q ∈ lw_privs_4, lw_okq q := List.forall_mem_cons.mpr ⟨lw_p48, List.forall_mem_cons.mpr ⟨lw_p49, List.forall_mem_cons.mpr ⟨lw_p50, List.forall_mem_cons.mpr ⟨lw_p51, List.forall_mem_cons.mpr ⟨lw_p52, List.forall_mem_cons.mpr ⟨lw_p53, List.forall_mem_cons.mpr ⟨lw_p54, List.forall_mem_cons.mpr ⟨lw_p55, List.forall_mem_cons.mpr ⟨lw_p56, List.forall_mem_cons.mpr ⟨lw_p57, List.forall_mem_cons.mpr ⟨lw_p58, List.forall_mem_cons.mpr ⟨lw_p59, List.forall_mem_cons.mpr ⟨lw_p60, fun _ h => absurd h List.not_mem_nil⟩⟩⟩⟩⟩⟩⟩⟩⟩⟩⟩⟩⟩
def lw_privs : List (MethodName × Nat) := lw_privs_1 ++ (lw_privs_2 ++ (lw_privs_3 ++ (lw_privs_4)))
def lw_tbl : List Cond := k2_sels lw_privs ++ tables_1
theorem lw_privs_ok : ∀ q ∈ lw_privs, lw_okq q := by
  show ∀ q ∈ lw_privs_1 ++ (lw_privs_2 ++ (lw_privs_3 ++ (lw_privs_4))), lw_okq q
  exact List.forall_mem_append.mpr ⟨lw_r1, List.forall_mem_append.mpr ⟨lw_r2, List.forall_mem_append.mpr ⟨lw_r3, lw_r4⟩⟩⟩
end
section
theorem goodIn_r {big : List Cond} (ws : List Cond) (ps : List Nat) (hp : ws = ps.filterMap (fun i => big[i]?)) (h : ws.all goodWord = true) : GoodIn big ws := by
  intro w hw
  have h1 := List.all_eq_true.mp h w hw
  rw [hp] at hw
  obtain ⟨i, -, hi⟩ := List.mem_filterMap.mp hw
  have hm : w ∈ big := by first | exact List.mem_of_getElem? hi | exact List.getElem?_mem hi
  exact ⟨hm, good_of_word h1⟩
theorem goodIn_app {big a b : List Cond} (ha : GoodIn big a) (hb : GoodIn big b) : GoodIn big (a ++ b) := fun w h => (List.mem_append.mp h).elim (ha w) (hb w)
theorem goodIn_ca {big a b : List Cond} {c : Cond} (ha : GoodIn big (c :: a)) (hb : GoodIn big b) : GoodIn big (c :: (a ++ b)) := fun w h => (List.mem_cons.mp h).elim (fun e => ha w (List.mem_cons.mpr (Or.inl e))) (fun h => (List.mem_append.mp h).elim (fun h => ha w (List.mem_cons.mpr (Or.inr h))) (hb w))
theorem goodIn_sub {big ws : List Cond} (hm : ∀ w ∈ ws, w ∈ big) (h : ws.all goodWord = true) : GoodIn big ws := fun w hw => ⟨hm w hw, good_of_word (List.all_eq_true.mp h w hw)⟩

def RX0 : String := "CrossingKeeper$Bodies"
def TX0 : u_T := fun k => match k with
  | _ => ("CrossingKeeper$Bodies", "sum", "I", false)
def tyX0 : Nat → FieldType := fun k => match k with
  | _ => .int
abbrev wsX00 : List Cond := u_ws RX0 TX0 1
theorem nmX0 : ∀ a, a < 1 → ∀ b, b < 1 → a ≠ b → (TX0 a).2.1 ≠ (TX0 b).2.1 := by decide +kernel
theorem tyX0_ok : ∀ k, k < 1 → parseFieldDescriptor (TX0 k).2.2.1 = some (tyX0 k) := by decide +kernel
abbrev cX0_init : ByteArray := prog_2_method_1_code
def yX0_init : MethodName := ⟨RX0, "<init>", "()V"⟩
abbrev cX0_asksOf : ByteArray := prog_2_method_2_code
def yX0_asksOf : MethodName := ⟨RX0, "asksOf", "(III)Z"⟩
abbrev cX0_holdsOf : ByteArray := prog_2_method_3_code
def yX0_holdsOf : MethodName := ⟨RX0, "holdsOf", "(II)Z"⟩
abbrev cX0_asksAsCar : ByteArray := prog_2_method_4_code
def yX0_asksAsCar : MethodName := ⟨RX0, "asksAsCar", "(II)Z"⟩
abbrev cX0_asksAsTurn : ByteArray := prog_2_method_5_code
def yX0_asksAsTurn : MethodName := ⟨RX0, "asksAsTurn", "(II)Z"⟩
abbrev cX0_asksAsWalk : ByteArray := prog_2_method_6_code
def yX0_asksAsWalk : MethodName := ⟨RX0, "asksAsWalk", "(I)Z"⟩
abbrev cX0_asksAsTram : ByteArray := prog_2_method_7_code
def yX0_asksAsTram : MethodName := ⟨RX0, "asksAsTram", "(I)Z"⟩
abbrev cX0_holdsAsCar : ByteArray := prog_2_method_8_code
def yX0_holdsAsCar : MethodName := ⟨RX0, "holdsAsCar", "(I)Z"⟩
abbrev cX0_holdsAsWalk : ByteArray := prog_2_method_9_code
def yX0_holdsAsWalk : MethodName := ⟨RX0, "holdsAsWalk", "()Z"⟩
abbrev cX0_holdsAsTram : ByteArray := prog_2_method_10_code
def yX0_holdsAsTram : MethodName := ⟨RX0, "holdsAsTram", "(I)Z"⟩
abbrev cX0_holdsAsRest : ByteArray := prog_2_method_11_code
def yX0_holdsAsRest : MethodName := ⟨RX0, "holdsAsRest", "()Z"⟩
def RX1 : String := "CrossingKeeper$Detector"
def TX1 : u_T := fun k => match k with
  | 0 => ("CrossingKeeper$Detector", "number", "I", true)
  | 1 => ("CrossingKeeper$Detector", "passings", "[B", false)
  | 2 => ("CrossingKeeper$Detector", "occupied", "[S", false)
  | _ => ("CrossingKeeper$Detector", "size", "I", false)
def tyX1 : Nat → FieldType := fun k => match k with
  | 0 => .int
  | 1 => .array .byte
  | 2 => .array .short
  | _ => .int
abbrev wsX10 : List Cond := u_ws RX1 TX1 4
theorem nmX1 : ∀ a, a < 4 → ∀ b, b < 4 → a ≠ b → (TX1 a).2.1 ≠ (TX1 b).2.1 := by decide +kernel
theorem tyX1_ok : ∀ k, k < 4 → parseFieldDescriptor (TX1 k).2.2.1 = some (tyX1 k) := by decide +kernel
abbrev cX1_init : ByteArray := prog_3_method_1_code
def yX1_init : MethodName := ⟨RX1, "<init>", "(I)V"⟩
abbrev cX1_isCutOff : ByteArray := prog_3_method_2_code
def yX1_isCutOff : MethodName := ⟨RX1, "isCutOff", "()Z"⟩
abbrev cX1_cutOff : ByteArray := prog_3_method_3_code
def yX1_cutOff : MethodName := ⟨RX1, "cutOff", "()I"⟩
abbrev cX1_addPlace : ByteArray := prog_3_method_4_code
def yX1_addPlace : MethodName := ⟨RX1, "addPlace", "(II)Z"⟩
abbrev cX1_reaches : ByteArray := prog_3_method_5_code
def yX1_reaches : MethodName := ⟨RX1, "reaches", "(I)Z"⟩
abbrev cX1_passingsAt : ByteArray := prog_3_method_6_code
def yX1_passingsAt : MethodName := ⟨RX1, "passingsAt", "(I)I"⟩
abbrev cX1_occupiedAt : ByteArray := prog_3_method_7_code
def yX1_occupiedAt : MethodName := ⟨RX1, "occupiedAt", "(I)I"⟩
def RX2 : String := "CrossingKeeper$Faults"
def TX2 : u_T := fun k => match k with
  | 0 => ("CrossingKeeper$Faults", "met", "I", false)
  | 1 => ("CrossingKeeper$Faults", "latestKind", "I", false)
  | 2 => ("CrossingKeeper$Faults", "latestSecond", "I", false)
  | 3 => ("CrossingKeeper$Faults", "stays", "I", false)
  | _ => ("CrossingKeeper$Faults", "alarmed", "Z", false)
def tyX2 : Nat → FieldType := fun k => match k with
  | 0 => .int
  | 1 => .int
  | 2 => .int
  | 3 => .int
  | _ => .boolean
abbrev wsX20 : List Cond := u_ws RX2 TX2 5
theorem nmX2 : ∀ a, a < 5 → ∀ b, b < 5 → a ≠ b → (TX2 a).2.1 ≠ (TX2 b).2.1 := by decide +kernel
theorem tyX2_ok : ∀ k, k < 5 → parseFieldDescriptor (TX2 k).2.2.1 = some (tyX2 k) := by decide +kernel
abbrev cX2_init : ByteArray := prog_4_method_1_code
def yX2_init : MethodName := ⟨RX2, "<init>", "()V"⟩
abbrev cX2_meet : ByteArray := prog_4_method_2_code
def yX2_meet : MethodName := ⟨RX2, "meet", "(II)V"⟩
def RX3 : String := "CrossingKeeper$Findings"
def TX3 : u_T := fun k => match k with
  | 0 => ("CrossingKeeper$Findings", "byKind", "[I", true)
  | 1 => ("CrossingKeeper$Findings", "latestKind", "I", false)
  | _ => ("CrossingKeeper$Findings", "latestPhase", "I", false)
def tyX3 : Nat → FieldType := fun k => match k with
  | 0 => .array .int
  | 1 => .int
  | _ => .int
abbrev wsX30 : List Cond := u_ws RX3 TX3 3
theorem nmX3 : ∀ a, a < 3 → ∀ b, b < 3 → a ≠ b → (TX3 a).2.1 ≠ (TX3 b).2.1 := by decide +kernel
theorem tyX3_ok : ∀ k, k < 3 → parseFieldDescriptor (TX3 k).2.2.1 = some (tyX3 k) := by decide +kernel
abbrev cX3_init : ByteArray := prog_5_method_1_code
def yX3_init : MethodName := ⟨RX3, "<init>", "()V"⟩
abbrev cX3_add : ByteArray := prog_5_method_2_code
def yX3_add : MethodName := ⟨RX3, "add", "(II)V"⟩
abbrev cX3_howMany : ByteArray := prog_5_method_3_code
def yX3_howMany : MethodName := ⟨RX3, "howMany", "(I)I"⟩
def RX4 : String := "CrossingKeeper$Order"
def TX4 : u_T := fun k => match k with
  | 0 => ("CrossingKeeper$Order", "phase", "LCrossingKeeper$Phase;", true)
  | 1 => ("CrossingKeeper$Order", "least", "I", true)
  | 2 => ("CrossingKeeper$Order", "greatest", "I", true)
  | 3 => ("CrossingKeeper$Order", "amber", "I", true)
  | _ => ("CrossingKeeper$Order", "at", "I", true)
def tyX4 : Nat → FieldType := fun k => match k with
  | 0 => .object "CrossingKeeper$Phase"
  | 1 => .int
  | 2 => .int
  | 3 => .int
  | _ => .int
abbrev wsX40 : List Cond := u_ws RX4 TX4 5
theorem nmX4 : ∀ a, a < 5 → ∀ b, b < 5 → a ≠ b → (TX4 a).2.1 ≠ (TX4 b).2.1 := by decide +kernel
theorem tyX4_ok : ∀ k, k < 5 → parseFieldDescriptor (TX4 k).2.2.1 = some (tyX4 k) := by decide +kernel
abbrev cX4_init : ByteArray := prog_6_method_1_code
def yX4_init : MethodName := ⟨RX4, "<init>", "(LCrossingKeeper$Phase;IIII)V"⟩
abbrev cX4_changeTable : ByteArray := prog_6_method_2_code
def yX4_changeTable : MethodName := ⟨RX4, "changeTable", "()V"⟩
def RX5 : String := "CrossingKeeper$Pair"
def TX5 : u_T := fun k => match k with
  | 0 => ("CrossingKeeper$Pair", "one", "LCrossingKeeper$Detector;", true)
  | 1 => ("CrossingKeeper$Pair", "other", "LCrossingKeeper$Detector;", true)
  | 2 => ("CrossingKeeper$Pair", "span", "I", true)
  | _ => ("CrossingKeeper$Pair", "running", "I", false)
def tyX5 : Nat → FieldType := fun k => match k with
  | 0 => .object "CrossingKeeper$Detector"
  | 1 => .object "CrossingKeeper$Detector"
  | 2 => .int
  | _ => .int
abbrev wsX50 : List Cond := u_ws RX5 TX5 4
theorem nmX5 : ∀ a, a < 4 → ∀ b, b < 4 → a ≠ b → (TX5 a).2.1 ≠ (TX5 b).2.1 := by decide +kernel
theorem tyX5_ok : ∀ k, k < 4 → parseFieldDescriptor (TX5 k).2.2.1 = some (tyX5 k) := by decide +kernel
abbrev cX5_init : ByteArray := prog_7_method_1_code
def yX5_init : MethodName := ⟨RX5, "<init>", "(LCrossingKeeper$Detector;LCrossingKeeper$Detector;I)V"⟩
abbrev cX5_lookAt : ByteArray := prog_7_method_2_code
def yX5_lookAt : MethodName := ⟨RX5, "lookAt", "(I)V"⟩
abbrev cX5_differIn : ByteArray := prog_7_method_3_code
def yX5_differIn : MethodName := ⟨RX5, "differIn", "(I)Z"⟩
abbrev cX5_isBroken : ByteArray := prog_7_method_4_code
def yX5_isBroken : MethodName := ⟨RX5, "isBroken", "()Z"⟩
abbrev cX5_beginAnew : ByteArray := prog_7_method_5_code
def yX5_beginAnew : MethodName := ⟨RX5, "beginAnew", "()V"⟩
def RX6 : String := "CrossingKeeper$Phase"
def TX6 : u_T := fun k => match k with
  | 0 => ("CrossingKeeper$Phase", "number", "I", true)
  | 1 => ("CrossingKeeper$Phase", "kind", "I", true)
  | 2 => ("CrossingKeeper$Phase", "clearings", "[I", true)
  | 3 => ("CrossingKeeper$Phase", "lightsBehind", "[I", true)
  | 4 => ("CrossingKeeper$Phase", "detector", "LCrossingKeeper$Detector;", false)
  | 5 => ("CrossingKeeper$Phase", "lampOut", "Z", false)
  | 6 => ("CrossingKeeper$Phase", "light", "I", false)
  | 7 => ("CrossingKeeper$Phase", "holding", "Z", false)
  | 8 => ("CrossingKeeper$Phase", "askedSince", "I", false)
  | 9 => ("CrossingKeeper$Phase", "ends", "I", false)
  | 10 => ("CrossingKeeper$Phase", "free", "I", false)
  | 11 => ("CrossingKeeper$Phase", "least", "I", false)
  | 12 => ("CrossingKeeper$Phase", "greatest", "I", false)
  | 13 => ("CrossingKeeper$Phase", "amber", "I", false)
  | 14 => ("CrossingKeeper$Phase", "gap", "I", false)
  | 15 => ("CrossingKeeper$Phase", "greens", "I", false)
  | 16 => ("CrossingKeeper$Phase", "entered", "I", false)
  | _ => ("CrossingKeeper$Phase", "left", "I", false)
def tyX6 : Nat → FieldType := fun k => match k with
  | 0 => .int
  | 1 => .int
  | 2 => .array .int
  | 3 => .array .int
  | 4 => .object "CrossingKeeper$Detector"
  | 5 => .boolean
  | 6 => .int
  | 7 => .boolean
  | 8 => .int
  | 9 => .int
  | 10 => .int
  | 11 => .int
  | 12 => .int
  | 13 => .int
  | 14 => .int
  | 15 => .int
  | 16 => .int
  | _ => .int
abbrev wsX60 : List Cond := u_ws RX6 TX6 18
theorem nmX6 : ∀ a, a < 18 → ∀ b, b < 18 → a ≠ b → (TX6 a).2.1 ≠ (TX6 b).2.1 := by decide +kernel
theorem tyX6_ok : ∀ k, k < 18 → parseFieldDescriptor (TX6 k).2.2.1 = some (tyX6 k) := by decide +kernel
abbrev cX6_init : ByteArray := prog_8_method_1_code
def yX6_init : MethodName := ⟨RX6, "<init>", "(II)V"⟩
abbrev cX6_isAsked : ByteArray := prog_8_method_2_code
def yX6_isAsked : MethodName := ⟨RX6, "isAsked", "()Z"⟩
abbrev cX6_isLit : ByteArray := prog_8_method_3_code
def yX6_isLit : MethodName := ⟨RX6, "isLit", "()Z"⟩
abbrev cX6_setClearing : ByteArray := prog_8_method_4_code
def yX6_setClearing : MethodName := ⟨RX6, "setClearing", "(LCrossingKeeper$Phase;I)V"⟩
abbrev cX6_clearingTo : ByteArray := prog_8_method_5_code
def yX6_clearingTo : MethodName := ⟨RX6, "clearingTo", "(LCrossingKeeper$Phase;)I"⟩
abbrev cX6_greatestClearing : ByteArray := prog_8_method_6_code
def yX6_greatestClearing : MethodName := ⟨RX6, "greatestClearing", "()I"⟩
abbrev cX6_keepLight : ByteArray := prog_8_method_7_code
def yX6_keepLight : MethodName := ⟨RX6, "keepLight", "(I)V"⟩
abbrev cX6_lightBehind : ByteArray := prog_8_method_8_code
def yX6_lightBehind : MethodName := ⟨RX6, "lightBehind", "(I)I"⟩
def RX7 : String := "CrossingKeeper$Stage"
def TX7 : u_T := fun k => match k with
  | 0 => ("CrossingKeeper$Stage", "number", "I", true)
  | _ => ("CrossingKeeper$Stage", "places", "[LCrossingKeeper$Phase;", true)
def tyX7 : Nat → FieldType := fun k => match k with
  | 0 => .int
  | _ => .array (.object "CrossingKeeper$Phase")
abbrev wsX70 : List Cond := u_ws RX7 TX7 2
theorem nmX7 : ∀ a, a < 2 → ∀ b, b < 2 → a ≠ b → (TX7 a).2.1 ≠ (TX7 b).2.1 := by decide +kernel
theorem tyX7_ok : ∀ k, k < 2 → parseFieldDescriptor (TX7 k).2.2.1 = some (tyX7 k) := by decide +kernel
abbrev cX7_init : ByteArray := prog_9_method_1_code
def yX7_init : MethodName := ⟨RX7, "<init>", "(I)V"⟩
abbrev cX7_putPhase : ByteArray := prog_9_method_2_code
def yX7_putPhase : MethodName := ⟨RX7, "putPhase", "(ILCrossingKeeper$Phase;)V"⟩
abbrev cX7_phaseIn : ByteArray := prog_9_method_3_code
def yX7_phaseIn : MethodName := ⟨RX7, "phaseIn", "(I)LCrossingKeeper$Phase;"⟩
abbrev cX7_hasPhase : ByteArray := prog_9_method_4_code
def yX7_hasPhase : MethodName := ⟨RX7, "hasPhase", "(LCrossingKeeper$Phase;)Z"⟩
abbrev cX7_isEmpty : ByteArray := prog_9_method_5_code
def yX7_isEmpty : MethodName := ⟨RX7, "isEmpty", "()Z"⟩
abbrev cX7_hasConflict : ByteArray := prog_9_method_6_code
def yX7_hasConflict : MethodName := ⟨RX7, "hasConflict", "()Z"⟩
abbrev cX7_leastGreen : ByteArray := prog_9_method_7_code
def yX7_leastGreen : MethodName := ⟨RX7, "leastGreen", "()I"⟩
abbrev cX7_greatestGreen : ByteArray := prog_9_method_8_code
def yX7_greatestGreen : MethodName := ⟨RX7, "greatestGreen", "()I"⟩
abbrev cX7_isHeld : ByteArray := prog_9_method_9_code
def yX7_isHeld : MethodName := ⟨RX7, "isHeld", "()Z"⟩
abbrev cX7_firstAsked : ByteArray := prog_9_method_10_code
def yX7_firstAsked : MethodName := ⟨RX7, "firstAsked", "()I"⟩
abbrev cX7_mayBeGreen : ByteArray := prog_9_method_11_code
def yX7_mayBeGreen : MethodName := ⟨RX7, "mayBeGreen", "(I)Z"⟩
def RX8 : String := "CrossingKeeper"
def TX8 : u_T := fun k => match k with
  | 0 => ("CrossingKeeper", "phases", "Ljava/util/ArrayList;", true)
  | 1 => ("CrossingKeeper", "stages", "Ljava/util/ArrayList;", true)
  | 2 => ("CrossingKeeper", "detectors", "Ljava/util/ArrayList;", true)
  | 3 => ("CrossingKeeper", "orders", "Ljava/util/ArrayList;", true)
  | 4 => ("CrossingKeeper", "pairs", "Ljava/util/ArrayList;", true)
  | 5 => ("CrossingKeeper", "findings", "LCrossingKeeper$Findings;", true)
  | 6 => ("CrossingKeeper", "faults", "LCrossingKeeper$Faults;", true)
  | 7 => ("CrossingKeeper", "bodies", "LCrossingKeeper$Bodies;", true)
  | 8 => ("CrossingKeeper", "now", "I", false)
  | 9 => ("CrossingKeeper", "changes", "I", false)
  | 10 => ("CrossingKeeper", "green", "LCrossingKeeper$Stage;", false)
  | 11 => ("CrossingKeeper", "greenSince", "I", false)
  | 12 => ("CrossingKeeper", "greenLeast", "I", false)
  | 13 => ("CrossingKeeper", "greenGreatest", "I", false)
  | 14 => ("CrossingKeeper", "hurried", "LCrossingKeeper$Stage;", false)
  | _ => ("CrossingKeeper", "latestGreen", "I", false)
def tyX8 : Nat → FieldType := fun k => match k with
  | 0 => .object "java/util/ArrayList"
  | 1 => .object "java/util/ArrayList"
  | 2 => .object "java/util/ArrayList"
  | 3 => .object "java/util/ArrayList"
  | 4 => .object "java/util/ArrayList"
  | 5 => .object "CrossingKeeper$Findings"
  | 6 => .object "CrossingKeeper$Faults"
  | 7 => .object "CrossingKeeper$Bodies"
  | 8 => .int
  | 9 => .int
  | 10 => .object "CrossingKeeper$Stage"
  | 11 => .int
  | 12 => .int
  | 13 => .int
  | 14 => .object "CrossingKeeper$Stage"
  | _ => .int
abbrev wsX80 : List Cond := u_ws RX8 TX8 16
theorem nmX8 : ∀ a, a < 16 → ∀ b, b < 16 → a ≠ b → (TX8 a).2.1 ≠ (TX8 b).2.1 := by decide +kernel
theorem tyX8_ok : ∀ k, k < 16 → parseFieldDescriptor (TX8 k).2.2.1 = some (tyX8 k) := by decide +kernel
abbrev cX8_init : ByteArray := prog_1_method_1_code
def yX8_init : MethodName := ⟨RX8, "<init>", "()V"⟩
abbrev cX8_phase : ByteArray := prog_1_method_2_code
def yX8_phase : MethodName := ⟨RX8, "phase", "(I)I"⟩
abbrev cX8_conflict : ByteArray := prog_1_method_3_code
def yX8_conflict : MethodName := ⟨RX8, "conflict", "(IIII)I"⟩
abbrev cX8_stage : ByteArray := prog_1_method_4_code
def yX8_stage : MethodName := ⟨RX8, "stage", "(IIII)I"⟩
abbrev cX8_detector : ByteArray := prog_1_method_5_code
def yX8_detector : MethodName := ⟨RX8, "detector", "(I)I"⟩
abbrev cX8_cut : ByteArray := prog_1_method_6_code
def yX8_cut : MethodName := ⟨RX8, "cut", "(I)I"⟩
abbrev cX8_passing : ByteArray := prog_1_method_7_code
def yX8_passing : MethodName := ⟨RX8, "passing", "(III)I"⟩
abbrev cX8_table : ByteArray := prog_1_method_8_code
def yX8_table : MethodName := ⟨RX8, "table", "(IIIII)I"⟩
abbrev cX8_lamp : ByteArray := prog_1_method_9_code
def yX8_lamp : MethodName := ⟨RX8, "lamp", "(IZ)I"⟩
abbrev cX8_pair : ByteArray := prog_1_method_10_code
def yX8_pair : MethodName := ⟨RX8, "pair", "(III)I"⟩
abbrev cX8_ask : ByteArray := prog_1_method_11_code
def yX8_ask : MethodName := ⟨RX8, "ask", "(I)I"⟩
abbrev cX8_hurry : ByteArray := prog_1_method_12_code
def yX8_hurry : MethodName := ⟨RX8, "hurry", "(I)I"⟩
abbrev cX8_second : ByteArray := prog_1_method_13_code
def yX8_second : MethodName := ⟨RX8, "second", "(I)I"⟩
abbrev cX8_alarm : ByteArray := prog_1_method_14_code
def yX8_alarm : MethodName := ⟨RX8, "alarm", "()I"⟩
abbrev cX8_restore : ByteArray := prog_1_method_15_code
def yX8_restore : MethodName := ⟨RX8, "restore", "()I"⟩
abbrev cX8_light : ByteArray := prog_1_method_16_code
def yX8_light : MethodName := ⟨RX8, "light", "(I)I"⟩
abbrev cX8_was : ByteArray := prog_1_method_17_code
def yX8_was : MethodName := ⟨RX8, "was", "(II)I"⟩
abbrev cX8_stageOf : ByteArray := prog_1_method_18_code
def yX8_stageOf : MethodName := ⟨RX8, "stageOf", "(I)I"⟩
abbrev cX8_place : ByteArray := prog_1_method_19_code
def yX8_place : MethodName := ⟨RX8, "place", "(II)I"⟩
abbrev cX8_told : ByteArray := prog_1_method_20_code
def yX8_told : MethodName := ⟨RX8, "told", "(II)I"⟩
abbrev cX8_length : ByteArray := prog_1_method_21_code
def yX8_length : MethodName := ⟨RX8, "length", "(I)I"⟩
abbrev cX8_bound : ByteArray := prog_1_method_22_code
def yX8_bound : MethodName := ⟨RX8, "bound", "()I"⟩
abbrev cX8_count : ByteArray := prog_1_method_23_code
def yX8_count : MethodName := ⟨RX8, "count", "(I)I"⟩
abbrev cX8_finding : ByteArray := prog_1_method_24_code
def yX8_finding : MethodName := ⟨RX8, "finding", "(I)I"⟩
abbrev cX8_fault : ByteArray := prog_1_method_25_code
def yX8_fault : MethodName := ⟨RX8, "fault", "(I)I"⟩
abbrev cX8_trace : ByteArray := prog_1_method_26_code
def yX8_trace : MethodName := ⟨RX8, "trace", "()I"⟩
abbrev cX8_isWithin : ByteArray := prog_1_method_27_code
def yX8_isWithin : MethodName := ⟨RX8, "isWithin", "(III)Z"⟩
abbrev cX8_phaseAt : ByteArray := prog_1_method_28_code
def yX8_phaseAt : MethodName := ⟨RX8, "phaseAt", "(I)LCrossingKeeper$Phase;"⟩
abbrev cX8_stageAt : ByteArray := prog_1_method_29_code
def yX8_stageAt : MethodName := ⟨RX8, "stageAt", "(I)LCrossingKeeper$Stage;"⟩
abbrev cX8_detectorAt : ByteArray := prog_1_method_30_code
def yX8_detectorAt : MethodName := ⟨RX8, "detectorAt", "(I)LCrossingKeeper$Detector;"⟩
abbrev cX8_numberOf : ByteArray := prog_1_method_31_code
def yX8_numberOf : MethodName := ⟨RX8, "numberOf", "(LCrossingKeeper$Stage;)I"⟩
abbrev cX8_doOrders : ByteArray := prog_1_method_32_code
def yX8_doOrders : MethodName := ⟨RX8, "doOrders", "(I)V"⟩
abbrev cX8_runLights : ByteArray := prog_1_method_33_code
def yX8_runLights : MethodName := ⟨RX8, "runLights", "(I)V"⟩
abbrev cX8_keepLights : ByteArray := prog_1_method_34_code
def yX8_keepLights : MethodName := ⟨RX8, "keepLights", "(I)V"⟩
abbrev cX8_readPhases : ByteArray := prog_1_method_35_code
def yX8_readPhases : MethodName := ⟨RX8, "readPhases", "(I)V"⟩
abbrev cX8_holdsIn : ByteArray := prog_1_method_36_code
def yX8_holdsIn : MethodName := ⟨RX8, "holdsIn", "(LCrossingKeeper$Phase;I)Z"⟩
abbrev cX8_asksIn : ByteArray := prog_1_method_37_code
def yX8_asksIn : MethodName := ⟨RX8, "asksIn", "(LCrossingKeeper$Phase;I)Z"⟩
abbrev cX8_rowsUntil : ByteArray := prog_1_method_38_code
def yX8_rowsUntil : MethodName := ⟨RX8, "rowsUntil", "(LCrossingKeeper$Phase;I)LCrossingKeeper$Detector;"⟩
abbrev cX8_endsIn : ByteArray := prog_1_method_39_code
def yX8_endsIn : MethodName := ⟨RX8, "endsIn", "(LCrossingKeeper$Stage;I)Z"⟩
abbrev cX8_endStage : ByteArray := prog_1_method_40_code
def yX8_endStage : MethodName := ⟨RX8, "endStage", "(LCrossingKeeper$Stage;I)V"⟩
abbrev cX8_setEnd : ByteArray := prog_1_method_41_code
def yX8_setEnd : MethodName := ⟨RX8, "setEnd", "(LCrossingKeeper$Phase;I)V"⟩
abbrev cX8_endAmbers : ByteArray := prog_1_method_42_code
def yX8_endAmbers : MethodName := ⟨RX8, "endAmbers", "(I)V"⟩
abbrev cX8_beginStage : ByteArray := prog_1_method_43_code
def yX8_beginStage : MethodName := ⟨RX8, "beginStage", "(LCrossingKeeper$Stage;I)V"⟩
abbrev cX8_nextStage : ByteArray := prog_1_method_44_code
def yX8_nextStage : MethodName := ⟨RX8, "nextStage", "()LCrossingKeeper$Stage;"⟩
abbrev cX8_changeLight : ByteArray := prog_1_method_45_code
def yX8_changeLight : MethodName := ⟨RX8, "changeLight", "(LCrossingKeeper$Phase;II)V"⟩
abbrev cX8_changeAllLights : ByteArray := prog_1_method_46_code
def yX8_changeAllLights : MethodName := ⟨RX8, "changeAllLights", "(I)V"⟩
abbrev cX8_gapOf : ByteArray := prog_1_method_47_code
def yX8_gapOf : MethodName := ⟨RX8, "gapOf", "(LCrossingKeeper$Phase;I)I"⟩
abbrev cX8_lookAtPairs : ByteArray := prog_1_method_48_code
def yX8_lookAtPairs : MethodName := ⟨RX8, "lookAtPairs", "(I)V"⟩
abbrev cX8_faultToMeet : ByteArray := prog_1_method_49_code
def yX8_faultToMeet : MethodName := ⟨RX8, "faultToMeet", "()I"⟩
abbrev cX8_meetFault : ByteArray := prog_1_method_50_code
def yX8_meetFault : MethodName := ⟨RX8, "meetFault", "(II)V"⟩
abbrev cX8_flashIfDue : ByteArray := prog_1_method_51_code
def yX8_flashIfDue : MethodName := ⟨RX8, "flashIfDue", "(I)V"⟩
def RX9 : String := "CrossingKeeperModel"
def TX9 : u_T := fun k => match k with
  | 0 => ("CrossingKeeperModel", "now", "I", false)
  | 1 => ("CrossingKeeperModel", "phases", "I", false)
  | 2 => ("CrossingKeeperModel", "kind", "[I", true)
  | 3 => ("CrossingKeeperModel", "light", "[I", true)
  | 4 => ("CrossingKeeperModel", "detectorOf", "[I", true)
  | 5 => ("CrossingKeeperModel", "entered", "[I", true)
  | 6 => ("CrossingKeeperModel", "gap", "[I", true)
  | 7 => ("CrossingKeeperModel", "greens", "[I", true)
  | 8 => ("CrossingKeeperModel", "ends", "[I", true)
  | 9 => ("CrossingKeeperModel", "free", "[I", true)
  | 10 => ("CrossingKeeperModel", "asked", "[I", true)
  | 11 => ("CrossingKeeperModel", "least", "[I", true)
  | 12 => ("CrossingKeeperModel", "greatest", "[I", true)
  | 13 => ("CrossingKeeperModel", "amber", "[I", true)
  | 14 => ("CrossingKeeperModel", "isOut", "[Z", true)
  | 15 => ("CrossingKeeperModel", "holds", "[Z", true)
  | 16 => ("CrossingKeeperModel", "clearing", "[I", true)
  | 17 => ("CrossingKeeperModel", "stages", "I", false)
  | 18 => ("CrossingKeeperModel", "places", "[I", true)
  | 19 => ("CrossingKeeperModel", "detectors", "I", false)
  | 20 => ("CrossingKeeperModel", "length", "[I", true)
  | 21 => ("CrossingKeeperModel", "passings", "[I", true)
  | 22 => ("CrossingKeeperModel", "occupied", "[I", true)
  | 23 => ("CrossingKeeperModel", "orders", "I", false)
  | 24 => ("CrossingKeeperModel", "orderPhase", "[I", true)
  | 25 => ("CrossingKeeperModel", "orderLeast", "[I", true)
  | 26 => ("CrossingKeeperModel", "orderGreatest", "[I", true)
  | 27 => ("CrossingKeeperModel", "orderAmber", "[I", true)
  | 28 => ("CrossingKeeperModel", "orderAt", "[I", true)
  | 29 => ("CrossingKeeperModel", "pairs", "I", false)
  | 30 => ("CrossingKeeperModel", "pairOne", "[I", true)
  | 31 => ("CrossingKeeperModel", "pairOther", "[I", true)
  | 32 => ("CrossingKeeperModel", "pairSpan", "[I", true)
  | 33 => ("CrossingKeeperModel", "pairRun", "[I", true)
  | 34 => ("CrossingKeeperModel", "green", "I", false)
  | 35 => ("CrossingKeeperModel", "since", "I", false)
  | 36 => ("CrossingKeeperModel", "greenLeast", "I", false)
  | 37 => ("CrossingKeeperModel", "greenGreatest", "I", false)
  | 38 => ("CrossingKeeperModel", "latestGreen", "I", false)
  | 39 => ("CrossingKeeperModel", "hurried", "I", false)
  | 40 => ("CrossingKeeperModel", "isAlarmed", "Z", false)
  | 41 => ("CrossingKeeperModel", "faultKind", "I", false)
  | 42 => ("CrossingKeeperModel", "faultSecond", "I", false)
  | 43 => ("CrossingKeeperModel", "faultNumber", "I", false)
  | 44 => ("CrossingKeeperModel", "faultState", "I", false)
  | 45 => ("CrossingKeeperModel", "faults", "I", false)
  | 46 => ("CrossingKeeperModel", "findings", "[I", true)
  | 47 => ("CrossingKeeperModel", "findingKind", "I", false)
  | 48 => ("CrossingKeeperModel", "findingPhase", "I", false)
  | 49 => ("CrossingKeeperModel", "changes", "I", false)
  | 50 => ("CrossingKeeperModel", "trace", "I", false)
  | 51 => ("CrossingKeeperModel", "was", "[I", true)
  | _ => ("CrossingKeeperModel", "four", "[I", true)
def tyX9 : Nat → FieldType := fun k => match k with
  | 0 => .int
  | 1 => .int
  | 2 => .array .int
  | 3 => .array .int
  | 4 => .array .int
  | 5 => .array .int
  | 6 => .array .int
  | 7 => .array .int
  | 8 => .array .int
  | 9 => .array .int
  | 10 => .array .int
  | 11 => .array .int
  | 12 => .array .int
  | 13 => .array .int
  | 14 => .array .boolean
  | 15 => .array .boolean
  | 16 => .array .int
  | 17 => .int
  | 18 => .array .int
  | 19 => .int
  | 20 => .array .int
  | 21 => .array .int
  | 22 => .array .int
  | 23 => .int
  | 24 => .array .int
  | 25 => .array .int
  | 26 => .array .int
  | 27 => .array .int
  | 28 => .array .int
  | 29 => .int
  | 30 => .array .int
  | 31 => .array .int
  | 32 => .array .int
  | 33 => .array .int
  | 34 => .int
  | 35 => .int
  | 36 => .int
  | 37 => .int
  | 38 => .int
  | 39 => .int
  | 40 => .boolean
  | 41 => .int
  | 42 => .int
  | 43 => .int
  | 44 => .int
  | 45 => .int
  | 46 => .array .int
  | 47 => .int
  | 48 => .int
  | 49 => .int
  | 50 => .int
  | 51 => .array .int
  | _ => .array .int
abbrev wsX90 : List Cond := u_ws RX9 TX9 53
theorem nmX9 : ∀ a, a < 53 → ∀ b, b < 53 → a ≠ b → (TX9 a).2.1 ≠ (TX9 b).2.1 := by decide +kernel
theorem tyX9_ok : ∀ k, k < 53 → parseFieldDescriptor (TX9 k).2.2.1 = some (tyX9 k) := by decide +kernel
abbrev cX9_init : ByteArray := prog_11_method_1_code
def yX9_init : MethodName := ⟨RX9, "<init>", "()V"⟩
abbrev cX9_in : ByteArray := prog_11_method_2_code
def yX9_in : MethodName := ⟨RX9, "in", "(III)Z"⟩
abbrev cX9_isPhase : ByteArray := prog_11_method_3_code
def yX9_isPhase : MethodName := ⟨RX9, "isPhase", "(I)Z"⟩
abbrev cX9_isStage : ByteArray := prog_11_method_4_code
def yX9_isStage : MethodName := ⟨RX9, "isStage", "(I)Z"⟩
abbrev cX9_isDetector : ByteArray := prog_11_method_5_code
def yX9_isDetector : MethodName := ⟨RX9, "isDetector", "(I)Z"⟩
abbrev cX9_meets : ByteArray := prog_11_method_6_code
def yX9_meets : MethodName := ⟨RX9, "meets", "(II)Z"⟩
abbrev cX9_phase : ByteArray := prog_11_method_7_code
def yX9_phase : MethodName := ⟨RX9, "phase", "(I)I"⟩
abbrev cX9_has : ByteArray := prog_11_method_8_code
def yX9_has : MethodName := ⟨RX9, "has", "(II)Z"⟩
abbrev cX9_conflict : ByteArray := prog_11_method_9_code
def yX9_conflict : MethodName := ⟨RX9, "conflict", "(IIII)I"⟩
abbrev cX9_stage : ByteArray := prog_11_method_10_code
def yX9_stage : MethodName := ⟨RX9, "stage", "(IIII)I"⟩
abbrev cX9_detector : ByteArray := prog_11_method_11_code
def yX9_detector : MethodName := ⟨RX9, "detector", "(I)I"⟩
abbrev cX9_cut : ByteArray := prog_11_method_12_code
def yX9_cut : MethodName := ⟨RX9, "cut", "(I)I"⟩
abbrev cX9_passing : ByteArray := prog_11_method_13_code
def yX9_passing : MethodName := ⟨RX9, "passing", "(III)I"⟩
abbrev cX9_table : ByteArray := prog_11_method_14_code
def yX9_table : MethodName := ⟨RX9, "table", "(IIIII)I"⟩
abbrev cX9_lamp : ByteArray := prog_11_method_15_code
def yX9_lamp : MethodName := ⟨RX9, "lamp", "(IZ)I"⟩
abbrev cX9_pair : ByteArray := prog_11_method_16_code
def yX9_pair : MethodName := ⟨RX9, "pair", "(III)I"⟩
abbrev cX9_ask : ByteArray := prog_11_method_17_code
def yX9_ask : MethodName := ⟨RX9, "ask", "(I)I"⟩
abbrev cX9_hurry : ByteArray := prog_11_method_18_code
def yX9_hurry : MethodName := ⟨RX9, "hurry", "(I)I"⟩
abbrev cX9_alarm : ByteArray := prog_11_method_19_code
def yX9_alarm : MethodName := ⟨RX9, "alarm", "()I"⟩
abbrev cX9_found : ByteArray := prog_11_method_20_code
def yX9_found : MethodName := ⟨RX9, "found", "(II)V"⟩
abbrev cX9_readAt : ByteArray := prog_11_method_21_code
def yX9_readAt : MethodName := ⟨RX9, "readAt", "(I)I"⟩
abbrev cX9_asksOfCar : ByteArray := prog_11_method_22_code
def yX9_asksOfCar : MethodName := ⟨RX9, "asksOfCar", "(I)Z"⟩
abbrev cX9_doesAsk : ByteArray := prog_11_method_23_code
def yX9_doesAsk : MethodName := ⟨RX9, "doesAsk", "(I)Z"⟩
abbrev cX9_doesHold : ByteArray := prog_11_method_24_code
def yX9_doesHold : MethodName := ⟨RX9, "doesHold", "(I)Z"⟩
abbrev cX9_change : ByteArray := prog_11_method_25_code
def yX9_change : MethodName := ⟨RX9, "change", "(II)V"⟩
abbrev cX9_gapOf : ByteArray := prog_11_method_26_code
def yX9_gapOf : MethodName := ⟨RX9, "gapOf", "(I)I"⟩
abbrev cX9_endsIn : ByteArray := prog_11_method_27_code
def yX9_endsIn : MethodName := ⟨RX9, "endsIn", "(II)V"⟩
abbrev cX9_leastOf : ByteArray := prog_11_method_28_code
def yX9_leastOf : MethodName := ⟨RX9, "leastOf", "(I)I"⟩
abbrev cX9_greatestOf : ByteArray := prog_11_method_29_code
def yX9_greatestOf : MethodName := ⟨RX9, "greatestOf", "(I)I"⟩
abbrev cX9_askedFirst : ByteArray := prog_11_method_30_code
def yX9_askedFirst : MethodName := ⟨RX9, "askedFirst", "(I)I"⟩
abbrev cX9_next : ByteArray := prog_11_method_31_code
def yX9_next : MethodName := ⟨RX9, "next", "()I"⟩
abbrev cX9_doOrders : ByteArray := prog_11_method_32_code
def yX9_doOrders : MethodName := ⟨RX9, "doOrders", "()V"⟩
abbrev cX9_readAll : ByteArray := prog_11_method_33_code
def yX9_readAll : MethodName := ⟨RX9, "readAll", "()V"⟩
abbrev cX9_faultNow : ByteArray := prog_11_method_34_code
def yX9_faultNow : MethodName := ⟨RX9, "faultNow", "()I"⟩
abbrev cX9_meetFault : ByteArray := prog_11_method_35_code
def yX9_meetFault : MethodName := ⟨RX9, "meetFault", "(I)V"⟩
abbrev cX9_isAnotherWanted : ByteArray := prog_11_method_36_code
def yX9_isAnotherWanted : MethodName := ⟨RX9, "isAnotherWanted", "()Z"⟩
abbrev cX9_perhapsEnd : ByteArray := prog_11_method_37_code
def yX9_perhapsEnd : MethodName := ⟨RX9, "perhapsEnd", "()V"⟩
abbrev cX9_perhapsBegin : ByteArray := prog_11_method_38_code
def yX9_perhapsBegin : MethodName := ⟨RX9, "perhapsBegin", "()V"⟩
abbrev cX9_pass : ByteArray := prog_11_method_39_code
def yX9_pass : MethodName := ⟨RX9, "pass", "()Z"⟩
abbrev cX9_second : ByteArray := prog_11_method_40_code
def yX9_second : MethodName := ⟨RX9, "second", "(I)I"⟩
abbrev cX9_restore : ByteArray := prog_11_method_41_code
def yX9_restore : MethodName := ⟨RX9, "restore", "()I"⟩
abbrev cX9_light : ByteArray := prog_11_method_42_code
def yX9_light : MethodName := ⟨RX9, "light", "(I)I"⟩
abbrev cX9_was : ByteArray := prog_11_method_43_code
def yX9_was : MethodName := ⟨RX9, "was", "(II)I"⟩
abbrev cX9_stageOf : ByteArray := prog_11_method_44_code
def yX9_stageOf : MethodName := ⟨RX9, "stageOf", "(I)I"⟩
abbrev cX9_place : ByteArray := prog_11_method_45_code
def yX9_place : MethodName := ⟨RX9, "place", "(II)I"⟩
abbrev cX9_told : ByteArray := prog_11_method_46_code
def yX9_told : MethodName := ⟨RX9, "told", "(II)I"⟩
abbrev cX9_length : ByteArray := prog_11_method_47_code
def yX9_length : MethodName := ⟨RX9, "length", "(I)I"⟩
abbrev cX9_bound : ByteArray := prog_11_method_48_code
def yX9_bound : MethodName := ⟨RX9, "bound", "()I"⟩
abbrev cX9_count : ByteArray := prog_11_method_49_code
def yX9_count : MethodName := ⟨RX9, "count", "(I)I"⟩
abbrev cX9_finding : ByteArray := prog_11_method_50_code
def yX9_finding : MethodName := ⟨RX9, "finding", "(I)I"⟩
abbrev cX9_fault : ByteArray := prog_11_method_51_code
def yX9_fault : MethodName := ⟨RX9, "fault", "(I)I"⟩
abbrev cX9_trace : ByteArray := prog_11_method_52_code
def yX9_trace : MethodName := ⟨RX9, "trace", "()I"⟩
def RJx145de : String := "java/io/Serializable"
def TJx145de : u_T := fun k => match k with
  | _ => ("", "", "", false)
def tyJx145de : Nat → FieldType := fun k => match k with
  | _ => .int
abbrev wsJx145de0 : List Cond := u_ws RJx145de TJx145de 0
theorem nmJx145de : ∀ a, a < 0 → ∀ b, b < 0 → a ≠ b → (TJx145de a).2.1 ≠ (TJx145de b).2.1 := by decide +kernel
theorem tyJx145de_ok : ∀ k, k < 0 → parseFieldDescriptor (TJx145de k).2.2.1 = some (tyJx145de k) := by decide +kernel
def RJx8e188 : String := "java/lang/Cloneable"
def TJx8e188 : u_T := fun k => match k with
  | _ => ("", "", "", false)
def tyJx8e188 : Nat → FieldType := fun k => match k with
  | _ => .int
abbrev wsJx8e1880 : List Cond := u_ws RJx8e188 TJx8e188 0
theorem nmJx8e188 : ∀ a, a < 0 → ∀ b, b < 0 → a ≠ b → (TJx8e188 a).2.1 ≠ (TJx8e188 b).2.1 := by decide +kernel
theorem tyJx8e188_ok : ∀ k, k < 0 → parseFieldDescriptor (TJx8e188 k).2.2.1 = some (tyJx8e188 k) := by decide +kernel
def RJxab1ab : String := "java/lang/Iterable"
def TJxab1ab : u_T := fun k => match k with
  | _ => ("", "", "", false)
def tyJxab1ab : Nat → FieldType := fun k => match k with
  | _ => .int
abbrev wsJxab1ab0 : List Cond := u_ws RJxab1ab TJxab1ab 0
theorem nmJxab1ab : ∀ a, a < 0 → ∀ b, b < 0 → a ≠ b → (TJxab1ab a).2.1 ≠ (TJxab1ab b).2.1 := by decide +kernel
theorem tyJxab1ab_ok : ∀ k, k < 0 → parseFieldDescriptor (TJxab1ab k).2.2.1 = some (tyJxab1ab k) := by decide +kernel
def RJ9 : String := "java/lang/Math"
def TJ9 : u_T := fun k => match k with
  | _ => ("", "", "", false)
def tyJ9 : Nat → FieldType := fun k => match k with
  | _ => .int
abbrev wsJ90 : List Cond := u_ws RJ9 TJ9 0
theorem nmJ9 : ∀ a, a < 0 → ∀ b, b < 0 → a ≠ b → (TJ9 a).2.1 ≠ (TJ9 b).2.1 := by decide +kernel
theorem tyJ9_ok : ∀ k, k < 0 → parseFieldDescriptor (TJ9 k).2.2.1 = some (tyJ9 k) := by decide +kernel
abbrev cJ9_floorMod_7cf53 : ByteArray := prog_15_method_50_code
def yJ9_floorMod_7cf53 : MethodName := ⟨RJ9, "floorMod", "(II)I"⟩
abbrev cJ9_max_7cf53 : ByteArray := prog_15_method_65_code
def yJ9_max_7cf53 : MethodName := ⟨RJ9, "max", "(II)I"⟩
abbrev cJ9_min_7cf53 : ByteArray := prog_15_method_69_code
def yJ9_min_7cf53 : MethodName := ⟨RJ9, "min", "(II)I"⟩
def RJ10 : String := "java/lang/System"
def TJ10 : u_T := fun k => match k with
  | _ => ("", "", "", false)
def tyJ10 : Nat → FieldType := fun k => match k with
  | _ => .int
abbrev wsJ100 : List Cond := u_ws RJ10 TJ10 0
theorem nmJ10 : ∀ a, a < 0 → ∀ b, b < 0 → a ≠ b → (TJ10 a).2.1 ≠ (TJ10 b).2.1 := by decide +kernel
theorem tyJ10_ok : ∀ k, k < 0 → parseFieldDescriptor (TJ10 k).2.2.1 = some (tyJ10 k) := by decide +kernel
def RJxa1e45 : String := "java/util/AbstractCollection"
def TJxa1e45 : u_T := fun k => match k with
  | _ => ("", "", "", false)
def tyJxa1e45 : Nat → FieldType := fun k => match k with
  | _ => .int
abbrev wsJxa1e450 : List Cond := u_ws RJxa1e45 TJxa1e45 0
theorem nmJxa1e45 : ∀ a, a < 0 → ∀ b, b < 0 → a ≠ b → (TJxa1e45 a).2.1 ≠ (TJxa1e45 b).2.1 := by decide +kernel
theorem tyJxa1e45_ok : ∀ k, k < 0 → parseFieldDescriptor (TJxa1e45 k).2.2.1 = some (tyJxa1e45 k) := by decide +kernel
abbrev cJxa1e45_init_da8c8 : ByteArray := prog_17_method_1_code
def yJxa1e45_init_da8c8 : MethodName := ⟨RJxa1e45, "<init>", "()V"⟩
def RJxc12de : String := "java/util/AbstractList"
def TJxc12de : u_T := fun k => match k with
  | _ => ("", "", "", false)
def tyJxc12de : Nat → FieldType := fun k => match k with
  | _ => .int
abbrev wsJxc12de0 : List Cond := u_ws RJxc12de TJxc12de 0
theorem nmJxc12de : ∀ a, a < 0 → ∀ b, b < 0 → a ≠ b → (TJxc12de a).2.1 ≠ (TJxc12de b).2.1 := by decide +kernel
theorem tyJxc12de_ok : ∀ k, k < 0 → parseFieldDescriptor (TJxc12de k).2.2.1 = some (tyJxc12de k) := by decide +kernel
abbrev cJxc12de_init_da8c8 : ByteArray := prog_18_method_1_code
def yJxc12de_init_da8c8 : MethodName := ⟨RJxc12de, "<init>", "()V"⟩
def RJx4a65c : String := "java/util/ArrayList"
def TJx4a65c : u_T := fun k => match k with
  | 0 => ("java/util/AbstractList", "modCount", "I", false)
  | 1 => ("java/util/ArrayList", "elementData", "[Ljava/lang/Object;", false)
  | _ => ("java/util/ArrayList", "size", "I", false)
def tyJx4a65c : Nat → FieldType := fun k => match k with
  | 0 => .int
  | 1 => .array (.object "java/lang/Object")
  | _ => .int
abbrev wsJx4a65c0 : List Cond := u_ws RJx4a65c TJx4a65c 3
theorem nmJx4a65c : ∀ a, a < 3 → ∀ b, b < 3 → a ≠ b → (TJx4a65c a).2.1 ≠ (TJx4a65c b).2.1 := by decide +kernel
theorem tyJx4a65c_ok : ∀ k, k < 3 → parseFieldDescriptor (TJx4a65c k).2.2.1 = some (tyJx4a65c k) := by decide +kernel
abbrev cJx4a65c_init_da8c8 : ByteArray := prog_19_method_2_code
def yJx4a65c_init_da8c8 : MethodName := ⟨RJx4a65c, "<init>", "()V"⟩
abbrev cJx4a65c_grow_92f84 : ByteArray := prog_19_method_6_code
def yJx4a65c_grow_92f84 : MethodName := ⟨RJx4a65c, "grow", "(I)[Ljava/lang/Object;"⟩
abbrev cJx4a65c_grow_d5877 : ByteArray := prog_19_method_7_code
def yJx4a65c_grow_d5877 : MethodName := ⟨RJx4a65c, "grow", "()[Ljava/lang/Object;"⟩
abbrev cJx4a65c_size_8abf5 : ByteArray := prog_19_method_8_code
def yJx4a65c_size_8abf5 : MethodName := ⟨RJx4a65c, "size", "()I"⟩
abbrev cJx4a65c_elementData_915e3 : ByteArray := prog_19_method_18_code
def yJx4a65c_elementData_915e3 : MethodName := ⟨RJx4a65c, "elementData", "(I)Ljava/lang/Object;"⟩
abbrev cJx4a65c_get_915e3 : ByteArray := prog_19_method_20_code
def yJx4a65c_get_915e3 : MethodName := ⟨RJx4a65c, "get", "(I)Ljava/lang/Object;"⟩
abbrev cJx4a65c_add_72be8 : ByteArray := prog_19_method_24_code
def yJx4a65c_add_72be8 : MethodName := ⟨RJx4a65c, "add", "(Ljava/lang/Object;[Ljava/lang/Object;I)V"⟩
abbrev cJx4a65c_add_9ea2d : ByteArray := prog_19_method_25_code
def yJx4a65c_add_9ea2d : MethodName := ⟨RJx4a65c, "add", "(Ljava/lang/Object;)Z"⟩
abbrev cJx4a65c_remove_915e3 : ByteArray := prog_19_method_29_code
def yJx4a65c_remove_915e3 : MethodName := ⟨RJx4a65c, "remove", "(I)Ljava/lang/Object;"⟩
abbrev cJx4a65c_fastRemove_b59b0 : ByteArray := prog_19_method_39_code
def yJx4a65c_fastRemove_b59b0 : MethodName := ⟨RJx4a65c, "fastRemove", "([Ljava/lang/Object;I)V"⟩
def RJ7 : String := "java/util/Arrays"
def TJ7 : u_T := fun k => match k with
  | _ => ("", "", "", false)
def tyJ7 : Nat → FieldType := fun k => match k with
  | _ => .int
abbrev wsJ70 : List Cond := u_ws RJ7 TJ7 0
theorem nmJ7 : ∀ a, a < 0 → ∀ b, b < 0 → a ≠ b → (TJ7 a).2.1 ≠ (TJ7 b).2.1 := by decide +kernel
theorem tyJ7_ok : ∀ k, k < 0 → parseFieldDescriptor (TJ7 k).2.2.1 = some (tyJ7 k) := by decide +kernel
abbrev cJ7_copyOf_1904c : ByteArray := prog_20_method_119_code
def yJ7_copyOf_1904c : MethodName := ⟨RJ7, "copyOf", "([Ljava/lang/Object;I)[Ljava/lang/Object;"⟩
abbrev cJ7_copyOf_6403c : ByteArray := prog_20_method_120_code
def yJ7_copyOf_6403c : MethodName := ⟨RJ7, "copyOf", "([Ljava/lang/Object;ILjava/lang/Class;)[Ljava/lang/Object;"⟩
def RJx5ef63 : String := "java/util/Collection"
def TJx5ef63 : u_T := fun k => match k with
  | _ => ("", "", "", false)
def tyJx5ef63 : Nat → FieldType := fun k => match k with
  | _ => .int
abbrev wsJx5ef630 : List Cond := u_ws RJx5ef63 TJx5ef63 0
theorem nmJx5ef63 : ∀ a, a < 0 → ∀ b, b < 0 → a ≠ b → (TJx5ef63 a).2.1 ≠ (TJx5ef63 b).2.1 := by decide +kernel
theorem tyJx5ef63_ok : ∀ k, k < 0 → parseFieldDescriptor (TJx5ef63 k).2.2.1 = some (tyJx5ef63 k) := by decide +kernel
def RJxbd725 : String := "java/util/List"
def TJxbd725 : u_T := fun k => match k with
  | _ => ("", "", "", false)
def tyJxbd725 : Nat → FieldType := fun k => match k with
  | _ => .int
abbrev wsJxbd7250 : List Cond := u_ws RJxbd725 TJxbd725 0
theorem nmJxbd725 : ∀ a, a < 0 → ∀ b, b < 0 → a ≠ b → (TJxbd725 a).2.1 ≠ (TJxbd725 b).2.1 := by decide +kernel
theorem tyJxbd725_ok : ∀ k, k < 0 → parseFieldDescriptor (TJxbd725 k).2.2.1 = some (tyJxbd725 k) := by decide +kernel
def RJ15 : String := "java/util/Objects"
def TJ15 : u_T := fun k => match k with
  | _ => ("", "", "", false)
def tyJ15 : Nat → FieldType := fun k => match k with
  | _ => .int
abbrev wsJ150 : List Cond := u_ws RJ15 TJ15 0
theorem nmJ15 : ∀ a, a < 0 → ∀ b, b < 0 → a ≠ b → (TJ15 a).2.1 ≠ (TJ15 b).2.1 := by decide +kernel
theorem tyJ15_ok : ∀ k, k < 0 → parseFieldDescriptor (TJ15 k).2.2.1 = some (tyJ15 k) := by decide +kernel
abbrev cJ15_checkIndex_7cf53 : ByteArray := prog_23_method_17_code
def yJ15_checkIndex_7cf53 : MethodName := ⟨RJ15, "checkIndex", "(II)I"⟩
def RJxf0a74 : String := "java/util/RandomAccess"
def TJxf0a74 : u_T := fun k => match k with
  | _ => ("", "", "", false)
def tyJxf0a74 : Nat → FieldType := fun k => match k with
  | _ => .int
abbrev wsJxf0a740 : List Cond := u_ws RJxf0a74 TJxf0a74 0
theorem nmJxf0a74 : ∀ a, a < 0 → ∀ b, b < 0 → a ≠ b → (TJxf0a74 a).2.1 ≠ (TJxf0a74 b).2.1 := by decide +kernel
theorem tyJxf0a74_ok : ∀ k, k < 0 → parseFieldDescriptor (TJxf0a74 k).2.2.1 = some (tyJxf0a74 k) := by decide +kernel
def RJxa66e6 : String := "java/util/SequencedCollection"
def TJxa66e6 : u_T := fun k => match k with
  | _ => ("", "", "", false)
def tyJxa66e6 : Nat → FieldType := fun k => match k with
  | _ => .int
abbrev wsJxa66e60 : List Cond := u_ws RJxa66e6 TJxa66e6 0
theorem nmJxa66e6 : ∀ a, a < 0 → ∀ b, b < 0 → a ≠ b → (TJxa66e6 a).2.1 ≠ (TJxa66e6 b).2.1 := by decide +kernel
theorem tyJxa66e6_ok : ∀ k, k < 0 → parseFieldDescriptor (TJxa66e6 k).2.2.1 = some (tyJxa66e6 k) := by decide +kernel
def RJ8 : String := "jdk/internal/util/ArraysSupport"
def TJ8 : u_T := fun k => match k with
  | _ => ("", "", "", false)
def tyJ8 : Nat → FieldType := fun k => match k with
  | _ => .int
abbrev wsJ80 : List Cond := u_ws RJ8 TJ8 0
theorem nmJ8 : ∀ a, a < 0 → ∀ b, b < 0 → a ≠ b → (TJ8 a).2.1 ≠ (TJ8 b).2.1 := by decide +kernel
theorem tyJ8_ok : ∀ k, k < 0 → parseFieldDescriptor (TJ8 k).2.2.1 = some (tyJ8 k) := by decide +kernel
abbrev cJ8_newLength_cabcc : ByteArray := prog_26_method_27_code
def yJ8_newLength_cabcc : MethodName := ⟨RJ8, "newLength", "(III)I"⟩
abbrev cJ8_hugeLength_7cf53 : ByteArray := prog_26_method_28_code
def yJ8_hugeLength_7cf53 : MethodName := ⟨RJ8, "hugeLength", "(II)I"⟩
def RJ3 : String := "jdk/internal/util/Preconditions"
def TJ3 : u_T := fun k => match k with
  | _ => ("", "", "", false)
def tyJ3 : Nat → FieldType := fun k => match k with
  | _ => .int
abbrev wsJ30 : List Cond := u_ws RJ3 TJ3 0
theorem nmJ3 : ∀ a, a < 0 → ∀ b, b < 0 → a ≠ b → (TJ3 a).2.1 ≠ (TJ3 b).2.1 := by decide +kernel
theorem tyJ3_ok : ∀ k, k < 0 → parseFieldDescriptor (TJ3 k).2.2.1 = some (tyJ3 k) := by decide +kernel
abbrev cJ3_checkIndex_8e157 : ByteArray := prog_27_method_11_code
def yJ3_checkIndex_8e157 : MethodName := ⟨RJ3, "checkIndex", "(IILjava/util/function/BiFunction;)I"⟩
def RL : String := "CrossingKeeperLaw"
abbrev cL_law : ByteArray := code
def yL_law : MethodName := ⟨RL, "law", "([I)Z"⟩
abbrev vwCl : List vw_C := [(RJx4a65c, TJx4a65c, 3), (RX0, TX0, 1), (RX1, TX1, 4), (RX2, TX2, 5), (RX3, TX3, 3), (RX4, TX4, 5), (RX5, TX5, 4), (RX6, TX6, 18), (RX7, TX7, 2), (RX8, TX8, 16), (RX9, TX9, 53)]
/-- the words that a method is given: all of the table's that stay -/
def yTs : List Cond := lw_tbl.filter goodWord
theorem yt_in {w : Cond} (i : Nat) (h : tables_1[i]? = some w) (g : goodWord w = true) : w ∈ yTs := List.mem_filter.mpr ⟨List.mem_append_right _ (List.mem_of_getElem? h), g⟩
theorem yt_sel {w : Cond} (i : Nat) (h : (k2_sels lw_privs)[i]? = some w) (g : goodWord w = true) : w ∈ yTs := List.mem_filter.mpr ⟨List.mem_append_left _ (List.mem_of_getElem? h), g⟩
theorem yt_all {ws : List Cond} (h : ws.all (fun w => decide (w ∈ lw_tbl) && goodWord w) = true) : ∀ w ∈ ws, w ∈ yTs := fun w hw => by
  have h1 := List.all_eq_true.mp h w hw
  simp only [Bool.and_eq_true, decide_eq_true_eq] at h1
  exact List.mem_filter.mpr h1
theorem yt_good : GoodIn yTs yTs := fun w hw => ⟨hw, good_of_word (List.mem_filter.mp hw).2⟩
theorem yt_code {c : Cond} (h : c ∈ yTs) : GoodIn yTs (c :: yTs) := fun w hw => by
  rcases List.mem_cons.mp hw with rfl | hw
  · exact yt_good _ h
  · exact yt_good _ hw
end
section
theorem dX9_init_0 : decode cX9_init 0 = .ok (.aload_n 0, 1) := by decide +kernel
theorem dX9_init_1 : decode cX9_init 1 = .ok (.invokespecial 1, 3) := by decide +kernel
theorem dX9_init_4 : decode cX9_init 4 = .ok (.aload_n 0, 1) := by decide +kernel
theorem dX9_init_5 : decode cX9_init 5 = .ok (.bipush 8, 2) := by decide +kernel
theorem dX9_init_7 : decode cX9_init 7 = .ok (.newarray .int, 2) := by decide +kernel
theorem dX9_init_9 : decode cX9_init 9 = .ok (.putfield 7, 3) := by decide +kernel
theorem dX9_init_12 : decode cX9_init 12 = .ok (.aload_n 0, 1) := by decide +kernel
theorem dX9_init_13 : decode cX9_init 13 = .ok (.bipush 8, 2) := by decide +kernel
theorem dX9_init_15 : decode cX9_init 15 = .ok (.newarray .int, 2) := by decide +kernel
theorem dX9_init_17 : decode cX9_init 17 = .ok (.putfield 13, 3) := by decide +kernel
theorem dX9_init_20 : decode cX9_init 20 = .ok (.aload_n 0, 1) := by decide +kernel
theorem dX9_init_21 : decode cX9_init 21 = .ok (.bipush 8, 2) := by decide +kernel
theorem dX9_init_23 : decode cX9_init 23 = .ok (.newarray .int, 2) := by decide +kernel
theorem dX9_init_25 : decode cX9_init 25 = .ok (.dup, 1) := by decide +kernel
theorem dX9_init_26 : decode cX9_init 26 = .ok (.iconst 0, 1) := by decide +kernel
theorem dX9_init_27 : decode cX9_init 27 = .ok (.bipush (-5), 2) := by decide +kernel
theorem dX9_init_29 : decode cX9_init 29 = .ok (.iastore, 1) := by decide +kernel
theorem dX9_init_30 : decode cX9_init 30 = .ok (.dup, 1) := by decide +kernel
theorem dX9_init_31 : decode cX9_init 31 = .ok (.iconst 1, 1) := by decide +kernel
theorem dX9_init_32 : decode cX9_init 32 = .ok (.bipush (-5), 2) := by decide +kernel
theorem dX9_init_34 : decode cX9_init 34 = .ok (.iastore, 1) := by decide +kernel
theorem dX9_init_35 : decode cX9_init 35 = .ok (.dup, 1) := by decide +kernel
theorem dX9_init_36 : decode cX9_init 36 = .ok (.iconst 2, 1) := by decide +kernel
theorem dX9_init_37 : decode cX9_init 37 = .ok (.bipush (-5), 2) := by decide +kernel
theorem dX9_init_39 : decode cX9_init 39 = .ok (.iastore, 1) := by decide +kernel
theorem dX9_init_40 : decode cX9_init 40 = .ok (.dup, 1) := by decide +kernel
theorem dX9_init_41 : decode cX9_init 41 = .ok (.iconst 3, 1) := by decide +kernel
theorem dX9_init_42 : decode cX9_init 42 = .ok (.bipush (-5), 2) := by decide +kernel
theorem dX9_init_44 : decode cX9_init 44 = .ok (.iastore, 1) := by decide +kernel
theorem dX9_init_45 : decode cX9_init 45 = .ok (.dup, 1) := by decide +kernel
theorem dX9_init_46 : decode cX9_init 46 = .ok (.iconst 4, 1) := by decide +kernel
theorem dX9_init_47 : decode cX9_init 47 = .ok (.bipush (-5), 2) := by decide +kernel
theorem dX9_init_49 : decode cX9_init 49 = .ok (.iastore, 1) := by decide +kernel
theorem dX9_init_50 : decode cX9_init 50 = .ok (.dup, 1) := by decide +kernel
theorem dX9_init_51 : decode cX9_init 51 = .ok (.iconst 5, 1) := by decide +kernel
theorem dX9_init_52 : decode cX9_init 52 = .ok (.bipush (-5), 2) := by decide +kernel
theorem dX9_init_54 : decode cX9_init 54 = .ok (.iastore, 1) := by decide +kernel
theorem dX9_init_55 : decode cX9_init 55 = .ok (.dup, 1) := by decide +kernel
theorem dX9_init_56 : decode cX9_init 56 = .ok (.bipush 6, 2) := by decide +kernel
theorem dX9_init_58 : decode cX9_init 58 = .ok (.bipush (-5), 2) := by decide +kernel
theorem dX9_init_60 : decode cX9_init 60 = .ok (.iastore, 1) := by decide +kernel
theorem dX9_init_61 : decode cX9_init 61 = .ok (.dup, 1) := by decide +kernel
theorem dX9_init_62 : decode cX9_init 62 = .ok (.bipush 7, 2) := by decide +kernel
theorem dX9_init_64 : decode cX9_init 64 = .ok (.bipush (-5), 2) := by decide +kernel
theorem dX9_init_66 : decode cX9_init 66 = .ok (.iastore, 1) := by decide +kernel
theorem dX9_init_67 : decode cX9_init 67 = .ok (.putfield 16, 3) := by decide +kernel
theorem dX9_init_70 : decode cX9_init 70 = .ok (.aload_n 0, 1) := by decide +kernel
theorem dX9_init_71 : decode cX9_init 71 = .ok (.bipush 8, 2) := by decide +kernel
theorem dX9_init_73 : decode cX9_init 73 = .ok (.newarray .int, 2) := by decide +kernel
theorem dX9_init_75 : decode cX9_init 75 = .ok (.putfield 19, 3) := by decide +kernel
theorem dX9_init_78 : decode cX9_init 78 = .ok (.aload_n 0, 1) := by decide +kernel
theorem dX9_init_79 : decode cX9_init 79 = .ok (.bipush 8, 2) := by decide +kernel
theorem dX9_init_81 : decode cX9_init 81 = .ok (.newarray .int, 2) := by decide +kernel
theorem dX9_init_83 : decode cX9_init 83 = .ok (.putfield 22, 3) := by decide +kernel
theorem dX9_init_86 : decode cX9_init 86 = .ok (.aload_n 0, 1) := by decide +kernel
theorem dX9_init_87 : decode cX9_init 87 = .ok (.bipush 8, 2) := by decide +kernel
theorem dX9_init_89 : decode cX9_init 89 = .ok (.newarray .int, 2) := by decide +kernel
theorem dX9_init_91 : decode cX9_init 91 = .ok (.putfield 25, 3) := by decide +kernel
theorem dX9_init_94 : decode cX9_init 94 = .ok (.aload_n 0, 1) := by decide +kernel
theorem dX9_init_95 : decode cX9_init 95 = .ok (.bipush 8, 2) := by decide +kernel
theorem dX9_init_97 : decode cX9_init 97 = .ok (.newarray .int, 2) := by decide +kernel
theorem dX9_init_99 : decode cX9_init 99 = .ok (.dup, 1) := by decide +kernel
theorem dX9_init_100 : decode cX9_init 100 = .ok (.iconst 0, 1) := by decide +kernel
theorem dX9_init_101 : decode cX9_init 101 = .ok (.bipush (-5), 2) := by decide +kernel
theorem dX9_init_103 : decode cX9_init 103 = .ok (.iastore, 1) := by decide +kernel
theorem dX9_init_104 : decode cX9_init 104 = .ok (.dup, 1) := by decide +kernel
theorem dX9_init_105 : decode cX9_init 105 = .ok (.iconst 1, 1) := by decide +kernel
theorem dX9_init_106 : decode cX9_init 106 = .ok (.bipush (-5), 2) := by decide +kernel
theorem dX9_init_108 : decode cX9_init 108 = .ok (.iastore, 1) := by decide +kernel
theorem dX9_init_109 : decode cX9_init 109 = .ok (.dup, 1) := by decide +kernel
theorem dX9_init_110 : decode cX9_init 110 = .ok (.iconst 2, 1) := by decide +kernel
theorem dX9_init_111 : decode cX9_init 111 = .ok (.bipush (-5), 2) := by decide +kernel
theorem dX9_init_113 : decode cX9_init 113 = .ok (.iastore, 1) := by decide +kernel
theorem dX9_init_114 : decode cX9_init 114 = .ok (.dup, 1) := by decide +kernel
theorem dX9_init_115 : decode cX9_init 115 = .ok (.iconst 3, 1) := by decide +kernel
theorem dX9_init_116 : decode cX9_init 116 = .ok (.bipush (-5), 2) := by decide +kernel
theorem dX9_init_118 : decode cX9_init 118 = .ok (.iastore, 1) := by decide +kernel
theorem dX9_init_119 : decode cX9_init 119 = .ok (.dup, 1) := by decide +kernel
theorem dX9_init_120 : decode cX9_init 120 = .ok (.iconst 4, 1) := by decide +kernel
theorem dX9_init_121 : decode cX9_init 121 = .ok (.bipush (-5), 2) := by decide +kernel
theorem dX9_init_123 : decode cX9_init 123 = .ok (.iastore, 1) := by decide +kernel
theorem dX9_init_124 : decode cX9_init 124 = .ok (.dup, 1) := by decide +kernel
theorem dX9_init_125 : decode cX9_init 125 = .ok (.iconst 5, 1) := by decide +kernel
theorem dX9_init_126 : decode cX9_init 126 = .ok (.bipush (-5), 2) := by decide +kernel
theorem dX9_init_128 : decode cX9_init 128 = .ok (.iastore, 1) := by decide +kernel
theorem dX9_init_129 : decode cX9_init 129 = .ok (.dup, 1) := by decide +kernel
theorem dX9_init_130 : decode cX9_init 130 = .ok (.bipush 6, 2) := by decide +kernel
theorem dX9_init_132 : decode cX9_init 132 = .ok (.bipush (-5), 2) := by decide +kernel
theorem dX9_init_134 : decode cX9_init 134 = .ok (.iastore, 1) := by decide +kernel
theorem dX9_init_135 : decode cX9_init 135 = .ok (.dup, 1) := by decide +kernel
theorem dX9_init_136 : decode cX9_init 136 = .ok (.bipush 7, 2) := by decide +kernel
theorem dX9_init_138 : decode cX9_init 138 = .ok (.bipush (-5), 2) := by decide +kernel
theorem dX9_init_140 : decode cX9_init 140 = .ok (.iastore, 1) := by decide +kernel
theorem dX9_init_141 : decode cX9_init 141 = .ok (.putfield 28, 3) := by decide +kernel
theorem dX9_init_144 : decode cX9_init 144 = .ok (.aload_n 0, 1) := by decide +kernel
theorem dX9_init_145 : decode cX9_init 145 = .ok (.bipush 8, 2) := by decide +kernel
theorem dX9_init_147 : decode cX9_init 147 = .ok (.newarray .int, 2) := by decide +kernel
theorem dX9_init_149 : decode cX9_init 149 = .ok (.putfield 31, 3) := by decide +kernel
theorem dX9_init_152 : decode cX9_init 152 = .ok (.aload_n 0, 1) := by decide +kernel
theorem dX9_init_153 : decode cX9_init 153 = .ok (.bipush 8, 2) := by decide +kernel
theorem dX9_init_155 : decode cX9_init 155 = .ok (.newarray .int, 2) := by decide +kernel
theorem dX9_init_157 : decode cX9_init 157 = .ok (.dup, 1) := by decide +kernel
theorem dX9_init_158 : decode cX9_init 158 = .ok (.iconst 0, 1) := by decide +kernel
theorem dX9_init_159 : decode cX9_init 159 = .ok (.bipush (-5), 2) := by decide +kernel
theorem dX9_init_161 : decode cX9_init 161 = .ok (.iastore, 1) := by decide +kernel
theorem dX9_init_162 : decode cX9_init 162 = .ok (.dup, 1) := by decide +kernel
theorem dX9_init_163 : decode cX9_init 163 = .ok (.iconst 1, 1) := by decide +kernel
theorem dX9_init_164 : decode cX9_init 164 = .ok (.bipush (-5), 2) := by decide +kernel
theorem dX9_init_166 : decode cX9_init 166 = .ok (.iastore, 1) := by decide +kernel
theorem dX9_init_167 : decode cX9_init 167 = .ok (.dup, 1) := by decide +kernel
theorem dX9_init_168 : decode cX9_init 168 = .ok (.iconst 2, 1) := by decide +kernel
theorem dX9_init_169 : decode cX9_init 169 = .ok (.bipush (-5), 2) := by decide +kernel
theorem dX9_init_171 : decode cX9_init 171 = .ok (.iastore, 1) := by decide +kernel
theorem dX9_init_172 : decode cX9_init 172 = .ok (.dup, 1) := by decide +kernel
theorem dX9_init_173 : decode cX9_init 173 = .ok (.iconst 3, 1) := by decide +kernel
theorem dX9_init_174 : decode cX9_init 174 = .ok (.bipush (-5), 2) := by decide +kernel
theorem dX9_init_176 : decode cX9_init 176 = .ok (.iastore, 1) := by decide +kernel
theorem dX9_init_177 : decode cX9_init 177 = .ok (.dup, 1) := by decide +kernel
theorem dX9_init_178 : decode cX9_init 178 = .ok (.iconst 4, 1) := by decide +kernel
theorem dX9_init_179 : decode cX9_init 179 = .ok (.bipush (-5), 2) := by decide +kernel
theorem dX9_init_181 : decode cX9_init 181 = .ok (.iastore, 1) := by decide +kernel
theorem dX9_init_182 : decode cX9_init 182 = .ok (.dup, 1) := by decide +kernel
theorem dX9_init_183 : decode cX9_init 183 = .ok (.iconst 5, 1) := by decide +kernel
theorem dX9_init_184 : decode cX9_init 184 = .ok (.bipush (-5), 2) := by decide +kernel
theorem dX9_init_186 : decode cX9_init 186 = .ok (.iastore, 1) := by decide +kernel
theorem dX9_init_187 : decode cX9_init 187 = .ok (.dup, 1) := by decide +kernel
theorem dX9_init_188 : decode cX9_init 188 = .ok (.bipush 6, 2) := by decide +kernel
theorem dX9_init_190 : decode cX9_init 190 = .ok (.bipush (-5), 2) := by decide +kernel
theorem dX9_init_192 : decode cX9_init 192 = .ok (.iastore, 1) := by decide +kernel
theorem dX9_init_193 : decode cX9_init 193 = .ok (.dup, 1) := by decide +kernel
theorem dX9_init_194 : decode cX9_init 194 = .ok (.bipush 7, 2) := by decide +kernel
theorem dX9_init_196 : decode cX9_init 196 = .ok (.bipush (-5), 2) := by decide +kernel
theorem dX9_init_198 : decode cX9_init 198 = .ok (.iastore, 1) := by decide +kernel
theorem dX9_init_199 : decode cX9_init 199 = .ok (.putfield 34, 3) := by decide +kernel
theorem dX9_init_202 : decode cX9_init 202 = .ok (.aload_n 0, 1) := by decide +kernel
theorem dX9_init_203 : decode cX9_init 203 = .ok (.bipush 8, 2) := by decide +kernel
theorem dX9_init_205 : decode cX9_init 205 = .ok (.newarray .int, 2) := by decide +kernel
theorem dX9_init_207 : decode cX9_init 207 = .ok (.dup, 1) := by decide +kernel
theorem dX9_init_208 : decode cX9_init 208 = .ok (.iconst 0, 1) := by decide +kernel
theorem dX9_init_209 : decode cX9_init 209 = .ok (.iconst 5, 1) := by decide +kernel
theorem dX9_init_210 : decode cX9_init 210 = .ok (.iastore, 1) := by decide +kernel
theorem dX9_init_211 : decode cX9_init 211 = .ok (.dup, 1) := by decide +kernel
theorem dX9_init_212 : decode cX9_init 212 = .ok (.iconst 1, 1) := by decide +kernel
theorem dX9_init_213 : decode cX9_init 213 = .ok (.iconst 5, 1) := by decide +kernel
theorem dX9_init_214 : decode cX9_init 214 = .ok (.iastore, 1) := by decide +kernel
theorem dX9_init_215 : decode cX9_init 215 = .ok (.dup, 1) := by decide +kernel
theorem dX9_init_216 : decode cX9_init 216 = .ok (.iconst 2, 1) := by decide +kernel
theorem dX9_init_217 : decode cX9_init 217 = .ok (.iconst 5, 1) := by decide +kernel
theorem dX9_init_218 : decode cX9_init 218 = .ok (.iastore, 1) := by decide +kernel
theorem dX9_init_219 : decode cX9_init 219 = .ok (.dup, 1) := by decide +kernel
theorem dX9_init_220 : decode cX9_init 220 = .ok (.iconst 3, 1) := by decide +kernel
theorem dX9_init_221 : decode cX9_init 221 = .ok (.iconst 5, 1) := by decide +kernel
theorem dX9_init_222 : decode cX9_init 222 = .ok (.iastore, 1) := by decide +kernel
theorem dX9_init_223 : decode cX9_init 223 = .ok (.dup, 1) := by decide +kernel
theorem dX9_init_224 : decode cX9_init 224 = .ok (.iconst 4, 1) := by decide +kernel
theorem dX9_init_225 : decode cX9_init 225 = .ok (.iconst 5, 1) := by decide +kernel
theorem dX9_init_226 : decode cX9_init 226 = .ok (.iastore, 1) := by decide +kernel
theorem dX9_init_227 : decode cX9_init 227 = .ok (.dup, 1) := by decide +kernel
theorem dX9_init_228 : decode cX9_init 228 = .ok (.iconst 5, 1) := by decide +kernel
theorem dX9_init_229 : decode cX9_init 229 = .ok (.iconst 5, 1) := by decide +kernel
theorem dX9_init_230 : decode cX9_init 230 = .ok (.iastore, 1) := by decide +kernel
theorem dX9_init_231 : decode cX9_init 231 = .ok (.dup, 1) := by decide +kernel
theorem dX9_init_232 : decode cX9_init 232 = .ok (.bipush 6, 2) := by decide +kernel
theorem dX9_init_234 : decode cX9_init 234 = .ok (.iconst 5, 1) := by decide +kernel
theorem dX9_init_235 : decode cX9_init 235 = .ok (.iastore, 1) := by decide +kernel
theorem dX9_init_236 : decode cX9_init 236 = .ok (.dup, 1) := by decide +kernel
theorem dX9_init_237 : decode cX9_init 237 = .ok (.bipush 7, 2) := by decide +kernel
theorem dX9_init_239 : decode cX9_init 239 = .ok (.iconst 5, 1) := by decide +kernel
theorem dX9_init_240 : decode cX9_init 240 = .ok (.iastore, 1) := by decide +kernel
theorem dX9_init_241 : decode cX9_init 241 = .ok (.putfield 37, 3) := by decide +kernel
theorem dX9_init_244 : decode cX9_init 244 = .ok (.aload_n 0, 1) := by decide +kernel
theorem dX9_init_245 : decode cX9_init 245 = .ok (.bipush 8, 2) := by decide +kernel
theorem dX9_init_247 : decode cX9_init 247 = .ok (.newarray .int, 2) := by decide +kernel
theorem dX9_init_249 : decode cX9_init 249 = .ok (.dup, 1) := by decide +kernel
theorem dX9_init_250 : decode cX9_init 250 = .ok (.iconst 0, 1) := by decide +kernel
theorem dX9_init_251 : decode cX9_init 251 = .ok (.bipush 20, 2) := by decide +kernel
theorem dX9_init_253 : decode cX9_init 253 = .ok (.iastore, 1) := by decide +kernel
theorem dX9_init_254 : decode cX9_init 254 = .ok (.dup, 1) := by decide +kernel
theorem dX9_init_255 : decode cX9_init 255 = .ok (.iconst 1, 1) := by decide +kernel
theorem dX9_init_256 : decode cX9_init 256 = .ok (.bipush 20, 2) := by decide +kernel
theorem dX9_init_258 : decode cX9_init 258 = .ok (.iastore, 1) := by decide +kernel
theorem dX9_init_259 : decode cX9_init 259 = .ok (.dup, 1) := by decide +kernel
theorem dX9_init_260 : decode cX9_init 260 = .ok (.iconst 2, 1) := by decide +kernel
theorem dX9_init_261 : decode cX9_init 261 = .ok (.bipush 20, 2) := by decide +kernel
theorem dX9_init_263 : decode cX9_init 263 = .ok (.iastore, 1) := by decide +kernel
theorem dX9_init_264 : decode cX9_init 264 = .ok (.dup, 1) := by decide +kernel
theorem dX9_init_265 : decode cX9_init 265 = .ok (.iconst 3, 1) := by decide +kernel
theorem dX9_init_266 : decode cX9_init 266 = .ok (.bipush 20, 2) := by decide +kernel
theorem dX9_init_268 : decode cX9_init 268 = .ok (.iastore, 1) := by decide +kernel
theorem dX9_init_269 : decode cX9_init 269 = .ok (.dup, 1) := by decide +kernel
theorem dX9_init_270 : decode cX9_init 270 = .ok (.iconst 4, 1) := by decide +kernel
theorem dX9_init_271 : decode cX9_init 271 = .ok (.bipush 20, 2) := by decide +kernel
theorem dX9_init_273 : decode cX9_init 273 = .ok (.iastore, 1) := by decide +kernel
theorem dX9_init_274 : decode cX9_init 274 = .ok (.dup, 1) := by decide +kernel
theorem dX9_init_275 : decode cX9_init 275 = .ok (.iconst 5, 1) := by decide +kernel
theorem dX9_init_276 : decode cX9_init 276 = .ok (.bipush 20, 2) := by decide +kernel
theorem dX9_init_278 : decode cX9_init 278 = .ok (.iastore, 1) := by decide +kernel
theorem dX9_init_279 : decode cX9_init 279 = .ok (.dup, 1) := by decide +kernel
theorem dX9_init_280 : decode cX9_init 280 = .ok (.bipush 6, 2) := by decide +kernel
theorem dX9_init_282 : decode cX9_init 282 = .ok (.bipush 20, 2) := by decide +kernel
theorem dX9_init_284 : decode cX9_init 284 = .ok (.iastore, 1) := by decide +kernel
theorem dX9_init_285 : decode cX9_init 285 = .ok (.dup, 1) := by decide +kernel
theorem dX9_init_286 : decode cX9_init 286 = .ok (.bipush 7, 2) := by decide +kernel
theorem dX9_init_288 : decode cX9_init 288 = .ok (.bipush 20, 2) := by decide +kernel
theorem dX9_init_290 : decode cX9_init 290 = .ok (.iastore, 1) := by decide +kernel
theorem dX9_init_291 : decode cX9_init 291 = .ok (.putfield 40, 3) := by decide +kernel
theorem dX9_init_294 : decode cX9_init 294 = .ok (.aload_n 0, 1) := by decide +kernel
theorem dX9_init_295 : decode cX9_init 295 = .ok (.bipush 8, 2) := by decide +kernel
theorem dX9_init_297 : decode cX9_init 297 = .ok (.newarray .int, 2) := by decide +kernel
theorem dX9_init_299 : decode cX9_init 299 = .ok (.dup, 1) := by decide +kernel
theorem dX9_init_300 : decode cX9_init 300 = .ok (.iconst 0, 1) := by decide +kernel
theorem dX9_init_301 : decode cX9_init 301 = .ok (.iconst 3, 1) := by decide +kernel
theorem dX9_init_302 : decode cX9_init 302 = .ok (.iastore, 1) := by decide +kernel
theorem dX9_init_303 : decode cX9_init 303 = .ok (.dup, 1) := by decide +kernel
theorem dX9_init_304 : decode cX9_init 304 = .ok (.iconst 1, 1) := by decide +kernel
theorem dX9_init_305 : decode cX9_init 305 = .ok (.iconst 3, 1) := by decide +kernel
theorem dX9_init_306 : decode cX9_init 306 = .ok (.iastore, 1) := by decide +kernel
theorem dX9_init_307 : decode cX9_init 307 = .ok (.dup, 1) := by decide +kernel
theorem dX9_init_308 : decode cX9_init 308 = .ok (.iconst 2, 1) := by decide +kernel
theorem dX9_init_309 : decode cX9_init 309 = .ok (.iconst 3, 1) := by decide +kernel
theorem dX9_init_310 : decode cX9_init 310 = .ok (.iastore, 1) := by decide +kernel
theorem dX9_init_311 : decode cX9_init 311 = .ok (.dup, 1) := by decide +kernel
theorem dX9_init_312 : decode cX9_init 312 = .ok (.iconst 3, 1) := by decide +kernel
theorem dX9_init_313 : decode cX9_init 313 = .ok (.iconst 3, 1) := by decide +kernel
theorem dX9_init_314 : decode cX9_init 314 = .ok (.iastore, 1) := by decide +kernel
theorem dX9_init_315 : decode cX9_init 315 = .ok (.dup, 1) := by decide +kernel
theorem dX9_init_316 : decode cX9_init 316 = .ok (.iconst 4, 1) := by decide +kernel
theorem dX9_init_317 : decode cX9_init 317 = .ok (.iconst 3, 1) := by decide +kernel
theorem dX9_init_318 : decode cX9_init 318 = .ok (.iastore, 1) := by decide +kernel
theorem dX9_init_319 : decode cX9_init 319 = .ok (.dup, 1) := by decide +kernel
theorem dX9_init_320 : decode cX9_init 320 = .ok (.iconst 5, 1) := by decide +kernel
theorem dX9_init_321 : decode cX9_init 321 = .ok (.iconst 3, 1) := by decide +kernel
theorem dX9_init_322 : decode cX9_init 322 = .ok (.iastore, 1) := by decide +kernel
theorem dX9_init_323 : decode cX9_init 323 = .ok (.dup, 1) := by decide +kernel
theorem dX9_init_324 : decode cX9_init 324 = .ok (.bipush 6, 2) := by decide +kernel
theorem dX9_init_326 : decode cX9_init 326 = .ok (.iconst 3, 1) := by decide +kernel
theorem dX9_init_327 : decode cX9_init 327 = .ok (.iastore, 1) := by decide +kernel
theorem dX9_init_328 : decode cX9_init 328 = .ok (.dup, 1) := by decide +kernel
theorem dX9_init_329 : decode cX9_init 329 = .ok (.bipush 7, 2) := by decide +kernel
theorem dX9_init_331 : decode cX9_init 331 = .ok (.iconst 3, 1) := by decide +kernel
theorem dX9_init_332 : decode cX9_init 332 = .ok (.iastore, 1) := by decide +kernel
theorem dX9_init_333 : decode cX9_init 333 = .ok (.putfield 43, 3) := by decide +kernel
theorem dX9_init_336 : decode cX9_init 336 = .ok (.aload_n 0, 1) := by decide +kernel
theorem dX9_init_337 : decode cX9_init 337 = .ok (.bipush 8, 2) := by decide +kernel
theorem dX9_init_339 : decode cX9_init 339 = .ok (.newarray .boolean, 2) := by decide +kernel
theorem dX9_init_341 : decode cX9_init 341 = .ok (.putfield 46, 3) := by decide +kernel
theorem dX9_init_344 : decode cX9_init 344 = .ok (.aload_n 0, 1) := by decide +kernel
theorem dX9_init_345 : decode cX9_init 345 = .ok (.bipush 8, 2) := by decide +kernel
theorem dX9_init_347 : decode cX9_init 347 = .ok (.newarray .boolean, 2) := by decide +kernel
theorem dX9_init_349 : decode cX9_init 349 = .ok (.putfield 50, 3) := by decide +kernel
theorem dX9_init_352 : decode cX9_init 352 = .ok (.aload_n 0, 1) := by decide +kernel
theorem dX9_init_353 : decode cX9_init 353 = .ok (.bipush 64, 2) := by decide +kernel
theorem dX9_init_355 : decode cX9_init 355 = .ok (.newarray .int, 2) := by decide +kernel
theorem dX9_init_357 : decode cX9_init 357 = .ok (.putfield 53, 3) := by decide +kernel
theorem dX9_init_360 : decode cX9_init 360 = .ok (.aload_n 0, 1) := by decide +kernel
theorem dX9_init_361 : decode cX9_init 361 = .ok (.bipush 24, 2) := by decide +kernel
theorem dX9_init_363 : decode cX9_init 363 = .ok (.newarray .int, 2) := by decide +kernel
theorem dX9_init_365 : decode cX9_init 365 = .ok (.putfield 56, 3) := by decide +kernel
theorem dX9_init_368 : decode cX9_init 368 = .ok (.aload_n 0, 1) := by decide +kernel
theorem dX9_init_369 : decode cX9_init 369 = .ok (.bipush 12, 2) := by decide +kernel
theorem dX9_init_371 : decode cX9_init 371 = .ok (.newarray .int, 2) := by decide +kernel
theorem dX9_init_373 : decode cX9_init 373 = .ok (.putfield 59, 3) := by decide +kernel
theorem dX9_init_376 : decode cX9_init 376 = .ok (.aload_n 0, 1) := by decide +kernel
theorem dX9_init_377 : decode cX9_init 377 = .ok (.sipush 2400, 3) := by decide +kernel
theorem dX9_init_380 : decode cX9_init 380 = .ok (.newarray .int, 2) := by decide +kernel
theorem dX9_init_382 : decode cX9_init 382 = .ok (.putfield 62, 3) := by decide +kernel
theorem dX9_init_385 : decode cX9_init 385 = .ok (.aload_n 0, 1) := by decide +kernel
theorem dX9_init_386 : decode cX9_init 386 = .ok (.sipush 2400, 3) := by decide +kernel
theorem dX9_init_389 : decode cX9_init 389 = .ok (.newarray .int, 2) := by decide +kernel
theorem dX9_init_391 : decode cX9_init 391 = .ok (.putfield 65, 3) := by decide +kernel
theorem dX9_init_394 : decode cX9_init 394 = .ok (.aload_n 0, 1) := by decide +kernel
theorem dX9_init_395 : decode cX9_init 395 = .ok (.bipush 16, 2) := by decide +kernel
theorem dX9_init_397 : decode cX9_init 397 = .ok (.newarray .int, 2) := by decide +kernel
theorem dX9_init_399 : decode cX9_init 399 = .ok (.putfield 68, 3) := by decide +kernel
theorem dX9_init_402 : decode cX9_init 402 = .ok (.aload_n 0, 1) := by decide +kernel
theorem dX9_init_403 : decode cX9_init 403 = .ok (.bipush 16, 2) := by decide +kernel
theorem dX9_init_405 : decode cX9_init 405 = .ok (.newarray .int, 2) := by decide +kernel
theorem dX9_init_407 : decode cX9_init 407 = .ok (.putfield 71, 3) := by decide +kernel
theorem dX9_init_410 : decode cX9_init 410 = .ok (.aload_n 0, 1) := by decide +kernel
theorem dX9_init_411 : decode cX9_init 411 = .ok (.bipush 16, 2) := by decide +kernel
theorem dX9_init_413 : decode cX9_init 413 = .ok (.newarray .int, 2) := by decide +kernel
theorem dX9_init_415 : decode cX9_init 415 = .ok (.putfield 74, 3) := by decide +kernel
theorem dX9_init_418 : decode cX9_init 418 = .ok (.aload_n 0, 1) := by decide +kernel
theorem dX9_init_419 : decode cX9_init 419 = .ok (.bipush 16, 2) := by decide +kernel
theorem dX9_init_421 : decode cX9_init 421 = .ok (.newarray .int, 2) := by decide +kernel
theorem dX9_init_423 : decode cX9_init 423 = .ok (.putfield 77, 3) := by decide +kernel
theorem dX9_init_426 : decode cX9_init 426 = .ok (.aload_n 0, 1) := by decide +kernel
theorem dX9_init_427 : decode cX9_init 427 = .ok (.bipush 16, 2) := by decide +kernel
theorem dX9_init_429 : decode cX9_init 429 = .ok (.newarray .int, 2) := by decide +kernel
theorem dX9_init_431 : decode cX9_init 431 = .ok (.putfield 80, 3) := by decide +kernel
theorem dX9_init_434 : decode cX9_init 434 = .ok (.aload_n 0, 1) := by decide +kernel
theorem dX9_init_435 : decode cX9_init 435 = .ok (.bipush 6, 2) := by decide +kernel
theorem dX9_init_437 : decode cX9_init 437 = .ok (.newarray .int, 2) := by decide +kernel
theorem dX9_init_439 : decode cX9_init 439 = .ok (.putfield 83, 3) := by decide +kernel
theorem dX9_init_442 : decode cX9_init 442 = .ok (.aload_n 0, 1) := by decide +kernel
theorem dX9_init_443 : decode cX9_init 443 = .ok (.bipush 6, 2) := by decide +kernel
theorem dX9_init_445 : decode cX9_init 445 = .ok (.newarray .int, 2) := by decide +kernel
theorem dX9_init_447 : decode cX9_init 447 = .ok (.putfield 86, 3) := by decide +kernel
theorem dX9_init_450 : decode cX9_init 450 = .ok (.aload_n 0, 1) := by decide +kernel
theorem dX9_init_451 : decode cX9_init 451 = .ok (.bipush 6, 2) := by decide +kernel
theorem dX9_init_453 : decode cX9_init 453 = .ok (.newarray .int, 2) := by decide +kernel
theorem dX9_init_455 : decode cX9_init 455 = .ok (.putfield 89, 3) := by decide +kernel
theorem dX9_init_458 : decode cX9_init 458 = .ok (.aload_n 0, 1) := by decide +kernel
theorem dX9_init_459 : decode cX9_init 459 = .ok (.bipush 6, 2) := by decide +kernel
theorem dX9_init_461 : decode cX9_init 461 = .ok (.newarray .int, 2) := by decide +kernel
theorem dX9_init_463 : decode cX9_init 463 = .ok (.putfield 92, 3) := by decide +kernel
theorem dX9_init_466 : decode cX9_init 466 = .ok (.aload_n 0, 1) := by decide +kernel
theorem dX9_init_467 : decode cX9_init 467 = .ok (.bipush (-5), 2) := by decide +kernel
theorem dX9_init_469 : decode cX9_init 469 = .ok (.putfield 95, 3) := by decide +kernel
theorem dX9_init_472 : decode cX9_init 472 = .ok (.aload_n 0, 1) := by decide +kernel
theorem dX9_init_473 : decode cX9_init 473 = .ok (.iconst (-1), 1) := by decide +kernel
theorem dX9_init_474 : decode cX9_init 474 = .ok (.putfield 99, 3) := by decide +kernel
theorem dX9_init_477 : decode cX9_init 477 = .ok (.aload_n 0, 1) := by decide +kernel
theorem dX9_init_478 : decode cX9_init 478 = .ok (.bipush (-5), 2) := by decide +kernel
theorem dX9_init_480 : decode cX9_init 480 = .ok (.putfield 102, 3) := by decide +kernel
theorem dX9_init_483 : decode cX9_init 483 = .ok (.aload_n 0, 1) := by decide +kernel
theorem dX9_init_484 : decode cX9_init 484 = .ok (.bipush (-5), 2) := by decide +kernel
theorem dX9_init_486 : decode cX9_init 486 = .ok (.putfield 105, 3) := by decide +kernel
theorem dX9_init_489 : decode cX9_init 489 = .ok (.aload_n 0, 1) := by decide +kernel
theorem dX9_init_490 : decode cX9_init 490 = .ok (.iconst 5, 1) := by decide +kernel
theorem dX9_init_491 : decode cX9_init 491 = .ok (.newarray .int, 2) := by decide +kernel
theorem dX9_init_493 : decode cX9_init 493 = .ok (.putfield 108, 3) := by decide +kernel
theorem dX9_init_496 : decode cX9_init 496 = .ok (.aload_n 0, 1) := by decide +kernel
theorem dX9_init_497 : decode cX9_init 497 = .ok (.bipush (-5), 2) := by decide +kernel
theorem dX9_init_499 : decode cX9_init 499 = .ok (.putfield 111, 3) := by decide +kernel
theorem dX9_init_502 : decode cX9_init 502 = .ok (.aload_n 0, 1) := by decide +kernel
theorem dX9_init_503 : decode cX9_init 503 = .ok (.sipush 488, 3) := by decide +kernel
theorem dX9_init_506 : decode cX9_init 506 = .ok (.newarray .int, 2) := by decide +kernel
theorem dX9_init_508 : decode cX9_init 508 = .ok (.putfield 114, 3) := by decide +kernel
theorem dX9_init_511 : decode cX9_init 511 = .ok (.aload_n 0, 1) := by decide +kernel
theorem dX9_init_512 : decode cX9_init 512 = .ok (.iconst 4, 1) := by decide +kernel
theorem dX9_init_513 : decode cX9_init 513 = .ok (.newarray .int, 2) := by decide +kernel
theorem dX9_init_515 : decode cX9_init 515 = .ok (.putfield 117, 3) := by decide +kernel
theorem dX9_init_518 : decode cX9_init 518 = .ok (.return_, 1) := by decide +kernel
theorem dX9_in_0 : decode cX9_in 0 = .ok (.iload_n 0, 1) := by decide +kernel
theorem dX9_in_1 : decode cX9_in 1 = .ok (.iload_n 1, 1) := by decide +kernel
theorem dX9_in_2 : decode cX9_in 2 = .ok (.if_icmp .lt 12, 3) := by decide +kernel
theorem dX9_in_5 : decode cX9_in 5 = .ok (.iload_n 0, 1) := by decide +kernel
theorem dX9_in_6 : decode cX9_in 6 = .ok (.iload_n 2, 1) := by decide +kernel
theorem dX9_in_7 : decode cX9_in 7 = .ok (.if_icmp .gt 7, 3) := by decide +kernel
theorem dX9_in_10 : decode cX9_in 10 = .ok (.iconst 1, 1) := by decide +kernel
theorem dX9_in_11 : decode cX9_in 11 = .ok (.goto 4, 3) := by decide +kernel
theorem dX9_in_14 : decode cX9_in 14 = .ok (.iconst 0, 1) := by decide +kernel
theorem dX9_in_15 : decode cX9_in 15 = .ok (.ireturn, 1) := by decide +kernel
theorem dX9_isPhase_0 : decode cX9_isPhase 0 = .ok (.iload_n 1, 1) := by decide +kernel
theorem dX9_isPhase_1 : decode cX9_isPhase 1 = .ok (.iconst 0, 1) := by decide +kernel
theorem dX9_isPhase_2 : decode cX9_isPhase 2 = .ok (.aload_n 0, 1) := by decide +kernel
theorem dX9_isPhase_3 : decode cX9_isPhase 3 = .ok (.getfield 120, 3) := by decide +kernel
theorem dX9_isPhase_6 : decode cX9_isPhase 6 = .ok (.iconst 1, 1) := by decide +kernel
theorem dX9_isPhase_7 : decode cX9_isPhase 7 = .ok (.isub, 1) := by decide +kernel
theorem dX9_isPhase_8 : decode cX9_isPhase 8 = .ok (.invokestatic 123, 3) := by decide +kernel
theorem dX9_isPhase_11 : decode cX9_isPhase 11 = .ok (.ireturn, 1) := by decide +kernel
theorem dX9_isStage_0 : decode cX9_isStage 0 = .ok (.iload_n 1, 1) := by decide +kernel
theorem dX9_isStage_1 : decode cX9_isStage 1 = .ok (.iconst 0, 1) := by decide +kernel
theorem dX9_isStage_2 : decode cX9_isStage 2 = .ok (.aload_n 0, 1) := by decide +kernel
theorem dX9_isStage_3 : decode cX9_isStage 3 = .ok (.getfield 127, 3) := by decide +kernel
theorem dX9_isStage_6 : decode cX9_isStage 6 = .ok (.iconst 1, 1) := by decide +kernel
theorem dX9_isStage_7 : decode cX9_isStage 7 = .ok (.isub, 1) := by decide +kernel
theorem dX9_isStage_8 : decode cX9_isStage 8 = .ok (.invokestatic 123, 3) := by decide +kernel
theorem dX9_isStage_11 : decode cX9_isStage 11 = .ok (.ireturn, 1) := by decide +kernel
theorem dX9_isDetector_0 : decode cX9_isDetector 0 = .ok (.iload_n 1, 1) := by decide +kernel
theorem dX9_isDetector_1 : decode cX9_isDetector 1 = .ok (.iconst 0, 1) := by decide +kernel
theorem dX9_isDetector_2 : decode cX9_isDetector 2 = .ok (.aload_n 0, 1) := by decide +kernel
theorem dX9_isDetector_3 : decode cX9_isDetector 3 = .ok (.getfield 130, 3) := by decide +kernel
theorem dX9_isDetector_6 : decode cX9_isDetector 6 = .ok (.iconst 1, 1) := by decide +kernel
theorem dX9_isDetector_7 : decode cX9_isDetector 7 = .ok (.isub, 1) := by decide +kernel
theorem dX9_isDetector_8 : decode cX9_isDetector 8 = .ok (.invokestatic 123, 3) := by decide +kernel
theorem dX9_isDetector_11 : decode cX9_isDetector 11 = .ok (.ireturn, 1) := by decide +kernel
theorem dX9_meets_0 : decode cX9_meets 0 = .ok (.aload_n 0, 1) := by decide +kernel
theorem dX9_meets_1 : decode cX9_meets 1 = .ok (.getfield 53, 3) := by decide +kernel
theorem dX9_meets_4 : decode cX9_meets 4 = .ok (.bipush 8, 2) := by decide +kernel
theorem dX9_meets_6 : decode cX9_meets 6 = .ok (.iload_n 1, 1) := by decide +kernel
theorem dX9_meets_7 : decode cX9_meets 7 = .ok (.imul, 1) := by decide +kernel
theorem dX9_meets_8 : decode cX9_meets 8 = .ok (.iload_n 2, 1) := by decide +kernel
theorem dX9_meets_9 : decode cX9_meets 9 = .ok (.iadd, 1) := by decide +kernel
theorem dX9_meets_10 : decode cX9_meets 10 = .ok (.iaload, 1) := by decide +kernel
theorem dX9_meets_11 : decode cX9_meets 11 = .ok (.ifCond .le 7, 3) := by decide +kernel
theorem dX9_meets_14 : decode cX9_meets 14 = .ok (.iconst 1, 1) := by decide +kernel
theorem dX9_meets_15 : decode cX9_meets 15 = .ok (.goto 4, 3) := by decide +kernel
theorem dX9_meets_18 : decode cX9_meets 18 = .ok (.iconst 0, 1) := by decide +kernel
theorem dX9_meets_19 : decode cX9_meets 19 = .ok (.ireturn, 1) := by decide +kernel
theorem dX9_phase_0 : decode cX9_phase 0 = .ok (.iload_n 1, 1) := by decide +kernel
theorem dX9_phase_1 : decode cX9_phase 1 = .ok (.iconst 0, 1) := by decide +kernel
theorem dX9_phase_2 : decode cX9_phase 2 = .ok (.iconst 4, 1) := by decide +kernel
theorem dX9_phase_3 : decode cX9_phase 3 = .ok (.invokestatic 123, 3) := by decide +kernel
theorem dX9_phase_6 : decode cX9_phase 6 = .ok (.ifCond .ne 5, 3) := by decide +kernel
theorem dX9_phase_9 : decode cX9_phase 9 = .ok (.iconst (-1), 1) := by decide +kernel
theorem dX9_phase_10 : decode cX9_phase 10 = .ok (.ireturn, 1) := by decide +kernel
theorem dX9_phase_11 : decode cX9_phase 11 = .ok (.aload_n 0, 1) := by decide +kernel
theorem dX9_phase_12 : decode cX9_phase 12 = .ok (.getfield 133, 3) := by decide +kernel
theorem dX9_phase_15 : decode cX9_phase 15 = .ok (.ifCond .le 6, 3) := by decide +kernel
theorem dX9_phase_18 : decode cX9_phase 18 = .ok (.bipush (-3), 2) := by decide +kernel
theorem dX9_phase_20 : decode cX9_phase 20 = .ok (.ireturn, 1) := by decide +kernel
theorem dX9_phase_21 : decode cX9_phase 21 = .ok (.aload_n 0, 1) := by decide +kernel
theorem dX9_phase_22 : decode cX9_phase 22 = .ok (.getfield 120, 3) := by decide +kernel
theorem dX9_phase_25 : decode cX9_phase 25 = .ok (.bipush 8, 2) := by decide +kernel
theorem dX9_phase_27 : decode cX9_phase 27 = .ok (.if_icmp .ne 6, 3) := by decide +kernel
theorem dX9_phase_30 : decode cX9_phase 30 = .ok (.bipush (-2), 2) := by decide +kernel
theorem dX9_phase_32 : decode cX9_phase 32 = .ok (.ireturn, 1) := by decide +kernel
theorem dX9_phase_33 : decode cX9_phase 33 = .ok (.aload_n 0, 1) := by decide +kernel
theorem dX9_phase_34 : decode cX9_phase 34 = .ok (.getfield 7, 3) := by decide +kernel
theorem dX9_phase_37 : decode cX9_phase 37 = .ok (.aload_n 0, 1) := by decide +kernel
theorem dX9_phase_38 : decode cX9_phase 38 = .ok (.getfield 120, 3) := by decide +kernel
theorem dX9_phase_41 : decode cX9_phase 41 = .ok (.iload_n 1, 1) := by decide +kernel
theorem dX9_phase_42 : decode cX9_phase 42 = .ok (.iastore, 1) := by decide +kernel
theorem dX9_phase_43 : decode cX9_phase 43 = .ok (.aload_n 0, 1) := by decide +kernel
theorem dX9_phase_44 : decode cX9_phase 44 = .ok (.dup, 1) := by decide +kernel
theorem dX9_phase_45 : decode cX9_phase 45 = .ok (.getfield 120, 3) := by decide +kernel
theorem dX9_phase_48 : decode cX9_phase 48 = .ok (.iconst 1, 1) := by decide +kernel
theorem dX9_phase_49 : decode cX9_phase 49 = .ok (.iadd, 1) := by decide +kernel
theorem dX9_phase_50 : decode cX9_phase 50 = .ok (.putfield 120, 3) := by decide +kernel
theorem dX9_phase_53 : decode cX9_phase 53 = .ok (.aload_n 0, 1) := by decide +kernel
theorem dX9_phase_54 : decode cX9_phase 54 = .ok (.getfield 120, 3) := by decide +kernel
theorem dX9_phase_57 : decode cX9_phase 57 = .ok (.iconst 1, 1) := by decide +kernel
theorem dX9_phase_58 : decode cX9_phase 58 = .ok (.isub, 1) := by decide +kernel
theorem dX9_phase_59 : decode cX9_phase 59 = .ok (.ireturn, 1) := by decide +kernel
theorem dX9_has_0 : decode cX9_has 0 = .ok (.iconst 0, 1) := by decide +kernel
theorem dX9_has_1 : decode cX9_has 1 = .ok (.istore_n 3, 1) := by decide +kernel
theorem dX9_has_2 : decode cX9_has 2 = .ok (.iconst 0, 1) := by decide +kernel
theorem dX9_has_3 : decode cX9_has 3 = .ok (.istore 4, 2) := by decide +kernel
theorem dX9_has_5 : decode cX9_has 5 = .ok (.iload 4, 2) := by decide +kernel
theorem dX9_has_7 : decode cX9_has 7 = .ok (.iconst 4, 1) := by decide +kernel
theorem dX9_has_8 : decode cX9_has 8 = .ok (.if_icmp .ge 32, 3) := by decide +kernel
theorem dX9_has_11 : decode cX9_has 11 = .ok (.iload_n 3, 1) := by decide +kernel
theorem dX9_has_12 : decode cX9_has 12 = .ok (.aload_n 0, 1) := by decide +kernel
theorem dX9_has_13 : decode cX9_has 13 = .ok (.getfield 56, 3) := by decide +kernel
theorem dX9_has_16 : decode cX9_has 16 = .ok (.iconst 4, 1) := by decide +kernel
theorem dX9_has_17 : decode cX9_has 17 = .ok (.iload_n 1, 1) := by decide +kernel
theorem dX9_has_18 : decode cX9_has 18 = .ok (.imul, 1) := by decide +kernel
theorem dX9_has_19 : decode cX9_has 19 = .ok (.iload 4, 2) := by decide +kernel
theorem dX9_has_21 : decode cX9_has 21 = .ok (.iadd, 1) := by decide +kernel
theorem dX9_has_22 : decode cX9_has 22 = .ok (.iaload, 1) := by decide +kernel
theorem dX9_has_23 : decode cX9_has 23 = .ok (.iload_n 2, 1) := by decide +kernel
theorem dX9_has_24 : decode cX9_has 24 = .ok (.if_icmp .ne 7, 3) := by decide +kernel
theorem dX9_has_27 : decode cX9_has 27 = .ok (.iconst 1, 1) := by decide +kernel
theorem dX9_has_28 : decode cX9_has 28 = .ok (.goto 4, 3) := by decide +kernel
theorem dX9_has_31 : decode cX9_has 31 = .ok (.iconst 0, 1) := by decide +kernel
theorem dX9_has_32 : decode cX9_has 32 = .ok (.ior, 1) := by decide +kernel
theorem dX9_has_33 : decode cX9_has 33 = .ok (.istore_n 3, 1) := by decide +kernel
theorem dX9_has_34 : decode cX9_has 34 = .ok (.iinc 4 1, 3) := by decide +kernel
theorem dX9_has_37 : decode cX9_has 37 = .ok (.goto (-32), 3) := by decide +kernel
theorem dX9_has_40 : decode cX9_has 40 = .ok (.iload_n 3, 1) := by decide +kernel
theorem dX9_has_41 : decode cX9_has 41 = .ok (.ireturn, 1) := by decide +kernel
theorem dX9_conflict_0 : decode cX9_conflict 0 = .ok (.aload_n 0, 1) := by decide +kernel
theorem dX9_conflict_1 : decode cX9_conflict 1 = .ok (.iload_n 1, 1) := by decide +kernel
theorem dX9_conflict_2 : decode cX9_conflict 2 = .ok (.invokevirtual 136, 3) := by decide +kernel
theorem dX9_conflict_5 : decode cX9_conflict 5 = .ok (.ifCond .eq 37, 3) := by decide +kernel
theorem dX9_conflict_8 : decode cX9_conflict 8 = .ok (.aload_n 0, 1) := by decide +kernel
theorem dX9_conflict_9 : decode cX9_conflict 9 = .ok (.iload_n 2, 1) := by decide +kernel
theorem dX9_conflict_10 : decode cX9_conflict 10 = .ok (.invokevirtual 136, 3) := by decide +kernel
theorem dX9_conflict_13 : decode cX9_conflict 13 = .ok (.ifCond .eq 29, 3) := by decide +kernel
theorem dX9_conflict_16 : decode cX9_conflict 16 = .ok (.iload_n 1, 1) := by decide +kernel
theorem dX9_conflict_17 : decode cX9_conflict 17 = .ok (.iload_n 2, 1) := by decide +kernel
theorem dX9_conflict_18 : decode cX9_conflict 18 = .ok (.if_icmp .eq 24, 3) := by decide +kernel
theorem dX9_conflict_21 : decode cX9_conflict 21 = .ok (.iload_n 3, 1) := by decide +kernel
theorem dX9_conflict_22 : decode cX9_conflict 22 = .ok (.iconst 0, 1) := by decide +kernel
theorem dX9_conflict_23 : decode cX9_conflict 23 = .ok (.bipush 20, 2) := by decide +kernel
theorem dX9_conflict_25 : decode cX9_conflict 25 = .ok (.invokestatic 123, 3) := by decide +kernel
theorem dX9_conflict_28 : decode cX9_conflict 28 = .ok (.ifCond .eq 14, 3) := by decide +kernel
theorem dX9_conflict_31 : decode cX9_conflict 31 = .ok (.iload 4, 2) := by decide +kernel
theorem dX9_conflict_33 : decode cX9_conflict 33 = .ok (.iconst 0, 1) := by decide +kernel
theorem dX9_conflict_34 : decode cX9_conflict 34 = .ok (.bipush 20, 2) := by decide +kernel
theorem dX9_conflict_36 : decode cX9_conflict 36 = .ok (.invokestatic 123, 3) := by decide +kernel
theorem dX9_conflict_39 : decode cX9_conflict 39 = .ok (.ifCond .ne 5, 3) := by decide +kernel
theorem dX9_conflict_42 : decode cX9_conflict 42 = .ok (.iconst (-1), 1) := by decide +kernel
theorem dX9_conflict_43 : decode cX9_conflict 43 = .ok (.ireturn, 1) := by decide +kernel
theorem dX9_conflict_44 : decode cX9_conflict 44 = .ok (.aload_n 0, 1) := by decide +kernel
theorem dX9_conflict_45 : decode cX9_conflict 45 = .ok (.getfield 133, 3) := by decide +kernel
theorem dX9_conflict_48 : decode cX9_conflict 48 = .ok (.ifCond .le 6, 3) := by decide +kernel
theorem dX9_conflict_51 : decode cX9_conflict 51 = .ok (.bipush (-3), 2) := by decide +kernel
theorem dX9_conflict_53 : decode cX9_conflict 53 = .ok (.ireturn, 1) := by decide +kernel
theorem dX9_conflict_54 : decode cX9_conflict 54 = .ok (.iconst 0, 1) := by decide +kernel
theorem dX9_conflict_55 : decode cX9_conflict 55 = .ok (.istore 5, 2) := by decide +kernel
theorem dX9_conflict_57 : decode cX9_conflict 57 = .ok (.iload 5, 2) := by decide +kernel
theorem dX9_conflict_59 : decode cX9_conflict 59 = .ok (.aload_n 0, 1) := by decide +kernel
theorem dX9_conflict_60 : decode cX9_conflict 60 = .ok (.getfield 127, 3) := by decide +kernel
theorem dX9_conflict_63 : decode cX9_conflict 63 = .ok (.if_icmp .ge 32, 3) := by decide +kernel
theorem dX9_conflict_66 : decode cX9_conflict 66 = .ok (.aload_n 0, 1) := by decide +kernel
theorem dX9_conflict_67 : decode cX9_conflict 67 = .ok (.iload 5, 2) := by decide +kernel
theorem dX9_conflict_69 : decode cX9_conflict 69 = .ok (.iload_n 1, 1) := by decide +kernel
theorem dX9_conflict_70 : decode cX9_conflict 70 = .ok (.invokevirtual 140, 3) := by decide +kernel
theorem dX9_conflict_73 : decode cX9_conflict 73 = .ok (.ifCond .eq 16, 3) := by decide +kernel
theorem dX9_conflict_76 : decode cX9_conflict 76 = .ok (.aload_n 0, 1) := by decide +kernel
theorem dX9_conflict_77 : decode cX9_conflict 77 = .ok (.iload 5, 2) := by decide +kernel
theorem dX9_conflict_79 : decode cX9_conflict 79 = .ok (.iload_n 2, 1) := by decide +kernel
theorem dX9_conflict_80 : decode cX9_conflict 80 = .ok (.invokevirtual 140, 3) := by decide +kernel
theorem dX9_conflict_83 : decode cX9_conflict 83 = .ok (.ifCond .eq 6, 3) := by decide +kernel
theorem dX9_conflict_86 : decode cX9_conflict 86 = .ok (.bipush (-4), 2) := by decide +kernel
theorem dX9_conflict_88 : decode cX9_conflict 88 = .ok (.ireturn, 1) := by decide +kernel
theorem dX9_conflict_89 : decode cX9_conflict 89 = .ok (.iinc 5 1, 3) := by decide +kernel
theorem dX9_conflict_92 : decode cX9_conflict 92 = .ok (.goto (-35), 3) := by decide +kernel
theorem dX9_conflict_95 : decode cX9_conflict 95 = .ok (.aload_n 0, 1) := by decide +kernel
theorem dX9_conflict_96 : decode cX9_conflict 96 = .ok (.getfield 53, 3) := by decide +kernel
theorem dX9_conflict_99 : decode cX9_conflict 99 = .ok (.bipush 8, 2) := by decide +kernel
theorem dX9_conflict_101 : decode cX9_conflict 101 = .ok (.iload_n 1, 1) := by decide +kernel
theorem dX9_conflict_102 : decode cX9_conflict 102 = .ok (.imul, 1) := by decide +kernel
theorem dX9_conflict_103 : decode cX9_conflict 103 = .ok (.iload_n 2, 1) := by decide +kernel
theorem dX9_conflict_104 : decode cX9_conflict 104 = .ok (.iadd, 1) := by decide +kernel
theorem dX9_conflict_105 : decode cX9_conflict 105 = .ok (.iload_n 3, 1) := by decide +kernel
theorem dX9_conflict_106 : decode cX9_conflict 106 = .ok (.iconst 1, 1) := by decide +kernel
theorem dX9_conflict_107 : decode cX9_conflict 107 = .ok (.iadd, 1) := by decide +kernel
theorem dX9_conflict_108 : decode cX9_conflict 108 = .ok (.iastore, 1) := by decide +kernel
theorem dX9_conflict_109 : decode cX9_conflict 109 = .ok (.aload_n 0, 1) := by decide +kernel
theorem dX9_conflict_110 : decode cX9_conflict 110 = .ok (.getfield 53, 3) := by decide +kernel
theorem dX9_conflict_113 : decode cX9_conflict 113 = .ok (.bipush 8, 2) := by decide +kernel
theorem dX9_conflict_115 : decode cX9_conflict 115 = .ok (.iload_n 2, 1) := by decide +kernel
theorem dX9_conflict_116 : decode cX9_conflict 116 = .ok (.imul, 1) := by decide +kernel
theorem dX9_conflict_117 : decode cX9_conflict 117 = .ok (.iload_n 1, 1) := by decide +kernel
theorem dX9_conflict_118 : decode cX9_conflict 118 = .ok (.iadd, 1) := by decide +kernel
theorem dX9_conflict_119 : decode cX9_conflict 119 = .ok (.iload 4, 2) := by decide +kernel
theorem dX9_conflict_121 : decode cX9_conflict 121 = .ok (.iconst 1, 1) := by decide +kernel
theorem dX9_conflict_122 : decode cX9_conflict 122 = .ok (.iadd, 1) := by decide +kernel
theorem dX9_conflict_123 : decode cX9_conflict 123 = .ok (.iastore, 1) := by decide +kernel
theorem dX9_conflict_124 : decode cX9_conflict 124 = .ok (.iconst 1, 1) := by decide +kernel
theorem dX9_conflict_125 : decode cX9_conflict 125 = .ok (.ireturn, 1) := by decide +kernel
theorem dX9_stage_0 : decode cX9_stage 0 = .ok (.aload_n 0, 1) := by decide +kernel
theorem dX9_stage_1 : decode cX9_stage 1 = .ok (.getfield 117, 3) := by decide +kernel
theorem dX9_stage_4 : decode cX9_stage 4 = .ok (.iconst 0, 1) := by decide +kernel
theorem dX9_stage_5 : decode cX9_stage 5 = .ok (.iload_n 1, 1) := by decide +kernel
theorem dX9_stage_6 : decode cX9_stage 6 = .ok (.iastore, 1) := by decide +kernel
theorem dX9_stage_7 : decode cX9_stage 7 = .ok (.aload_n 0, 1) := by decide +kernel
theorem dX9_stage_8 : decode cX9_stage 8 = .ok (.getfield 117, 3) := by decide +kernel
theorem dX9_stage_11 : decode cX9_stage 11 = .ok (.iconst 1, 1) := by decide +kernel
theorem dX9_stage_12 : decode cX9_stage 12 = .ok (.iload_n 2, 1) := by decide +kernel
theorem dX9_stage_13 : decode cX9_stage 13 = .ok (.iastore, 1) := by decide +kernel
theorem dX9_stage_14 : decode cX9_stage 14 = .ok (.aload_n 0, 1) := by decide +kernel
theorem dX9_stage_15 : decode cX9_stage 15 = .ok (.getfield 117, 3) := by decide +kernel
theorem dX9_stage_18 : decode cX9_stage 18 = .ok (.iconst 2, 1) := by decide +kernel
theorem dX9_stage_19 : decode cX9_stage 19 = .ok (.iload_n 3, 1) := by decide +kernel
theorem dX9_stage_20 : decode cX9_stage 20 = .ok (.iastore, 1) := by decide +kernel
theorem dX9_stage_21 : decode cX9_stage 21 = .ok (.aload_n 0, 1) := by decide +kernel
theorem dX9_stage_22 : decode cX9_stage 22 = .ok (.getfield 117, 3) := by decide +kernel
theorem dX9_stage_25 : decode cX9_stage 25 = .ok (.iconst 3, 1) := by decide +kernel
theorem dX9_stage_26 : decode cX9_stage 26 = .ok (.iload 4, 2) := by decide +kernel
theorem dX9_stage_28 : decode cX9_stage 28 = .ok (.iastore, 1) := by decide +kernel
theorem dX9_stage_29 : decode cX9_stage 29 = .ok (.iconst 0, 1) := by decide +kernel
theorem dX9_stage_30 : decode cX9_stage 30 = .ok (.istore 5, 2) := by decide +kernel
theorem dX9_stage_32 : decode cX9_stage 32 = .ok (.iconst 0, 1) := by decide +kernel
theorem dX9_stage_33 : decode cX9_stage 33 = .ok (.istore 6, 2) := by decide +kernel
theorem dX9_stage_35 : decode cX9_stage 35 = .ok (.iconst 0, 1) := by decide +kernel
theorem dX9_stage_36 : decode cX9_stage 36 = .ok (.istore 7, 2) := by decide +kernel
theorem dX9_stage_38 : decode cX9_stage 38 = .ok (.iload 7, 2) := by decide +kernel
theorem dX9_stage_40 : decode cX9_stage 40 = .ok (.iconst 4, 1) := by decide +kernel
theorem dX9_stage_41 : decode cX9_stage 41 = .ok (.if_icmp .ge 110, 3) := by decide +kernel
theorem dX9_stage_44 : decode cX9_stage 44 = .ok (.aload_n 0, 1) := by decide +kernel
theorem dX9_stage_45 : decode cX9_stage 45 = .ok (.getfield 117, 3) := by decide +kernel
theorem dX9_stage_48 : decode cX9_stage 48 = .ok (.iload 7, 2) := by decide +kernel
theorem dX9_stage_50 : decode cX9_stage 50 = .ok (.iaload, 1) := by decide +kernel
theorem dX9_stage_51 : decode cX9_stage 51 = .ok (.istore 8, 2) := by decide +kernel
theorem dX9_stage_53 : decode cX9_stage 53 = .ok (.iload 8, 2) := by decide +kernel
theorem dX9_stage_55 : decode cX9_stage 55 = .ok (.bipush (-5), 2) := by decide +kernel
theorem dX9_stage_57 : decode cX9_stage 57 = .ok (.if_icmp .ne 6, 3) := by decide +kernel
theorem dX9_stage_60 : decode cX9_stage 60 = .ok (.goto 85, 3) := by decide +kernel
theorem dX9_stage_63 : decode cX9_stage 63 = .ok (.aload_n 0, 1) := by decide +kernel
theorem dX9_stage_64 : decode cX9_stage 64 = .ok (.iload 8, 2) := by decide +kernel
theorem dX9_stage_66 : decode cX9_stage 66 = .ok (.invokevirtual 136, 3) := by decide +kernel
theorem dX9_stage_69 : decode cX9_stage 69 = .ok (.ifCond .ne 5, 3) := by decide +kernel
theorem dX9_stage_72 : decode cX9_stage 72 = .ok (.iconst (-1), 1) := by decide +kernel
theorem dX9_stage_73 : decode cX9_stage 73 = .ok (.ireturn, 1) := by decide +kernel
theorem dX9_stage_74 : decode cX9_stage 74 = .ok (.iconst 1, 1) := by decide +kernel
theorem dX9_stage_75 : decode cX9_stage 75 = .ok (.istore 5, 2) := by decide +kernel
theorem dX9_stage_77 : decode cX9_stage 77 = .ok (.iconst 0, 1) := by decide +kernel
theorem dX9_stage_78 : decode cX9_stage 78 = .ok (.istore 9, 2) := by decide +kernel
theorem dX9_stage_80 : decode cX9_stage 80 = .ok (.iload 9, 2) := by decide +kernel
theorem dX9_stage_82 : decode cX9_stage 82 = .ok (.iload 7, 2) := by decide +kernel
theorem dX9_stage_84 : decode cX9_stage 84 = .ok (.if_icmp .ge 61, 3) := by decide +kernel
theorem dX9_stage_87 : decode cX9_stage 87 = .ok (.aload_n 0, 1) := by decide +kernel
theorem dX9_stage_88 : decode cX9_stage 88 = .ok (.getfield 117, 3) := by decide +kernel
theorem dX9_stage_91 : decode cX9_stage 91 = .ok (.iload 9, 2) := by decide +kernel
theorem dX9_stage_93 : decode cX9_stage 93 = .ok (.iaload, 1) := by decide +kernel
theorem dX9_stage_94 : decode cX9_stage 94 = .ok (.iload 8, 2) := by decide +kernel
theorem dX9_stage_96 : decode cX9_stage 96 = .ok (.if_icmp .ne 5, 3) := by decide +kernel
theorem dX9_stage_99 : decode cX9_stage 99 = .ok (.iconst (-1), 1) := by decide +kernel
theorem dX9_stage_100 : decode cX9_stage 100 = .ok (.ireturn, 1) := by decide +kernel
theorem dX9_stage_101 : decode cX9_stage 101 = .ok (.iload 6, 2) := by decide +kernel
theorem dX9_stage_103 : decode cX9_stage 103 = .ok (.aload_n 0, 1) := by decide +kernel
theorem dX9_stage_104 : decode cX9_stage 104 = .ok (.getfield 117, 3) := by decide +kernel
theorem dX9_stage_107 : decode cX9_stage 107 = .ok (.iload 9, 2) := by decide +kernel
theorem dX9_stage_109 : decode cX9_stage 109 = .ok (.iaload, 1) := by decide +kernel
theorem dX9_stage_110 : decode cX9_stage 110 = .ok (.bipush (-5), 2) := by decide +kernel
theorem dX9_stage_112 : decode cX9_stage 112 = .ok (.if_icmp .eq 23, 3) := by decide +kernel
theorem dX9_stage_115 : decode cX9_stage 115 = .ok (.aload_n 0, 1) := by decide +kernel
theorem dX9_stage_116 : decode cX9_stage 116 = .ok (.iload 8, 2) := by decide +kernel
theorem dX9_stage_118 : decode cX9_stage 118 = .ok (.aload_n 0, 1) := by decide +kernel
theorem dX9_stage_119 : decode cX9_stage 119 = .ok (.getfield 117, 3) := by decide +kernel
theorem dX9_stage_122 : decode cX9_stage 122 = .ok (.iload 9, 2) := by decide +kernel
theorem dX9_stage_124 : decode cX9_stage 124 = .ok (.iaload, 1) := by decide +kernel
theorem dX9_stage_125 : decode cX9_stage 125 = .ok (.invokevirtual 144, 3) := by decide +kernel
theorem dX9_stage_128 : decode cX9_stage 128 = .ok (.ifCond .eq 7, 3) := by decide +kernel
theorem dX9_stage_131 : decode cX9_stage 131 = .ok (.iconst 1, 1) := by decide +kernel
theorem dX9_stage_132 : decode cX9_stage 132 = .ok (.goto 4, 3) := by decide +kernel
theorem dX9_stage_135 : decode cX9_stage 135 = .ok (.iconst 0, 1) := by decide +kernel
theorem dX9_stage_136 : decode cX9_stage 136 = .ok (.ior, 1) := by decide +kernel
theorem dX9_stage_137 : decode cX9_stage 137 = .ok (.istore 6, 2) := by decide +kernel
theorem dX9_stage_139 : decode cX9_stage 139 = .ok (.iinc 9 1, 3) := by decide +kernel
theorem dX9_stage_142 : decode cX9_stage 142 = .ok (.goto (-62), 3) := by decide +kernel
theorem dX9_stage_145 : decode cX9_stage 145 = .ok (.iinc 7 1, 3) := by decide +kernel
theorem dX9_stage_148 : decode cX9_stage 148 = .ok (.goto (-110), 3) := by decide +kernel
theorem dX9_stage_151 : decode cX9_stage 151 = .ok (.iload 5, 2) := by decide +kernel
theorem dX9_stage_153 : decode cX9_stage 153 = .ok (.ifCond .ne 5, 3) := by decide +kernel
theorem dX9_stage_156 : decode cX9_stage 156 = .ok (.iconst (-1), 1) := by decide +kernel
theorem dX9_stage_157 : decode cX9_stage 157 = .ok (.ireturn, 1) := by decide +kernel
theorem dX9_stage_158 : decode cX9_stage 158 = .ok (.aload_n 0, 1) := by decide +kernel
theorem dX9_stage_159 : decode cX9_stage 159 = .ok (.getfield 133, 3) := by decide +kernel
theorem dX9_stage_162 : decode cX9_stage 162 = .ok (.ifCond .le 6, 3) := by decide +kernel
theorem dX9_stage_165 : decode cX9_stage 165 = .ok (.bipush (-3), 2) := by decide +kernel
theorem dX9_stage_167 : decode cX9_stage 167 = .ok (.ireturn, 1) := by decide +kernel
theorem dX9_stage_168 : decode cX9_stage 168 = .ok (.iload 6, 2) := by decide +kernel
theorem dX9_stage_170 : decode cX9_stage 170 = .ok (.ifCond .eq 6, 3) := by decide +kernel
theorem dX9_stage_173 : decode cX9_stage 173 = .ok (.bipush (-4), 2) := by decide +kernel
theorem dX9_stage_175 : decode cX9_stage 175 = .ok (.ireturn, 1) := by decide +kernel
theorem dX9_stage_176 : decode cX9_stage 176 = .ok (.aload_n 0, 1) := by decide +kernel
theorem dX9_stage_177 : decode cX9_stage 177 = .ok (.getfield 127, 3) := by decide +kernel
theorem dX9_stage_180 : decode cX9_stage 180 = .ok (.bipush 6, 2) := by decide +kernel
theorem dX9_stage_182 : decode cX9_stage 182 = .ok (.if_icmp .ne 6, 3) := by decide +kernel
theorem dX9_stage_185 : decode cX9_stage 185 = .ok (.bipush (-2), 2) := by decide +kernel
theorem dX9_stage_187 : decode cX9_stage 187 = .ok (.ireturn, 1) := by decide +kernel
theorem dX9_stage_188 : decode cX9_stage 188 = .ok (.iconst 0, 1) := by decide +kernel
theorem dX9_stage_189 : decode cX9_stage 189 = .ok (.istore 7, 2) := by decide +kernel
theorem dX9_stage_191 : decode cX9_stage 191 = .ok (.iload 7, 2) := by decide +kernel
theorem dX9_stage_193 : decode cX9_stage 193 = .ok (.iconst 4, 1) := by decide +kernel
theorem dX9_stage_194 : decode cX9_stage 194 = .ok (.if_icmp .ge 30, 3) := by decide +kernel
theorem dX9_stage_197 : decode cX9_stage 197 = .ok (.aload_n 0, 1) := by decide +kernel
theorem dX9_stage_198 : decode cX9_stage 198 = .ok (.getfield 56, 3) := by decide +kernel
theorem dX9_stage_201 : decode cX9_stage 201 = .ok (.iconst 4, 1) := by decide +kernel
theorem dX9_stage_202 : decode cX9_stage 202 = .ok (.aload_n 0, 1) := by decide +kernel
theorem dX9_stage_203 : decode cX9_stage 203 = .ok (.getfield 127, 3) := by decide +kernel
theorem dX9_stage_206 : decode cX9_stage 206 = .ok (.imul, 1) := by decide +kernel
theorem dX9_stage_207 : decode cX9_stage 207 = .ok (.iload 7, 2) := by decide +kernel
theorem dX9_stage_209 : decode cX9_stage 209 = .ok (.iadd, 1) := by decide +kernel
theorem dX9_stage_210 : decode cX9_stage 210 = .ok (.aload_n 0, 1) := by decide +kernel
theorem dX9_stage_211 : decode cX9_stage 211 = .ok (.getfield 117, 3) := by decide +kernel
theorem dX9_stage_214 : decode cX9_stage 214 = .ok (.iload 7, 2) := by decide +kernel
theorem dX9_stage_216 : decode cX9_stage 216 = .ok (.iaload, 1) := by decide +kernel
theorem dX9_stage_217 : decode cX9_stage 217 = .ok (.iastore, 1) := by decide +kernel
theorem dX9_stage_218 : decode cX9_stage 218 = .ok (.iinc 7 1, 3) := by decide +kernel
theorem dX9_stage_221 : decode cX9_stage 221 = .ok (.goto (-30), 3) := by decide +kernel
theorem dX9_stage_224 : decode cX9_stage 224 = .ok (.aload_n 0, 1) := by decide +kernel
theorem dX9_stage_225 : decode cX9_stage 225 = .ok (.dup, 1) := by decide +kernel
theorem dX9_stage_226 : decode cX9_stage 226 = .ok (.getfield 127, 3) := by decide +kernel
theorem dX9_stage_229 : decode cX9_stage 229 = .ok (.iconst 1, 1) := by decide +kernel
theorem dX9_stage_230 : decode cX9_stage 230 = .ok (.iadd, 1) := by decide +kernel
theorem dX9_stage_231 : decode cX9_stage 231 = .ok (.putfield 127, 3) := by decide +kernel
theorem dX9_stage_234 : decode cX9_stage 234 = .ok (.aload_n 0, 1) := by decide +kernel
theorem dX9_stage_235 : decode cX9_stage 235 = .ok (.getfield 127, 3) := by decide +kernel
theorem dX9_stage_238 : decode cX9_stage 238 = .ok (.iconst 1, 1) := by decide +kernel
theorem dX9_stage_239 : decode cX9_stage 239 = .ok (.isub, 1) := by decide +kernel
theorem dX9_stage_240 : decode cX9_stage 240 = .ok (.ireturn, 1) := by decide +kernel
theorem dX9_detector_0 : decode cX9_detector 0 = .ok (.aload_n 0, 1) := by decide +kernel
theorem dX9_detector_1 : decode cX9_detector 1 = .ok (.iload_n 1, 1) := by decide +kernel
theorem dX9_detector_2 : decode cX9_detector 2 = .ok (.invokevirtual 136, 3) := by decide +kernel
theorem dX9_detector_5 : decode cX9_detector 5 = .ok (.ifCond .ne 5, 3) := by decide +kernel
theorem dX9_detector_8 : decode cX9_detector 8 = .ok (.iconst (-1), 1) := by decide +kernel
theorem dX9_detector_9 : decode cX9_detector 9 = .ok (.ireturn, 1) := by decide +kernel
theorem dX9_detector_10 : decode cX9_detector 10 = .ok (.aload_n 0, 1) := by decide +kernel
theorem dX9_detector_11 : decode cX9_detector 11 = .ok (.getfield 130, 3) := by decide +kernel
theorem dX9_detector_14 : decode cX9_detector 14 = .ok (.bipush 12, 2) := by decide +kernel
theorem dX9_detector_16 : decode cX9_detector 16 = .ok (.if_icmp .ne 6, 3) := by decide +kernel
theorem dX9_detector_19 : decode cX9_detector 19 = .ok (.bipush (-2), 2) := by decide +kernel
theorem dX9_detector_21 : decode cX9_detector 21 = .ok (.ireturn, 1) := by decide +kernel
theorem dX9_detector_22 : decode cX9_detector 22 = .ok (.aload_n 0, 1) := by decide +kernel
theorem dX9_detector_23 : decode cX9_detector 23 = .ok (.getfield 16, 3) := by decide +kernel
theorem dX9_detector_26 : decode cX9_detector 26 = .ok (.iload_n 1, 1) := by decide +kernel
theorem dX9_detector_27 : decode cX9_detector 27 = .ok (.aload_n 0, 1) := by decide +kernel
theorem dX9_detector_28 : decode cX9_detector 28 = .ok (.getfield 130, 3) := by decide +kernel
theorem dX9_detector_31 : decode cX9_detector 31 = .ok (.iastore, 1) := by decide +kernel
theorem dX9_detector_32 : decode cX9_detector 32 = .ok (.aload_n 0, 1) := by decide +kernel
theorem dX9_detector_33 : decode cX9_detector 33 = .ok (.getfield 59, 3) := by decide +kernel
theorem dX9_detector_36 : decode cX9_detector 36 = .ok (.aload_n 0, 1) := by decide +kernel
theorem dX9_detector_37 : decode cX9_detector 37 = .ok (.getfield 130, 3) := by decide +kernel
theorem dX9_detector_40 : decode cX9_detector 40 = .ok (.iconst 0, 1) := by decide +kernel
theorem dX9_detector_41 : decode cX9_detector 41 = .ok (.iastore, 1) := by decide +kernel
theorem dX9_detector_42 : decode cX9_detector 42 = .ok (.aload_n 0, 1) := by decide +kernel
theorem dX9_detector_43 : decode cX9_detector 43 = .ok (.dup, 1) := by decide +kernel
theorem dX9_detector_44 : decode cX9_detector 44 = .ok (.getfield 130, 3) := by decide +kernel
theorem dX9_detector_47 : decode cX9_detector 47 = .ok (.iconst 1, 1) := by decide +kernel
theorem dX9_detector_48 : decode cX9_detector 48 = .ok (.iadd, 1) := by decide +kernel
theorem dX9_detector_49 : decode cX9_detector 49 = .ok (.putfield 130, 3) := by decide +kernel
theorem dX9_detector_52 : decode cX9_detector 52 = .ok (.aload_n 0, 1) := by decide +kernel
theorem dX9_detector_53 : decode cX9_detector 53 = .ok (.getfield 130, 3) := by decide +kernel
theorem dX9_detector_56 : decode cX9_detector 56 = .ok (.iconst 1, 1) := by decide +kernel
theorem dX9_detector_57 : decode cX9_detector 57 = .ok (.isub, 1) := by decide +kernel
theorem dX9_detector_58 : decode cX9_detector 58 = .ok (.ireturn, 1) := by decide +kernel
theorem dX9_cut_0 : decode cX9_cut 0 = .ok (.aload_n 0, 1) := by decide +kernel
theorem dX9_cut_1 : decode cX9_cut 1 = .ok (.iload_n 1, 1) := by decide +kernel
theorem dX9_cut_2 : decode cX9_cut 2 = .ok (.invokevirtual 147, 3) := by decide +kernel
theorem dX9_cut_5 : decode cX9_cut 5 = .ok (.ifCond .ne 5, 3) := by decide +kernel
theorem dX9_cut_8 : decode cX9_cut 8 = .ok (.iconst (-1), 1) := by decide +kernel
theorem dX9_cut_9 : decode cX9_cut 9 = .ok (.ireturn, 1) := by decide +kernel
theorem dX9_cut_10 : decode cX9_cut 10 = .ok (.aload_n 0, 1) := by decide +kernel
theorem dX9_cut_11 : decode cX9_cut 11 = .ok (.getfield 59, 3) := by decide +kernel
theorem dX9_cut_14 : decode cX9_cut 14 = .ok (.iload_n 1, 1) := by decide +kernel
theorem dX9_cut_15 : decode cX9_cut 15 = .ok (.iaload, 1) := by decide +kernel
theorem dX9_cut_16 : decode cX9_cut 16 = .ok (.ifCond .ge 6, 3) := by decide +kernel
theorem dX9_cut_19 : decode cX9_cut 19 = .ok (.bipush (-3), 2) := by decide +kernel
theorem dX9_cut_21 : decode cX9_cut 21 = .ok (.ireturn, 1) := by decide +kernel
theorem dX9_cut_22 : decode cX9_cut 22 = .ok (.aload_n 0, 1) := by decide +kernel
theorem dX9_cut_23 : decode cX9_cut 23 = .ok (.getfield 59, 3) := by decide +kernel
theorem dX9_cut_26 : decode cX9_cut 26 = .ok (.iload_n 1, 1) := by decide +kernel
theorem dX9_cut_27 : decode cX9_cut 27 = .ok (.iaload, 1) := by decide +kernel
theorem dX9_cut_28 : decode cX9_cut 28 = .ok (.istore_n 2, 1) := by decide +kernel
theorem dX9_cut_29 : decode cX9_cut 29 = .ok (.aload_n 0, 1) := by decide +kernel
theorem dX9_cut_30 : decode cX9_cut 30 = .ok (.getfield 59, 3) := by decide +kernel
theorem dX9_cut_33 : decode cX9_cut 33 = .ok (.iload_n 1, 1) := by decide +kernel
theorem dX9_cut_34 : decode cX9_cut 34 = .ok (.bipush (-5), 2) := by decide +kernel
theorem dX9_cut_36 : decode cX9_cut 36 = .ok (.iastore, 1) := by decide +kernel
theorem dX9_cut_37 : decode cX9_cut 37 = .ok (.iload_n 2, 1) := by decide +kernel
theorem dX9_cut_38 : decode cX9_cut 38 = .ok (.ireturn, 1) := by decide +kernel
theorem dX9_passing_0 : decode cX9_passing 0 = .ok (.aload_n 0, 1) := by decide +kernel
theorem dX9_passing_1 : decode cX9_passing 1 = .ok (.iload_n 1, 1) := by decide +kernel
theorem dX9_passing_2 : decode cX9_passing 2 = .ok (.invokevirtual 147, 3) := by decide +kernel
theorem dX9_passing_5 : decode cX9_passing 5 = .ok (.ifCond .eq 25, 3) := by decide +kernel
theorem dX9_passing_8 : decode cX9_passing 8 = .ok (.iload_n 2, 1) := by decide +kernel
theorem dX9_passing_9 : decode cX9_passing 9 = .ok (.bipush (-128), 2) := by decide +kernel
theorem dX9_passing_11 : decode cX9_passing 11 = .ok (.bipush 127, 2) := by decide +kernel
theorem dX9_passing_13 : decode cX9_passing 13 = .ok (.invokestatic 123, 3) := by decide +kernel
theorem dX9_passing_16 : decode cX9_passing 16 = .ok (.ifCond .eq 14, 3) := by decide +kernel
theorem dX9_passing_19 : decode cX9_passing 19 = .ok (.iload_n 3, 1) := by decide +kernel
theorem dX9_passing_20 : decode cX9_passing 20 = .ok (.iconst 0, 1) := by decide +kernel
theorem dX9_passing_21 : decode cX9_passing 21 = .ok (.sipush 10000, 3) := by decide +kernel
theorem dX9_passing_24 : decode cX9_passing 24 = .ok (.invokestatic 123, 3) := by decide +kernel
theorem dX9_passing_27 : decode cX9_passing 27 = .ok (.ifCond .ne 5, 3) := by decide +kernel
theorem dX9_passing_30 : decode cX9_passing 30 = .ok (.iconst (-1), 1) := by decide +kernel
theorem dX9_passing_31 : decode cX9_passing 31 = .ok (.ireturn, 1) := by decide +kernel
theorem dX9_passing_32 : decode cX9_passing 32 = .ok (.aload_n 0, 1) := by decide +kernel
theorem dX9_passing_33 : decode cX9_passing 33 = .ok (.getfield 59, 3) := by decide +kernel
theorem dX9_passing_36 : decode cX9_passing 36 = .ok (.iload_n 1, 1) := by decide +kernel
theorem dX9_passing_37 : decode cX9_passing 37 = .ok (.iaload, 1) := by decide +kernel
theorem dX9_passing_38 : decode cX9_passing 38 = .ok (.ifCond .ge 6, 3) := by decide +kernel
theorem dX9_passing_41 : decode cX9_passing 41 = .ok (.bipush (-3), 2) := by decide +kernel
theorem dX9_passing_43 : decode cX9_passing 43 = .ok (.ireturn, 1) := by decide +kernel
theorem dX9_passing_44 : decode cX9_passing 44 = .ok (.aload_n 0, 1) := by decide +kernel
theorem dX9_passing_45 : decode cX9_passing 45 = .ok (.getfield 59, 3) := by decide +kernel
theorem dX9_passing_48 : decode cX9_passing 48 = .ok (.iload_n 1, 1) := by decide +kernel
theorem dX9_passing_49 : decode cX9_passing 49 = .ok (.iaload, 1) := by decide +kernel
theorem dX9_passing_50 : decode cX9_passing 50 = .ok (.sipush 200, 3) := by decide +kernel
theorem dX9_passing_53 : decode cX9_passing 53 = .ok (.if_icmp .ne 6, 3) := by decide +kernel
theorem dX9_passing_56 : decode cX9_passing 56 = .ok (.bipush (-2), 2) := by decide +kernel
theorem dX9_passing_58 : decode cX9_passing 58 = .ok (.ireturn, 1) := by decide +kernel
theorem dX9_passing_59 : decode cX9_passing 59 = .ok (.aload_n 0, 1) := by decide +kernel
theorem dX9_passing_60 : decode cX9_passing 60 = .ok (.getfield 62, 3) := by decide +kernel
theorem dX9_passing_63 : decode cX9_passing 63 = .ok (.sipush 200, 3) := by decide +kernel
theorem dX9_passing_66 : decode cX9_passing 66 = .ok (.iload_n 1, 1) := by decide +kernel
theorem dX9_passing_67 : decode cX9_passing 67 = .ok (.imul, 1) := by decide +kernel
theorem dX9_passing_68 : decode cX9_passing 68 = .ok (.aload_n 0, 1) := by decide +kernel
theorem dX9_passing_69 : decode cX9_passing 69 = .ok (.getfield 59, 3) := by decide +kernel
theorem dX9_passing_72 : decode cX9_passing 72 = .ok (.iload_n 1, 1) := by decide +kernel
theorem dX9_passing_73 : decode cX9_passing 73 = .ok (.iaload, 1) := by decide +kernel
theorem dX9_passing_74 : decode cX9_passing 74 = .ok (.iadd, 1) := by decide +kernel
theorem dX9_passing_75 : decode cX9_passing 75 = .ok (.iload_n 2, 1) := by decide +kernel
theorem dX9_passing_76 : decode cX9_passing 76 = .ok (.iastore, 1) := by decide +kernel
theorem dX9_passing_77 : decode cX9_passing 77 = .ok (.aload_n 0, 1) := by decide +kernel
theorem dX9_passing_78 : decode cX9_passing 78 = .ok (.getfield 65, 3) := by decide +kernel
theorem dX9_passing_81 : decode cX9_passing 81 = .ok (.sipush 200, 3) := by decide +kernel
theorem dX9_passing_84 : decode cX9_passing 84 = .ok (.iload_n 1, 1) := by decide +kernel
theorem dX9_passing_85 : decode cX9_passing 85 = .ok (.imul, 1) := by decide +kernel
theorem dX9_passing_86 : decode cX9_passing 86 = .ok (.aload_n 0, 1) := by decide +kernel
theorem dX9_passing_87 : decode cX9_passing 87 = .ok (.getfield 59, 3) := by decide +kernel
theorem dX9_passing_90 : decode cX9_passing 90 = .ok (.iload_n 1, 1) := by decide +kernel
theorem dX9_passing_91 : decode cX9_passing 91 = .ok (.iaload, 1) := by decide +kernel
theorem dX9_passing_92 : decode cX9_passing 92 = .ok (.iadd, 1) := by decide +kernel
theorem dX9_passing_93 : decode cX9_passing 93 = .ok (.iload_n 3, 1) := by decide +kernel
theorem dX9_passing_94 : decode cX9_passing 94 = .ok (.iastore, 1) := by decide +kernel
theorem dX9_passing_95 : decode cX9_passing 95 = .ok (.aload_n 0, 1) := by decide +kernel
theorem dX9_passing_96 : decode cX9_passing 96 = .ok (.getfield 59, 3) := by decide +kernel
theorem dX9_passing_99 : decode cX9_passing 99 = .ok (.iload_n 1, 1) := by decide +kernel
theorem dX9_passing_100 : decode cX9_passing 100 = .ok (.dup2, 1) := by decide +kernel
theorem dX9_passing_101 : decode cX9_passing 101 = .ok (.iaload, 1) := by decide +kernel
theorem dX9_passing_102 : decode cX9_passing 102 = .ok (.iconst 1, 1) := by decide +kernel
theorem dX9_passing_103 : decode cX9_passing 103 = .ok (.iadd, 1) := by decide +kernel
theorem dX9_passing_104 : decode cX9_passing 104 = .ok (.iastore, 1) := by decide +kernel
theorem dX9_passing_105 : decode cX9_passing 105 = .ok (.aload_n 0, 1) := by decide +kernel
theorem dX9_passing_106 : decode cX9_passing 106 = .ok (.getfield 59, 3) := by decide +kernel
theorem dX9_passing_109 : decode cX9_passing 109 = .ok (.iload_n 1, 1) := by decide +kernel
theorem dX9_passing_110 : decode cX9_passing 110 = .ok (.iaload, 1) := by decide +kernel
theorem dX9_passing_111 : decode cX9_passing 111 = .ok (.ireturn, 1) := by decide +kernel
theorem dX9_table_0 : decode cX9_table 0 = .ok (.aload_n 0, 1) := by decide +kernel
theorem dX9_table_1 : decode cX9_table 1 = .ok (.iload_n 1, 1) := by decide +kernel
theorem dX9_table_2 : decode cX9_table 2 = .ok (.invokevirtual 136, 3) := by decide +kernel
theorem dX9_table_5 : decode cX9_table 5 = .ok (.ifCond .eq 43, 3) := by decide +kernel
theorem dX9_table_8 : decode cX9_table 8 = .ok (.iload_n 2, 1) := by decide +kernel
theorem dX9_table_9 : decode cX9_table 9 = .ok (.iconst 1, 1) := by decide +kernel
theorem dX9_table_10 : decode cX9_table 10 = .ok (.bipush 60, 2) := by decide +kernel
theorem dX9_table_12 : decode cX9_table 12 = .ok (.invokestatic 123, 3) := by decide +kernel
theorem dX9_table_15 : decode cX9_table 15 = .ok (.ifCond .eq 33, 3) := by decide +kernel
theorem dX9_table_18 : decode cX9_table 18 = .ok (.iload_n 3, 1) := by decide +kernel
theorem dX9_table_19 : decode cX9_table 19 = .ok (.iload_n 2, 1) := by decide +kernel
theorem dX9_table_20 : decode cX9_table 20 = .ok (.bipush 120, 2) := by decide +kernel
theorem dX9_table_22 : decode cX9_table 22 = .ok (.invokestatic 123, 3) := by decide +kernel
theorem dX9_table_25 : decode cX9_table 25 = .ok (.ifCond .eq 23, 3) := by decide +kernel
theorem dX9_table_28 : decode cX9_table 28 = .ok (.iload 4, 2) := by decide +kernel
theorem dX9_table_30 : decode cX9_table 30 = .ok (.iconst 0, 1) := by decide +kernel
theorem dX9_table_31 : decode cX9_table 31 = .ok (.bipush 9, 2) := by decide +kernel
theorem dX9_table_33 : decode cX9_table 33 = .ok (.invokestatic 123, 3) := by decide +kernel
theorem dX9_table_36 : decode cX9_table 36 = .ok (.ifCond .eq 12, 3) := by decide +kernel
theorem dX9_table_39 : decode cX9_table 39 = .ok (.iload 5, 2) := by decide +kernel
theorem dX9_table_41 : decode cX9_table 41 = .ok (.aload_n 0, 1) := by decide +kernel
theorem dX9_table_42 : decode cX9_table 42 = .ok (.getfield 133, 3) := by decide +kernel
theorem dX9_table_45 : decode cX9_table 45 = .ok (.if_icmp .ge 5, 3) := by decide +kernel
theorem dX9_table_48 : decode cX9_table 48 = .ok (.iconst (-1), 1) := by decide +kernel
theorem dX9_table_49 : decode cX9_table 49 = .ok (.ireturn, 1) := by decide +kernel
theorem dX9_table_50 : decode cX9_table 50 = .ok (.aload_n 0, 1) := by decide +kernel
theorem dX9_table_51 : decode cX9_table 51 = .ok (.getfield 150, 3) := by decide +kernel
theorem dX9_table_54 : decode cX9_table 54 = .ok (.bipush 16, 2) := by decide +kernel
theorem dX9_table_56 : decode cX9_table 56 = .ok (.if_icmp .ne 6, 3) := by decide +kernel
theorem dX9_table_59 : decode cX9_table 59 = .ok (.bipush (-2), 2) := by decide +kernel
theorem dX9_table_61 : decode cX9_table 61 = .ok (.ireturn, 1) := by decide +kernel
theorem dX9_table_62 : decode cX9_table 62 = .ok (.aload_n 0, 1) := by decide +kernel
theorem dX9_table_63 : decode cX9_table 63 = .ok (.getfield 68, 3) := by decide +kernel
theorem dX9_table_66 : decode cX9_table 66 = .ok (.aload_n 0, 1) := by decide +kernel
theorem dX9_table_67 : decode cX9_table 67 = .ok (.getfield 150, 3) := by decide +kernel
theorem dX9_table_70 : decode cX9_table 70 = .ok (.iload_n 1, 1) := by decide +kernel
theorem dX9_table_71 : decode cX9_table 71 = .ok (.iastore, 1) := by decide +kernel
theorem dX9_table_72 : decode cX9_table 72 = .ok (.aload_n 0, 1) := by decide +kernel
theorem dX9_table_73 : decode cX9_table 73 = .ok (.getfield 71, 3) := by decide +kernel
theorem dX9_table_76 : decode cX9_table 76 = .ok (.aload_n 0, 1) := by decide +kernel
theorem dX9_table_77 : decode cX9_table 77 = .ok (.getfield 150, 3) := by decide +kernel
theorem dX9_table_80 : decode cX9_table 80 = .ok (.iload_n 2, 1) := by decide +kernel
theorem dX9_table_81 : decode cX9_table 81 = .ok (.iastore, 1) := by decide +kernel
theorem dX9_table_82 : decode cX9_table 82 = .ok (.aload_n 0, 1) := by decide +kernel
theorem dX9_table_83 : decode cX9_table 83 = .ok (.getfield 74, 3) := by decide +kernel
theorem dX9_table_86 : decode cX9_table 86 = .ok (.aload_n 0, 1) := by decide +kernel
theorem dX9_table_87 : decode cX9_table 87 = .ok (.getfield 150, 3) := by decide +kernel
theorem dX9_table_90 : decode cX9_table 90 = .ok (.iload_n 3, 1) := by decide +kernel
theorem dX9_table_91 : decode cX9_table 91 = .ok (.iastore, 1) := by decide +kernel
theorem dX9_table_92 : decode cX9_table 92 = .ok (.aload_n 0, 1) := by decide +kernel
theorem dX9_table_93 : decode cX9_table 93 = .ok (.getfield 77, 3) := by decide +kernel
theorem dX9_table_96 : decode cX9_table 96 = .ok (.aload_n 0, 1) := by decide +kernel
theorem dX9_table_97 : decode cX9_table 97 = .ok (.getfield 150, 3) := by decide +kernel
theorem dX9_table_100 : decode cX9_table 100 = .ok (.iload 4, 2) := by decide +kernel
theorem dX9_table_102 : decode cX9_table 102 = .ok (.iastore, 1) := by decide +kernel
theorem dX9_table_103 : decode cX9_table 103 = .ok (.aload_n 0, 1) := by decide +kernel
theorem dX9_table_104 : decode cX9_table 104 = .ok (.getfield 80, 3) := by decide +kernel
theorem dX9_table_107 : decode cX9_table 107 = .ok (.aload_n 0, 1) := by decide +kernel
theorem dX9_table_108 : decode cX9_table 108 = .ok (.getfield 150, 3) := by decide +kernel
theorem dX9_table_111 : decode cX9_table 111 = .ok (.iload 5, 2) := by decide +kernel
theorem dX9_table_113 : decode cX9_table 113 = .ok (.iastore, 1) := by decide +kernel
theorem dX9_table_114 : decode cX9_table 114 = .ok (.aload_n 0, 1) := by decide +kernel
theorem dX9_table_115 : decode cX9_table 115 = .ok (.dup, 1) := by decide +kernel
theorem dX9_table_116 : decode cX9_table 116 = .ok (.getfield 150, 3) := by decide +kernel
theorem dX9_table_119 : decode cX9_table 119 = .ok (.iconst 1, 1) := by decide +kernel
theorem dX9_table_120 : decode cX9_table 120 = .ok (.iadd, 1) := by decide +kernel
theorem dX9_table_121 : decode cX9_table 121 = .ok (.putfield 150, 3) := by decide +kernel
theorem dX9_table_124 : decode cX9_table 124 = .ok (.aload_n 0, 1) := by decide +kernel
theorem dX9_table_125 : decode cX9_table 125 = .ok (.getfield 150, 3) := by decide +kernel
theorem dX9_table_128 : decode cX9_table 128 = .ok (.ireturn, 1) := by decide +kernel
theorem dX9_lamp_0 : decode cX9_lamp 0 = .ok (.aload_n 0, 1) := by decide +kernel
theorem dX9_lamp_1 : decode cX9_lamp 1 = .ok (.iload_n 1, 1) := by decide +kernel
theorem dX9_lamp_2 : decode cX9_lamp 2 = .ok (.invokevirtual 136, 3) := by decide +kernel
theorem dX9_lamp_5 : decode cX9_lamp 5 = .ok (.ifCond .ne 5, 3) := by decide +kernel
theorem dX9_lamp_8 : decode cX9_lamp 8 = .ok (.iconst (-1), 1) := by decide +kernel
theorem dX9_lamp_9 : decode cX9_lamp 9 = .ok (.ireturn, 1) := by decide +kernel
theorem dX9_lamp_10 : decode cX9_lamp 10 = .ok (.aload_n 0, 1) := by decide +kernel
theorem dX9_lamp_11 : decode cX9_lamp 11 = .ok (.getfield 46, 3) := by decide +kernel
theorem dX9_lamp_14 : decode cX9_lamp 14 = .ok (.iload_n 1, 1) := by decide +kernel
theorem dX9_lamp_15 : decode cX9_lamp 15 = .ok (.baload, 1) := by decide +kernel
theorem dX9_lamp_16 : decode cX9_lamp 16 = .ok (.ifCond .eq 7, 3) := by decide +kernel
theorem dX9_lamp_19 : decode cX9_lamp 19 = .ok (.iconst 1, 1) := by decide +kernel
theorem dX9_lamp_20 : decode cX9_lamp 20 = .ok (.goto 4, 3) := by decide +kernel
theorem dX9_lamp_23 : decode cX9_lamp 23 = .ok (.iconst 0, 1) := by decide +kernel
theorem dX9_lamp_24 : decode cX9_lamp 24 = .ok (.istore_n 3, 1) := by decide +kernel
theorem dX9_lamp_25 : decode cX9_lamp 25 = .ok (.aload_n 0, 1) := by decide +kernel
theorem dX9_lamp_26 : decode cX9_lamp 26 = .ok (.getfield 46, 3) := by decide +kernel
theorem dX9_lamp_29 : decode cX9_lamp 29 = .ok (.iload_n 1, 1) := by decide +kernel
theorem dX9_lamp_30 : decode cX9_lamp 30 = .ok (.iload_n 2, 1) := by decide +kernel
theorem dX9_lamp_31 : decode cX9_lamp 31 = .ok (.bastore, 1) := by decide +kernel
theorem dX9_lamp_32 : decode cX9_lamp 32 = .ok (.iload_n 3, 1) := by decide +kernel
theorem dX9_lamp_33 : decode cX9_lamp 33 = .ok (.ireturn, 1) := by decide +kernel
theorem dX9_pair_0 : decode cX9_pair 0 = .ok (.aload_n 0, 1) := by decide +kernel
theorem dX9_pair_1 : decode cX9_pair 1 = .ok (.iload_n 1, 1) := by decide +kernel
theorem dX9_pair_2 : decode cX9_pair 2 = .ok (.invokevirtual 147, 3) := by decide +kernel
theorem dX9_pair_5 : decode cX9_pair 5 = .ok (.ifCond .eq 26, 3) := by decide +kernel
theorem dX9_pair_8 : decode cX9_pair 8 = .ok (.aload_n 0, 1) := by decide +kernel
theorem dX9_pair_9 : decode cX9_pair 9 = .ok (.iload_n 2, 1) := by decide +kernel
theorem dX9_pair_10 : decode cX9_pair 10 = .ok (.invokevirtual 147, 3) := by decide +kernel
theorem dX9_pair_13 : decode cX9_pair 13 = .ok (.ifCond .eq 18, 3) := by decide +kernel
theorem dX9_pair_16 : decode cX9_pair 16 = .ok (.iload_n 1, 1) := by decide +kernel
theorem dX9_pair_17 : decode cX9_pair 17 = .ok (.iload_n 2, 1) := by decide +kernel
theorem dX9_pair_18 : decode cX9_pair 18 = .ok (.if_icmp .eq 13, 3) := by decide +kernel
theorem dX9_pair_21 : decode cX9_pair 21 = .ok (.iload_n 3, 1) := by decide +kernel
theorem dX9_pair_22 : decode cX9_pair 22 = .ok (.iconst 1, 1) := by decide +kernel
theorem dX9_pair_23 : decode cX9_pair 23 = .ok (.bipush 60, 2) := by decide +kernel
theorem dX9_pair_25 : decode cX9_pair 25 = .ok (.invokestatic 123, 3) := by decide +kernel
theorem dX9_pair_28 : decode cX9_pair 28 = .ok (.ifCond .ne 5, 3) := by decide +kernel
theorem dX9_pair_31 : decode cX9_pair 31 = .ok (.iconst (-1), 1) := by decide +kernel
theorem dX9_pair_32 : decode cX9_pair 32 = .ok (.ireturn, 1) := by decide +kernel
theorem dX9_pair_33 : decode cX9_pair 33 = .ok (.aload_n 0, 1) := by decide +kernel
theorem dX9_pair_34 : decode cX9_pair 34 = .ok (.getfield 153, 3) := by decide +kernel
theorem dX9_pair_37 : decode cX9_pair 37 = .ok (.bipush 6, 2) := by decide +kernel
theorem dX9_pair_39 : decode cX9_pair 39 = .ok (.if_icmp .ne 6, 3) := by decide +kernel
theorem dX9_pair_42 : decode cX9_pair 42 = .ok (.bipush (-2), 2) := by decide +kernel
theorem dX9_pair_44 : decode cX9_pair 44 = .ok (.ireturn, 1) := by decide +kernel
theorem dX9_pair_45 : decode cX9_pair 45 = .ok (.aload_n 0, 1) := by decide +kernel
theorem dX9_pair_46 : decode cX9_pair 46 = .ok (.getfield 83, 3) := by decide +kernel
theorem dX9_pair_49 : decode cX9_pair 49 = .ok (.aload_n 0, 1) := by decide +kernel
theorem dX9_pair_50 : decode cX9_pair 50 = .ok (.getfield 153, 3) := by decide +kernel
theorem dX9_pair_53 : decode cX9_pair 53 = .ok (.iload_n 1, 1) := by decide +kernel
theorem dX9_pair_54 : decode cX9_pair 54 = .ok (.iastore, 1) := by decide +kernel
theorem dX9_pair_55 : decode cX9_pair 55 = .ok (.aload_n 0, 1) := by decide +kernel
theorem dX9_pair_56 : decode cX9_pair 56 = .ok (.getfield 86, 3) := by decide +kernel
theorem dX9_pair_59 : decode cX9_pair 59 = .ok (.aload_n 0, 1) := by decide +kernel
theorem dX9_pair_60 : decode cX9_pair 60 = .ok (.getfield 153, 3) := by decide +kernel
theorem dX9_pair_63 : decode cX9_pair 63 = .ok (.iload_n 2, 1) := by decide +kernel
theorem dX9_pair_64 : decode cX9_pair 64 = .ok (.iastore, 1) := by decide +kernel
theorem dX9_pair_65 : decode cX9_pair 65 = .ok (.aload_n 0, 1) := by decide +kernel
theorem dX9_pair_66 : decode cX9_pair 66 = .ok (.getfield 89, 3) := by decide +kernel
theorem dX9_pair_69 : decode cX9_pair 69 = .ok (.aload_n 0, 1) := by decide +kernel
theorem dX9_pair_70 : decode cX9_pair 70 = .ok (.getfield 153, 3) := by decide +kernel
theorem dX9_pair_73 : decode cX9_pair 73 = .ok (.iload_n 3, 1) := by decide +kernel
theorem dX9_pair_74 : decode cX9_pair 74 = .ok (.iastore, 1) := by decide +kernel
theorem dX9_pair_75 : decode cX9_pair 75 = .ok (.aload_n 0, 1) := by decide +kernel
theorem dX9_pair_76 : decode cX9_pair 76 = .ok (.getfield 92, 3) := by decide +kernel
theorem dX9_pair_79 : decode cX9_pair 79 = .ok (.aload_n 0, 1) := by decide +kernel
theorem dX9_pair_80 : decode cX9_pair 80 = .ok (.getfield 153, 3) := by decide +kernel
theorem dX9_pair_83 : decode cX9_pair 83 = .ok (.iconst 0, 1) := by decide +kernel
theorem dX9_pair_84 : decode cX9_pair 84 = .ok (.iastore, 1) := by decide +kernel
theorem dX9_pair_85 : decode cX9_pair 85 = .ok (.aload_n 0, 1) := by decide +kernel
theorem dX9_pair_86 : decode cX9_pair 86 = .ok (.dup, 1) := by decide +kernel
theorem dX9_pair_87 : decode cX9_pair 87 = .ok (.getfield 153, 3) := by decide +kernel
theorem dX9_pair_90 : decode cX9_pair 90 = .ok (.iconst 1, 1) := by decide +kernel
theorem dX9_pair_91 : decode cX9_pair 91 = .ok (.iadd, 1) := by decide +kernel
theorem dX9_pair_92 : decode cX9_pair 92 = .ok (.putfield 153, 3) := by decide +kernel
theorem dX9_pair_95 : decode cX9_pair 95 = .ok (.aload_n 0, 1) := by decide +kernel
theorem dX9_pair_96 : decode cX9_pair 96 = .ok (.getfield 153, 3) := by decide +kernel
theorem dX9_pair_99 : decode cX9_pair 99 = .ok (.iconst 1, 1) := by decide +kernel
theorem dX9_pair_100 : decode cX9_pair 100 = .ok (.isub, 1) := by decide +kernel
theorem dX9_pair_101 : decode cX9_pair 101 = .ok (.ireturn, 1) := by decide +kernel
theorem dX9_ask_0 : decode cX9_ask 0 = .ok (.aload_n 0, 1) := by decide +kernel
theorem dX9_ask_1 : decode cX9_ask 1 = .ok (.iload_n 1, 1) := by decide +kernel
theorem dX9_ask_2 : decode cX9_ask 2 = .ok (.invokevirtual 136, 3) := by decide +kernel
theorem dX9_ask_5 : decode cX9_ask 5 = .ok (.ifCond .ne 5, 3) := by decide +kernel
theorem dX9_ask_8 : decode cX9_ask 8 = .ok (.iconst (-1), 1) := by decide +kernel
theorem dX9_ask_9 : decode cX9_ask 9 = .ok (.ireturn, 1) := by decide +kernel
theorem dX9_ask_10 : decode cX9_ask 10 = .ok (.aload_n 0, 1) := by decide +kernel
theorem dX9_ask_11 : decode cX9_ask 11 = .ok (.getfield 34, 3) := by decide +kernel
theorem dX9_ask_14 : decode cX9_ask 14 = .ok (.iload_n 1, 1) := by decide +kernel
theorem dX9_ask_15 : decode cX9_ask 15 = .ok (.iaload, 1) := by decide +kernel
theorem dX9_ask_16 : decode cX9_ask 16 = .ok (.ifCond .ge 13, 3) := by decide +kernel
theorem dX9_ask_19 : decode cX9_ask 19 = .ok (.aload_n 0, 1) := by decide +kernel
theorem dX9_ask_20 : decode cX9_ask 20 = .ok (.getfield 13, 3) := by decide +kernel
theorem dX9_ask_23 : decode cX9_ask 23 = .ok (.iload_n 1, 1) := by decide +kernel
theorem dX9_ask_24 : decode cX9_ask 24 = .ok (.iaload, 1) := by decide +kernel
theorem dX9_ask_25 : decode cX9_ask 25 = .ok (.iconst 1, 1) := by decide +kernel
theorem dX9_ask_26 : decode cX9_ask 26 = .ok (.if_icmp .ne 5, 3) := by decide +kernel
theorem dX9_ask_29 : decode cX9_ask 29 = .ok (.iconst 0, 1) := by decide +kernel
theorem dX9_ask_30 : decode cX9_ask 30 = .ok (.ireturn, 1) := by decide +kernel
theorem dX9_ask_31 : decode cX9_ask 31 = .ok (.aload_n 0, 1) := by decide +kernel
theorem dX9_ask_32 : decode cX9_ask 32 = .ok (.getfield 34, 3) := by decide +kernel
theorem dX9_ask_35 : decode cX9_ask 35 = .ok (.iload_n 1, 1) := by decide +kernel
theorem dX9_ask_36 : decode cX9_ask 36 = .ok (.aload_n 0, 1) := by decide +kernel
theorem dX9_ask_37 : decode cX9_ask 37 = .ok (.getfield 133, 3) := by decide +kernel
theorem dX9_ask_40 : decode cX9_ask 40 = .ok (.iastore, 1) := by decide +kernel
theorem dX9_ask_41 : decode cX9_ask 41 = .ok (.iconst 1, 1) := by decide +kernel
theorem dX9_ask_42 : decode cX9_ask 42 = .ok (.ireturn, 1) := by decide +kernel
theorem dX9_hurry_0 : decode cX9_hurry 0 = .ok (.aload_n 0, 1) := by decide +kernel
theorem dX9_hurry_1 : decode cX9_hurry 1 = .ok (.iload_n 1, 1) := by decide +kernel
theorem dX9_hurry_2 : decode cX9_hurry 2 = .ok (.invokevirtual 156, 3) := by decide +kernel
theorem dX9_hurry_5 : decode cX9_hurry 5 = .ok (.ifCond .ne 5, 3) := by decide +kernel
theorem dX9_hurry_8 : decode cX9_hurry 8 = .ok (.iconst (-1), 1) := by decide +kernel
theorem dX9_hurry_9 : decode cX9_hurry 9 = .ok (.ireturn, 1) := by decide +kernel
theorem dX9_hurry_10 : decode cX9_hurry 10 = .ok (.aload_n 0, 1) := by decide +kernel
theorem dX9_hurry_11 : decode cX9_hurry 11 = .ok (.getfield 159, 3) := by decide +kernel
theorem dX9_hurry_14 : decode cX9_hurry 14 = .ok (.ifCond .le 6, 3) := by decide +kernel
theorem dX9_hurry_17 : decode cX9_hurry 17 = .ok (.bipush (-3), 2) := by decide +kernel
theorem dX9_hurry_19 : decode cX9_hurry 19 = .ok (.ireturn, 1) := by decide +kernel
theorem dX9_hurry_20 : decode cX9_hurry 20 = .ok (.iload_n 1, 1) := by decide +kernel
theorem dX9_hurry_21 : decode cX9_hurry 21 = .ok (.aload_n 0, 1) := by decide +kernel
theorem dX9_hurry_22 : decode cX9_hurry 22 = .ok (.getfield 95, 3) := by decide +kernel
theorem dX9_hurry_25 : decode cX9_hurry 25 = .ok (.if_icmp .ne 5, 3) := by decide +kernel
theorem dX9_hurry_28 : decode cX9_hurry 28 = .ok (.iconst 0, 1) := by decide +kernel
theorem dX9_hurry_29 : decode cX9_hurry 29 = .ok (.ireturn, 1) := by decide +kernel
theorem dX9_hurry_30 : decode cX9_hurry 30 = .ok (.aload_n 0, 1) := by decide +kernel
theorem dX9_hurry_31 : decode cX9_hurry 31 = .ok (.iload_n 1, 1) := by decide +kernel
theorem dX9_hurry_32 : decode cX9_hurry 32 = .ok (.putfield 102, 3) := by decide +kernel
theorem dX9_hurry_35 : decode cX9_hurry 35 = .ok (.iconst 1, 1) := by decide +kernel
theorem dX9_hurry_36 : decode cX9_hurry 36 = .ok (.ireturn, 1) := by decide +kernel
theorem dX9_alarm_0 : decode cX9_alarm 0 = .ok (.aload_n 0, 1) := by decide +kernel
theorem dX9_alarm_1 : decode cX9_alarm 1 = .ok (.getfield 159, 3) := by decide +kernel
theorem dX9_alarm_4 : decode cX9_alarm 4 = .ok (.ifCond .le 6, 3) := by decide +kernel
theorem dX9_alarm_7 : decode cX9_alarm 7 = .ok (.bipush (-3), 2) := by decide +kernel
theorem dX9_alarm_9 : decode cX9_alarm 9 = .ok (.ireturn, 1) := by decide +kernel
theorem dX9_alarm_10 : decode cX9_alarm 10 = .ok (.aload_n 0, 1) := by decide +kernel
theorem dX9_alarm_11 : decode cX9_alarm 11 = .ok (.iconst 1, 1) := by decide +kernel
theorem dX9_alarm_12 : decode cX9_alarm 12 = .ok (.putfield 162, 3) := by decide +kernel
theorem dX9_alarm_15 : decode cX9_alarm 15 = .ok (.iconst 1, 1) := by decide +kernel
theorem dX9_alarm_16 : decode cX9_alarm 16 = .ok (.ireturn, 1) := by decide +kernel
theorem dX9_found_0 : decode cX9_found 0 = .ok (.aload_n 0, 1) := by decide +kernel
theorem dX9_found_1 : decode cX9_found 1 = .ok (.getfield 108, 3) := by decide +kernel
theorem dX9_found_4 : decode cX9_found 4 = .ok (.iload_n 1, 1) := by decide +kernel
theorem dX9_found_5 : decode cX9_found 5 = .ok (.dup2, 1) := by decide +kernel
theorem dX9_found_6 : decode cX9_found 6 = .ok (.iaload, 1) := by decide +kernel
theorem dX9_found_7 : decode cX9_found 7 = .ok (.iconst 1, 1) := by decide +kernel
theorem dX9_found_8 : decode cX9_found 8 = .ok (.iadd, 1) := by decide +kernel
theorem dX9_found_9 : decode cX9_found 9 = .ok (.iastore, 1) := by decide +kernel
theorem dX9_found_10 : decode cX9_found 10 = .ok (.aload_n 0, 1) := by decide +kernel
theorem dX9_found_11 : decode cX9_found 11 = .ok (.iload_n 1, 1) := by decide +kernel
theorem dX9_found_12 : decode cX9_found 12 = .ok (.putfield 166, 3) := by decide +kernel
theorem dX9_found_15 : decode cX9_found 15 = .ok (.aload_n 0, 1) := by decide +kernel
theorem dX9_found_16 : decode cX9_found 16 = .ok (.iload_n 2, 1) := by decide +kernel
theorem dX9_found_17 : decode cX9_found 17 = .ok (.putfield 111, 3) := by decide +kernel
theorem dX9_found_20 : decode cX9_found 20 = .ok (.return_, 1) := by decide +kernel
theorem dX9_readAt_0 : decode cX9_readAt 0 = .ok (.aload_n 0, 1) := by decide +kernel
theorem dX9_readAt_1 : decode cX9_readAt 1 = .ok (.getfield 16, 3) := by decide +kernel
theorem dX9_readAt_4 : decode cX9_readAt 4 = .ok (.iload_n 1, 1) := by decide +kernel
theorem dX9_readAt_5 : decode cX9_readAt 5 = .ok (.iaload, 1) := by decide +kernel
theorem dX9_readAt_6 : decode cX9_readAt 6 = .ok (.istore_n 2, 1) := by decide +kernel
theorem dX9_readAt_7 : decode cX9_readAt 7 = .ok (.iload_n 2, 1) := by decide +kernel
theorem dX9_readAt_8 : decode cX9_readAt 8 = .ok (.ifCond .lt 12, 3) := by decide +kernel
theorem dX9_readAt_11 : decode cX9_readAt 11 = .ok (.aload_n 0, 1) := by decide +kernel
theorem dX9_readAt_12 : decode cX9_readAt 12 = .ok (.getfield 59, 3) := by decide +kernel
theorem dX9_readAt_15 : decode cX9_readAt 15 = .ok (.iload_n 2, 1) := by decide +kernel
theorem dX9_readAt_16 : decode cX9_readAt 16 = .ok (.iaload, 1) := by decide +kernel
theorem dX9_readAt_17 : decode cX9_readAt 17 = .ok (.ifCond .ge 11, 3) := by decide +kernel
theorem dX9_readAt_20 : decode cX9_readAt 20 = .ok (.aload_n 0, 1) := by decide +kernel
theorem dX9_readAt_21 : decode cX9_readAt 21 = .ok (.iconst 1, 1) := by decide +kernel
theorem dX9_readAt_22 : decode cX9_readAt 22 = .ok (.iload_n 1, 1) := by decide +kernel
theorem dX9_readAt_23 : decode cX9_readAt 23 = .ok (.invokevirtual 169, 3) := by decide +kernel
theorem dX9_readAt_26 : decode cX9_readAt 26 = .ok (.iconst (-1), 1) := by decide +kernel
theorem dX9_readAt_27 : decode cX9_readAt 27 = .ok (.ireturn, 1) := by decide +kernel
theorem dX9_readAt_28 : decode cX9_readAt 28 = .ok (.aload_n 0, 1) := by decide +kernel
theorem dX9_readAt_29 : decode cX9_readAt 29 = .ok (.getfield 59, 3) := by decide +kernel
theorem dX9_readAt_32 : decode cX9_readAt 32 = .ok (.iload_n 2, 1) := by decide +kernel
theorem dX9_readAt_33 : decode cX9_readAt 33 = .ok (.iaload, 1) := by decide +kernel
theorem dX9_readAt_34 : decode cX9_readAt 34 = .ok (.aload_n 0, 1) := by decide +kernel
theorem dX9_readAt_35 : decode cX9_readAt 35 = .ok (.getfield 133, 3) := by decide +kernel
theorem dX9_readAt_38 : decode cX9_readAt 38 = .ok (.if_icmp .gt 11, 3) := by decide +kernel
theorem dX9_readAt_41 : decode cX9_readAt 41 = .ok (.aload_n 0, 1) := by decide +kernel
theorem dX9_readAt_42 : decode cX9_readAt 42 = .ok (.iconst 2, 1) := by decide +kernel
theorem dX9_readAt_43 : decode cX9_readAt 43 = .ok (.iload_n 1, 1) := by decide +kernel
theorem dX9_readAt_44 : decode cX9_readAt 44 = .ok (.invokevirtual 169, 3) := by decide +kernel
theorem dX9_readAt_47 : decode cX9_readAt 47 = .ok (.iconst (-1), 1) := by decide +kernel
theorem dX9_readAt_48 : decode cX9_readAt 48 = .ok (.ireturn, 1) := by decide +kernel
theorem dX9_readAt_49 : decode cX9_readAt 49 = .ok (.sipush 200, 3) := by decide +kernel
theorem dX9_readAt_52 : decode cX9_readAt 52 = .ok (.iload_n 2, 1) := by decide +kernel
theorem dX9_readAt_53 : decode cX9_readAt 53 = .ok (.imul, 1) := by decide +kernel
theorem dX9_readAt_54 : decode cX9_readAt 54 = .ok (.aload_n 0, 1) := by decide +kernel
theorem dX9_readAt_55 : decode cX9_readAt 55 = .ok (.getfield 133, 3) := by decide +kernel
theorem dX9_readAt_58 : decode cX9_readAt 58 = .ok (.iadd, 1) := by decide +kernel
theorem dX9_readAt_59 : decode cX9_readAt 59 = .ok (.ireturn, 1) := by decide +kernel
theorem dX9_asksOfCar_0 : decode cX9_asksOfCar 0 = .ok (.aload_n 0, 1) := by decide +kernel
theorem dX9_asksOfCar_1 : decode cX9_asksOfCar 1 = .ok (.dup, 1) := by decide +kernel
theorem dX9_asksOfCar_2 : decode cX9_asksOfCar 2 = .ok (.getfield 173, 3) := by decide +kernel
theorem dX9_asksOfCar_5 : decode cX9_asksOfCar 5 = .ok (.iconst 1, 1) := by decide +kernel
theorem dX9_asksOfCar_6 : decode cX9_asksOfCar 6 = .ok (.iadd, 1) := by decide +kernel
theorem dX9_asksOfCar_7 : decode cX9_asksOfCar 7 = .ok (.putfield 173, 3) := by decide +kernel
theorem dX9_asksOfCar_10 : decode cX9_asksOfCar 10 = .ok (.aload_n 0, 1) := by decide +kernel
theorem dX9_asksOfCar_11 : decode cX9_asksOfCar 11 = .ok (.getfield 62, 3) := by decide +kernel
theorem dX9_asksOfCar_14 : decode cX9_asksOfCar 14 = .ok (.iload_n 1, 1) := by decide +kernel
theorem dX9_asksOfCar_15 : decode cX9_asksOfCar 15 = .ok (.iaload, 1) := by decide +kernel
theorem dX9_asksOfCar_16 : decode cX9_asksOfCar 16 = .ok (.ifCond .gt 15, 3) := by decide +kernel
theorem dX9_asksOfCar_19 : decode cX9_asksOfCar 19 = .ok (.aload_n 0, 1) := by decide +kernel
theorem dX9_asksOfCar_20 : decode cX9_asksOfCar 20 = .ok (.getfield 65, 3) := by decide +kernel
theorem dX9_asksOfCar_23 : decode cX9_asksOfCar 23 = .ok (.iload_n 1, 1) := by decide +kernel
theorem dX9_asksOfCar_24 : decode cX9_asksOfCar 24 = .ok (.iaload, 1) := by decide +kernel
theorem dX9_asksOfCar_25 : decode cX9_asksOfCar 25 = .ok (.sipush 5000, 3) := by decide +kernel
theorem dX9_asksOfCar_28 : decode cX9_asksOfCar 28 = .ok (.if_icmp .lt 7, 3) := by decide +kernel
theorem dX9_asksOfCar_31 : decode cX9_asksOfCar 31 = .ok (.iconst 1, 1) := by decide +kernel
theorem dX9_asksOfCar_32 : decode cX9_asksOfCar 32 = .ok (.goto 4, 3) := by decide +kernel
theorem dX9_asksOfCar_35 : decode cX9_asksOfCar 35 = .ok (.iconst 0, 1) := by decide +kernel
theorem dX9_asksOfCar_36 : decode cX9_asksOfCar 36 = .ok (.ireturn, 1) := by decide +kernel
theorem dX9_doesAsk_0 : decode cX9_doesAsk 0 = .ok (.aload_n 0, 1) := by decide +kernel
theorem dX9_doesAsk_1 : decode cX9_doesAsk 1 = .ok (.iload_n 1, 1) := by decide +kernel
theorem dX9_doesAsk_2 : decode cX9_doesAsk 2 = .ok (.invokevirtual 176, 3) := by decide +kernel
theorem dX9_doesAsk_5 : decode cX9_doesAsk 5 = .ok (.istore_n 2, 1) := by decide +kernel
theorem dX9_doesAsk_6 : decode cX9_doesAsk 6 = .ok (.iload_n 2, 1) := by decide +kernel
theorem dX9_doesAsk_7 : decode cX9_doesAsk 7 = .ok (.ifCond .ge 5, 3) := by decide +kernel
theorem dX9_doesAsk_10 : decode cX9_doesAsk 10 = .ok (.iconst 1, 1) := by decide +kernel
theorem dX9_doesAsk_11 : decode cX9_doesAsk 11 = .ok (.ireturn, 1) := by decide +kernel
theorem dX9_doesAsk_12 : decode cX9_doesAsk 12 = .ok (.aload_n 0, 1) := by decide +kernel
theorem dX9_doesAsk_13 : decode cX9_doesAsk 13 = .ok (.getfield 7, 3) := by decide +kernel
theorem dX9_doesAsk_16 : decode cX9_doesAsk 16 = .ok (.iload_n 1, 1) := by decide +kernel
theorem dX9_doesAsk_17 : decode cX9_doesAsk 17 = .ok (.iaload, 1) := by decide +kernel
theorem dX9_doesAsk_18 : decode cX9_doesAsk 18 = .ok (.tableswitch 95 0 2 #[26, 32, 69], 26) := by decide +kernel
theorem dX9_doesAsk_44 : decode cX9_doesAsk 44 = .ok (.aload_n 0, 1) := by decide +kernel
theorem dX9_doesAsk_45 : decode cX9_doesAsk 45 = .ok (.iload_n 2, 1) := by decide +kernel
theorem dX9_doesAsk_46 : decode cX9_doesAsk 46 = .ok (.invokevirtual 180, 3) := by decide +kernel
theorem dX9_doesAsk_49 : decode cX9_doesAsk 49 = .ok (.ireturn, 1) := by decide +kernel
theorem dX9_doesAsk_50 : decode cX9_doesAsk 50 = .ok (.aload_n 0, 1) := by decide +kernel
theorem dX9_doesAsk_51 : decode cX9_doesAsk 51 = .ok (.dup, 1) := by decide +kernel
theorem dX9_doesAsk_52 : decode cX9_doesAsk 52 = .ok (.getfield 173, 3) := by decide +kernel
theorem dX9_doesAsk_55 : decode cX9_doesAsk 55 = .ok (.bipush 10, 2) := by decide +kernel
theorem dX9_doesAsk_57 : decode cX9_doesAsk 57 = .ok (.iadd, 1) := by decide +kernel
theorem dX9_doesAsk_58 : decode cX9_doesAsk 58 = .ok (.putfield 173, 3) := by decide +kernel
theorem dX9_doesAsk_61 : decode cX9_doesAsk 61 = .ok (.aload_n 0, 1) := by decide +kernel
theorem dX9_doesAsk_62 : decode cX9_doesAsk 62 = .ok (.getfield 65, 3) := by decide +kernel
theorem dX9_doesAsk_65 : decode cX9_doesAsk 65 = .ok (.iload_n 2, 1) := by decide +kernel
theorem dX9_doesAsk_66 : decode cX9_doesAsk 66 = .ok (.iaload, 1) := by decide +kernel
theorem dX9_doesAsk_67 : decode cX9_doesAsk 67 = .ok (.sipush 2000, 3) := by decide +kernel
theorem dX9_doesAsk_70 : decode cX9_doesAsk 70 = .ok (.if_icmp .ge 11, 3) := by decide +kernel
theorem dX9_doesAsk_73 : decode cX9_doesAsk 73 = .ok (.aload_n 0, 1) := by decide +kernel
theorem dX9_doesAsk_74 : decode cX9_doesAsk 74 = .ok (.iload_n 2, 1) := by decide +kernel
theorem dX9_doesAsk_75 : decode cX9_doesAsk 75 = .ok (.invokevirtual 180, 3) := by decide +kernel
theorem dX9_doesAsk_78 : decode cX9_doesAsk 78 = .ok (.ifCond .eq 7, 3) := by decide +kernel
theorem dX9_doesAsk_81 : decode cX9_doesAsk 81 = .ok (.iconst 1, 1) := by decide +kernel
theorem dX9_doesAsk_82 : decode cX9_doesAsk 82 = .ok (.goto 4, 3) := by decide +kernel
theorem dX9_doesAsk_85 : decode cX9_doesAsk 85 = .ok (.iconst 0, 1) := by decide +kernel
theorem dX9_doesAsk_86 : decode cX9_doesAsk 86 = .ok (.ireturn, 1) := by decide +kernel
theorem dX9_doesAsk_87 : decode cX9_doesAsk 87 = .ok (.aload_n 0, 1) := by decide +kernel
theorem dX9_doesAsk_88 : decode cX9_doesAsk 88 = .ok (.dup, 1) := by decide +kernel
theorem dX9_doesAsk_89 : decode cX9_doesAsk 89 = .ok (.getfield 173, 3) := by decide +kernel
theorem dX9_doesAsk_92 : decode cX9_doesAsk 92 = .ok (.bipush 100, 2) := by decide +kernel
theorem dX9_doesAsk_94 : decode cX9_doesAsk 94 = .ok (.iadd, 1) := by decide +kernel
theorem dX9_doesAsk_95 : decode cX9_doesAsk 95 = .ok (.putfield 173, 3) := by decide +kernel
theorem dX9_doesAsk_98 : decode cX9_doesAsk 98 = .ok (.aload_n 0, 1) := by decide +kernel
theorem dX9_doesAsk_99 : decode cX9_doesAsk 99 = .ok (.getfield 62, 3) := by decide +kernel
theorem dX9_doesAsk_102 : decode cX9_doesAsk 102 = .ok (.iload_n 2, 1) := by decide +kernel
theorem dX9_doesAsk_103 : decode cX9_doesAsk 103 = .ok (.iaload, 1) := by decide +kernel
theorem dX9_doesAsk_104 : decode cX9_doesAsk 104 = .ok (.ifCond .le 7, 3) := by decide +kernel
theorem dX9_doesAsk_107 : decode cX9_doesAsk 107 = .ok (.iconst 1, 1) := by decide +kernel
theorem dX9_doesAsk_108 : decode cX9_doesAsk 108 = .ok (.goto 4, 3) := by decide +kernel
theorem dX9_doesAsk_111 : decode cX9_doesAsk 111 = .ok (.iconst 0, 1) := by decide +kernel
theorem dX9_doesAsk_112 : decode cX9_doesAsk 112 = .ok (.ireturn, 1) := by decide +kernel
theorem dX9_doesAsk_113 : decode cX9_doesAsk 113 = .ok (.aload_n 0, 1) := by decide +kernel
theorem dX9_doesAsk_114 : decode cX9_doesAsk 114 = .ok (.dup, 1) := by decide +kernel
theorem dX9_doesAsk_115 : decode cX9_doesAsk 115 = .ok (.getfield 173, 3) := by decide +kernel
theorem dX9_doesAsk_118 : decode cX9_doesAsk 118 = .ok (.sipush 1000, 3) := by decide +kernel
theorem dX9_doesAsk_121 : decode cX9_doesAsk 121 = .ok (.iadd, 1) := by decide +kernel
theorem dX9_doesAsk_122 : decode cX9_doesAsk 122 = .ok (.putfield 173, 3) := by decide +kernel
theorem dX9_doesAsk_125 : decode cX9_doesAsk 125 = .ok (.aload_n 0, 1) := by decide +kernel
theorem dX9_doesAsk_126 : decode cX9_doesAsk 126 = .ok (.getfield 62, 3) := by decide +kernel
theorem dX9_doesAsk_129 : decode cX9_doesAsk 129 = .ok (.iload_n 2, 1) := by decide +kernel
theorem dX9_doesAsk_130 : decode cX9_doesAsk 130 = .ok (.iaload, 1) := by decide +kernel
theorem dX9_doesAsk_131 : decode cX9_doesAsk 131 = .ok (.ifCond .eq 7, 3) := by decide +kernel
theorem dX9_doesAsk_134 : decode cX9_doesAsk 134 = .ok (.iconst 1, 1) := by decide +kernel
theorem dX9_doesAsk_135 : decode cX9_doesAsk 135 = .ok (.goto 4, 3) := by decide +kernel
theorem dX9_doesAsk_138 : decode cX9_doesAsk 138 = .ok (.iconst 0, 1) := by decide +kernel
theorem dX9_doesAsk_139 : decode cX9_doesAsk 139 = .ok (.ireturn, 1) := by decide +kernel
theorem dX9_doesHold_0 : decode cX9_doesHold 0 = .ok (.aload_n 0, 1) := by decide +kernel
theorem dX9_doesHold_1 : decode cX9_doesHold 1 = .ok (.getfield 7, 3) := by decide +kernel
theorem dX9_doesHold_4 : decode cX9_doesHold 4 = .ok (.iload_n 1, 1) := by decide +kernel
theorem dX9_doesHold_5 : decode cX9_doesHold 5 = .ok (.iaload, 1) := by decide +kernel
theorem dX9_doesHold_6 : decode cX9_doesHold 6 = .ok (.iconst 4, 1) := by decide +kernel
theorem dX9_doesHold_7 : decode cX9_doesHold 7 = .ok (.if_icmp .ne 17, 3) := by decide +kernel
theorem dX9_doesHold_10 : decode cX9_doesHold 10 = .ok (.aload_n 0, 1) := by decide +kernel
theorem dX9_doesHold_11 : decode cX9_doesHold 11 = .ok (.dup, 1) := by decide +kernel
theorem dX9_doesHold_12 : decode cX9_doesHold 12 = .ok (.getfield 173, 3) := by decide +kernel
theorem dX9_doesHold_15 : decode cX9_doesHold 15 = .ok (.sipush 5000, 3) := by decide +kernel
theorem dX9_doesHold_18 : decode cX9_doesHold 18 = .ok (.iadd, 1) := by decide +kernel
theorem dX9_doesHold_19 : decode cX9_doesHold 19 = .ok (.putfield 173, 3) := by decide +kernel
theorem dX9_doesHold_22 : decode cX9_doesHold 22 = .ok (.iconst 1, 1) := by decide +kernel
theorem dX9_doesHold_23 : decode cX9_doesHold 23 = .ok (.ireturn, 1) := by decide +kernel
theorem dX9_doesHold_24 : decode cX9_doesHold 24 = .ok (.aload_n 0, 1) := by decide +kernel
theorem dX9_doesHold_25 : decode cX9_doesHold 25 = .ok (.iload_n 1, 1) := by decide +kernel
theorem dX9_doesHold_26 : decode cX9_doesHold 26 = .ok (.invokevirtual 176, 3) := by decide +kernel
theorem dX9_doesHold_29 : decode cX9_doesHold 29 = .ok (.istore_n 2, 1) := by decide +kernel
theorem dX9_doesHold_30 : decode cX9_doesHold 30 = .ok (.iload_n 2, 1) := by decide +kernel
theorem dX9_doesHold_31 : decode cX9_doesHold 31 = .ok (.ifCond .ge 5, 3) := by decide +kernel
theorem dX9_doesHold_34 : decode cX9_doesHold 34 = .ok (.iconst 1, 1) := by decide +kernel
theorem dX9_doesHold_35 : decode cX9_doesHold 35 = .ok (.ireturn, 1) := by decide +kernel
theorem dX9_doesHold_36 : decode cX9_doesHold 36 = .ok (.aload_n 0, 1) := by decide +kernel
theorem dX9_doesHold_37 : decode cX9_doesHold 37 = .ok (.getfield 7, 3) := by decide +kernel
theorem dX9_doesHold_40 : decode cX9_doesHold 40 = .ok (.iload_n 1, 1) := by decide +kernel
theorem dX9_doesHold_41 : decode cX9_doesHold 41 = .ok (.iaload, 1) := by decide +kernel
theorem dX9_doesHold_42 : decode cX9_doesHold 42 = .ok (.tableswitch 64 0 2 #[26, 26, 51], 26) := by decide +kernel
theorem dX9_doesHold_68 : decode cX9_doesHold 68 = .ok (.aload_n 0, 1) := by decide +kernel
theorem dX9_doesHold_69 : decode cX9_doesHold 69 = .ok (.dup, 1) := by decide +kernel
theorem dX9_doesHold_70 : decode cX9_doesHold 70 = .ok (.getfield 173, 3) := by decide +kernel
theorem dX9_doesHold_73 : decode cX9_doesHold 73 = .ok (.iconst 5, 1) := by decide +kernel
theorem dX9_doesHold_74 : decode cX9_doesHold 74 = .ok (.iadd, 1) := by decide +kernel
theorem dX9_doesHold_75 : decode cX9_doesHold 75 = .ok (.putfield 173, 3) := by decide +kernel
theorem dX9_doesHold_78 : decode cX9_doesHold 78 = .ok (.aload_n 0, 1) := by decide +kernel
theorem dX9_doesHold_79 : decode cX9_doesHold 79 = .ok (.getfield 62, 3) := by decide +kernel
theorem dX9_doesHold_82 : decode cX9_doesHold 82 = .ok (.iload_n 2, 1) := by decide +kernel
theorem dX9_doesHold_83 : decode cX9_doesHold 83 = .ok (.iaload, 1) := by decide +kernel
theorem dX9_doesHold_84 : decode cX9_doesHold 84 = .ok (.ifCond .le 7, 3) := by decide +kernel
theorem dX9_doesHold_87 : decode cX9_doesHold 87 = .ok (.iconst 1, 1) := by decide +kernel
theorem dX9_doesHold_88 : decode cX9_doesHold 88 = .ok (.goto 4, 3) := by decide +kernel
theorem dX9_doesHold_91 : decode cX9_doesHold 91 = .ok (.iconst 0, 1) := by decide +kernel
theorem dX9_doesHold_92 : decode cX9_doesHold 92 = .ok (.ireturn, 1) := by decide +kernel
theorem dX9_doesHold_93 : decode cX9_doesHold 93 = .ok (.aload_n 0, 1) := by decide +kernel
theorem dX9_doesHold_94 : decode cX9_doesHold 94 = .ok (.dup, 1) := by decide +kernel
theorem dX9_doesHold_95 : decode cX9_doesHold 95 = .ok (.getfield 173, 3) := by decide +kernel
theorem dX9_doesHold_98 : decode cX9_doesHold 98 = .ok (.bipush 50, 2) := by decide +kernel
theorem dX9_doesHold_100 : decode cX9_doesHold 100 = .ok (.iadd, 1) := by decide +kernel
theorem dX9_doesHold_101 : decode cX9_doesHold 101 = .ok (.putfield 173, 3) := by decide +kernel
theorem dX9_doesHold_104 : decode cX9_doesHold 104 = .ok (.iconst 0, 1) := by decide +kernel
theorem dX9_doesHold_105 : decode cX9_doesHold 105 = .ok (.ireturn, 1) := by decide +kernel
theorem dX9_doesHold_106 : decode cX9_doesHold 106 = .ok (.aload_n 0, 1) := by decide +kernel
theorem dX9_doesHold_107 : decode cX9_doesHold 107 = .ok (.dup, 1) := by decide +kernel
theorem dX9_doesHold_108 : decode cX9_doesHold 108 = .ok (.getfield 173, 3) := by decide +kernel
theorem dX9_doesHold_111 : decode cX9_doesHold 111 = .ok (.sipush 500, 3) := by decide +kernel
theorem dX9_doesHold_114 : decode cX9_doesHold 114 = .ok (.iadd, 1) := by decide +kernel
theorem dX9_doesHold_115 : decode cX9_doesHold 115 = .ok (.putfield 173, 3) := by decide +kernel
theorem dX9_doesHold_118 : decode cX9_doesHold 118 = .ok (.aload_n 0, 1) := by decide +kernel
theorem dX9_doesHold_119 : decode cX9_doesHold 119 = .ok (.getfield 62, 3) := by decide +kernel
theorem dX9_doesHold_122 : decode cX9_doesHold 122 = .ok (.iload_n 2, 1) := by decide +kernel
theorem dX9_doesHold_123 : decode cX9_doesHold 123 = .ok (.iaload, 1) := by decide +kernel
theorem dX9_doesHold_124 : decode cX9_doesHold 124 = .ok (.ifCond .eq 7, 3) := by decide +kernel
theorem dX9_doesHold_127 : decode cX9_doesHold 127 = .ok (.iconst 1, 1) := by decide +kernel
theorem dX9_doesHold_128 : decode cX9_doesHold 128 = .ok (.goto 4, 3) := by decide +kernel
theorem dX9_doesHold_131 : decode cX9_doesHold 131 = .ok (.iconst 0, 1) := by decide +kernel
theorem dX9_doesHold_132 : decode cX9_doesHold 132 = .ok (.ireturn, 1) := by decide +kernel
theorem dX9_change_0 : decode cX9_change 0 = .ok (.aload_n 0, 1) := by decide +kernel
theorem dX9_change_1 : decode cX9_change 1 = .ok (.getfield 19, 3) := by decide +kernel
theorem dX9_change_4 : decode cX9_change 4 = .ok (.iload_n 1, 1) := by decide +kernel
theorem dX9_change_5 : decode cX9_change 5 = .ok (.dup2, 1) := by decide +kernel
theorem dX9_change_6 : decode cX9_change 6 = .ok (.iaload, 1) := by decide +kernel
theorem dX9_change_7 : decode cX9_change 7 = .ok (.iconst 1, 1) := by decide +kernel
theorem dX9_change_8 : decode cX9_change 8 = .ok (.iadd, 1) := by decide +kernel
theorem dX9_change_9 : decode cX9_change 9 = .ok (.iastore, 1) := by decide +kernel
theorem dX9_change_10 : decode cX9_change 10 = .ok (.aload_n 0, 1) := by decide +kernel
theorem dX9_change_11 : decode cX9_change 11 = .ok (.getfield 13, 3) := by decide +kernel
theorem dX9_change_14 : decode cX9_change 14 = .ok (.iload_n 1, 1) := by decide +kernel
theorem dX9_change_15 : decode cX9_change 15 = .ok (.iaload, 1) := by decide +kernel
theorem dX9_change_16 : decode cX9_change 16 = .ok (.iconst 1, 1) := by decide +kernel
theorem dX9_change_17 : decode cX9_change 17 = .ok (.if_icmp .ne 14, 3) := by decide +kernel
theorem dX9_change_20 : decode cX9_change 20 = .ok (.aload_n 0, 1) := by decide +kernel
theorem dX9_change_21 : decode cX9_change 21 = .ok (.getfield 22, 3) := by decide +kernel
theorem dX9_change_24 : decode cX9_change 24 = .ok (.iload_n 1, 1) := by decide +kernel
theorem dX9_change_25 : decode cX9_change 25 = .ok (.aload_n 0, 1) := by decide +kernel
theorem dX9_change_26 : decode cX9_change 26 = .ok (.iload_n 1, 1) := by decide +kernel
theorem dX9_change_27 : decode cX9_change 27 = .ok (.invokevirtual 183, 3) := by decide +kernel
theorem dX9_change_30 : decode cX9_change 30 = .ok (.iastore, 1) := by decide +kernel
theorem dX9_change_31 : decode cX9_change 31 = .ok (.aload_n 0, 1) := by decide +kernel
theorem dX9_change_32 : decode cX9_change 32 = .ok (.getfield 13, 3) := by decide +kernel
theorem dX9_change_35 : decode cX9_change 35 = .ok (.iload_n 1, 1) := by decide +kernel
theorem dX9_change_36 : decode cX9_change 36 = .ok (.iload_n 2, 1) := by decide +kernel
theorem dX9_change_37 : decode cX9_change 37 = .ok (.iastore, 1) := by decide +kernel
theorem dX9_change_38 : decode cX9_change 38 = .ok (.aload_n 0, 1) := by decide +kernel
theorem dX9_change_39 : decode cX9_change 39 = .ok (.dup, 1) := by decide +kernel
theorem dX9_change_40 : decode cX9_change 40 = .ok (.getfield 186, 3) := by decide +kernel
theorem dX9_change_43 : decode cX9_change 43 = .ok (.iconst 1, 1) := by decide +kernel
theorem dX9_change_44 : decode cX9_change 44 = .ok (.iadd, 1) := by decide +kernel
theorem dX9_change_45 : decode cX9_change 45 = .ok (.putfield 186, 3) := by decide +kernel
theorem dX9_change_48 : decode cX9_change 48 = .ok (.return_, 1) := by decide +kernel
theorem dX9_gapOf_0 : decode cX9_gapOf 0 = .ok (.aload_n 0, 1) := by decide +kernel
theorem dX9_gapOf_1 : decode cX9_gapOf 1 = .ok (.getfield 7, 3) := by decide +kernel
theorem dX9_gapOf_4 : decode cX9_gapOf 4 = .ok (.iload_n 1, 1) := by decide +kernel
theorem dX9_gapOf_5 : decode cX9_gapOf 5 = .ok (.iaload, 1) := by decide +kernel
theorem dX9_gapOf_6 : decode cX9_gapOf 6 = .ok (.iconst 4, 1) := by decide +kernel
theorem dX9_gapOf_7 : decode cX9_gapOf 7 = .ok (.if_icmp .ne 5, 3) := by decide +kernel
theorem dX9_gapOf_10 : decode cX9_gapOf 10 = .ok (.iconst 0, 1) := by decide +kernel
theorem dX9_gapOf_11 : decode cX9_gapOf 11 = .ok (.ireturn, 1) := by decide +kernel
theorem dX9_gapOf_12 : decode cX9_gapOf 12 = .ok (.aload_n 0, 1) := by decide +kernel
theorem dX9_gapOf_13 : decode cX9_gapOf 13 = .ok (.getfield 16, 3) := by decide +kernel
theorem dX9_gapOf_16 : decode cX9_gapOf 16 = .ok (.iload_n 1, 1) := by decide +kernel
theorem dX9_gapOf_17 : decode cX9_gapOf 17 = .ok (.iaload, 1) := by decide +kernel
theorem dX9_gapOf_18 : decode cX9_gapOf 18 = .ok (.istore_n 2, 1) := by decide +kernel
theorem dX9_gapOf_19 : decode cX9_gapOf 19 = .ok (.iload_n 2, 1) := by decide +kernel
theorem dX9_gapOf_20 : decode cX9_gapOf 20 = .ok (.ifCond .lt 12, 3) := by decide +kernel
theorem dX9_gapOf_23 : decode cX9_gapOf 23 = .ok (.aload_n 0, 1) := by decide +kernel
theorem dX9_gapOf_24 : decode cX9_gapOf 24 = .ok (.getfield 59, 3) := by decide +kernel
theorem dX9_gapOf_27 : decode cX9_gapOf 27 = .ok (.iload_n 2, 1) := by decide +kernel
theorem dX9_gapOf_28 : decode cX9_gapOf 28 = .ok (.iaload, 1) := by decide +kernel
theorem dX9_gapOf_29 : decode cX9_gapOf 29 = .ok (.ifCond .ge 11, 3) := by decide +kernel
theorem dX9_gapOf_32 : decode cX9_gapOf 32 = .ok (.aload_n 0, 1) := by decide +kernel
theorem dX9_gapOf_33 : decode cX9_gapOf 33 = .ok (.iconst 1, 1) := by decide +kernel
theorem dX9_gapOf_34 : decode cX9_gapOf 34 = .ok (.iload_n 1, 1) := by decide +kernel
theorem dX9_gapOf_35 : decode cX9_gapOf 35 = .ok (.invokevirtual 169, 3) := by decide +kernel
theorem dX9_gapOf_38 : decode cX9_gapOf 38 = .ok (.iconst 0, 1) := by decide +kernel
theorem dX9_gapOf_39 : decode cX9_gapOf 39 = .ok (.ireturn, 1) := by decide +kernel
theorem dX9_gapOf_40 : decode cX9_gapOf 40 = .ok (.aload_n 0, 1) := by decide +kernel
theorem dX9_gapOf_41 : decode cX9_gapOf 41 = .ok (.getfield 59, 3) := by decide +kernel
theorem dX9_gapOf_44 : decode cX9_gapOf 44 = .ok (.iload_n 2, 1) := by decide +kernel
theorem dX9_gapOf_45 : decode cX9_gapOf 45 = .ok (.iaload, 1) := by decide +kernel
theorem dX9_gapOf_46 : decode cX9_gapOf 46 = .ok (.aload_n 0, 1) := by decide +kernel
theorem dX9_gapOf_47 : decode cX9_gapOf 47 = .ok (.getfield 133, 3) := by decide +kernel
theorem dX9_gapOf_50 : decode cX9_gapOf 50 = .ok (.if_icmp .ge 11, 3) := by decide +kernel
theorem dX9_gapOf_53 : decode cX9_gapOf 53 = .ok (.aload_n 0, 1) := by decide +kernel
theorem dX9_gapOf_54 : decode cX9_gapOf 54 = .ok (.iconst 2, 1) := by decide +kernel
theorem dX9_gapOf_55 : decode cX9_gapOf 55 = .ok (.iload_n 1, 1) := by decide +kernel
theorem dX9_gapOf_56 : decode cX9_gapOf 56 = .ok (.invokevirtual 169, 3) := by decide +kernel
theorem dX9_gapOf_59 : decode cX9_gapOf 59 = .ok (.iconst 0, 1) := by decide +kernel
theorem dX9_gapOf_60 : decode cX9_gapOf 60 = .ok (.ireturn, 1) := by decide +kernel
theorem dX9_gapOf_61 : decode cX9_gapOf 61 = .ok (.iconst 0, 1) := by decide +kernel
theorem dX9_gapOf_62 : decode cX9_gapOf 62 = .ok (.istore_n 3, 1) := by decide +kernel
theorem dX9_gapOf_63 : decode cX9_gapOf 63 = .ok (.aload_n 0, 1) := by decide +kernel
theorem dX9_gapOf_64 : decode cX9_gapOf 64 = .ok (.getfield 189, 3) := by decide +kernel
theorem dX9_gapOf_67 : decode cX9_gapOf 67 = .ok (.istore 4, 2) := by decide +kernel
theorem dX9_gapOf_69 : decode cX9_gapOf 69 = .ok (.iload 4, 2) := by decide +kernel
theorem dX9_gapOf_71 : decode cX9_gapOf 71 = .ok (.aload_n 0, 1) := by decide +kernel
theorem dX9_gapOf_72 : decode cX9_gapOf 72 = .ok (.getfield 133, 3) := by decide +kernel
theorem dX9_gapOf_75 : decode cX9_gapOf 75 = .ok (.if_icmp .ge 25, 3) := by decide +kernel
theorem dX9_gapOf_78 : decode cX9_gapOf 78 = .ok (.iload_n 3, 1) := by decide +kernel
theorem dX9_gapOf_79 : decode cX9_gapOf 79 = .ok (.aload_n 0, 1) := by decide +kernel
theorem dX9_gapOf_80 : decode cX9_gapOf 80 = .ok (.getfield 62, 3) := by decide +kernel
theorem dX9_gapOf_83 : decode cX9_gapOf 83 = .ok (.sipush 200, 3) := by decide +kernel
theorem dX9_gapOf_86 : decode cX9_gapOf 86 = .ok (.iload_n 2, 1) := by decide +kernel
theorem dX9_gapOf_87 : decode cX9_gapOf 87 = .ok (.imul, 1) := by decide +kernel
theorem dX9_gapOf_88 : decode cX9_gapOf 88 = .ok (.iload 4, 2) := by decide +kernel
theorem dX9_gapOf_90 : decode cX9_gapOf 90 = .ok (.iadd, 1) := by decide +kernel
theorem dX9_gapOf_91 : decode cX9_gapOf 91 = .ok (.iaload, 1) := by decide +kernel
theorem dX9_gapOf_92 : decode cX9_gapOf 92 = .ok (.iadd, 1) := by decide +kernel
theorem dX9_gapOf_93 : decode cX9_gapOf 93 = .ok (.istore_n 3, 1) := by decide +kernel
theorem dX9_gapOf_94 : decode cX9_gapOf 94 = .ok (.iinc 4 1, 3) := by decide +kernel
theorem dX9_gapOf_97 : decode cX9_gapOf 97 = .ok (.goto (-28), 3) := by decide +kernel
theorem dX9_gapOf_100 : decode cX9_gapOf 100 = .ok (.iload_n 3, 1) := by decide +kernel
theorem dX9_gapOf_101 : decode cX9_gapOf 101 = .ok (.ifCond .ne 11, 3) := by decide +kernel
theorem dX9_gapOf_104 : decode cX9_gapOf 104 = .ok (.aload_n 0, 1) := by decide +kernel
theorem dX9_gapOf_105 : decode cX9_gapOf 105 = .ok (.iconst 3, 1) := by decide +kernel
theorem dX9_gapOf_106 : decode cX9_gapOf 106 = .ok (.iload_n 1, 1) := by decide +kernel
theorem dX9_gapOf_107 : decode cX9_gapOf 107 = .ok (.invokevirtual 169, 3) := by decide +kernel
theorem dX9_gapOf_110 : decode cX9_gapOf 110 = .ok (.iconst 0, 1) := by decide +kernel
theorem dX9_gapOf_111 : decode cX9_gapOf 111 = .ok (.ireturn, 1) := by decide +kernel
theorem dX9_gapOf_112 : decode cX9_gapOf 112 = .ok (.aload_n 0, 1) := by decide +kernel
theorem dX9_gapOf_113 : decode cX9_gapOf 113 = .ok (.getfield 133, 3) := by decide +kernel
theorem dX9_gapOf_116 : decode cX9_gapOf 116 = .ok (.aload_n 0, 1) := by decide +kernel
theorem dX9_gapOf_117 : decode cX9_gapOf 117 = .ok (.getfield 189, 3) := by decide +kernel
theorem dX9_gapOf_120 : decode cX9_gapOf 120 = .ok (.isub, 1) := by decide +kernel
theorem dX9_gapOf_121 : decode cX9_gapOf 121 = .ok (.iload_n 3, 1) := by decide +kernel
theorem dX9_gapOf_122 : decode cX9_gapOf 122 = .ok (.idiv, 1) := by decide +kernel
theorem dX9_gapOf_123 : decode cX9_gapOf 123 = .ok (.ireturn, 1) := by decide +kernel
theorem dX9_endsIn_0 : decode cX9_endsIn 0 = .ok (.aload_n 0, 1) := by decide +kernel
theorem dX9_endsIn_1 : decode cX9_endsIn 1 = .ok (.getfield 28, 3) := by decide +kernel
theorem dX9_endsIn_4 : decode cX9_endsIn 4 = .ok (.iload_n 1, 1) := by decide +kernel
theorem dX9_endsIn_5 : decode cX9_endsIn 5 = .ok (.iload_n 2, 1) := by decide +kernel
theorem dX9_endsIn_6 : decode cX9_endsIn 6 = .ok (.iastore, 1) := by decide +kernel
theorem dX9_endsIn_7 : decode cX9_endsIn 7 = .ok (.iconst 0, 1) := by decide +kernel
theorem dX9_endsIn_8 : decode cX9_endsIn 8 = .ok (.istore_n 3, 1) := by decide +kernel
theorem dX9_endsIn_9 : decode cX9_endsIn 9 = .ok (.iload_n 3, 1) := by decide +kernel
theorem dX9_endsIn_10 : decode cX9_endsIn 10 = .ok (.aload_n 0, 1) := by decide +kernel
theorem dX9_endsIn_11 : decode cX9_endsIn 11 = .ok (.getfield 120, 3) := by decide +kernel
theorem dX9_endsIn_14 : decode cX9_endsIn 14 = .ok (.if_icmp .ge 54, 3) := by decide +kernel
theorem dX9_endsIn_17 : decode cX9_endsIn 17 = .ok (.aload_n 0, 1) := by decide +kernel
theorem dX9_endsIn_18 : decode cX9_endsIn 18 = .ok (.getfield 53, 3) := by decide +kernel
theorem dX9_endsIn_21 : decode cX9_endsIn 21 = .ok (.bipush 8, 2) := by decide +kernel
theorem dX9_endsIn_23 : decode cX9_endsIn 23 = .ok (.iload_n 1, 1) := by decide +kernel
theorem dX9_endsIn_24 : decode cX9_endsIn 24 = .ok (.imul, 1) := by decide +kernel
theorem dX9_endsIn_25 : decode cX9_endsIn 25 = .ok (.iload_n 3, 1) := by decide +kernel
theorem dX9_endsIn_26 : decode cX9_endsIn 26 = .ok (.iadd, 1) := by decide +kernel
theorem dX9_endsIn_27 : decode cX9_endsIn 27 = .ok (.iaload, 1) := by decide +kernel
theorem dX9_endsIn_28 : decode cX9_endsIn 28 = .ok (.istore 4, 2) := by decide +kernel
theorem dX9_endsIn_30 : decode cX9_endsIn 30 = .ok (.iload 4, 2) := by decide +kernel
theorem dX9_endsIn_32 : decode cX9_endsIn 32 = .ok (.ifCond .le 30, 3) := by decide +kernel
theorem dX9_endsIn_35 : decode cX9_endsIn 35 = .ok (.iload_n 2, 1) := by decide +kernel
theorem dX9_endsIn_36 : decode cX9_endsIn 36 = .ok (.iload 4, 2) := by decide +kernel
theorem dX9_endsIn_38 : decode cX9_endsIn 38 = .ok (.iadd, 1) := by decide +kernel
theorem dX9_endsIn_39 : decode cX9_endsIn 39 = .ok (.iconst 1, 1) := by decide +kernel
theorem dX9_endsIn_40 : decode cX9_endsIn 40 = .ok (.isub, 1) := by decide +kernel
theorem dX9_endsIn_41 : decode cX9_endsIn 41 = .ok (.aload_n 0, 1) := by decide +kernel
theorem dX9_endsIn_42 : decode cX9_endsIn 42 = .ok (.getfield 31, 3) := by decide +kernel
theorem dX9_endsIn_45 : decode cX9_endsIn 45 = .ok (.iload_n 3, 1) := by decide +kernel
theorem dX9_endsIn_46 : decode cX9_endsIn 46 = .ok (.iaload, 1) := by decide +kernel
theorem dX9_endsIn_47 : decode cX9_endsIn 47 = .ok (.if_icmp .le 15, 3) := by decide +kernel
theorem dX9_endsIn_50 : decode cX9_endsIn 50 = .ok (.aload_n 0, 1) := by decide +kernel
theorem dX9_endsIn_51 : decode cX9_endsIn 51 = .ok (.getfield 31, 3) := by decide +kernel
theorem dX9_endsIn_54 : decode cX9_endsIn 54 = .ok (.iload_n 3, 1) := by decide +kernel
theorem dX9_endsIn_55 : decode cX9_endsIn 55 = .ok (.iload_n 2, 1) := by decide +kernel
theorem dX9_endsIn_56 : decode cX9_endsIn 56 = .ok (.iload 4, 2) := by decide +kernel
theorem dX9_endsIn_58 : decode cX9_endsIn 58 = .ok (.iadd, 1) := by decide +kernel
theorem dX9_endsIn_59 : decode cX9_endsIn 59 = .ok (.iconst 1, 1) := by decide +kernel
theorem dX9_endsIn_60 : decode cX9_endsIn 60 = .ok (.isub, 1) := by decide +kernel
theorem dX9_endsIn_61 : decode cX9_endsIn 61 = .ok (.iastore, 1) := by decide +kernel
theorem dX9_endsIn_62 : decode cX9_endsIn 62 = .ok (.iinc 3 1, 3) := by decide +kernel
theorem dX9_endsIn_65 : decode cX9_endsIn 65 = .ok (.goto (-56), 3) := by decide +kernel
theorem dX9_endsIn_68 : decode cX9_endsIn 68 = .ok (.return_, 1) := by decide +kernel
theorem dX9_leastOf_0 : decode cX9_leastOf 0 = .ok (.iconst 0, 1) := by decide +kernel
theorem dX9_leastOf_1 : decode cX9_leastOf 1 = .ok (.istore_n 2, 1) := by decide +kernel
theorem dX9_leastOf_2 : decode cX9_leastOf 2 = .ok (.iconst 0, 1) := by decide +kernel
theorem dX9_leastOf_3 : decode cX9_leastOf 3 = .ok (.istore_n 3, 1) := by decide +kernel
theorem dX9_leastOf_4 : decode cX9_leastOf 4 = .ok (.iload_n 3, 1) := by decide +kernel
theorem dX9_leastOf_5 : decode cX9_leastOf 5 = .ok (.iconst 4, 1) := by decide +kernel
theorem dX9_leastOf_6 : decode cX9_leastOf 6 = .ok (.if_icmp .ge 49, 3) := by decide +kernel
theorem dX9_leastOf_9 : decode cX9_leastOf 9 = .ok (.aload_n 0, 1) := by decide +kernel
theorem dX9_leastOf_10 : decode cX9_leastOf 10 = .ok (.getfield 56, 3) := by decide +kernel
theorem dX9_leastOf_13 : decode cX9_leastOf 13 = .ok (.iconst 4, 1) := by decide +kernel
theorem dX9_leastOf_14 : decode cX9_leastOf 14 = .ok (.iload_n 1, 1) := by decide +kernel
theorem dX9_leastOf_15 : decode cX9_leastOf 15 = .ok (.imul, 1) := by decide +kernel
theorem dX9_leastOf_16 : decode cX9_leastOf 16 = .ok (.iload_n 3, 1) := by decide +kernel
theorem dX9_leastOf_17 : decode cX9_leastOf 17 = .ok (.iadd, 1) := by decide +kernel
theorem dX9_leastOf_18 : decode cX9_leastOf 18 = .ok (.iaload, 1) := by decide +kernel
theorem dX9_leastOf_19 : decode cX9_leastOf 19 = .ok (.istore 4, 2) := by decide +kernel
theorem dX9_leastOf_21 : decode cX9_leastOf 21 = .ok (.iload 4, 2) := by decide +kernel
theorem dX9_leastOf_23 : decode cX9_leastOf 23 = .ok (.ifCond .lt 24, 3) := by decide +kernel
theorem dX9_leastOf_26 : decode cX9_leastOf 26 = .ok (.aload_n 0, 1) := by decide +kernel
theorem dX9_leastOf_27 : decode cX9_leastOf 27 = .ok (.getfield 37, 3) := by decide +kernel
theorem dX9_leastOf_30 : decode cX9_leastOf 30 = .ok (.iload 4, 2) := by decide +kernel
theorem dX9_leastOf_32 : decode cX9_leastOf 32 = .ok (.iaload, 1) := by decide +kernel
theorem dX9_leastOf_33 : decode cX9_leastOf 33 = .ok (.iload_n 2, 1) := by decide +kernel
theorem dX9_leastOf_34 : decode cX9_leastOf 34 = .ok (.if_icmp .le 13, 3) := by decide +kernel
theorem dX9_leastOf_37 : decode cX9_leastOf 37 = .ok (.aload_n 0, 1) := by decide +kernel
theorem dX9_leastOf_38 : decode cX9_leastOf 38 = .ok (.getfield 37, 3) := by decide +kernel
theorem dX9_leastOf_41 : decode cX9_leastOf 41 = .ok (.iload 4, 2) := by decide +kernel
theorem dX9_leastOf_43 : decode cX9_leastOf 43 = .ok (.iaload, 1) := by decide +kernel
theorem dX9_leastOf_44 : decode cX9_leastOf 44 = .ok (.goto 4, 3) := by decide +kernel
theorem dX9_leastOf_47 : decode cX9_leastOf 47 = .ok (.iload_n 2, 1) := by decide +kernel
theorem dX9_leastOf_48 : decode cX9_leastOf 48 = .ok (.istore_n 2, 1) := by decide +kernel
theorem dX9_leastOf_49 : decode cX9_leastOf 49 = .ok (.iinc 3 1, 3) := by decide +kernel
theorem dX9_leastOf_52 : decode cX9_leastOf 52 = .ok (.goto (-48), 3) := by decide +kernel
theorem dX9_leastOf_55 : decode cX9_leastOf 55 = .ok (.iload_n 2, 1) := by decide +kernel
theorem dX9_leastOf_56 : decode cX9_leastOf 56 = .ok (.ireturn, 1) := by decide +kernel
theorem dX9_greatestOf_0 : decode cX9_greatestOf 0 = .ok (.sipush 1000, 3) := by decide +kernel
theorem dX9_greatestOf_3 : decode cX9_greatestOf 3 = .ok (.istore_n 2, 1) := by decide +kernel
theorem dX9_greatestOf_4 : decode cX9_greatestOf 4 = .ok (.iconst 0, 1) := by decide +kernel
theorem dX9_greatestOf_5 : decode cX9_greatestOf 5 = .ok (.istore_n 3, 1) := by decide +kernel
theorem dX9_greatestOf_6 : decode cX9_greatestOf 6 = .ok (.iload_n 3, 1) := by decide +kernel
theorem dX9_greatestOf_7 : decode cX9_greatestOf 7 = .ok (.iconst 4, 1) := by decide +kernel
theorem dX9_greatestOf_8 : decode cX9_greatestOf 8 = .ok (.if_icmp .ge 49, 3) := by decide +kernel
theorem dX9_greatestOf_11 : decode cX9_greatestOf 11 = .ok (.aload_n 0, 1) := by decide +kernel
theorem dX9_greatestOf_12 : decode cX9_greatestOf 12 = .ok (.getfield 56, 3) := by decide +kernel
theorem dX9_greatestOf_15 : decode cX9_greatestOf 15 = .ok (.iconst 4, 1) := by decide +kernel
theorem dX9_greatestOf_16 : decode cX9_greatestOf 16 = .ok (.iload_n 1, 1) := by decide +kernel
theorem dX9_greatestOf_17 : decode cX9_greatestOf 17 = .ok (.imul, 1) := by decide +kernel
theorem dX9_greatestOf_18 : decode cX9_greatestOf 18 = .ok (.iload_n 3, 1) := by decide +kernel
theorem dX9_greatestOf_19 : decode cX9_greatestOf 19 = .ok (.iadd, 1) := by decide +kernel
theorem dX9_greatestOf_20 : decode cX9_greatestOf 20 = .ok (.iaload, 1) := by decide +kernel
theorem dX9_greatestOf_21 : decode cX9_greatestOf 21 = .ok (.istore 4, 2) := by decide +kernel
theorem dX9_greatestOf_23 : decode cX9_greatestOf 23 = .ok (.iload 4, 2) := by decide +kernel
theorem dX9_greatestOf_25 : decode cX9_greatestOf 25 = .ok (.ifCond .lt 24, 3) := by decide +kernel
theorem dX9_greatestOf_28 : decode cX9_greatestOf 28 = .ok (.aload_n 0, 1) := by decide +kernel
theorem dX9_greatestOf_29 : decode cX9_greatestOf 29 = .ok (.getfield 40, 3) := by decide +kernel
theorem dX9_greatestOf_32 : decode cX9_greatestOf 32 = .ok (.iload 4, 2) := by decide +kernel
theorem dX9_greatestOf_34 : decode cX9_greatestOf 34 = .ok (.iaload, 1) := by decide +kernel
theorem dX9_greatestOf_35 : decode cX9_greatestOf 35 = .ok (.iload_n 2, 1) := by decide +kernel
theorem dX9_greatestOf_36 : decode cX9_greatestOf 36 = .ok (.if_icmp .ge 13, 3) := by decide +kernel
theorem dX9_greatestOf_39 : decode cX9_greatestOf 39 = .ok (.aload_n 0, 1) := by decide +kernel
theorem dX9_greatestOf_40 : decode cX9_greatestOf 40 = .ok (.getfield 40, 3) := by decide +kernel
theorem dX9_greatestOf_43 : decode cX9_greatestOf 43 = .ok (.iload 4, 2) := by decide +kernel
theorem dX9_greatestOf_45 : decode cX9_greatestOf 45 = .ok (.iaload, 1) := by decide +kernel
theorem dX9_greatestOf_46 : decode cX9_greatestOf 46 = .ok (.goto 4, 3) := by decide +kernel
theorem dX9_greatestOf_49 : decode cX9_greatestOf 49 = .ok (.iload_n 2, 1) := by decide +kernel
theorem dX9_greatestOf_50 : decode cX9_greatestOf 50 = .ok (.istore_n 2, 1) := by decide +kernel
theorem dX9_greatestOf_51 : decode cX9_greatestOf 51 = .ok (.iinc 3 1, 3) := by decide +kernel
theorem dX9_greatestOf_54 : decode cX9_greatestOf 54 = .ok (.goto (-48), 3) := by decide +kernel
theorem dX9_greatestOf_57 : decode cX9_greatestOf 57 = .ok (.iload_n 2, 1) := by decide +kernel
theorem dX9_greatestOf_58 : decode cX9_greatestOf 58 = .ok (.aload_n 0, 1) := by decide +kernel
theorem dX9_greatestOf_59 : decode cX9_greatestOf 59 = .ok (.iload_n 1, 1) := by decide +kernel
theorem dX9_greatestOf_60 : decode cX9_greatestOf 60 = .ok (.invokevirtual 192, 3) := by decide +kernel
theorem dX9_greatestOf_63 : decode cX9_greatestOf 63 = .ok (.if_icmp .ge 11, 3) := by decide +kernel
theorem dX9_greatestOf_66 : decode cX9_greatestOf 66 = .ok (.aload_n 0, 1) := by decide +kernel
theorem dX9_greatestOf_67 : decode cX9_greatestOf 67 = .ok (.iload_n 1, 1) := by decide +kernel
theorem dX9_greatestOf_68 : decode cX9_greatestOf 68 = .ok (.invokevirtual 192, 3) := by decide +kernel
theorem dX9_greatestOf_71 : decode cX9_greatestOf 71 = .ok (.goto 4, 3) := by decide +kernel
theorem dX9_greatestOf_74 : decode cX9_greatestOf 74 = .ok (.iload_n 2, 1) := by decide +kernel
theorem dX9_greatestOf_75 : decode cX9_greatestOf 75 = .ok (.ireturn, 1) := by decide +kernel
theorem dX9_askedFirst_0 : decode cX9_askedFirst 0 = .ok (.bipush (-5), 2) := by decide +kernel
theorem dX9_askedFirst_2 : decode cX9_askedFirst 2 = .ok (.istore_n 2, 1) := by decide +kernel
theorem dX9_askedFirst_3 : decode cX9_askedFirst 3 = .ok (.iconst 0, 1) := by decide +kernel
theorem dX9_askedFirst_4 : decode cX9_askedFirst 4 = .ok (.istore_n 3, 1) := by decide +kernel
theorem dX9_askedFirst_5 : decode cX9_askedFirst 5 = .ok (.iload_n 3, 1) := by decide +kernel
theorem dX9_askedFirst_6 : decode cX9_askedFirst 6 = .ok (.iconst 4, 1) := by decide +kernel
theorem dX9_askedFirst_7 : decode cX9_askedFirst 7 = .ok (.if_icmp .ge 59, 3) := by decide +kernel
theorem dX9_askedFirst_10 : decode cX9_askedFirst 10 = .ok (.aload_n 0, 1) := by decide +kernel
theorem dX9_askedFirst_11 : decode cX9_askedFirst 11 = .ok (.getfield 56, 3) := by decide +kernel
theorem dX9_askedFirst_14 : decode cX9_askedFirst 14 = .ok (.iconst 4, 1) := by decide +kernel
theorem dX9_askedFirst_15 : decode cX9_askedFirst 15 = .ok (.iload_n 1, 1) := by decide +kernel
theorem dX9_askedFirst_16 : decode cX9_askedFirst 16 = .ok (.imul, 1) := by decide +kernel
theorem dX9_askedFirst_17 : decode cX9_askedFirst 17 = .ok (.iload_n 3, 1) := by decide +kernel
theorem dX9_askedFirst_18 : decode cX9_askedFirst 18 = .ok (.iadd, 1) := by decide +kernel
theorem dX9_askedFirst_19 : decode cX9_askedFirst 19 = .ok (.iaload, 1) := by decide +kernel
theorem dX9_askedFirst_20 : decode cX9_askedFirst 20 = .ok (.istore 4, 2) := by decide +kernel
theorem dX9_askedFirst_22 : decode cX9_askedFirst 22 = .ok (.iload 4, 2) := by decide +kernel
theorem dX9_askedFirst_24 : decode cX9_askedFirst 24 = .ok (.ifCond .lt 36, 3) := by decide +kernel
theorem dX9_askedFirst_27 : decode cX9_askedFirst 27 = .ok (.aload_n 0, 1) := by decide +kernel
theorem dX9_askedFirst_28 : decode cX9_askedFirst 28 = .ok (.getfield 34, 3) := by decide +kernel
theorem dX9_askedFirst_31 : decode cX9_askedFirst 31 = .ok (.iload 4, 2) := by decide +kernel
theorem dX9_askedFirst_33 : decode cX9_askedFirst 33 = .ok (.iaload, 1) := by decide +kernel
theorem dX9_askedFirst_34 : decode cX9_askedFirst 34 = .ok (.ifCond .lt 26, 3) := by decide +kernel
theorem dX9_askedFirst_37 : decode cX9_askedFirst 37 = .ok (.iload_n 2, 1) := by decide +kernel
theorem dX9_askedFirst_38 : decode cX9_askedFirst 38 = .ok (.ifCond .lt 14, 3) := by decide +kernel
theorem dX9_askedFirst_41 : decode cX9_askedFirst 41 = .ok (.aload_n 0, 1) := by decide +kernel
theorem dX9_askedFirst_42 : decode cX9_askedFirst 42 = .ok (.getfield 34, 3) := by decide +kernel
theorem dX9_askedFirst_45 : decode cX9_askedFirst 45 = .ok (.iload 4, 2) := by decide +kernel
theorem dX9_askedFirst_47 : decode cX9_askedFirst 47 = .ok (.iaload, 1) := by decide +kernel
theorem dX9_askedFirst_48 : decode cX9_askedFirst 48 = .ok (.iload_n 2, 1) := by decide +kernel
theorem dX9_askedFirst_49 : decode cX9_askedFirst 49 = .ok (.if_icmp .ge 11, 3) := by decide +kernel
theorem dX9_askedFirst_52 : decode cX9_askedFirst 52 = .ok (.aload_n 0, 1) := by decide +kernel
theorem dX9_askedFirst_53 : decode cX9_askedFirst 53 = .ok (.getfield 34, 3) := by decide +kernel
theorem dX9_askedFirst_56 : decode cX9_askedFirst 56 = .ok (.iload 4, 2) := by decide +kernel
theorem dX9_askedFirst_58 : decode cX9_askedFirst 58 = .ok (.iaload, 1) := by decide +kernel
theorem dX9_askedFirst_59 : decode cX9_askedFirst 59 = .ok (.istore_n 2, 1) := by decide +kernel
theorem dX9_askedFirst_60 : decode cX9_askedFirst 60 = .ok (.iinc 3 1, 3) := by decide +kernel
theorem dX9_askedFirst_63 : decode cX9_askedFirst 63 = .ok (.goto (-58), 3) := by decide +kernel
theorem dX9_askedFirst_66 : decode cX9_askedFirst 66 = .ok (.iload_n 2, 1) := by decide +kernel
theorem dX9_askedFirst_67 : decode cX9_askedFirst 67 = .ok (.ireturn, 1) := by decide +kernel
theorem dX9_next_0 : decode cX9_next 0 = .ok (.aload_n 0, 1) := by decide +kernel
theorem dX9_next_1 : decode cX9_next 1 = .ok (.getfield 102, 3) := by decide +kernel
theorem dX9_next_4 : decode cX9_next 4 = .ok (.ifCond .lt 8, 3) := by decide +kernel
theorem dX9_next_7 : decode cX9_next 7 = .ok (.aload_n 0, 1) := by decide +kernel
theorem dX9_next_8 : decode cX9_next 8 = .ok (.getfield 102, 3) := by decide +kernel
theorem dX9_next_11 : decode cX9_next 11 = .ok (.ireturn, 1) := by decide +kernel
theorem dX9_next_12 : decode cX9_next 12 = .ok (.bipush (-5), 2) := by decide +kernel
theorem dX9_next_14 : decode cX9_next 14 = .ok (.istore_n 1, 1) := by decide +kernel
theorem dX9_next_15 : decode cX9_next 15 = .ok (.iconst 0, 1) := by decide +kernel
theorem dX9_next_16 : decode cX9_next 16 = .ok (.istore_n 2, 1) := by decide +kernel
theorem dX9_next_17 : decode cX9_next 17 = .ok (.iconst 1, 1) := by decide +kernel
theorem dX9_next_18 : decode cX9_next 18 = .ok (.istore_n 3, 1) := by decide +kernel
theorem dX9_next_19 : decode cX9_next 19 = .ok (.iload_n 3, 1) := by decide +kernel
theorem dX9_next_20 : decode cX9_next 20 = .ok (.aload_n 0, 1) := by decide +kernel
theorem dX9_next_21 : decode cX9_next 21 = .ok (.getfield 127, 3) := by decide +kernel
theorem dX9_next_24 : decode cX9_next 24 = .ok (.if_icmp .gt 51, 3) := by decide +kernel
theorem dX9_next_27 : decode cX9_next 27 = .ok (.aload_n 0, 1) := by decide +kernel
theorem dX9_next_28 : decode cX9_next 28 = .ok (.getfield 99, 3) := by decide +kernel
theorem dX9_next_31 : decode cX9_next 31 = .ok (.iload_n 3, 1) := by decide +kernel
theorem dX9_next_32 : decode cX9_next 32 = .ok (.iadd, 1) := by decide +kernel
theorem dX9_next_33 : decode cX9_next 33 = .ok (.aload_n 0, 1) := by decide +kernel
theorem dX9_next_34 : decode cX9_next 34 = .ok (.getfield 127, 3) := by decide +kernel
theorem dX9_next_37 : decode cX9_next 37 = .ok (.irem, 1) := by decide +kernel
theorem dX9_next_38 : decode cX9_next 38 = .ok (.istore 4, 2) := by decide +kernel
theorem dX9_next_40 : decode cX9_next 40 = .ok (.aload_n 0, 1) := by decide +kernel
theorem dX9_next_41 : decode cX9_next 41 = .ok (.iload 4, 2) := by decide +kernel
theorem dX9_next_43 : decode cX9_next 43 = .ok (.invokevirtual 195, 3) := by decide +kernel
theorem dX9_next_46 : decode cX9_next 46 = .ok (.istore 5, 2) := by decide +kernel
theorem dX9_next_48 : decode cX9_next 48 = .ok (.iload 5, 2) := by decide +kernel
theorem dX9_next_50 : decode cX9_next 50 = .ok (.ifCond .lt 19, 3) := by decide +kernel
theorem dX9_next_53 : decode cX9_next 53 = .ok (.iload_n 1, 1) := by decide +kernel
theorem dX9_next_54 : decode cX9_next 54 = .ok (.ifCond .lt 9, 3) := by decide +kernel
theorem dX9_next_57 : decode cX9_next 57 = .ok (.iload 5, 2) := by decide +kernel
theorem dX9_next_59 : decode cX9_next 59 = .ok (.iload_n 2, 1) := by decide +kernel
theorem dX9_next_60 : decode cX9_next 60 = .ok (.if_icmp .ge 9, 3) := by decide +kernel
theorem dX9_next_63 : decode cX9_next 63 = .ok (.iload 4, 2) := by decide +kernel
theorem dX9_next_65 : decode cX9_next 65 = .ok (.istore_n 1, 1) := by decide +kernel
theorem dX9_next_66 : decode cX9_next 66 = .ok (.iload 5, 2) := by decide +kernel
theorem dX9_next_68 : decode cX9_next 68 = .ok (.istore_n 2, 1) := by decide +kernel
theorem dX9_next_69 : decode cX9_next 69 = .ok (.iinc 3 1, 3) := by decide +kernel
theorem dX9_next_72 : decode cX9_next 72 = .ok (.goto (-53), 3) := by decide +kernel
theorem dX9_next_75 : decode cX9_next 75 = .ok (.iload_n 1, 1) := by decide +kernel
theorem dX9_next_76 : decode cX9_next 76 = .ok (.ireturn, 1) := by decide +kernel
theorem dX9_doOrders_0 : decode cX9_doOrders 0 = .ok (.iconst 0, 1) := by decide +kernel
theorem dX9_doOrders_1 : decode cX9_doOrders 1 = .ok (.istore_n 1, 1) := by decide +kernel
theorem dX9_doOrders_2 : decode cX9_doOrders 2 = .ok (.iconst 0, 1) := by decide +kernel
theorem dX9_doOrders_3 : decode cX9_doOrders 3 = .ok (.istore_n 2, 1) := by decide +kernel
theorem dX9_doOrders_4 : decode cX9_doOrders 4 = .ok (.iload_n 2, 1) := by decide +kernel
theorem dX9_doOrders_5 : decode cX9_doOrders 5 = .ok (.aload_n 0, 1) := by decide +kernel
theorem dX9_doOrders_6 : decode cX9_doOrders 6 = .ok (.getfield 150, 3) := by decide +kernel
theorem dX9_doOrders_9 : decode cX9_doOrders 9 = .ok (.if_icmp .ge 131, 3) := by decide +kernel
theorem dX9_doOrders_12 : decode cX9_doOrders 12 = .ok (.aload_n 0, 1) := by decide +kernel
theorem dX9_doOrders_13 : decode cX9_doOrders 13 = .ok (.getfield 80, 3) := by decide +kernel
theorem dX9_doOrders_16 : decode cX9_doOrders 16 = .ok (.iload_n 2, 1) := by decide +kernel
theorem dX9_doOrders_17 : decode cX9_doOrders 17 = .ok (.iaload, 1) := by decide +kernel
theorem dX9_doOrders_18 : decode cX9_doOrders 18 = .ok (.aload_n 0, 1) := by decide +kernel
theorem dX9_doOrders_19 : decode cX9_doOrders 19 = .ok (.getfield 133, 3) := by decide +kernel
theorem dX9_doOrders_22 : decode cX9_doOrders 22 = .ok (.if_icmp .ne 49, 3) := by decide +kernel
theorem dX9_doOrders_25 : decode cX9_doOrders 25 = .ok (.aload_n 0, 1) := by decide +kernel
theorem dX9_doOrders_26 : decode cX9_doOrders 26 = .ok (.getfield 68, 3) := by decide +kernel
theorem dX9_doOrders_29 : decode cX9_doOrders 29 = .ok (.iload_n 2, 1) := by decide +kernel
theorem dX9_doOrders_30 : decode cX9_doOrders 30 = .ok (.iaload, 1) := by decide +kernel
theorem dX9_doOrders_31 : decode cX9_doOrders 31 = .ok (.istore_n 3, 1) := by decide +kernel
theorem dX9_doOrders_32 : decode cX9_doOrders 32 = .ok (.aload_n 0, 1) := by decide +kernel
theorem dX9_doOrders_33 : decode cX9_doOrders 33 = .ok (.getfield 37, 3) := by decide +kernel
theorem dX9_doOrders_36 : decode cX9_doOrders 36 = .ok (.iload_n 3, 1) := by decide +kernel
theorem dX9_doOrders_37 : decode cX9_doOrders 37 = .ok (.aload_n 0, 1) := by decide +kernel
theorem dX9_doOrders_38 : decode cX9_doOrders 38 = .ok (.getfield 71, 3) := by decide +kernel
theorem dX9_doOrders_41 : decode cX9_doOrders 41 = .ok (.iload_n 2, 1) := by decide +kernel
theorem dX9_doOrders_42 : decode cX9_doOrders 42 = .ok (.iaload, 1) := by decide +kernel
theorem dX9_doOrders_43 : decode cX9_doOrders 43 = .ok (.iastore, 1) := by decide +kernel
theorem dX9_doOrders_44 : decode cX9_doOrders 44 = .ok (.aload_n 0, 1) := by decide +kernel
theorem dX9_doOrders_45 : decode cX9_doOrders 45 = .ok (.getfield 40, 3) := by decide +kernel
theorem dX9_doOrders_48 : decode cX9_doOrders 48 = .ok (.iload_n 3, 1) := by decide +kernel
theorem dX9_doOrders_49 : decode cX9_doOrders 49 = .ok (.aload_n 0, 1) := by decide +kernel
theorem dX9_doOrders_50 : decode cX9_doOrders 50 = .ok (.getfield 74, 3) := by decide +kernel
theorem dX9_doOrders_53 : decode cX9_doOrders 53 = .ok (.iload_n 2, 1) := by decide +kernel
theorem dX9_doOrders_54 : decode cX9_doOrders 54 = .ok (.iaload, 1) := by decide +kernel
theorem dX9_doOrders_55 : decode cX9_doOrders 55 = .ok (.iastore, 1) := by decide +kernel
theorem dX9_doOrders_56 : decode cX9_doOrders 56 = .ok (.aload_n 0, 1) := by decide +kernel
theorem dX9_doOrders_57 : decode cX9_doOrders 57 = .ok (.getfield 43, 3) := by decide +kernel
theorem dX9_doOrders_60 : decode cX9_doOrders 60 = .ok (.iload_n 3, 1) := by decide +kernel
theorem dX9_doOrders_61 : decode cX9_doOrders 61 = .ok (.aload_n 0, 1) := by decide +kernel
theorem dX9_doOrders_62 : decode cX9_doOrders 62 = .ok (.getfield 77, 3) := by decide +kernel
theorem dX9_doOrders_65 : decode cX9_doOrders 65 = .ok (.iload_n 2, 1) := by decide +kernel
theorem dX9_doOrders_66 : decode cX9_doOrders 66 = .ok (.iaload, 1) := by decide +kernel
theorem dX9_doOrders_67 : decode cX9_doOrders 67 = .ok (.iastore, 1) := by decide +kernel
theorem dX9_doOrders_68 : decode cX9_doOrders 68 = .ok (.goto 66, 3) := by decide +kernel
theorem dX9_doOrders_71 : decode cX9_doOrders 71 = .ok (.aload_n 0, 1) := by decide +kernel
theorem dX9_doOrders_72 : decode cX9_doOrders 72 = .ok (.getfield 68, 3) := by decide +kernel
theorem dX9_doOrders_75 : decode cX9_doOrders 75 = .ok (.iload_n 1, 1) := by decide +kernel
theorem dX9_doOrders_76 : decode cX9_doOrders 76 = .ok (.aload_n 0, 1) := by decide +kernel
theorem dX9_doOrders_77 : decode cX9_doOrders 77 = .ok (.getfield 68, 3) := by decide +kernel
theorem dX9_doOrders_80 : decode cX9_doOrders 80 = .ok (.iload_n 2, 1) := by decide +kernel
theorem dX9_doOrders_81 : decode cX9_doOrders 81 = .ok (.iaload, 1) := by decide +kernel
theorem dX9_doOrders_82 : decode cX9_doOrders 82 = .ok (.iastore, 1) := by decide +kernel
theorem dX9_doOrders_83 : decode cX9_doOrders 83 = .ok (.aload_n 0, 1) := by decide +kernel
theorem dX9_doOrders_84 : decode cX9_doOrders 84 = .ok (.getfield 71, 3) := by decide +kernel
theorem dX9_doOrders_87 : decode cX9_doOrders 87 = .ok (.iload_n 1, 1) := by decide +kernel
theorem dX9_doOrders_88 : decode cX9_doOrders 88 = .ok (.aload_n 0, 1) := by decide +kernel
theorem dX9_doOrders_89 : decode cX9_doOrders 89 = .ok (.getfield 71, 3) := by decide +kernel
theorem dX9_doOrders_92 : decode cX9_doOrders 92 = .ok (.iload_n 2, 1) := by decide +kernel
theorem dX9_doOrders_93 : decode cX9_doOrders 93 = .ok (.iaload, 1) := by decide +kernel
theorem dX9_doOrders_94 : decode cX9_doOrders 94 = .ok (.iastore, 1) := by decide +kernel
theorem dX9_doOrders_95 : decode cX9_doOrders 95 = .ok (.aload_n 0, 1) := by decide +kernel
theorem dX9_doOrders_96 : decode cX9_doOrders 96 = .ok (.getfield 74, 3) := by decide +kernel
theorem dX9_doOrders_99 : decode cX9_doOrders 99 = .ok (.iload_n 1, 1) := by decide +kernel
theorem dX9_doOrders_100 : decode cX9_doOrders 100 = .ok (.aload_n 0, 1) := by decide +kernel
theorem dX9_doOrders_101 : decode cX9_doOrders 101 = .ok (.getfield 74, 3) := by decide +kernel
theorem dX9_doOrders_104 : decode cX9_doOrders 104 = .ok (.iload_n 2, 1) := by decide +kernel
theorem dX9_doOrders_105 : decode cX9_doOrders 105 = .ok (.iaload, 1) := by decide +kernel
theorem dX9_doOrders_106 : decode cX9_doOrders 106 = .ok (.iastore, 1) := by decide +kernel
theorem dX9_doOrders_107 : decode cX9_doOrders 107 = .ok (.aload_n 0, 1) := by decide +kernel
theorem dX9_doOrders_108 : decode cX9_doOrders 108 = .ok (.getfield 77, 3) := by decide +kernel
theorem dX9_doOrders_111 : decode cX9_doOrders 111 = .ok (.iload_n 1, 1) := by decide +kernel
theorem dX9_doOrders_112 : decode cX9_doOrders 112 = .ok (.aload_n 0, 1) := by decide +kernel
theorem dX9_doOrders_113 : decode cX9_doOrders 113 = .ok (.getfield 77, 3) := by decide +kernel
theorem dX9_doOrders_116 : decode cX9_doOrders 116 = .ok (.iload_n 2, 1) := by decide +kernel
theorem dX9_doOrders_117 : decode cX9_doOrders 117 = .ok (.iaload, 1) := by decide +kernel
theorem dX9_doOrders_118 : decode cX9_doOrders 118 = .ok (.iastore, 1) := by decide +kernel
theorem dX9_doOrders_119 : decode cX9_doOrders 119 = .ok (.aload_n 0, 1) := by decide +kernel
theorem dX9_doOrders_120 : decode cX9_doOrders 120 = .ok (.getfield 80, 3) := by decide +kernel
theorem dX9_doOrders_123 : decode cX9_doOrders 123 = .ok (.iload_n 1, 1) := by decide +kernel
theorem dX9_doOrders_124 : decode cX9_doOrders 124 = .ok (.aload_n 0, 1) := by decide +kernel
theorem dX9_doOrders_125 : decode cX9_doOrders 125 = .ok (.getfield 80, 3) := by decide +kernel
theorem dX9_doOrders_128 : decode cX9_doOrders 128 = .ok (.iload_n 2, 1) := by decide +kernel
theorem dX9_doOrders_129 : decode cX9_doOrders 129 = .ok (.iaload, 1) := by decide +kernel
theorem dX9_doOrders_130 : decode cX9_doOrders 130 = .ok (.iastore, 1) := by decide +kernel
theorem dX9_doOrders_131 : decode cX9_doOrders 131 = .ok (.iinc 1 1, 3) := by decide +kernel
theorem dX9_doOrders_134 : decode cX9_doOrders 134 = .ok (.iinc 2 1, 3) := by decide +kernel
theorem dX9_doOrders_137 : decode cX9_doOrders 137 = .ok (.goto (-133), 3) := by decide +kernel
theorem dX9_doOrders_140 : decode cX9_doOrders 140 = .ok (.aload_n 0, 1) := by decide +kernel
theorem dX9_doOrders_141 : decode cX9_doOrders 141 = .ok (.iload_n 1, 1) := by decide +kernel
theorem dX9_doOrders_142 : decode cX9_doOrders 142 = .ok (.putfield 150, 3) := by decide +kernel
theorem dX9_doOrders_145 : decode cX9_doOrders 145 = .ok (.return_, 1) := by decide +kernel
theorem dX9_readAll_0 : decode cX9_readAll 0 = .ok (.iconst 0, 1) := by decide +kernel
theorem dX9_readAll_1 : decode cX9_readAll 1 = .ok (.istore_n 1, 1) := by decide +kernel
theorem dX9_readAll_2 : decode cX9_readAll 2 = .ok (.iload_n 1, 1) := by decide +kernel
theorem dX9_readAll_3 : decode cX9_readAll 3 = .ok (.aload_n 0, 1) := by decide +kernel
theorem dX9_readAll_4 : decode cX9_readAll 4 = .ok (.getfield 120, 3) := by decide +kernel
theorem dX9_readAll_7 : decode cX9_readAll 7 = .ok (.if_icmp .ge 70, 3) := by decide +kernel
theorem dX9_readAll_10 : decode cX9_readAll 10 = .ok (.aload_n 0, 1) := by decide +kernel
theorem dX9_readAll_11 : decode cX9_readAll 11 = .ok (.getfield 13, 3) := by decide +kernel
theorem dX9_readAll_14 : decode cX9_readAll 14 = .ok (.iload_n 1, 1) := by decide +kernel
theorem dX9_readAll_15 : decode cX9_readAll 15 = .ok (.iaload, 1) := by decide +kernel
theorem dX9_readAll_16 : decode cX9_readAll 16 = .ok (.iconst 1, 1) := by decide +kernel
theorem dX9_readAll_17 : decode cX9_readAll 17 = .ok (.if_icmp .ne 17, 3) := by decide +kernel
theorem dX9_readAll_20 : decode cX9_readAll 20 = .ok (.aload_n 0, 1) := by decide +kernel
theorem dX9_readAll_21 : decode cX9_readAll 21 = .ok (.getfield 50, 3) := by decide +kernel
theorem dX9_readAll_24 : decode cX9_readAll 24 = .ok (.iload_n 1, 1) := by decide +kernel
theorem dX9_readAll_25 : decode cX9_readAll 25 = .ok (.aload_n 0, 1) := by decide +kernel
theorem dX9_readAll_26 : decode cX9_readAll 26 = .ok (.iload_n 1, 1) := by decide +kernel
theorem dX9_readAll_27 : decode cX9_readAll 27 = .ok (.invokevirtual 198, 3) := by decide +kernel
theorem dX9_readAll_30 : decode cX9_readAll 30 = .ok (.bastore, 1) := by decide +kernel
theorem dX9_readAll_31 : decode cX9_readAll 31 = .ok (.goto 40, 3) := by decide +kernel
theorem dX9_readAll_34 : decode cX9_readAll 34 = .ok (.aload_n 0, 1) := by decide +kernel
theorem dX9_readAll_35 : decode cX9_readAll 35 = .ok (.getfield 34, 3) := by decide +kernel
theorem dX9_readAll_38 : decode cX9_readAll 38 = .ok (.iload_n 1, 1) := by decide +kernel
theorem dX9_readAll_39 : decode cX9_readAll 39 = .ok (.iaload, 1) := by decide +kernel
theorem dX9_readAll_40 : decode cX9_readAll 40 = .ok (.ifCond .ge 31, 3) := by decide +kernel
theorem dX9_readAll_43 : decode cX9_readAll 43 = .ok (.aload_n 0, 1) := by decide +kernel
theorem dX9_readAll_44 : decode cX9_readAll 44 = .ok (.getfield 7, 3) := by decide +kernel
theorem dX9_readAll_47 : decode cX9_readAll 47 = .ok (.iload_n 1, 1) := by decide +kernel
theorem dX9_readAll_48 : decode cX9_readAll 48 = .ok (.iaload, 1) := by decide +kernel
theorem dX9_readAll_49 : decode cX9_readAll 49 = .ok (.iconst 4, 1) := by decide +kernel
theorem dX9_readAll_50 : decode cX9_readAll 50 = .ok (.if_icmp .eq 21, 3) := by decide +kernel
theorem dX9_readAll_53 : decode cX9_readAll 53 = .ok (.aload_n 0, 1) := by decide +kernel
theorem dX9_readAll_54 : decode cX9_readAll 54 = .ok (.iload_n 1, 1) := by decide +kernel
theorem dX9_readAll_55 : decode cX9_readAll 55 = .ok (.invokevirtual 201, 3) := by decide +kernel
theorem dX9_readAll_58 : decode cX9_readAll 58 = .ok (.ifCond .eq 13, 3) := by decide +kernel
theorem dX9_readAll_61 : decode cX9_readAll 61 = .ok (.aload_n 0, 1) := by decide +kernel
theorem dX9_readAll_62 : decode cX9_readAll 62 = .ok (.getfield 34, 3) := by decide +kernel
theorem dX9_readAll_65 : decode cX9_readAll 65 = .ok (.iload_n 1, 1) := by decide +kernel
theorem dX9_readAll_66 : decode cX9_readAll 66 = .ok (.aload_n 0, 1) := by decide +kernel
theorem dX9_readAll_67 : decode cX9_readAll 67 = .ok (.getfield 133, 3) := by decide +kernel
theorem dX9_readAll_70 : decode cX9_readAll 70 = .ok (.iastore, 1) := by decide +kernel
theorem dX9_readAll_71 : decode cX9_readAll 71 = .ok (.iinc 1 1, 3) := by decide +kernel
theorem dX9_readAll_74 : decode cX9_readAll 74 = .ok (.goto (-72), 3) := by decide +kernel
theorem dX9_readAll_77 : decode cX9_readAll 77 = .ok (.iconst 0, 1) := by decide +kernel
theorem dX9_readAll_78 : decode cX9_readAll 78 = .ok (.istore_n 1, 1) := by decide +kernel
theorem dX9_readAll_79 : decode cX9_readAll 79 = .ok (.iload_n 1, 1) := by decide +kernel
theorem dX9_readAll_80 : decode cX9_readAll 80 = .ok (.aload_n 0, 1) := by decide +kernel
theorem dX9_readAll_81 : decode cX9_readAll 81 = .ok (.getfield 153, 3) := by decide +kernel
theorem dX9_readAll_84 : decode cX9_readAll 84 = .ok (.if_icmp .ge 128, 3) := by decide +kernel
theorem dX9_readAll_87 : decode cX9_readAll 87 = .ok (.aload_n 0, 1) := by decide +kernel
theorem dX9_readAll_88 : decode cX9_readAll 88 = .ok (.getfield 83, 3) := by decide +kernel
theorem dX9_readAll_91 : decode cX9_readAll 91 = .ok (.iload_n 1, 1) := by decide +kernel
theorem dX9_readAll_92 : decode cX9_readAll 92 = .ok (.iaload, 1) := by decide +kernel
theorem dX9_readAll_93 : decode cX9_readAll 93 = .ok (.istore_n 2, 1) := by decide +kernel
theorem dX9_readAll_94 : decode cX9_readAll 94 = .ok (.aload_n 0, 1) := by decide +kernel
theorem dX9_readAll_95 : decode cX9_readAll 95 = .ok (.getfield 86, 3) := by decide +kernel
theorem dX9_readAll_98 : decode cX9_readAll 98 = .ok (.iload_n 1, 1) := by decide +kernel
theorem dX9_readAll_99 : decode cX9_readAll 99 = .ok (.iaload, 1) := by decide +kernel
theorem dX9_readAll_100 : decode cX9_readAll 100 = .ok (.istore_n 3, 1) := by decide +kernel
theorem dX9_readAll_101 : decode cX9_readAll 101 = .ok (.aload_n 0, 1) := by decide +kernel
theorem dX9_readAll_102 : decode cX9_readAll 102 = .ok (.getfield 59, 3) := by decide +kernel
theorem dX9_readAll_105 : decode cX9_readAll 105 = .ok (.iload_n 2, 1) := by decide +kernel
theorem dX9_readAll_106 : decode cX9_readAll 106 = .ok (.iaload, 1) := by decide +kernel
theorem dX9_readAll_107 : decode cX9_readAll 107 = .ok (.aload_n 0, 1) := by decide +kernel
theorem dX9_readAll_108 : decode cX9_readAll 108 = .ok (.getfield 133, 3) := by decide +kernel
theorem dX9_readAll_111 : decode cX9_readAll 111 = .ok (.if_icmp .le 69, 3) := by decide +kernel
theorem dX9_readAll_114 : decode cX9_readAll 114 = .ok (.aload_n 0, 1) := by decide +kernel
theorem dX9_readAll_115 : decode cX9_readAll 115 = .ok (.getfield 59, 3) := by decide +kernel
theorem dX9_readAll_118 : decode cX9_readAll 118 = .ok (.iload_n 3, 1) := by decide +kernel
theorem dX9_readAll_119 : decode cX9_readAll 119 = .ok (.iaload, 1) := by decide +kernel
theorem dX9_readAll_120 : decode cX9_readAll 120 = .ok (.aload_n 0, 1) := by decide +kernel
theorem dX9_readAll_121 : decode cX9_readAll 121 = .ok (.getfield 133, 3) := by decide +kernel
theorem dX9_readAll_124 : decode cX9_readAll 124 = .ok (.if_icmp .le 56, 3) := by decide +kernel
theorem dX9_readAll_127 : decode cX9_readAll 127 = .ok (.aload_n 0, 1) := by decide +kernel
theorem dX9_readAll_128 : decode cX9_readAll 128 = .ok (.getfield 62, 3) := by decide +kernel
theorem dX9_readAll_131 : decode cX9_readAll 131 = .ok (.sipush 200, 3) := by decide +kernel
theorem dX9_readAll_134 : decode cX9_readAll 134 = .ok (.iload_n 2, 1) := by decide +kernel
theorem dX9_readAll_135 : decode cX9_readAll 135 = .ok (.imul, 1) := by decide +kernel
theorem dX9_readAll_136 : decode cX9_readAll 136 = .ok (.aload_n 0, 1) := by decide +kernel
theorem dX9_readAll_137 : decode cX9_readAll 137 = .ok (.getfield 133, 3) := by decide +kernel
theorem dX9_readAll_140 : decode cX9_readAll 140 = .ok (.iadd, 1) := by decide +kernel
theorem dX9_readAll_141 : decode cX9_readAll 141 = .ok (.iaload, 1) := by decide +kernel
theorem dX9_readAll_142 : decode cX9_readAll 142 = .ok (.ifCond .le 7, 3) := by decide +kernel
theorem dX9_readAll_145 : decode cX9_readAll 145 = .ok (.iconst 1, 1) := by decide +kernel
theorem dX9_readAll_146 : decode cX9_readAll 146 = .ok (.goto 4, 3) := by decide +kernel
theorem dX9_readAll_149 : decode cX9_readAll 149 = .ok (.iconst 0, 1) := by decide +kernel
theorem dX9_readAll_150 : decode cX9_readAll 150 = .ok (.aload_n 0, 1) := by decide +kernel
theorem dX9_readAll_151 : decode cX9_readAll 151 = .ok (.getfield 62, 3) := by decide +kernel
theorem dX9_readAll_154 : decode cX9_readAll 154 = .ok (.sipush 200, 3) := by decide +kernel
theorem dX9_readAll_157 : decode cX9_readAll 157 = .ok (.iload_n 3, 1) := by decide +kernel
theorem dX9_readAll_158 : decode cX9_readAll 158 = .ok (.imul, 1) := by decide +kernel
theorem dX9_readAll_159 : decode cX9_readAll 159 = .ok (.aload_n 0, 1) := by decide +kernel
theorem dX9_readAll_160 : decode cX9_readAll 160 = .ok (.getfield 133, 3) := by decide +kernel
theorem dX9_readAll_163 : decode cX9_readAll 163 = .ok (.iadd, 1) := by decide +kernel
theorem dX9_readAll_164 : decode cX9_readAll 164 = .ok (.iaload, 1) := by decide +kernel
theorem dX9_readAll_165 : decode cX9_readAll 165 = .ok (.ifCond .le 7, 3) := by decide +kernel
theorem dX9_readAll_168 : decode cX9_readAll 168 = .ok (.iconst 1, 1) := by decide +kernel
theorem dX9_readAll_169 : decode cX9_readAll 169 = .ok (.goto 4, 3) := by decide +kernel
theorem dX9_readAll_172 : decode cX9_readAll 172 = .ok (.iconst 0, 1) := by decide +kernel
theorem dX9_readAll_173 : decode cX9_readAll 173 = .ok (.if_icmp .eq 7, 3) := by decide +kernel
theorem dX9_readAll_176 : decode cX9_readAll 176 = .ok (.iconst 1, 1) := by decide +kernel
theorem dX9_readAll_177 : decode cX9_readAll 177 = .ok (.goto 4, 3) := by decide +kernel
theorem dX9_readAll_180 : decode cX9_readAll 180 = .ok (.iconst 0, 1) := by decide +kernel
theorem dX9_readAll_181 : decode cX9_readAll 181 = .ok (.istore 4, 2) := by decide +kernel
theorem dX9_readAll_183 : decode cX9_readAll 183 = .ok (.aload_n 0, 1) := by decide +kernel
theorem dX9_readAll_184 : decode cX9_readAll 184 = .ok (.getfield 92, 3) := by decide +kernel
theorem dX9_readAll_187 : decode cX9_readAll 187 = .ok (.iload_n 1, 1) := by decide +kernel
theorem dX9_readAll_188 : decode cX9_readAll 188 = .ok (.iload 4, 2) := by decide +kernel
theorem dX9_readAll_190 : decode cX9_readAll 190 = .ok (.ifCond .eq 14, 3) := by decide +kernel
theorem dX9_readAll_193 : decode cX9_readAll 193 = .ok (.aload_n 0, 1) := by decide +kernel
theorem dX9_readAll_194 : decode cX9_readAll 194 = .ok (.getfield 92, 3) := by decide +kernel
theorem dX9_readAll_197 : decode cX9_readAll 197 = .ok (.iload_n 1, 1) := by decide +kernel
theorem dX9_readAll_198 : decode cX9_readAll 198 = .ok (.iaload, 1) := by decide +kernel
theorem dX9_readAll_199 : decode cX9_readAll 199 = .ok (.iconst 1, 1) := by decide +kernel
theorem dX9_readAll_200 : decode cX9_readAll 200 = .ok (.iadd, 1) := by decide +kernel
theorem dX9_readAll_201 : decode cX9_readAll 201 = .ok (.goto 4, 3) := by decide +kernel
theorem dX9_readAll_204 : decode cX9_readAll 204 = .ok (.iconst 0, 1) := by decide +kernel
theorem dX9_readAll_205 : decode cX9_readAll 205 = .ok (.iastore, 1) := by decide +kernel
theorem dX9_readAll_206 : decode cX9_readAll 206 = .ok (.iinc 1 1, 3) := by decide +kernel
theorem dX9_readAll_209 : decode cX9_readAll 209 = .ok (.goto (-130), 3) := by decide +kernel
theorem dX9_readAll_212 : decode cX9_readAll 212 = .ok (.return_, 1) := by decide +kernel
theorem dX9_faultNow_0 : decode cX9_faultNow 0 = .ok (.iconst 0, 1) := by decide +kernel
theorem dX9_faultNow_1 : decode cX9_faultNow 1 = .ok (.istore_n 1, 1) := by decide +kernel
theorem dX9_faultNow_2 : decode cX9_faultNow 2 = .ok (.iload_n 1, 1) := by decide +kernel
theorem dX9_faultNow_3 : decode cX9_faultNow 3 = .ok (.aload_n 0, 1) := by decide +kernel
theorem dX9_faultNow_4 : decode cX9_faultNow 4 = .ok (.getfield 120, 3) := by decide +kernel
theorem dX9_faultNow_7 : decode cX9_faultNow 7 = .ok (.if_icmp .ge 40, 3) := by decide +kernel
theorem dX9_faultNow_10 : decode cX9_faultNow 10 = .ok (.aload_n 0, 1) := by decide +kernel
theorem dX9_faultNow_11 : decode cX9_faultNow 11 = .ok (.getfield 46, 3) := by decide +kernel
theorem dX9_faultNow_14 : decode cX9_faultNow 14 = .ok (.iload_n 1, 1) := by decide +kernel
theorem dX9_faultNow_15 : decode cX9_faultNow 15 = .ok (.baload, 1) := by decide +kernel
theorem dX9_faultNow_16 : decode cX9_faultNow 16 = .ok (.ifCond .eq 25, 3) := by decide +kernel
theorem dX9_faultNow_19 : decode cX9_faultNow 19 = .ok (.aload_n 0, 1) := by decide +kernel
theorem dX9_faultNow_20 : decode cX9_faultNow 20 = .ok (.getfield 13, 3) := by decide +kernel
theorem dX9_faultNow_23 : decode cX9_faultNow 23 = .ok (.iload_n 1, 1) := by decide +kernel
theorem dX9_faultNow_24 : decode cX9_faultNow 24 = .ok (.iaload, 1) := by decide +kernel
theorem dX9_faultNow_25 : decode cX9_faultNow 25 = .ok (.iconst 1, 1) := by decide +kernel
theorem dX9_faultNow_26 : decode cX9_faultNow 26 = .ok (.if_icmp .eq 13, 3) := by decide +kernel
theorem dX9_faultNow_29 : decode cX9_faultNow 29 = .ok (.aload_n 0, 1) := by decide +kernel
theorem dX9_faultNow_30 : decode cX9_faultNow 30 = .ok (.getfield 13, 3) := by decide +kernel
theorem dX9_faultNow_33 : decode cX9_faultNow 33 = .ok (.iload_n 1, 1) := by decide +kernel
theorem dX9_faultNow_34 : decode cX9_faultNow 34 = .ok (.iaload, 1) := by decide +kernel
theorem dX9_faultNow_35 : decode cX9_faultNow 35 = .ok (.iconst 2, 1) := by decide +kernel
theorem dX9_faultNow_36 : decode cX9_faultNow 36 = .ok (.if_icmp .ne 5, 3) := by decide +kernel
theorem dX9_faultNow_39 : decode cX9_faultNow 39 = .ok (.iconst 1, 1) := by decide +kernel
theorem dX9_faultNow_40 : decode cX9_faultNow 40 = .ok (.ireturn, 1) := by decide +kernel
theorem dX9_faultNow_41 : decode cX9_faultNow 41 = .ok (.iinc 1 1, 3) := by decide +kernel
theorem dX9_faultNow_44 : decode cX9_faultNow 44 = .ok (.goto (-42), 3) := by decide +kernel
theorem dX9_faultNow_47 : decode cX9_faultNow 47 = .ok (.iconst 0, 1) := by decide +kernel
theorem dX9_faultNow_48 : decode cX9_faultNow 48 = .ok (.istore_n 1, 1) := by decide +kernel
theorem dX9_faultNow_49 : decode cX9_faultNow 49 = .ok (.iload_n 1, 1) := by decide +kernel
theorem dX9_faultNow_50 : decode cX9_faultNow 50 = .ok (.aload_n 0, 1) := by decide +kernel
theorem dX9_faultNow_51 : decode cX9_faultNow 51 = .ok (.getfield 153, 3) := by decide +kernel
theorem dX9_faultNow_54 : decode cX9_faultNow 54 = .ok (.if_icmp .ge 26, 3) := by decide +kernel
theorem dX9_faultNow_57 : decode cX9_faultNow 57 = .ok (.aload_n 0, 1) := by decide +kernel
theorem dX9_faultNow_58 : decode cX9_faultNow 58 = .ok (.getfield 92, 3) := by decide +kernel
theorem dX9_faultNow_61 : decode cX9_faultNow 61 = .ok (.iload_n 1, 1) := by decide +kernel
theorem dX9_faultNow_62 : decode cX9_faultNow 62 = .ok (.iaload, 1) := by decide +kernel
theorem dX9_faultNow_63 : decode cX9_faultNow 63 = .ok (.aload_n 0, 1) := by decide +kernel
theorem dX9_faultNow_64 : decode cX9_faultNow 64 = .ok (.getfield 89, 3) := by decide +kernel
theorem dX9_faultNow_67 : decode cX9_faultNow 67 = .ok (.iload_n 1, 1) := by decide +kernel
theorem dX9_faultNow_68 : decode cX9_faultNow 68 = .ok (.iaload, 1) := by decide +kernel
theorem dX9_faultNow_69 : decode cX9_faultNow 69 = .ok (.if_icmp .lt 5, 3) := by decide +kernel
theorem dX9_faultNow_72 : decode cX9_faultNow 72 = .ok (.iconst 2, 1) := by decide +kernel
theorem dX9_faultNow_73 : decode cX9_faultNow 73 = .ok (.ireturn, 1) := by decide +kernel
theorem dX9_faultNow_74 : decode cX9_faultNow 74 = .ok (.iinc 1 1, 3) := by decide +kernel
theorem dX9_faultNow_77 : decode cX9_faultNow 77 = .ok (.goto (-28), 3) := by decide +kernel
theorem dX9_faultNow_80 : decode cX9_faultNow 80 = .ok (.aload_n 0, 1) := by decide +kernel
theorem dX9_faultNow_81 : decode cX9_faultNow 81 = .ok (.getfield 162, 3) := by decide +kernel
theorem dX9_faultNow_84 : decode cX9_faultNow 84 = .ok (.ifCond .eq 7, 3) := by decide +kernel
theorem dX9_faultNow_87 : decode cX9_faultNow 87 = .ok (.iconst 3, 1) := by decide +kernel
theorem dX9_faultNow_88 : decode cX9_faultNow 88 = .ok (.goto 4, 3) := by decide +kernel
theorem dX9_faultNow_91 : decode cX9_faultNow 91 = .ok (.iconst 0, 1) := by decide +kernel
theorem dX9_faultNow_92 : decode cX9_faultNow 92 = .ok (.ireturn, 1) := by decide +kernel
theorem dX9_meetFault_0 : decode cX9_meetFault 0 = .ok (.aload_n 0, 1) := by decide +kernel
theorem dX9_meetFault_1 : decode cX9_meetFault 1 = .ok (.dup, 1) := by decide +kernel
theorem dX9_meetFault_2 : decode cX9_meetFault 2 = .ok (.getfield 204, 3) := by decide +kernel
theorem dX9_meetFault_5 : decode cX9_meetFault 5 = .ok (.iconst 1, 1) := by decide +kernel
theorem dX9_meetFault_6 : decode cX9_meetFault 6 = .ok (.iadd, 1) := by decide +kernel
theorem dX9_meetFault_7 : decode cX9_meetFault 7 = .ok (.putfield 204, 3) := by decide +kernel
theorem dX9_meetFault_10 : decode cX9_meetFault 10 = .ok (.aload_n 0, 1) := by decide +kernel
theorem dX9_meetFault_11 : decode cX9_meetFault 11 = .ok (.iload_n 1, 1) := by decide +kernel
theorem dX9_meetFault_12 : decode cX9_meetFault 12 = .ok (.putfield 207, 3) := by decide +kernel
theorem dX9_meetFault_15 : decode cX9_meetFault 15 = .ok (.aload_n 0, 1) := by decide +kernel
theorem dX9_meetFault_16 : decode cX9_meetFault 16 = .ok (.aload_n 0, 1) := by decide +kernel
theorem dX9_meetFault_17 : decode cX9_meetFault 17 = .ok (.getfield 133, 3) := by decide +kernel
theorem dX9_meetFault_20 : decode cX9_meetFault 20 = .ok (.putfield 105, 3) := by decide +kernel
theorem dX9_meetFault_23 : decode cX9_meetFault 23 = .ok (.aload_n 0, 1) := by decide +kernel
theorem dX9_meetFault_24 : decode cX9_meetFault 24 = .ok (.aload_n 0, 1) := by decide +kernel
theorem dX9_meetFault_25 : decode cX9_meetFault 25 = .ok (.getfield 204, 3) := by decide +kernel
theorem dX9_meetFault_28 : decode cX9_meetFault 28 = .ok (.putfield 210, 3) := by decide +kernel
theorem dX9_meetFault_31 : decode cX9_meetFault 31 = .ok (.aload_n 0, 1) := by decide +kernel
theorem dX9_meetFault_32 : decode cX9_meetFault 32 = .ok (.iconst 1, 1) := by decide +kernel
theorem dX9_meetFault_33 : decode cX9_meetFault 33 = .ok (.putfield 159, 3) := by decide +kernel
theorem dX9_meetFault_36 : decode cX9_meetFault 36 = .ok (.iconst 0, 1) := by decide +kernel
theorem dX9_meetFault_37 : decode cX9_meetFault 37 = .ok (.istore_n 2, 1) := by decide +kernel
theorem dX9_meetFault_38 : decode cX9_meetFault 38 = .ok (.iload_n 2, 1) := by decide +kernel
theorem dX9_meetFault_39 : decode cX9_meetFault 39 = .ok (.aload_n 0, 1) := by decide +kernel
theorem dX9_meetFault_40 : decode cX9_meetFault 40 = .ok (.getfield 120, 3) := by decide +kernel
theorem dX9_meetFault_43 : decode cX9_meetFault 43 = .ok (.if_icmp .ge 44, 3) := by decide +kernel
theorem dX9_meetFault_46 : decode cX9_meetFault 46 = .ok (.aload_n 0, 1) := by decide +kernel
theorem dX9_meetFault_47 : decode cX9_meetFault 47 = .ok (.getfield 13, 3) := by decide +kernel
theorem dX9_meetFault_50 : decode cX9_meetFault 50 = .ok (.iload_n 2, 1) := by decide +kernel
theorem dX9_meetFault_51 : decode cX9_meetFault 51 = .ok (.iaload, 1) := by decide +kernel
theorem dX9_meetFault_52 : decode cX9_meetFault 52 = .ok (.iconst 1, 1) := by decide +kernel
theorem dX9_meetFault_53 : decode cX9_meetFault 53 = .ok (.if_icmp .eq 13, 3) := by decide +kernel
theorem dX9_meetFault_56 : decode cX9_meetFault 56 = .ok (.aload_n 0, 1) := by decide +kernel
theorem dX9_meetFault_57 : decode cX9_meetFault 57 = .ok (.getfield 13, 3) := by decide +kernel
theorem dX9_meetFault_60 : decode cX9_meetFault 60 = .ok (.iload_n 2, 1) := by decide +kernel
theorem dX9_meetFault_61 : decode cX9_meetFault 61 = .ok (.iaload, 1) := by decide +kernel
theorem dX9_meetFault_62 : decode cX9_meetFault 62 = .ok (.iconst 2, 1) := by decide +kernel
theorem dX9_meetFault_63 : decode cX9_meetFault 63 = .ok (.if_icmp .ne 18, 3) := by decide +kernel
theorem dX9_meetFault_66 : decode cX9_meetFault 66 = .ok (.aload_n 0, 1) := by decide +kernel
theorem dX9_meetFault_67 : decode cX9_meetFault 67 = .ok (.iload_n 2, 1) := by decide +kernel
theorem dX9_meetFault_68 : decode cX9_meetFault 68 = .ok (.iconst 0, 1) := by decide +kernel
theorem dX9_meetFault_69 : decode cX9_meetFault 69 = .ok (.invokevirtual 213, 3) := by decide +kernel
theorem dX9_meetFault_72 : decode cX9_meetFault 72 = .ok (.aload_n 0, 1) := by decide +kernel
theorem dX9_meetFault_73 : decode cX9_meetFault 73 = .ok (.iload_n 2, 1) := by decide +kernel
theorem dX9_meetFault_74 : decode cX9_meetFault 74 = .ok (.aload_n 0, 1) := by decide +kernel
theorem dX9_meetFault_75 : decode cX9_meetFault 75 = .ok (.getfield 133, 3) := by decide +kernel
theorem dX9_meetFault_78 : decode cX9_meetFault 78 = .ok (.invokevirtual 216, 3) := by decide +kernel
theorem dX9_meetFault_81 : decode cX9_meetFault 81 = .ok (.iinc 2 1, 3) := by decide +kernel
theorem dX9_meetFault_84 : decode cX9_meetFault 84 = .ok (.goto (-46), 3) := by decide +kernel
theorem dX9_meetFault_87 : decode cX9_meetFault 87 = .ok (.aload_n 0, 1) := by decide +kernel
theorem dX9_meetFault_88 : decode cX9_meetFault 88 = .ok (.bipush (-5), 2) := by decide +kernel
theorem dX9_meetFault_90 : decode cX9_meetFault 90 = .ok (.putfield 95, 3) := by decide +kernel
theorem dX9_meetFault_93 : decode cX9_meetFault 93 = .ok (.aload_n 0, 1) := by decide +kernel
theorem dX9_meetFault_94 : decode cX9_meetFault 94 = .ok (.bipush (-5), 2) := by decide +kernel
theorem dX9_meetFault_96 : decode cX9_meetFault 96 = .ok (.putfield 102, 3) := by decide +kernel
theorem dX9_meetFault_99 : decode cX9_meetFault 99 = .ok (.aload_n 0, 1) := by decide +kernel
theorem dX9_meetFault_100 : decode cX9_meetFault 100 = .ok (.iconst 0, 1) := by decide +kernel
theorem dX9_meetFault_101 : decode cX9_meetFault 101 = .ok (.putfield 162, 3) := by decide +kernel
theorem dX9_meetFault_104 : decode cX9_meetFault 104 = .ok (.iconst 0, 1) := by decide +kernel
theorem dX9_meetFault_105 : decode cX9_meetFault 105 = .ok (.istore_n 2, 1) := by decide +kernel
theorem dX9_meetFault_106 : decode cX9_meetFault 106 = .ok (.iload_n 2, 1) := by decide +kernel
theorem dX9_meetFault_107 : decode cX9_meetFault 107 = .ok (.aload_n 0, 1) := by decide +kernel
theorem dX9_meetFault_108 : decode cX9_meetFault 108 = .ok (.getfield 153, 3) := by decide +kernel
theorem dX9_meetFault_111 : decode cX9_meetFault 111 = .ok (.if_icmp .ge 16, 3) := by decide +kernel
theorem dX9_meetFault_114 : decode cX9_meetFault 114 = .ok (.aload_n 0, 1) := by decide +kernel
theorem dX9_meetFault_115 : decode cX9_meetFault 115 = .ok (.getfield 92, 3) := by decide +kernel
theorem dX9_meetFault_118 : decode cX9_meetFault 118 = .ok (.iload_n 2, 1) := by decide +kernel
theorem dX9_meetFault_119 : decode cX9_meetFault 119 = .ok (.iconst 0, 1) := by decide +kernel
theorem dX9_meetFault_120 : decode cX9_meetFault 120 = .ok (.iastore, 1) := by decide +kernel
theorem dX9_meetFault_121 : decode cX9_meetFault 121 = .ok (.iinc 2 1, 3) := by decide +kernel
theorem dX9_meetFault_124 : decode cX9_meetFault 124 = .ok (.goto (-18), 3) := by decide +kernel
theorem dX9_meetFault_127 : decode cX9_meetFault 127 = .ok (.return_, 1) := by decide +kernel
theorem dX9_isAnotherWanted_0 : decode cX9_isAnotherWanted 0 = .ok (.aload_n 0, 1) := by decide +kernel
theorem dX9_isAnotherWanted_1 : decode cX9_isAnotherWanted 1 = .ok (.getfield 102, 3) := by decide +kernel
theorem dX9_isAnotherWanted_4 : decode cX9_isAnotherWanted 4 = .ok (.ifCond .lt 18, 3) := by decide +kernel
theorem dX9_isAnotherWanted_7 : decode cX9_isAnotherWanted 7 = .ok (.aload_n 0, 1) := by decide +kernel
theorem dX9_isAnotherWanted_8 : decode cX9_isAnotherWanted 8 = .ok (.getfield 102, 3) := by decide +kernel
theorem dX9_isAnotherWanted_11 : decode cX9_isAnotherWanted 11 = .ok (.aload_n 0, 1) := by decide +kernel
theorem dX9_isAnotherWanted_12 : decode cX9_isAnotherWanted 12 = .ok (.getfield 95, 3) := by decide +kernel
theorem dX9_isAnotherWanted_15 : decode cX9_isAnotherWanted 15 = .ok (.if_icmp .eq 7, 3) := by decide +kernel
theorem dX9_isAnotherWanted_18 : decode cX9_isAnotherWanted 18 = .ok (.iconst 1, 1) := by decide +kernel
theorem dX9_isAnotherWanted_19 : decode cX9_isAnotherWanted 19 = .ok (.goto 4, 3) := by decide +kernel
theorem dX9_isAnotherWanted_22 : decode cX9_isAnotherWanted 22 = .ok (.iconst 0, 1) := by decide +kernel
theorem dX9_isAnotherWanted_23 : decode cX9_isAnotherWanted 23 = .ok (.istore_n 1, 1) := by decide +kernel
theorem dX9_isAnotherWanted_24 : decode cX9_isAnotherWanted 24 = .ok (.iconst 0, 1) := by decide +kernel
theorem dX9_isAnotherWanted_25 : decode cX9_isAnotherWanted 25 = .ok (.istore_n 2, 1) := by decide +kernel
theorem dX9_isAnotherWanted_26 : decode cX9_isAnotherWanted 26 = .ok (.iload_n 2, 1) := by decide +kernel
theorem dX9_isAnotherWanted_27 : decode cX9_isAnotherWanted 27 = .ok (.aload_n 0, 1) := by decide +kernel
theorem dX9_isAnotherWanted_28 : decode cX9_isAnotherWanted 28 = .ok (.getfield 127, 3) := by decide +kernel
theorem dX9_isAnotherWanted_31 : decode cX9_isAnotherWanted 31 = .ok (.if_icmp .ge 33, 3) := by decide +kernel
theorem dX9_isAnotherWanted_34 : decode cX9_isAnotherWanted 34 = .ok (.iload_n 1, 1) := by decide +kernel
theorem dX9_isAnotherWanted_35 : decode cX9_isAnotherWanted 35 = .ok (.iload_n 2, 1) := by decide +kernel
theorem dX9_isAnotherWanted_36 : decode cX9_isAnotherWanted 36 = .ok (.aload_n 0, 1) := by decide +kernel
theorem dX9_isAnotherWanted_37 : decode cX9_isAnotherWanted 37 = .ok (.getfield 95, 3) := by decide +kernel
theorem dX9_isAnotherWanted_40 : decode cX9_isAnotherWanted 40 = .ok (.if_icmp .eq 15, 3) := by decide +kernel
theorem dX9_isAnotherWanted_43 : decode cX9_isAnotherWanted 43 = .ok (.aload_n 0, 1) := by decide +kernel
theorem dX9_isAnotherWanted_44 : decode cX9_isAnotherWanted 44 = .ok (.iload_n 2, 1) := by decide +kernel
theorem dX9_isAnotherWanted_45 : decode cX9_isAnotherWanted 45 = .ok (.invokevirtual 195, 3) := by decide +kernel
theorem dX9_isAnotherWanted_48 : decode cX9_isAnotherWanted 48 = .ok (.ifCond .lt 7, 3) := by decide +kernel
theorem dX9_isAnotherWanted_51 : decode cX9_isAnotherWanted 51 = .ok (.iconst 1, 1) := by decide +kernel
theorem dX9_isAnotherWanted_52 : decode cX9_isAnotherWanted 52 = .ok (.goto 4, 3) := by decide +kernel
theorem dX9_isAnotherWanted_55 : decode cX9_isAnotherWanted 55 = .ok (.iconst 0, 1) := by decide +kernel
theorem dX9_isAnotherWanted_56 : decode cX9_isAnotherWanted 56 = .ok (.ior, 1) := by decide +kernel
theorem dX9_isAnotherWanted_57 : decode cX9_isAnotherWanted 57 = .ok (.istore_n 1, 1) := by decide +kernel
theorem dX9_isAnotherWanted_58 : decode cX9_isAnotherWanted 58 = .ok (.iinc 2 1, 3) := by decide +kernel
theorem dX9_isAnotherWanted_61 : decode cX9_isAnotherWanted 61 = .ok (.goto (-35), 3) := by decide +kernel
theorem dX9_isAnotherWanted_64 : decode cX9_isAnotherWanted 64 = .ok (.iload_n 1, 1) := by decide +kernel
theorem dX9_isAnotherWanted_65 : decode cX9_isAnotherWanted 65 = .ok (.ireturn, 1) := by decide +kernel
theorem dX9_perhapsEnd_0 : decode cX9_perhapsEnd 0 = .ok (.aload_n 0, 1) := by decide +kernel
theorem dX9_perhapsEnd_1 : decode cX9_perhapsEnd 1 = .ok (.getfield 95, 3) := by decide +kernel
theorem dX9_perhapsEnd_4 : decode cX9_perhapsEnd 4 = .ok (.ifCond .lt 26, 3) := by decide +kernel
theorem dX9_perhapsEnd_7 : decode cX9_perhapsEnd 7 = .ok (.aload_n 0, 1) := by decide +kernel
theorem dX9_perhapsEnd_8 : decode cX9_perhapsEnd 8 = .ok (.invokevirtual 219, 3) := by decide +kernel
theorem dX9_perhapsEnd_11 : decode cX9_perhapsEnd 11 = .ok (.ifCond .eq 19, 3) := by decide +kernel
theorem dX9_perhapsEnd_14 : decode cX9_perhapsEnd 14 = .ok (.aload_n 0, 1) := by decide +kernel
theorem dX9_perhapsEnd_15 : decode cX9_perhapsEnd 15 = .ok (.getfield 133, 3) := by decide +kernel
theorem dX9_perhapsEnd_18 : decode cX9_perhapsEnd 18 = .ok (.aload_n 0, 1) := by decide +kernel
theorem dX9_perhapsEnd_19 : decode cX9_perhapsEnd 19 = .ok (.getfield 189, 3) := by decide +kernel
theorem dX9_perhapsEnd_22 : decode cX9_perhapsEnd 22 = .ok (.isub, 1) := by decide +kernel
theorem dX9_perhapsEnd_23 : decode cX9_perhapsEnd 23 = .ok (.aload_n 0, 1) := by decide +kernel
theorem dX9_perhapsEnd_24 : decode cX9_perhapsEnd 24 = .ok (.getfield 223, 3) := by decide +kernel
theorem dX9_perhapsEnd_27 : decode cX9_perhapsEnd 27 = .ok (.if_icmp .ge 4, 3) := by decide +kernel
theorem dX9_perhapsEnd_30 : decode cX9_perhapsEnd 30 = .ok (.return_, 1) := by decide +kernel
theorem dX9_perhapsEnd_31 : decode cX9_perhapsEnd 31 = .ok (.iconst 0, 1) := by decide +kernel
theorem dX9_perhapsEnd_32 : decode cX9_perhapsEnd 32 = .ok (.istore_n 1, 1) := by decide +kernel
theorem dX9_perhapsEnd_33 : decode cX9_perhapsEnd 33 = .ok (.iconst 0, 1) := by decide +kernel
theorem dX9_perhapsEnd_34 : decode cX9_perhapsEnd 34 = .ok (.istore_n 2, 1) := by decide +kernel
theorem dX9_perhapsEnd_35 : decode cX9_perhapsEnd 35 = .ok (.iload_n 2, 1) := by decide +kernel
theorem dX9_perhapsEnd_36 : decode cX9_perhapsEnd 36 = .ok (.iconst 4, 1) := by decide +kernel
theorem dX9_perhapsEnd_37 : decode cX9_perhapsEnd 37 = .ok (.if_icmp .ge 44, 3) := by decide +kernel
theorem dX9_perhapsEnd_40 : decode cX9_perhapsEnd 40 = .ok (.aload_n 0, 1) := by decide +kernel
theorem dX9_perhapsEnd_41 : decode cX9_perhapsEnd 41 = .ok (.getfield 56, 3) := by decide +kernel
theorem dX9_perhapsEnd_44 : decode cX9_perhapsEnd 44 = .ok (.iconst 4, 1) := by decide +kernel
theorem dX9_perhapsEnd_45 : decode cX9_perhapsEnd 45 = .ok (.aload_n 0, 1) := by decide +kernel
theorem dX9_perhapsEnd_46 : decode cX9_perhapsEnd 46 = .ok (.getfield 95, 3) := by decide +kernel
theorem dX9_perhapsEnd_49 : decode cX9_perhapsEnd 49 = .ok (.imul, 1) := by decide +kernel
theorem dX9_perhapsEnd_50 : decode cX9_perhapsEnd 50 = .ok (.iload_n 2, 1) := by decide +kernel
theorem dX9_perhapsEnd_51 : decode cX9_perhapsEnd 51 = .ok (.iadd, 1) := by decide +kernel
theorem dX9_perhapsEnd_52 : decode cX9_perhapsEnd 52 = .ok (.iaload, 1) := by decide +kernel
theorem dX9_perhapsEnd_53 : decode cX9_perhapsEnd 53 = .ok (.istore_n 3, 1) := by decide +kernel
theorem dX9_perhapsEnd_54 : decode cX9_perhapsEnd 54 = .ok (.iload_n 1, 1) := by decide +kernel
theorem dX9_perhapsEnd_55 : decode cX9_perhapsEnd 55 = .ok (.iload_n 3, 1) := by decide +kernel
theorem dX9_perhapsEnd_56 : decode cX9_perhapsEnd 56 = .ok (.ifCond .lt 16, 3) := by decide +kernel
theorem dX9_perhapsEnd_59 : decode cX9_perhapsEnd 59 = .ok (.aload_n 0, 1) := by decide +kernel
theorem dX9_perhapsEnd_60 : decode cX9_perhapsEnd 60 = .ok (.getfield 50, 3) := by decide +kernel
theorem dX9_perhapsEnd_63 : decode cX9_perhapsEnd 63 = .ok (.iload_n 3, 1) := by decide +kernel
theorem dX9_perhapsEnd_64 : decode cX9_perhapsEnd 64 = .ok (.baload, 1) := by decide +kernel
theorem dX9_perhapsEnd_65 : decode cX9_perhapsEnd 65 = .ok (.ifCond .eq 7, 3) := by decide +kernel
theorem dX9_perhapsEnd_68 : decode cX9_perhapsEnd 68 = .ok (.iconst 1, 1) := by decide +kernel
theorem dX9_perhapsEnd_69 : decode cX9_perhapsEnd 69 = .ok (.goto 4, 3) := by decide +kernel
theorem dX9_perhapsEnd_72 : decode cX9_perhapsEnd 72 = .ok (.iconst 0, 1) := by decide +kernel
theorem dX9_perhapsEnd_73 : decode cX9_perhapsEnd 73 = .ok (.ior, 1) := by decide +kernel
theorem dX9_perhapsEnd_74 : decode cX9_perhapsEnd 74 = .ok (.istore_n 1, 1) := by decide +kernel
theorem dX9_perhapsEnd_75 : decode cX9_perhapsEnd 75 = .ok (.iinc 2 1, 3) := by decide +kernel
theorem dX9_perhapsEnd_78 : decode cX9_perhapsEnd 78 = .ok (.goto (-43), 3) := by decide +kernel
theorem dX9_perhapsEnd_81 : decode cX9_perhapsEnd 81 = .ok (.aload_n 0, 1) := by decide +kernel
theorem dX9_perhapsEnd_82 : decode cX9_perhapsEnd 82 = .ok (.getfield 133, 3) := by decide +kernel
theorem dX9_perhapsEnd_85 : decode cX9_perhapsEnd 85 = .ok (.aload_n 0, 1) := by decide +kernel
theorem dX9_perhapsEnd_86 : decode cX9_perhapsEnd 86 = .ok (.getfield 189, 3) := by decide +kernel
theorem dX9_perhapsEnd_89 : decode cX9_perhapsEnd 89 = .ok (.isub, 1) := by decide +kernel
theorem dX9_perhapsEnd_90 : decode cX9_perhapsEnd 90 = .ok (.aload_n 0, 1) := by decide +kernel
theorem dX9_perhapsEnd_91 : decode cX9_perhapsEnd 91 = .ok (.getfield 226, 3) := by decide +kernel
theorem dX9_perhapsEnd_94 : decode cX9_perhapsEnd 94 = .ok (.if_icmp .ge 15, 3) := by decide +kernel
theorem dX9_perhapsEnd_97 : decode cX9_perhapsEnd 97 = .ok (.aload_n 0, 1) := by decide +kernel
theorem dX9_perhapsEnd_98 : decode cX9_perhapsEnd 98 = .ok (.getfield 102, 3) := by decide +kernel
theorem dX9_perhapsEnd_101 : decode cX9_perhapsEnd 101 = .ok (.ifCond .ge 8, 3) := by decide +kernel
theorem dX9_perhapsEnd_104 : decode cX9_perhapsEnd 104 = .ok (.iload_n 1, 1) := by decide +kernel
theorem dX9_perhapsEnd_105 : decode cX9_perhapsEnd 105 = .ok (.ifCond .eq 4, 3) := by decide +kernel
theorem dX9_perhapsEnd_108 : decode cX9_perhapsEnd 108 = .ok (.return_, 1) := by decide +kernel
theorem dX9_perhapsEnd_109 : decode cX9_perhapsEnd 109 = .ok (.iconst 0, 1) := by decide +kernel
theorem dX9_perhapsEnd_110 : decode cX9_perhapsEnd 110 = .ok (.istore_n 2, 1) := by decide +kernel
theorem dX9_perhapsEnd_111 : decode cX9_perhapsEnd 111 = .ok (.iload_n 2, 1) := by decide +kernel
theorem dX9_perhapsEnd_112 : decode cX9_perhapsEnd 112 = .ok (.iconst 4, 1) := by decide +kernel
theorem dX9_perhapsEnd_113 : decode cX9_perhapsEnd 113 = .ok (.if_icmp .ge 62, 3) := by decide +kernel
theorem dX9_perhapsEnd_116 : decode cX9_perhapsEnd 116 = .ok (.aload_n 0, 1) := by decide +kernel
theorem dX9_perhapsEnd_117 : decode cX9_perhapsEnd 117 = .ok (.getfield 56, 3) := by decide +kernel
theorem dX9_perhapsEnd_120 : decode cX9_perhapsEnd 120 = .ok (.iconst 4, 1) := by decide +kernel
theorem dX9_perhapsEnd_121 : decode cX9_perhapsEnd 121 = .ok (.aload_n 0, 1) := by decide +kernel
theorem dX9_perhapsEnd_122 : decode cX9_perhapsEnd 122 = .ok (.getfield 95, 3) := by decide +kernel
theorem dX9_perhapsEnd_125 : decode cX9_perhapsEnd 125 = .ok (.imul, 1) := by decide +kernel
theorem dX9_perhapsEnd_126 : decode cX9_perhapsEnd 126 = .ok (.iload_n 2, 1) := by decide +kernel
theorem dX9_perhapsEnd_127 : decode cX9_perhapsEnd 127 = .ok (.iadd, 1) := by decide +kernel
theorem dX9_perhapsEnd_128 : decode cX9_perhapsEnd 128 = .ok (.iaload, 1) := by decide +kernel
theorem dX9_perhapsEnd_129 : decode cX9_perhapsEnd 129 = .ok (.istore_n 3, 1) := by decide +kernel
theorem dX9_perhapsEnd_130 : decode cX9_perhapsEnd 130 = .ok (.iload_n 3, 1) := by decide +kernel
theorem dX9_perhapsEnd_131 : decode cX9_perhapsEnd 131 = .ok (.ifCond .lt 38, 3) := by decide +kernel
theorem dX9_perhapsEnd_134 : decode cX9_perhapsEnd 134 = .ok (.aload_n 0, 1) := by decide +kernel
theorem dX9_perhapsEnd_135 : decode cX9_perhapsEnd 135 = .ok (.iload_n 3, 1) := by decide +kernel
theorem dX9_perhapsEnd_136 : decode cX9_perhapsEnd 136 = .ok (.aload_n 0, 1) := by decide +kernel
theorem dX9_perhapsEnd_137 : decode cX9_perhapsEnd 137 = .ok (.getfield 43, 3) := by decide +kernel
theorem dX9_perhapsEnd_140 : decode cX9_perhapsEnd 140 = .ok (.iload_n 3, 1) := by decide +kernel
theorem dX9_perhapsEnd_141 : decode cX9_perhapsEnd 141 = .ok (.iaload, 1) := by decide +kernel
theorem dX9_perhapsEnd_142 : decode cX9_perhapsEnd 142 = .ok (.ifCond .le 7, 3) := by decide +kernel
theorem dX9_perhapsEnd_145 : decode cX9_perhapsEnd 145 = .ok (.iconst 2, 1) := by decide +kernel
theorem dX9_perhapsEnd_146 : decode cX9_perhapsEnd 146 = .ok (.goto 4, 3) := by decide +kernel
theorem dX9_perhapsEnd_149 : decode cX9_perhapsEnd 149 = .ok (.iconst 0, 1) := by decide +kernel
theorem dX9_perhapsEnd_150 : decode cX9_perhapsEnd 150 = .ok (.invokevirtual 213, 3) := by decide +kernel
theorem dX9_perhapsEnd_153 : decode cX9_perhapsEnd 153 = .ok (.aload_n 0, 1) := by decide +kernel
theorem dX9_perhapsEnd_154 : decode cX9_perhapsEnd 154 = .ok (.iload_n 3, 1) := by decide +kernel
theorem dX9_perhapsEnd_155 : decode cX9_perhapsEnd 155 = .ok (.aload_n 0, 1) := by decide +kernel
theorem dX9_perhapsEnd_156 : decode cX9_perhapsEnd 156 = .ok (.getfield 133, 3) := by decide +kernel
theorem dX9_perhapsEnd_159 : decode cX9_perhapsEnd 159 = .ok (.aload_n 0, 1) := by decide +kernel
theorem dX9_perhapsEnd_160 : decode cX9_perhapsEnd 160 = .ok (.getfield 43, 3) := by decide +kernel
theorem dX9_perhapsEnd_163 : decode cX9_perhapsEnd 163 = .ok (.iload_n 3, 1) := by decide +kernel
theorem dX9_perhapsEnd_164 : decode cX9_perhapsEnd 164 = .ok (.iaload, 1) := by decide +kernel
theorem dX9_perhapsEnd_165 : decode cX9_perhapsEnd 165 = .ok (.iadd, 1) := by decide +kernel
theorem dX9_perhapsEnd_166 : decode cX9_perhapsEnd 166 = .ok (.invokevirtual 216, 3) := by decide +kernel
theorem dX9_perhapsEnd_169 : decode cX9_perhapsEnd 169 = .ok (.iinc 2 1, 3) := by decide +kernel
theorem dX9_perhapsEnd_172 : decode cX9_perhapsEnd 172 = .ok (.goto (-61), 3) := by decide +kernel
theorem dX9_perhapsEnd_175 : decode cX9_perhapsEnd 175 = .ok (.aload_n 0, 1) := by decide +kernel
theorem dX9_perhapsEnd_176 : decode cX9_perhapsEnd 176 = .ok (.bipush (-5), 2) := by decide +kernel
theorem dX9_perhapsEnd_178 : decode cX9_perhapsEnd 178 = .ok (.putfield 95, 3) := by decide +kernel
theorem dX9_perhapsEnd_181 : decode cX9_perhapsEnd 181 = .ok (.return_, 1) := by decide +kernel
theorem dX9_perhapsBegin_0 : decode cX9_perhapsBegin 0 = .ok (.aload_n 0, 1) := by decide +kernel
theorem dX9_perhapsBegin_1 : decode cX9_perhapsBegin 1 = .ok (.invokevirtual 229, 3) := by decide +kernel
theorem dX9_perhapsBegin_4 : decode cX9_perhapsBegin 4 = .ok (.istore_n 1, 1) := by decide +kernel
theorem dX9_perhapsBegin_5 : decode cX9_perhapsBegin 5 = .ok (.aload_n 0, 1) := by decide +kernel
theorem dX9_perhapsBegin_6 : decode cX9_perhapsBegin 6 = .ok (.getfield 95, 3) := by decide +kernel
theorem dX9_perhapsBegin_9 : decode cX9_perhapsBegin 9 = .ok (.ifCond .ge 7, 3) := by decide +kernel
theorem dX9_perhapsBegin_12 : decode cX9_perhapsBegin 12 = .ok (.iload_n 1, 1) := by decide +kernel
theorem dX9_perhapsBegin_13 : decode cX9_perhapsBegin 13 = .ok (.ifCond .ge 4, 3) := by decide +kernel
theorem dX9_perhapsBegin_16 : decode cX9_perhapsBegin 16 = .ok (.return_, 1) := by decide +kernel
theorem dX9_perhapsBegin_17 : decode cX9_perhapsBegin 17 = .ok (.iconst 0, 1) := by decide +kernel
theorem dX9_perhapsBegin_18 : decode cX9_perhapsBegin 18 = .ok (.istore_n 2, 1) := by decide +kernel
theorem dX9_perhapsBegin_19 : decode cX9_perhapsBegin 19 = .ok (.iload_n 2, 1) := by decide +kernel
theorem dX9_perhapsBegin_20 : decode cX9_perhapsBegin 20 = .ok (.iconst 4, 1) := by decide +kernel
theorem dX9_perhapsBegin_21 : decode cX9_perhapsBegin 21 = .ok (.if_icmp .ge 47, 3) := by decide +kernel
theorem dX9_perhapsBegin_24 : decode cX9_perhapsBegin 24 = .ok (.aload_n 0, 1) := by decide +kernel
theorem dX9_perhapsBegin_25 : decode cX9_perhapsBegin 25 = .ok (.getfield 56, 3) := by decide +kernel
theorem dX9_perhapsBegin_28 : decode cX9_perhapsBegin 28 = .ok (.iconst 4, 1) := by decide +kernel
theorem dX9_perhapsBegin_29 : decode cX9_perhapsBegin 29 = .ok (.iload_n 1, 1) := by decide +kernel
theorem dX9_perhapsBegin_30 : decode cX9_perhapsBegin 30 = .ok (.imul, 1) := by decide +kernel
theorem dX9_perhapsBegin_31 : decode cX9_perhapsBegin 31 = .ok (.iload_n 2, 1) := by decide +kernel
theorem dX9_perhapsBegin_32 : decode cX9_perhapsBegin 32 = .ok (.iadd, 1) := by decide +kernel
theorem dX9_perhapsBegin_33 : decode cX9_perhapsBegin 33 = .ok (.iaload, 1) := by decide +kernel
theorem dX9_perhapsBegin_34 : decode cX9_perhapsBegin 34 = .ok (.istore_n 3, 1) := by decide +kernel
theorem dX9_perhapsBegin_35 : decode cX9_perhapsBegin 35 = .ok (.iload_n 3, 1) := by decide +kernel
theorem dX9_perhapsBegin_36 : decode cX9_perhapsBegin 36 = .ok (.ifCond .lt 26, 3) := by decide +kernel
theorem dX9_perhapsBegin_39 : decode cX9_perhapsBegin 39 = .ok (.aload_n 0, 1) := by decide +kernel
theorem dX9_perhapsBegin_40 : decode cX9_perhapsBegin 40 = .ok (.getfield 13, 3) := by decide +kernel
theorem dX9_perhapsBegin_43 : decode cX9_perhapsBegin 43 = .ok (.iload_n 3, 1) := by decide +kernel
theorem dX9_perhapsBegin_44 : decode cX9_perhapsBegin 44 = .ok (.iaload, 1) := by decide +kernel
theorem dX9_perhapsBegin_45 : decode cX9_perhapsBegin 45 = .ok (.ifCond .ne 16, 3) := by decide +kernel
theorem dX9_perhapsBegin_48 : decode cX9_perhapsBegin 48 = .ok (.aload_n 0, 1) := by decide +kernel
theorem dX9_perhapsBegin_49 : decode cX9_perhapsBegin 49 = .ok (.getfield 31, 3) := by decide +kernel
theorem dX9_perhapsBegin_52 : decode cX9_perhapsBegin 52 = .ok (.iload_n 3, 1) := by decide +kernel
theorem dX9_perhapsBegin_53 : decode cX9_perhapsBegin 53 = .ok (.iaload, 1) := by decide +kernel
theorem dX9_perhapsBegin_54 : decode cX9_perhapsBegin 54 = .ok (.aload_n 0, 1) := by decide +kernel
theorem dX9_perhapsBegin_55 : decode cX9_perhapsBegin 55 = .ok (.getfield 133, 3) := by decide +kernel
theorem dX9_perhapsBegin_58 : decode cX9_perhapsBegin 58 = .ok (.if_icmp .le 4, 3) := by decide +kernel
theorem dX9_perhapsBegin_61 : decode cX9_perhapsBegin 61 = .ok (.return_, 1) := by decide +kernel
theorem dX9_perhapsBegin_62 : decode cX9_perhapsBegin 62 = .ok (.iinc 2 1, 3) := by decide +kernel
theorem dX9_perhapsBegin_65 : decode cX9_perhapsBegin 65 = .ok (.goto (-46), 3) := by decide +kernel
theorem dX9_perhapsBegin_68 : decode cX9_perhapsBegin 68 = .ok (.aload_n 0, 1) := by decide +kernel
theorem dX9_perhapsBegin_69 : decode cX9_perhapsBegin 69 = .ok (.iload_n 1, 1) := by decide +kernel
theorem dX9_perhapsBegin_70 : decode cX9_perhapsBegin 70 = .ok (.putfield 95, 3) := by decide +kernel
theorem dX9_perhapsBegin_73 : decode cX9_perhapsBegin 73 = .ok (.aload_n 0, 1) := by decide +kernel
theorem dX9_perhapsBegin_74 : decode cX9_perhapsBegin 74 = .ok (.iload_n 1, 1) := by decide +kernel
theorem dX9_perhapsBegin_75 : decode cX9_perhapsBegin 75 = .ok (.putfield 99, 3) := by decide +kernel
theorem dX9_perhapsBegin_78 : decode cX9_perhapsBegin 78 = .ok (.aload_n 0, 1) := by decide +kernel
theorem dX9_perhapsBegin_79 : decode cX9_perhapsBegin 79 = .ok (.aload_n 0, 1) := by decide +kernel
theorem dX9_perhapsBegin_80 : decode cX9_perhapsBegin 80 = .ok (.getfield 133, 3) := by decide +kernel
theorem dX9_perhapsBegin_83 : decode cX9_perhapsBegin 83 = .ok (.putfield 189, 3) := by decide +kernel
theorem dX9_perhapsBegin_86 : decode cX9_perhapsBegin 86 = .ok (.aload_n 0, 1) := by decide +kernel
theorem dX9_perhapsBegin_87 : decode cX9_perhapsBegin 87 = .ok (.aload_n 0, 1) := by decide +kernel
theorem dX9_perhapsBegin_88 : decode cX9_perhapsBegin 88 = .ok (.iload_n 1, 1) := by decide +kernel
theorem dX9_perhapsBegin_89 : decode cX9_perhapsBegin 89 = .ok (.invokevirtual 192, 3) := by decide +kernel
theorem dX9_perhapsBegin_92 : decode cX9_perhapsBegin 92 = .ok (.putfield 223, 3) := by decide +kernel
theorem dX9_perhapsBegin_95 : decode cX9_perhapsBegin 95 = .ok (.aload_n 0, 1) := by decide +kernel
theorem dX9_perhapsBegin_96 : decode cX9_perhapsBegin 96 = .ok (.aload_n 0, 1) := by decide +kernel
theorem dX9_perhapsBegin_97 : decode cX9_perhapsBegin 97 = .ok (.iload_n 1, 1) := by decide +kernel
theorem dX9_perhapsBegin_98 : decode cX9_perhapsBegin 98 = .ok (.invokevirtual 233, 3) := by decide +kernel
theorem dX9_perhapsBegin_101 : decode cX9_perhapsBegin 101 = .ok (.putfield 226, 3) := by decide +kernel
theorem dX9_perhapsBegin_104 : decode cX9_perhapsBegin 104 = .ok (.aload_n 0, 1) := by decide +kernel
theorem dX9_perhapsBegin_105 : decode cX9_perhapsBegin 105 = .ok (.aload_n 0, 1) := by decide +kernel
theorem dX9_perhapsBegin_106 : decode cX9_perhapsBegin 106 = .ok (.getfield 102, 3) := by decide +kernel
theorem dX9_perhapsBegin_109 : decode cX9_perhapsBegin 109 = .ok (.iload_n 1, 1) := by decide +kernel
theorem dX9_perhapsBegin_110 : decode cX9_perhapsBegin 110 = .ok (.if_icmp .ne 8, 3) := by decide +kernel
theorem dX9_perhapsBegin_113 : decode cX9_perhapsBegin 113 = .ok (.bipush (-5), 2) := by decide +kernel
theorem dX9_perhapsBegin_115 : decode cX9_perhapsBegin 115 = .ok (.goto 7, 3) := by decide +kernel
theorem dX9_perhapsBegin_118 : decode cX9_perhapsBegin 118 = .ok (.aload_n 0, 1) := by decide +kernel
theorem dX9_perhapsBegin_119 : decode cX9_perhapsBegin 119 = .ok (.getfield 102, 3) := by decide +kernel
theorem dX9_perhapsBegin_122 : decode cX9_perhapsBegin 122 = .ok (.putfield 102, 3) := by decide +kernel
theorem dX9_perhapsBegin_125 : decode cX9_perhapsBegin 125 = .ok (.iconst 0, 1) := by decide +kernel
theorem dX9_perhapsBegin_126 : decode cX9_perhapsBegin 126 = .ok (.istore_n 2, 1) := by decide +kernel
theorem dX9_perhapsBegin_127 : decode cX9_perhapsBegin 127 = .ok (.iload_n 2, 1) := by decide +kernel
theorem dX9_perhapsBegin_128 : decode cX9_perhapsBegin 128 = .ok (.iconst 4, 1) := by decide +kernel
theorem dX9_perhapsBegin_129 : decode cX9_perhapsBegin 129 = .ok (.if_icmp .ge 48, 3) := by decide +kernel
theorem dX9_perhapsBegin_132 : decode cX9_perhapsBegin 132 = .ok (.aload_n 0, 1) := by decide +kernel
theorem dX9_perhapsBegin_133 : decode cX9_perhapsBegin 133 = .ok (.getfield 56, 3) := by decide +kernel
theorem dX9_perhapsBegin_136 : decode cX9_perhapsBegin 136 = .ok (.iconst 4, 1) := by decide +kernel
theorem dX9_perhapsBegin_137 : decode cX9_perhapsBegin 137 = .ok (.iload_n 1, 1) := by decide +kernel
theorem dX9_perhapsBegin_138 : decode cX9_perhapsBegin 138 = .ok (.imul, 1) := by decide +kernel
theorem dX9_perhapsBegin_139 : decode cX9_perhapsBegin 139 = .ok (.iload_n 2, 1) := by decide +kernel
theorem dX9_perhapsBegin_140 : decode cX9_perhapsBegin 140 = .ok (.iadd, 1) := by decide +kernel
theorem dX9_perhapsBegin_141 : decode cX9_perhapsBegin 141 = .ok (.iaload, 1) := by decide +kernel
theorem dX9_perhapsBegin_142 : decode cX9_perhapsBegin 142 = .ok (.istore_n 3, 1) := by decide +kernel
theorem dX9_perhapsBegin_143 : decode cX9_perhapsBegin 143 = .ok (.iload_n 3, 1) := by decide +kernel
theorem dX9_perhapsBegin_144 : decode cX9_perhapsBegin 144 = .ok (.ifCond .lt 27, 3) := by decide +kernel
theorem dX9_perhapsBegin_147 : decode cX9_perhapsBegin 147 = .ok (.aload_n 0, 1) := by decide +kernel
theorem dX9_perhapsBegin_148 : decode cX9_perhapsBegin 148 = .ok (.iload_n 3, 1) := by decide +kernel
theorem dX9_perhapsBegin_149 : decode cX9_perhapsBegin 149 = .ok (.iconst 1, 1) := by decide +kernel
theorem dX9_perhapsBegin_150 : decode cX9_perhapsBegin 150 = .ok (.invokevirtual 213, 3) := by decide +kernel
theorem dX9_perhapsBegin_153 : decode cX9_perhapsBegin 153 = .ok (.aload_n 0, 1) := by decide +kernel
theorem dX9_perhapsBegin_154 : decode cX9_perhapsBegin 154 = .ok (.getfield 25, 3) := by decide +kernel
theorem dX9_perhapsBegin_157 : decode cX9_perhapsBegin 157 = .ok (.iload_n 3, 1) := by decide +kernel
theorem dX9_perhapsBegin_158 : decode cX9_perhapsBegin 158 = .ok (.dup2, 1) := by decide +kernel
theorem dX9_perhapsBegin_159 : decode cX9_perhapsBegin 159 = .ok (.iaload, 1) := by decide +kernel
theorem dX9_perhapsBegin_160 : decode cX9_perhapsBegin 160 = .ok (.iconst 1, 1) := by decide +kernel
theorem dX9_perhapsBegin_161 : decode cX9_perhapsBegin 161 = .ok (.iadd, 1) := by decide +kernel
theorem dX9_perhapsBegin_162 : decode cX9_perhapsBegin 162 = .ok (.iastore, 1) := by decide +kernel
theorem dX9_perhapsBegin_163 : decode cX9_perhapsBegin 163 = .ok (.aload_n 0, 1) := by decide +kernel
theorem dX9_perhapsBegin_164 : decode cX9_perhapsBegin 164 = .ok (.getfield 34, 3) := by decide +kernel
theorem dX9_perhapsBegin_167 : decode cX9_perhapsBegin 167 = .ok (.iload_n 3, 1) := by decide +kernel
theorem dX9_perhapsBegin_168 : decode cX9_perhapsBegin 168 = .ok (.bipush (-5), 2) := by decide +kernel
theorem dX9_perhapsBegin_170 : decode cX9_perhapsBegin 170 = .ok (.iastore, 1) := by decide +kernel
theorem dX9_perhapsBegin_171 : decode cX9_perhapsBegin 171 = .ok (.iinc 2 1, 3) := by decide +kernel
theorem dX9_perhapsBegin_174 : decode cX9_perhapsBegin 174 = .ok (.goto (-47), 3) := by decide +kernel
theorem dX9_perhapsBegin_177 : decode cX9_perhapsBegin 177 = .ok (.return_, 1) := by decide +kernel
theorem dX9_pass_0 : decode cX9_pass 0 = .ok (.iconst 0, 1) := by decide +kernel
theorem dX9_pass_1 : decode cX9_pass 1 = .ok (.istore_n 1, 1) := by decide +kernel
theorem dX9_pass_2 : decode cX9_pass 2 = .ok (.aload_n 0, 1) := by decide +kernel
theorem dX9_pass_3 : decode cX9_pass 3 = .ok (.invokevirtual 236, 3) := by decide +kernel
theorem dX9_pass_6 : decode cX9_pass 6 = .ok (.aload_n 0, 1) := by decide +kernel
theorem dX9_pass_7 : decode cX9_pass 7 = .ok (.getfield 159, 3) := by decide +kernel
theorem dX9_pass_10 : decode cX9_pass 10 = .ok (.ifCond .le 46, 3) := by decide +kernel
theorem dX9_pass_13 : decode cX9_pass 13 = .ok (.aload_n 0, 1) := by decide +kernel
theorem dX9_pass_14 : decode cX9_pass 14 = .ok (.getfield 133, 3) := by decide +kernel
theorem dX9_pass_17 : decode cX9_pass 17 = .ok (.aload_n 0, 1) := by decide +kernel
theorem dX9_pass_18 : decode cX9_pass 18 = .ok (.getfield 105, 3) := by decide +kernel
theorem dX9_pass_21 : decode cX9_pass 21 = .ok (.iconst 3, 1) := by decide +kernel
theorem dX9_pass_22 : decode cX9_pass 22 = .ok (.iadd, 1) := by decide +kernel
theorem dX9_pass_23 : decode cX9_pass 23 = .ok (.if_icmp .ne 117, 3) := by decide +kernel
theorem dX9_pass_26 : decode cX9_pass 26 = .ok (.aload_n 0, 1) := by decide +kernel
theorem dX9_pass_27 : decode cX9_pass 27 = .ok (.iconst 2, 1) := by decide +kernel
theorem dX9_pass_28 : decode cX9_pass 28 = .ok (.putfield 159, 3) := by decide +kernel
theorem dX9_pass_31 : decode cX9_pass 31 = .ok (.iconst 0, 1) := by decide +kernel
theorem dX9_pass_32 : decode cX9_pass 32 = .ok (.istore_n 2, 1) := by decide +kernel
theorem dX9_pass_33 : decode cX9_pass 33 = .ok (.iload_n 2, 1) := by decide +kernel
theorem dX9_pass_34 : decode cX9_pass 34 = .ok (.aload_n 0, 1) := by decide +kernel
theorem dX9_pass_35 : decode cX9_pass 35 = .ok (.getfield 120, 3) := by decide +kernel
theorem dX9_pass_38 : decode cX9_pass 38 = .ok (.if_icmp .ge 15, 3) := by decide +kernel
theorem dX9_pass_41 : decode cX9_pass 41 = .ok (.aload_n 0, 1) := by decide +kernel
theorem dX9_pass_42 : decode cX9_pass 42 = .ok (.iload_n 2, 1) := by decide +kernel
theorem dX9_pass_43 : decode cX9_pass 43 = .ok (.iconst 3, 1) := by decide +kernel
theorem dX9_pass_44 : decode cX9_pass 44 = .ok (.invokevirtual 213, 3) := by decide +kernel
theorem dX9_pass_47 : decode cX9_pass 47 = .ok (.iinc 2 1, 3) := by decide +kernel
theorem dX9_pass_50 : decode cX9_pass 50 = .ok (.goto (-17), 3) := by decide +kernel
theorem dX9_pass_53 : decode cX9_pass 53 = .ok (.goto 87, 3) := by decide +kernel
theorem dX9_pass_56 : decode cX9_pass 56 = .ok (.aload_n 0, 1) := by decide +kernel
theorem dX9_pass_57 : decode cX9_pass 57 = .ok (.invokevirtual 239, 3) := by decide +kernel
theorem dX9_pass_60 : decode cX9_pass 60 = .ok (.aload_n 0, 1) := by decide +kernel
theorem dX9_pass_61 : decode cX9_pass 61 = .ok (.invokevirtual 242, 3) := by decide +kernel
theorem dX9_pass_64 : decode cX9_pass 64 = .ok (.istore_n 2, 1) := by decide +kernel
theorem dX9_pass_65 : decode cX9_pass 65 = .ok (.iload_n 2, 1) := by decide +kernel
theorem dX9_pass_66 : decode cX9_pass 66 = .ok (.ifCond .le 7, 3) := by decide +kernel
theorem dX9_pass_69 : decode cX9_pass 69 = .ok (.iconst 1, 1) := by decide +kernel
theorem dX9_pass_70 : decode cX9_pass 70 = .ok (.goto 4, 3) := by decide +kernel
theorem dX9_pass_73 : decode cX9_pass 73 = .ok (.iconst 0, 1) := by decide +kernel
theorem dX9_pass_74 : decode cX9_pass 74 = .ok (.istore_n 1, 1) := by decide +kernel
theorem dX9_pass_75 : decode cX9_pass 75 = .ok (.iload_n 1, 1) := by decide +kernel
theorem dX9_pass_76 : decode cX9_pass 76 = .ok (.ifCond .eq 11, 3) := by decide +kernel
theorem dX9_pass_79 : decode cX9_pass 79 = .ok (.aload_n 0, 1) := by decide +kernel
theorem dX9_pass_80 : decode cX9_pass 80 = .ok (.iload_n 2, 1) := by decide +kernel
theorem dX9_pass_81 : decode cX9_pass 81 = .ok (.invokevirtual 245, 3) := by decide +kernel
theorem dX9_pass_84 : decode cX9_pass 84 = .ok (.goto 56, 3) := by decide +kernel
theorem dX9_pass_87 : decode cX9_pass 87 = .ok (.aload_n 0, 1) := by decide +kernel
theorem dX9_pass_88 : decode cX9_pass 88 = .ok (.invokevirtual 249, 3) := by decide +kernel
theorem dX9_pass_91 : decode cX9_pass 91 = .ok (.iconst 0, 1) := by decide +kernel
theorem dX9_pass_92 : decode cX9_pass 92 = .ok (.istore_n 3, 1) := by decide +kernel
theorem dX9_pass_93 : decode cX9_pass 93 = .ok (.iload_n 3, 1) := by decide +kernel
theorem dX9_pass_94 : decode cX9_pass 94 = .ok (.aload_n 0, 1) := by decide +kernel
theorem dX9_pass_95 : decode cX9_pass 95 = .ok (.getfield 120, 3) := by decide +kernel
theorem dX9_pass_98 : decode cX9_pass 98 = .ok (.if_icmp .ge 38, 3) := by decide +kernel
theorem dX9_pass_101 : decode cX9_pass 101 = .ok (.aload_n 0, 1) := by decide +kernel
theorem dX9_pass_102 : decode cX9_pass 102 = .ok (.getfield 13, 3) := by decide +kernel
theorem dX9_pass_105 : decode cX9_pass 105 = .ok (.iload_n 3, 1) := by decide +kernel
theorem dX9_pass_106 : decode cX9_pass 106 = .ok (.iaload, 1) := by decide +kernel
theorem dX9_pass_107 : decode cX9_pass 107 = .ok (.iconst 2, 1) := by decide +kernel
theorem dX9_pass_108 : decode cX9_pass 108 = .ok (.if_icmp .ne 22, 3) := by decide +kernel
theorem dX9_pass_111 : decode cX9_pass 111 = .ok (.aload_n 0, 1) := by decide +kernel
theorem dX9_pass_112 : decode cX9_pass 112 = .ok (.getfield 28, 3) := by decide +kernel
theorem dX9_pass_115 : decode cX9_pass 115 = .ok (.iload_n 3, 1) := by decide +kernel
theorem dX9_pass_116 : decode cX9_pass 116 = .ok (.iaload, 1) := by decide +kernel
theorem dX9_pass_117 : decode cX9_pass 117 = .ok (.aload_n 0, 1) := by decide +kernel
theorem dX9_pass_118 : decode cX9_pass 118 = .ok (.getfield 133, 3) := by decide +kernel
theorem dX9_pass_121 : decode cX9_pass 121 = .ok (.if_icmp .gt 9, 3) := by decide +kernel
theorem dX9_pass_124 : decode cX9_pass 124 = .ok (.aload_n 0, 1) := by decide +kernel
theorem dX9_pass_125 : decode cX9_pass 125 = .ok (.iload_n 3, 1) := by decide +kernel
theorem dX9_pass_126 : decode cX9_pass 126 = .ok (.iconst 0, 1) := by decide +kernel
theorem dX9_pass_127 : decode cX9_pass 127 = .ok (.invokevirtual 213, 3) := by decide +kernel
theorem dX9_pass_130 : decode cX9_pass 130 = .ok (.iinc 3 1, 3) := by decide +kernel
theorem dX9_pass_133 : decode cX9_pass 133 = .ok (.goto (-40), 3) := by decide +kernel
theorem dX9_pass_136 : decode cX9_pass 136 = .ok (.aload_n 0, 1) := by decide +kernel
theorem dX9_pass_137 : decode cX9_pass 137 = .ok (.invokevirtual 252, 3) := by decide +kernel
theorem dX9_pass_140 : decode cX9_pass 140 = .ok (.iconst 0, 1) := by decide +kernel
theorem dX9_pass_141 : decode cX9_pass 141 = .ok (.istore_n 2, 1) := by decide +kernel
theorem dX9_pass_142 : decode cX9_pass 142 = .ok (.iload_n 2, 1) := by decide +kernel
theorem dX9_pass_143 : decode cX9_pass 143 = .ok (.aload_n 0, 1) := by decide +kernel
theorem dX9_pass_144 : decode cX9_pass 144 = .ok (.getfield 120, 3) := by decide +kernel
theorem dX9_pass_147 : decode cX9_pass 147 = .ok (.if_icmp .ge 32, 3) := by decide +kernel
theorem dX9_pass_150 : decode cX9_pass 150 = .ok (.aload_n 0, 1) := by decide +kernel
theorem dX9_pass_151 : decode cX9_pass 151 = .ok (.getfield 114, 3) := by decide +kernel
theorem dX9_pass_154 : decode cX9_pass 154 = .ok (.bipush 8, 2) := by decide +kernel
theorem dX9_pass_156 : decode cX9_pass 156 = .ok (.aload_n 0, 1) := by decide +kernel
theorem dX9_pass_157 : decode cX9_pass 157 = .ok (.getfield 133, 3) := by decide +kernel
theorem dX9_pass_160 : decode cX9_pass 160 = .ok (.bipush 61, 2) := by decide +kernel
theorem dX9_pass_162 : decode cX9_pass 162 = .ok (.irem, 1) := by decide +kernel
theorem dX9_pass_163 : decode cX9_pass 163 = .ok (.imul, 1) := by decide +kernel
theorem dX9_pass_164 : decode cX9_pass 164 = .ok (.iload_n 2, 1) := by decide +kernel
theorem dX9_pass_165 : decode cX9_pass 165 = .ok (.iadd, 1) := by decide +kernel
theorem dX9_pass_166 : decode cX9_pass 166 = .ok (.aload_n 0, 1) := by decide +kernel
theorem dX9_pass_167 : decode cX9_pass 167 = .ok (.getfield 13, 3) := by decide +kernel
theorem dX9_pass_170 : decode cX9_pass 170 = .ok (.iload_n 2, 1) := by decide +kernel
theorem dX9_pass_171 : decode cX9_pass 171 = .ok (.iaload, 1) := by decide +kernel
theorem dX9_pass_172 : decode cX9_pass 172 = .ok (.iastore, 1) := by decide +kernel
theorem dX9_pass_173 : decode cX9_pass 173 = .ok (.iinc 2 1, 3) := by decide +kernel
theorem dX9_pass_176 : decode cX9_pass 176 = .ok (.goto (-34), 3) := by decide +kernel
theorem dX9_pass_179 : decode cX9_pass 179 = .ok (.aload_n 0, 1) := by decide +kernel
theorem dX9_pass_180 : decode cX9_pass 180 = .ok (.dup, 1) := by decide +kernel
theorem dX9_pass_181 : decode cX9_pass 181 = .ok (.getfield 133, 3) := by decide +kernel
theorem dX9_pass_184 : decode cX9_pass 184 = .ok (.iconst 1, 1) := by decide +kernel
theorem dX9_pass_185 : decode cX9_pass 185 = .ok (.iadd, 1) := by decide +kernel
theorem dX9_pass_186 : decode cX9_pass 186 = .ok (.putfield 133, 3) := by decide +kernel
theorem dX9_pass_189 : decode cX9_pass 189 = .ok (.iload_n 1, 1) := by decide +kernel
theorem dX9_pass_190 : decode cX9_pass 190 = .ok (.ireturn, 1) := by decide +kernel
theorem dX9_second_0 : decode cX9_second 0 = .ok (.iload_n 1, 1) := by decide +kernel
theorem dX9_second_1 : decode cX9_second 1 = .ok (.iconst 0, 1) := by decide +kernel
theorem dX9_second_2 : decode cX9_second 2 = .ok (.iconst 4, 1) := by decide +kernel
theorem dX9_second_3 : decode cX9_second 3 = .ok (.invokestatic 123, 3) := by decide +kernel
theorem dX9_second_6 : decode cX9_second 6 = .ok (.ifCond .ne 5, 3) := by decide +kernel
theorem dX9_second_9 : decode cX9_second 9 = .ok (.iconst (-1), 1) := by decide +kernel
theorem dX9_second_10 : decode cX9_second 10 = .ok (.ireturn, 1) := by decide +kernel
theorem dX9_second_11 : decode cX9_second 11 = .ok (.iconst 0, 1) := by decide +kernel
theorem dX9_second_12 : decode cX9_second 12 = .ok (.istore_n 2, 1) := by decide +kernel
theorem dX9_second_13 : decode cX9_second 13 = .ok (.iconst 0, 1) := by decide +kernel
theorem dX9_second_14 : decode cX9_second 14 = .ok (.istore_n 3, 1) := by decide +kernel
theorem dX9_second_15 : decode cX9_second 15 = .ok (.iload_n 2, 1) := by decide +kernel
theorem dX9_second_16 : decode cX9_second 16 = .ok (.iload_n 1, 1) := by decide +kernel
theorem dX9_second_17 : decode cX9_second 17 = .ok (.if_icmp .ge 18, 3) := by decide +kernel
theorem dX9_second_20 : decode cX9_second 20 = .ok (.iload_n 3, 1) := by decide +kernel
theorem dX9_second_21 : decode cX9_second 21 = .ok (.ifCond .ne 14, 3) := by decide +kernel
theorem dX9_second_24 : decode cX9_second 24 = .ok (.aload_n 0, 1) := by decide +kernel
theorem dX9_second_25 : decode cX9_second 25 = .ok (.invokevirtual 255, 3) := by decide +kernel
theorem dX9_second_28 : decode cX9_second 28 = .ok (.istore_n 3, 1) := by decide +kernel
theorem dX9_second_29 : decode cX9_second 29 = .ok (.iinc 2 1, 3) := by decide +kernel
theorem dX9_second_32 : decode cX9_second 32 = .ok (.goto (-17), 3) := by decide +kernel
theorem dX9_second_35 : decode cX9_second 35 = .ok (.iload_n 2, 1) := by decide +kernel
theorem dX9_second_36 : decode cX9_second 36 = .ok (.ireturn, 1) := by decide +kernel
theorem dX9_restore_0 : decode cX9_restore 0 = .ok (.aload_n 0, 1) := by decide +kernel
theorem dX9_restore_1 : decode cX9_restore 1 = .ok (.getfield 159, 3) := by decide +kernel
theorem dX9_restore_4 : decode cX9_restore 4 = .ok (.ifCond .ne 6, 3) := by decide +kernel
theorem dX9_restore_7 : decode cX9_restore 7 = .ok (.bipush (-3), 2) := by decide +kernel
theorem dX9_restore_9 : decode cX9_restore 9 = .ok (.ireturn, 1) := by decide +kernel
theorem dX9_restore_10 : decode cX9_restore 10 = .ok (.aload_n 0, 1) := by decide +kernel
theorem dX9_restore_11 : decode cX9_restore 11 = .ok (.iconst 0, 1) := by decide +kernel
theorem dX9_restore_12 : decode cX9_restore 12 = .ok (.putfield 159, 3) := by decide +kernel
theorem dX9_restore_15 : decode cX9_restore 15 = .ok (.iconst 0, 1) := by decide +kernel
theorem dX9_restore_16 : decode cX9_restore 16 = .ok (.istore_n 1, 1) := by decide +kernel
theorem dX9_restore_17 : decode cX9_restore 17 = .ok (.iload_n 1, 1) := by decide +kernel
theorem dX9_restore_18 : decode cX9_restore 18 = .ok (.aload_n 0, 1) := by decide +kernel
theorem dX9_restore_19 : decode cX9_restore 19 = .ok (.getfield 120, 3) := by decide +kernel
theorem dX9_restore_22 : decode cX9_restore 22 = .ok (.if_icmp .ge 15, 3) := by decide +kernel
theorem dX9_restore_25 : decode cX9_restore 25 = .ok (.aload_n 0, 1) := by decide +kernel
theorem dX9_restore_26 : decode cX9_restore 26 = .ok (.iload_n 1, 1) := by decide +kernel
theorem dX9_restore_27 : decode cX9_restore 27 = .ok (.iconst 0, 1) := by decide +kernel
theorem dX9_restore_28 : decode cX9_restore 28 = .ok (.invokevirtual 213, 3) := by decide +kernel
theorem dX9_restore_31 : decode cX9_restore 31 = .ok (.iinc 1 1, 3) := by decide +kernel
theorem dX9_restore_34 : decode cX9_restore 34 = .ok (.goto (-17), 3) := by decide +kernel
theorem dX9_restore_37 : decode cX9_restore 37 = .ok (.iconst 1, 1) := by decide +kernel
theorem dX9_restore_38 : decode cX9_restore 38 = .ok (.ireturn, 1) := by decide +kernel
theorem dX9_light_0 : decode cX9_light 0 = .ok (.aload_n 0, 1) := by decide +kernel
theorem dX9_light_1 : decode cX9_light 1 = .ok (.iload_n 1, 1) := by decide +kernel
theorem dX9_light_2 : decode cX9_light 2 = .ok (.invokevirtual 136, 3) := by decide +kernel
theorem dX9_light_5 : decode cX9_light 5 = .ok (.ifCond .eq 12, 3) := by decide +kernel
theorem dX9_light_8 : decode cX9_light 8 = .ok (.aload_n 0, 1) := by decide +kernel
theorem dX9_light_9 : decode cX9_light 9 = .ok (.getfield 13, 3) := by decide +kernel
theorem dX9_light_12 : decode cX9_light 12 = .ok (.iload_n 1, 1) := by decide +kernel
theorem dX9_light_13 : decode cX9_light 13 = .ok (.iaload, 1) := by decide +kernel
theorem dX9_light_14 : decode cX9_light 14 = .ok (.goto 4, 3) := by decide +kernel
theorem dX9_light_17 : decode cX9_light 17 = .ok (.iconst (-1), 1) := by decide +kernel
theorem dX9_light_18 : decode cX9_light 18 = .ok (.ireturn, 1) := by decide +kernel
theorem dX9_was_0 : decode cX9_was 0 = .ok (.aload_n 0, 1) := by decide +kernel
theorem dX9_was_1 : decode cX9_was 1 = .ok (.iload_n 1, 1) := by decide +kernel
theorem dX9_was_2 : decode cX9_was 2 = .ok (.invokevirtual 136, 3) := by decide +kernel
theorem dX9_was_5 : decode cX9_was 5 = .ok (.ifCond .eq 13, 3) := by decide +kernel
theorem dX9_was_8 : decode cX9_was 8 = .ok (.iload_n 2, 1) := by decide +kernel
theorem dX9_was_9 : decode cX9_was 9 = .ok (.iconst 0, 1) := by decide +kernel
theorem dX9_was_10 : decode cX9_was 10 = .ok (.bipush 60, 2) := by decide +kernel
theorem dX9_was_12 : decode cX9_was 12 = .ok (.invokestatic 123, 3) := by decide +kernel
theorem dX9_was_15 : decode cX9_was 15 = .ok (.ifCond .ne 5, 3) := by decide +kernel
theorem dX9_was_18 : decode cX9_was 18 = .ok (.iconst (-1), 1) := by decide +kernel
theorem dX9_was_19 : decode cX9_was 19 = .ok (.ireturn, 1) := by decide +kernel
theorem dX9_was_20 : decode cX9_was 20 = .ok (.iload_n 2, 1) := by decide +kernel
theorem dX9_was_21 : decode cX9_was 21 = .ok (.aload_n 0, 1) := by decide +kernel
theorem dX9_was_22 : decode cX9_was 22 = .ok (.getfield 133, 3) := by decide +kernel
theorem dX9_was_25 : decode cX9_was 25 = .ok (.if_icmp .lt 8, 3) := by decide +kernel
theorem dX9_was_28 : decode cX9_was 28 = .ok (.bipush (-5), 2) := by decide +kernel
theorem dX9_was_30 : decode cX9_was 30 = .ok (.goto 24, 3) := by decide +kernel
theorem dX9_was_33 : decode cX9_was 33 = .ok (.aload_n 0, 1) := by decide +kernel
theorem dX9_was_34 : decode cX9_was 34 = .ok (.getfield 114, 3) := by decide +kernel
theorem dX9_was_37 : decode cX9_was 37 = .ok (.bipush 8, 2) := by decide +kernel
theorem dX9_was_39 : decode cX9_was 39 = .ok (.aload_n 0, 1) := by decide +kernel
theorem dX9_was_40 : decode cX9_was 40 = .ok (.getfield 133, 3) := by decide +kernel
theorem dX9_was_43 : decode cX9_was 43 = .ok (.iconst 1, 1) := by decide +kernel
theorem dX9_was_44 : decode cX9_was 44 = .ok (.isub, 1) := by decide +kernel
theorem dX9_was_45 : decode cX9_was 45 = .ok (.iload_n 2, 1) := by decide +kernel
theorem dX9_was_46 : decode cX9_was 46 = .ok (.isub, 1) := by decide +kernel
theorem dX9_was_47 : decode cX9_was 47 = .ok (.bipush 61, 2) := by decide +kernel
theorem dX9_was_49 : decode cX9_was 49 = .ok (.irem, 1) := by decide +kernel
theorem dX9_was_50 : decode cX9_was 50 = .ok (.imul, 1) := by decide +kernel
theorem dX9_was_51 : decode cX9_was 51 = .ok (.iload_n 1, 1) := by decide +kernel
theorem dX9_was_52 : decode cX9_was 52 = .ok (.iadd, 1) := by decide +kernel
theorem dX9_was_53 : decode cX9_was 53 = .ok (.iaload, 1) := by decide +kernel
theorem dX9_was_54 : decode cX9_was 54 = .ok (.ireturn, 1) := by decide +kernel
theorem dX9_stageOf_0 : decode cX9_stageOf 0 = .ok (.iload_n 1, 1) := by decide +kernel
theorem dX9_stageOf_1 : decode cX9_stageOf 1 = .ok (.tableswitch 68 0 3 #[31, 36, 41, 46], 31) := by decide +kernel
theorem dX9_stageOf_32 : decode cX9_stageOf 32 = .ok (.aload_n 0, 1) := by decide +kernel
theorem dX9_stageOf_33 : decode cX9_stageOf 33 = .ok (.getfield 95, 3) := by decide +kernel
theorem dX9_stageOf_36 : decode cX9_stageOf 36 = .ok (.ireturn, 1) := by decide +kernel
theorem dX9_stageOf_37 : decode cX9_stageOf 37 = .ok (.aload_n 0, 1) := by decide +kernel
theorem dX9_stageOf_38 : decode cX9_stageOf 38 = .ok (.invokevirtual 229, 3) := by decide +kernel
theorem dX9_stageOf_41 : decode cX9_stageOf 41 = .ok (.ireturn, 1) := by decide +kernel
theorem dX9_stageOf_42 : decode cX9_stageOf 42 = .ok (.aload_n 0, 1) := by decide +kernel
theorem dX9_stageOf_43 : decode cX9_stageOf 43 = .ok (.getfield 102, 3) := by decide +kernel
theorem dX9_stageOf_46 : decode cX9_stageOf 46 = .ok (.ireturn, 1) := by decide +kernel
theorem dX9_stageOf_47 : decode cX9_stageOf 47 = .ok (.aload_n 0, 1) := by decide +kernel
theorem dX9_stageOf_48 : decode cX9_stageOf 48 = .ok (.getfield 95, 3) := by decide +kernel
theorem dX9_stageOf_51 : decode cX9_stageOf 51 = .ok (.ifCond .ge 8, 3) := by decide +kernel
theorem dX9_stageOf_54 : decode cX9_stageOf 54 = .ok (.bipush (-5), 2) := by decide +kernel
theorem dX9_stageOf_56 : decode cX9_stageOf 56 = .ok (.goto 12, 3) := by decide +kernel
theorem dX9_stageOf_59 : decode cX9_stageOf 59 = .ok (.aload_n 0, 1) := by decide +kernel
theorem dX9_stageOf_60 : decode cX9_stageOf 60 = .ok (.getfield 133, 3) := by decide +kernel
theorem dX9_stageOf_63 : decode cX9_stageOf 63 = .ok (.aload_n 0, 1) := by decide +kernel
theorem dX9_stageOf_64 : decode cX9_stageOf 64 = .ok (.getfield 189, 3) := by decide +kernel
theorem dX9_stageOf_67 : decode cX9_stageOf 67 = .ok (.isub, 1) := by decide +kernel
theorem dX9_stageOf_68 : decode cX9_stageOf 68 = .ok (.ireturn, 1) := by decide +kernel
theorem dX9_stageOf_69 : decode cX9_stageOf 69 = .ok (.iconst (-1), 1) := by decide +kernel
theorem dX9_stageOf_70 : decode cX9_stageOf 70 = .ok (.ireturn, 1) := by decide +kernel
theorem dX9_place_0 : decode cX9_place 0 = .ok (.aload_n 0, 1) := by decide +kernel
theorem dX9_place_1 : decode cX9_place 1 = .ok (.iload_n 1, 1) := by decide +kernel
theorem dX9_place_2 : decode cX9_place 2 = .ok (.invokevirtual 156, 3) := by decide +kernel
theorem dX9_place_5 : decode cX9_place 5 = .ok (.ifCond .eq 12, 3) := by decide +kernel
theorem dX9_place_8 : decode cX9_place 8 = .ok (.iload_n 2, 1) := by decide +kernel
theorem dX9_place_9 : decode cX9_place 9 = .ok (.iconst 0, 1) := by decide +kernel
theorem dX9_place_10 : decode cX9_place 10 = .ok (.iconst 3, 1) := by decide +kernel
theorem dX9_place_11 : decode cX9_place 11 = .ok (.invokestatic 123, 3) := by decide +kernel
theorem dX9_place_14 : decode cX9_place 14 = .ok (.ifCond .ne 5, 3) := by decide +kernel
theorem dX9_place_17 : decode cX9_place 17 = .ok (.iconst (-1), 1) := by decide +kernel
theorem dX9_place_18 : decode cX9_place 18 = .ok (.ireturn, 1) := by decide +kernel
theorem dX9_place_19 : decode cX9_place 19 = .ok (.aload_n 0, 1) := by decide +kernel
theorem dX9_place_20 : decode cX9_place 20 = .ok (.getfield 56, 3) := by decide +kernel
theorem dX9_place_23 : decode cX9_place 23 = .ok (.iconst 4, 1) := by decide +kernel
theorem dX9_place_24 : decode cX9_place 24 = .ok (.iload_n 1, 1) := by decide +kernel
theorem dX9_place_25 : decode cX9_place 25 = .ok (.imul, 1) := by decide +kernel
theorem dX9_place_26 : decode cX9_place 26 = .ok (.iload_n 2, 1) := by decide +kernel
theorem dX9_place_27 : decode cX9_place 27 = .ok (.iadd, 1) := by decide +kernel
theorem dX9_place_28 : decode cX9_place 28 = .ok (.iaload, 1) := by decide +kernel
theorem dX9_place_29 : decode cX9_place 29 = .ok (.ifCond .ge 10, 3) := by decide +kernel
theorem dX9_place_32 : decode cX9_place 32 = .ok (.aload_n 0, 1) := by decide +kernel
theorem dX9_place_33 : decode cX9_place 33 = .ok (.iconst 4, 1) := by decide +kernel
theorem dX9_place_34 : decode cX9_place 34 = .ok (.bipush (-5), 2) := by decide +kernel
theorem dX9_place_36 : decode cX9_place 36 = .ok (.invokevirtual 169, 3) := by decide +kernel
theorem dX9_place_39 : decode cX9_place 39 = .ok (.aload_n 0, 1) := by decide +kernel
theorem dX9_place_40 : decode cX9_place 40 = .ok (.getfield 56, 3) := by decide +kernel
theorem dX9_place_43 : decode cX9_place 43 = .ok (.iconst 4, 1) := by decide +kernel
theorem dX9_place_44 : decode cX9_place 44 = .ok (.iload_n 1, 1) := by decide +kernel
theorem dX9_place_45 : decode cX9_place 45 = .ok (.imul, 1) := by decide +kernel
theorem dX9_place_46 : decode cX9_place 46 = .ok (.iload_n 2, 1) := by decide +kernel
theorem dX9_place_47 : decode cX9_place 47 = .ok (.iadd, 1) := by decide +kernel
theorem dX9_place_48 : decode cX9_place 48 = .ok (.iaload, 1) := by decide +kernel
theorem dX9_place_49 : decode cX9_place 49 = .ok (.ireturn, 1) := by decide +kernel
theorem dX9_told_0 : decode cX9_told 0 = .ok (.aload_n 0, 1) := by decide +kernel
theorem dX9_told_1 : decode cX9_told 1 = .ok (.iload_n 1, 1) := by decide +kernel
theorem dX9_told_2 : decode cX9_told 2 = .ok (.invokevirtual 136, 3) := by decide +kernel
theorem dX9_told_5 : decode cX9_told 5 = .ok (.ifCond .eq 13, 3) := by decide +kernel
theorem dX9_told_8 : decode cX9_told 8 = .ok (.iload_n 2, 1) := by decide +kernel
theorem dX9_told_9 : decode cX9_told 9 = .ok (.iconst 0, 1) := by decide +kernel
theorem dX9_told_10 : decode cX9_told 10 = .ok (.bipush 11, 2) := by decide +kernel
theorem dX9_told_12 : decode cX9_told 12 = .ok (.invokestatic 123, 3) := by decide +kernel
theorem dX9_told_15 : decode cX9_told 15 = .ok (.ifCond .ne 5, 3) := by decide +kernel
theorem dX9_told_18 : decode cX9_told 18 = .ok (.iconst (-1), 1) := by decide +kernel
theorem dX9_told_19 : decode cX9_told 19 = .ok (.ireturn, 1) := by decide +kernel
theorem dX9_told_20 : decode cX9_told 20 = .ok (.iload_n 2, 1) := by decide +kernel
theorem dX9_told_21 : decode cX9_told 21 = .ok (.tableswitch 129 0 10 #[59, 66, 73, 73, 80, 87, 94, 101, 108, 115, 122], 59) := by decide +kernel
theorem dX9_told_80 : decode cX9_told 80 = .ok (.aload_n 0, 1) := by decide +kernel
theorem dX9_told_81 : decode cX9_told 81 = .ok (.getfield 7, 3) := by decide +kernel
theorem dX9_told_84 : decode cX9_told 84 = .ok (.iload_n 1, 1) := by decide +kernel
theorem dX9_told_85 : decode cX9_told 85 = .ok (.iaload, 1) := by decide +kernel
theorem dX9_told_86 : decode cX9_told 86 = .ok (.ireturn, 1) := by decide +kernel
theorem dX9_told_87 : decode cX9_told 87 = .ok (.aload_n 0, 1) := by decide +kernel
theorem dX9_told_88 : decode cX9_told 88 = .ok (.getfield 16, 3) := by decide +kernel
theorem dX9_told_91 : decode cX9_told 91 = .ok (.iload_n 1, 1) := by decide +kernel
theorem dX9_told_92 : decode cX9_told 92 = .ok (.iaload, 1) := by decide +kernel
theorem dX9_told_93 : decode cX9_told 93 = .ok (.ireturn, 1) := by decide +kernel
theorem dX9_told_94 : decode cX9_told 94 = .ok (.aload_n 0, 1) := by decide +kernel
theorem dX9_told_95 : decode cX9_told 95 = .ok (.getfield 19, 3) := by decide +kernel
theorem dX9_told_98 : decode cX9_told 98 = .ok (.iload_n 1, 1) := by decide +kernel
theorem dX9_told_99 : decode cX9_told 99 = .ok (.iaload, 1) := by decide +kernel
theorem dX9_told_100 : decode cX9_told 100 = .ok (.ireturn, 1) := by decide +kernel
theorem dX9_told_101 : decode cX9_told 101 = .ok (.aload_n 0, 1) := by decide +kernel
theorem dX9_told_102 : decode cX9_told 102 = .ok (.getfield 22, 3) := by decide +kernel
theorem dX9_told_105 : decode cX9_told 105 = .ok (.iload_n 1, 1) := by decide +kernel
theorem dX9_told_106 : decode cX9_told 106 = .ok (.iaload, 1) := by decide +kernel
theorem dX9_told_107 : decode cX9_told 107 = .ok (.ireturn, 1) := by decide +kernel
theorem dX9_told_108 : decode cX9_told 108 = .ok (.aload_n 0, 1) := by decide +kernel
theorem dX9_told_109 : decode cX9_told 109 = .ok (.getfield 25, 3) := by decide +kernel
theorem dX9_told_112 : decode cX9_told 112 = .ok (.iload_n 1, 1) := by decide +kernel
theorem dX9_told_113 : decode cX9_told 113 = .ok (.iaload, 1) := by decide +kernel
theorem dX9_told_114 : decode cX9_told 114 = .ok (.ireturn, 1) := by decide +kernel
theorem dX9_told_115 : decode cX9_told 115 = .ok (.aload_n 0, 1) := by decide +kernel
theorem dX9_told_116 : decode cX9_told 116 = .ok (.getfield 28, 3) := by decide +kernel
theorem dX9_told_119 : decode cX9_told 119 = .ok (.iload_n 1, 1) := by decide +kernel
theorem dX9_told_120 : decode cX9_told 120 = .ok (.iaload, 1) := by decide +kernel
theorem dX9_told_121 : decode cX9_told 121 = .ok (.ireturn, 1) := by decide +kernel
theorem dX9_told_122 : decode cX9_told 122 = .ok (.aload_n 0, 1) := by decide +kernel
theorem dX9_told_123 : decode cX9_told 123 = .ok (.getfield 31, 3) := by decide +kernel
theorem dX9_told_126 : decode cX9_told 126 = .ok (.iload_n 1, 1) := by decide +kernel
theorem dX9_told_127 : decode cX9_told 127 = .ok (.iaload, 1) := by decide +kernel
theorem dX9_told_128 : decode cX9_told 128 = .ok (.ireturn, 1) := by decide +kernel
theorem dX9_told_129 : decode cX9_told 129 = .ok (.aload_n 0, 1) := by decide +kernel
theorem dX9_told_130 : decode cX9_told 130 = .ok (.getfield 34, 3) := by decide +kernel
theorem dX9_told_133 : decode cX9_told 133 = .ok (.iload_n 1, 1) := by decide +kernel
theorem dX9_told_134 : decode cX9_told 134 = .ok (.iaload, 1) := by decide +kernel
theorem dX9_told_135 : decode cX9_told 135 = .ok (.ireturn, 1) := by decide +kernel
theorem dX9_told_136 : decode cX9_told 136 = .ok (.aload_n 0, 1) := by decide +kernel
theorem dX9_told_137 : decode cX9_told 137 = .ok (.getfield 37, 3) := by decide +kernel
theorem dX9_told_140 : decode cX9_told 140 = .ok (.iload_n 1, 1) := by decide +kernel
theorem dX9_told_141 : decode cX9_told 141 = .ok (.iaload, 1) := by decide +kernel
theorem dX9_told_142 : decode cX9_told 142 = .ok (.ireturn, 1) := by decide +kernel
theorem dX9_told_143 : decode cX9_told 143 = .ok (.aload_n 0, 1) := by decide +kernel
theorem dX9_told_144 : decode cX9_told 144 = .ok (.getfield 40, 3) := by decide +kernel
theorem dX9_told_147 : decode cX9_told 147 = .ok (.iload_n 1, 1) := by decide +kernel
theorem dX9_told_148 : decode cX9_told 148 = .ok (.iaload, 1) := by decide +kernel
theorem dX9_told_149 : decode cX9_told 149 = .ok (.ireturn, 1) := by decide +kernel
theorem dX9_told_150 : decode cX9_told 150 = .ok (.aload_n 0, 1) := by decide +kernel
theorem dX9_told_151 : decode cX9_told 151 = .ok (.getfield 43, 3) := by decide +kernel
theorem dX9_told_154 : decode cX9_told 154 = .ok (.iload_n 1, 1) := by decide +kernel
theorem dX9_told_155 : decode cX9_told 155 = .ok (.iaload, 1) := by decide +kernel
theorem dX9_told_156 : decode cX9_told 156 = .ok (.ireturn, 1) := by decide +kernel
theorem dX9_length_0 : decode cX9_length 0 = .ok (.aload_n 0, 1) := by decide +kernel
theorem dX9_length_1 : decode cX9_length 1 = .ok (.iload_n 1, 1) := by decide +kernel
theorem dX9_length_2 : decode cX9_length 2 = .ok (.invokevirtual 147, 3) := by decide +kernel
theorem dX9_length_5 : decode cX9_length 5 = .ok (.ifCond .eq 12, 3) := by decide +kernel
theorem dX9_length_8 : decode cX9_length 8 = .ok (.aload_n 0, 1) := by decide +kernel
theorem dX9_length_9 : decode cX9_length 9 = .ok (.getfield 59, 3) := by decide +kernel
theorem dX9_length_12 : decode cX9_length 12 = .ok (.iload_n 1, 1) := by decide +kernel
theorem dX9_length_13 : decode cX9_length 13 = .ok (.iaload, 1) := by decide +kernel
theorem dX9_length_14 : decode cX9_length 14 = .ok (.goto 4, 3) := by decide +kernel
theorem dX9_length_17 : decode cX9_length 17 = .ok (.iconst (-1), 1) := by decide +kernel
theorem dX9_length_18 : decode cX9_length 18 = .ok (.ireturn, 1) := by decide +kernel
theorem dX9_bound_0 : decode cX9_bound 0 = .ok (.iconst 0, 1) := by decide +kernel
theorem dX9_bound_1 : decode cX9_bound 1 = .ok (.istore_n 1, 1) := by decide +kernel
theorem dX9_bound_2 : decode cX9_bound 2 = .ok (.iconst 0, 1) := by decide +kernel
theorem dX9_bound_3 : decode cX9_bound 3 = .ok (.istore_n 2, 1) := by decide +kernel
theorem dX9_bound_4 : decode cX9_bound 4 = .ok (.iconst 0, 1) := by decide +kernel
theorem dX9_bound_5 : decode cX9_bound 5 = .ok (.istore_n 3, 1) := by decide +kernel
theorem dX9_bound_6 : decode cX9_bound 6 = .ok (.iconst 0, 1) := by decide +kernel
theorem dX9_bound_7 : decode cX9_bound 7 = .ok (.istore 4, 2) := by decide +kernel
theorem dX9_bound_9 : decode cX9_bound 9 = .ok (.iload 4, 2) := by decide +kernel
theorem dX9_bound_11 : decode cX9_bound 11 = .ok (.aload_n 0, 1) := by decide +kernel
theorem dX9_bound_12 : decode cX9_bound 12 = .ok (.getfield 120, 3) := by decide +kernel
theorem dX9_bound_15 : decode cX9_bound 15 = .ok (.if_icmp .ge 89, 3) := by decide +kernel
theorem dX9_bound_18 : decode cX9_bound 18 = .ok (.aload_n 0, 1) := by decide +kernel
theorem dX9_bound_19 : decode cX9_bound 19 = .ok (.getfield 43, 3) := by decide +kernel
theorem dX9_bound_22 : decode cX9_bound 22 = .ok (.iload 4, 2) := by decide +kernel
theorem dX9_bound_24 : decode cX9_bound 24 = .ok (.iaload, 1) := by decide +kernel
theorem dX9_bound_25 : decode cX9_bound 25 = .ok (.iload_n 2, 1) := by decide +kernel
theorem dX9_bound_26 : decode cX9_bound 26 = .ok (.if_icmp .le 13, 3) := by decide +kernel
theorem dX9_bound_29 : decode cX9_bound 29 = .ok (.aload_n 0, 1) := by decide +kernel
theorem dX9_bound_30 : decode cX9_bound 30 = .ok (.getfield 43, 3) := by decide +kernel
theorem dX9_bound_33 : decode cX9_bound 33 = .ok (.iload 4, 2) := by decide +kernel
theorem dX9_bound_35 : decode cX9_bound 35 = .ok (.iaload, 1) := by decide +kernel
theorem dX9_bound_36 : decode cX9_bound 36 = .ok (.goto 4, 3) := by decide +kernel
theorem dX9_bound_39 : decode cX9_bound 39 = .ok (.iload_n 2, 1) := by decide +kernel
theorem dX9_bound_40 : decode cX9_bound 40 = .ok (.istore_n 2, 1) := by decide +kernel
theorem dX9_bound_41 : decode cX9_bound 41 = .ok (.iconst 0, 1) := by decide +kernel
theorem dX9_bound_42 : decode cX9_bound 42 = .ok (.istore 5, 2) := by decide +kernel
theorem dX9_bound_44 : decode cX9_bound 44 = .ok (.iload 5, 2) := by decide +kernel
theorem dX9_bound_46 : decode cX9_bound 46 = .ok (.aload_n 0, 1) := by decide +kernel
theorem dX9_bound_47 : decode cX9_bound 47 = .ok (.getfield 120, 3) := by decide +kernel
theorem dX9_bound_50 : decode cX9_bound 50 = .ok (.if_icmp .ge 48, 3) := by decide +kernel
theorem dX9_bound_53 : decode cX9_bound 53 = .ok (.aload_n 0, 1) := by decide +kernel
theorem dX9_bound_54 : decode cX9_bound 54 = .ok (.getfield 53, 3) := by decide +kernel
theorem dX9_bound_57 : decode cX9_bound 57 = .ok (.bipush 8, 2) := by decide +kernel
theorem dX9_bound_59 : decode cX9_bound 59 = .ok (.iload 4, 2) := by decide +kernel
theorem dX9_bound_61 : decode cX9_bound 61 = .ok (.imul, 1) := by decide +kernel
theorem dX9_bound_62 : decode cX9_bound 62 = .ok (.iload 5, 2) := by decide +kernel
theorem dX9_bound_64 : decode cX9_bound 64 = .ok (.iadd, 1) := by decide +kernel
theorem dX9_bound_65 : decode cX9_bound 65 = .ok (.iaload, 1) := by decide +kernel
theorem dX9_bound_66 : decode cX9_bound 66 = .ok (.iconst 1, 1) := by decide +kernel
theorem dX9_bound_67 : decode cX9_bound 67 = .ok (.isub, 1) := by decide +kernel
theorem dX9_bound_68 : decode cX9_bound 68 = .ok (.iload_n 3, 1) := by decide +kernel
theorem dX9_bound_69 : decode cX9_bound 69 = .ok (.if_icmp .le 21, 3) := by decide +kernel
theorem dX9_bound_72 : decode cX9_bound 72 = .ok (.aload_n 0, 1) := by decide +kernel
theorem dX9_bound_73 : decode cX9_bound 73 = .ok (.getfield 53, 3) := by decide +kernel
theorem dX9_bound_76 : decode cX9_bound 76 = .ok (.bipush 8, 2) := by decide +kernel
theorem dX9_bound_78 : decode cX9_bound 78 = .ok (.iload 4, 2) := by decide +kernel
theorem dX9_bound_80 : decode cX9_bound 80 = .ok (.imul, 1) := by decide +kernel
theorem dX9_bound_81 : decode cX9_bound 81 = .ok (.iload 5, 2) := by decide +kernel
theorem dX9_bound_83 : decode cX9_bound 83 = .ok (.iadd, 1) := by decide +kernel
theorem dX9_bound_84 : decode cX9_bound 84 = .ok (.iaload, 1) := by decide +kernel
theorem dX9_bound_85 : decode cX9_bound 85 = .ok (.iconst 1, 1) := by decide +kernel
theorem dX9_bound_86 : decode cX9_bound 86 = .ok (.isub, 1) := by decide +kernel
theorem dX9_bound_87 : decode cX9_bound 87 = .ok (.goto 4, 3) := by decide +kernel
theorem dX9_bound_90 : decode cX9_bound 90 = .ok (.iload_n 3, 1) := by decide +kernel
theorem dX9_bound_91 : decode cX9_bound 91 = .ok (.istore_n 3, 1) := by decide +kernel
theorem dX9_bound_92 : decode cX9_bound 92 = .ok (.iinc 5 1, 3) := by decide +kernel
theorem dX9_bound_95 : decode cX9_bound 95 = .ok (.goto (-51), 3) := by decide +kernel
theorem dX9_bound_98 : decode cX9_bound 98 = .ok (.iinc 4 1, 3) := by decide +kernel
theorem dX9_bound_101 : decode cX9_bound 101 = .ok (.goto (-92), 3) := by decide +kernel
theorem dX9_bound_104 : decode cX9_bound 104 = .ok (.iconst 0, 1) := by decide +kernel
theorem dX9_bound_105 : decode cX9_bound 105 = .ok (.istore 4, 2) := by decide +kernel
theorem dX9_bound_107 : decode cX9_bound 107 = .ok (.iload 4, 2) := by decide +kernel
theorem dX9_bound_109 : decode cX9_bound 109 = .ok (.aload_n 0, 1) := by decide +kernel
theorem dX9_bound_110 : decode cX9_bound 110 = .ok (.getfield 127, 3) := by decide +kernel
theorem dX9_bound_113 : decode cX9_bound 113 = .ok (.if_icmp .ge 22, 3) := by decide +kernel
theorem dX9_bound_116 : decode cX9_bound 116 = .ok (.iload_n 1, 1) := by decide +kernel
theorem dX9_bound_117 : decode cX9_bound 117 = .ok (.aload_n 0, 1) := by decide +kernel
theorem dX9_bound_118 : decode cX9_bound 118 = .ok (.iload 4, 2) := by decide +kernel
theorem dX9_bound_120 : decode cX9_bound 120 = .ok (.invokevirtual 233, 3) := by decide +kernel
theorem dX9_bound_123 : decode cX9_bound 123 = .ok (.iload_n 2, 1) := by decide +kernel
theorem dX9_bound_124 : decode cX9_bound 124 = .ok (.iadd, 1) := by decide +kernel
theorem dX9_bound_125 : decode cX9_bound 125 = .ok (.iload_n 3, 1) := by decide +kernel
theorem dX9_bound_126 : decode cX9_bound 126 = .ok (.iadd, 1) := by decide +kernel
theorem dX9_bound_127 : decode cX9_bound 127 = .ok (.iadd, 1) := by decide +kernel
theorem dX9_bound_128 : decode cX9_bound 128 = .ok (.istore_n 1, 1) := by decide +kernel
theorem dX9_bound_129 : decode cX9_bound 129 = .ok (.iinc 4 1, 3) := by decide +kernel
theorem dX9_bound_132 : decode cX9_bound 132 = .ok (.goto (-25), 3) := by decide +kernel
theorem dX9_bound_135 : decode cX9_bound 135 = .ok (.iload_n 1, 1) := by decide +kernel
theorem dX9_bound_136 : decode cX9_bound 136 = .ok (.ireturn, 1) := by decide +kernel
theorem dX9_count_0 : decode cX9_count 0 = .ok (.iload_n 1, 1) := by decide +kernel
theorem dX9_count_1 : decode cX9_count 1 = .ok (.tableswitch 110 0 11 #[63, 68, 68, 68, 68, 75, 80, 85, 90, 95, 100, 105], 63) := by decide +kernel
theorem dX9_count_64 : decode cX9_count 64 = .ok (.aload_n 0, 1) := by decide +kernel
theorem dX9_count_65 : decode cX9_count 65 = .ok (.getfield 133, 3) := by decide +kernel
theorem dX9_count_68 : decode cX9_count 68 = .ok (.ireturn, 1) := by decide +kernel
theorem dX9_count_69 : decode cX9_count 69 = .ok (.aload_n 0, 1) := by decide +kernel
theorem dX9_count_70 : decode cX9_count 70 = .ok (.getfield 108, 3) := by decide +kernel
theorem dX9_count_73 : decode cX9_count 73 = .ok (.iload_n 1, 1) := by decide +kernel
theorem dX9_count_74 : decode cX9_count 74 = .ok (.iaload, 1) := by decide +kernel
theorem dX9_count_75 : decode cX9_count 75 = .ok (.ireturn, 1) := by decide +kernel
theorem dX9_count_76 : decode cX9_count 76 = .ok (.aload_n 0, 1) := by decide +kernel
theorem dX9_count_77 : decode cX9_count 77 = .ok (.getfield 204, 3) := by decide +kernel
theorem dX9_count_80 : decode cX9_count 80 = .ok (.ireturn, 1) := by decide +kernel
theorem dX9_count_81 : decode cX9_count 81 = .ok (.aload_n 0, 1) := by decide +kernel
theorem dX9_count_82 : decode cX9_count 82 = .ok (.getfield 120, 3) := by decide +kernel
theorem dX9_count_85 : decode cX9_count 85 = .ok (.ireturn, 1) := by decide +kernel
theorem dX9_count_86 : decode cX9_count 86 = .ok (.aload_n 0, 1) := by decide +kernel
theorem dX9_count_87 : decode cX9_count 87 = .ok (.getfield 127, 3) := by decide +kernel
theorem dX9_count_90 : decode cX9_count 90 = .ok (.ireturn, 1) := by decide +kernel
theorem dX9_count_91 : decode cX9_count 91 = .ok (.aload_n 0, 1) := by decide +kernel
theorem dX9_count_92 : decode cX9_count 92 = .ok (.getfield 130, 3) := by decide +kernel
theorem dX9_count_95 : decode cX9_count 95 = .ok (.ireturn, 1) := by decide +kernel
theorem dX9_count_96 : decode cX9_count 96 = .ok (.aload_n 0, 1) := by decide +kernel
theorem dX9_count_97 : decode cX9_count 97 = .ok (.getfield 150, 3) := by decide +kernel
theorem dX9_count_100 : decode cX9_count 100 = .ok (.ireturn, 1) := by decide +kernel
theorem dX9_count_101 : decode cX9_count 101 = .ok (.aload_n 0, 1) := by decide +kernel
theorem dX9_count_102 : decode cX9_count 102 = .ok (.getfield 153, 3) := by decide +kernel
theorem dX9_count_105 : decode cX9_count 105 = .ok (.ireturn, 1) := by decide +kernel
theorem dX9_count_106 : decode cX9_count 106 = .ok (.aload_n 0, 1) := by decide +kernel
theorem dX9_count_107 : decode cX9_count 107 = .ok (.getfield 186, 3) := by decide +kernel
theorem dX9_count_110 : decode cX9_count 110 = .ok (.ireturn, 1) := by decide +kernel
theorem dX9_count_111 : decode cX9_count 111 = .ok (.iconst (-1), 1) := by decide +kernel
theorem dX9_count_112 : decode cX9_count 112 = .ok (.ireturn, 1) := by decide +kernel
theorem dX9_finding_0 : decode cX9_finding 0 = .ok (.iload_n 1, 1) := by decide +kernel
theorem dX9_finding_1 : decode cX9_finding 1 = .ok (.ifCond .ne 10, 3) := by decide +kernel
theorem dX9_finding_4 : decode cX9_finding 4 = .ok (.aload_n 0, 1) := by decide +kernel
theorem dX9_finding_5 : decode cX9_finding 5 = .ok (.getfield 166, 3) := by decide +kernel
theorem dX9_finding_8 : decode cX9_finding 8 = .ok (.goto 16, 3) := by decide +kernel
theorem dX9_finding_11 : decode cX9_finding 11 = .ok (.iload_n 1, 1) := by decide +kernel
theorem dX9_finding_12 : decode cX9_finding 12 = .ok (.iconst 1, 1) := by decide +kernel
theorem dX9_finding_13 : decode cX9_finding 13 = .ok (.if_icmp .ne 10, 3) := by decide +kernel
theorem dX9_finding_16 : decode cX9_finding 16 = .ok (.aload_n 0, 1) := by decide +kernel
theorem dX9_finding_17 : decode cX9_finding 17 = .ok (.getfield 111, 3) := by decide +kernel
theorem dX9_finding_20 : decode cX9_finding 20 = .ok (.goto 4, 3) := by decide +kernel
theorem dX9_finding_23 : decode cX9_finding 23 = .ok (.iconst (-1), 1) := by decide +kernel
theorem dX9_finding_24 : decode cX9_finding 24 = .ok (.ireturn, 1) := by decide +kernel
theorem dX9_fault_0 : decode cX9_fault 0 = .ok (.iload_n 1, 1) := by decide +kernel
theorem dX9_fault_1 : decode cX9_fault 1 = .ok (.tableswitch 51 0 3 #[31, 36, 41, 46], 31) := by decide +kernel
theorem dX9_fault_32 : decode cX9_fault 32 = .ok (.aload_n 0, 1) := by decide +kernel
theorem dX9_fault_33 : decode cX9_fault 33 = .ok (.getfield 207, 3) := by decide +kernel
theorem dX9_fault_36 : decode cX9_fault 36 = .ok (.ireturn, 1) := by decide +kernel
theorem dX9_fault_37 : decode cX9_fault 37 = .ok (.aload_n 0, 1) := by decide +kernel
theorem dX9_fault_38 : decode cX9_fault 38 = .ok (.getfield 105, 3) := by decide +kernel
theorem dX9_fault_41 : decode cX9_fault 41 = .ok (.ireturn, 1) := by decide +kernel
theorem dX9_fault_42 : decode cX9_fault 42 = .ok (.aload_n 0, 1) := by decide +kernel
theorem dX9_fault_43 : decode cX9_fault 43 = .ok (.getfield 210, 3) := by decide +kernel
theorem dX9_fault_46 : decode cX9_fault 46 = .ok (.ireturn, 1) := by decide +kernel
theorem dX9_fault_47 : decode cX9_fault 47 = .ok (.aload_n 0, 1) := by decide +kernel
theorem dX9_fault_48 : decode cX9_fault 48 = .ok (.getfield 159, 3) := by decide +kernel
theorem dX9_fault_51 : decode cX9_fault 51 = .ok (.ireturn, 1) := by decide +kernel
theorem dX9_fault_52 : decode cX9_fault 52 = .ok (.iconst (-1), 1) := by decide +kernel
theorem dX9_fault_53 : decode cX9_fault 53 = .ok (.ireturn, 1) := by decide +kernel
theorem dX9_trace_0 : decode cX9_trace 0 = .ok (.aload_n 0, 1) := by decide +kernel
theorem dX9_trace_1 : decode cX9_trace 1 = .ok (.getfield 173, 3) := by decide +kernel
theorem dX9_trace_4 : decode cX9_trace 4 = .ok (.ireturn, 1) := by decide +kernel
end
section
theorem dX0_init_0 : decode cX0_init 0 = .ok (.aload_n 0, 1) := by decide +kernel
theorem dX0_init_1 : decode cX0_init 1 = .ok (.invokespecial 3, 3) := by decide +kernel
theorem dX0_init_4 : decode cX0_init 4 = .ok (.aload_n 0, 1) := by decide +kernel
theorem dX0_init_5 : decode cX0_init 5 = .ok (.iconst 0, 1) := by decide +kernel
theorem dX0_init_6 : decode cX0_init 6 = .ok (.putfield 9, 3) := by decide +kernel
theorem dX0_init_9 : decode cX0_init 9 = .ok (.return_, 1) := by decide +kernel
theorem dX0_asksOf_0 : decode cX0_asksOf 0 = .ok (.iload_n 1, 1) := by decide +kernel
theorem dX0_asksOf_1 : decode cX0_asksOf 1 = .ok (.tableswitch 57 0 3 #[31, 38, 45, 51], 31) := by decide +kernel
theorem dX0_asksOf_32 : decode cX0_asksOf 32 = .ok (.aload_n 0, 1) := by decide +kernel
theorem dX0_asksOf_33 : decode cX0_asksOf 33 = .ok (.iload_n 2, 1) := by decide +kernel
theorem dX0_asksOf_34 : decode cX0_asksOf 34 = .ok (.iload_n 3, 1) := by decide +kernel
theorem dX0_asksOf_35 : decode cX0_asksOf 35 = .ok (.invokevirtual 15, 3) := by decide +kernel
theorem dX0_asksOf_38 : decode cX0_asksOf 38 = .ok (.ireturn, 1) := by decide +kernel
theorem dX0_asksOf_39 : decode cX0_asksOf 39 = .ok (.aload_n 0, 1) := by decide +kernel
theorem dX0_asksOf_40 : decode cX0_asksOf 40 = .ok (.iload_n 2, 1) := by decide +kernel
theorem dX0_asksOf_41 : decode cX0_asksOf 41 = .ok (.iload_n 3, 1) := by decide +kernel
theorem dX0_asksOf_42 : decode cX0_asksOf 42 = .ok (.invokevirtual 19, 3) := by decide +kernel
theorem dX0_asksOf_45 : decode cX0_asksOf 45 = .ok (.ireturn, 1) := by decide +kernel
theorem dX0_asksOf_46 : decode cX0_asksOf 46 = .ok (.aload_n 0, 1) := by decide +kernel
theorem dX0_asksOf_47 : decode cX0_asksOf 47 = .ok (.iload_n 2, 1) := by decide +kernel
theorem dX0_asksOf_48 : decode cX0_asksOf 48 = .ok (.invokevirtual 22, 3) := by decide +kernel
theorem dX0_asksOf_51 : decode cX0_asksOf 51 = .ok (.ireturn, 1) := by decide +kernel
theorem dX0_asksOf_52 : decode cX0_asksOf 52 = .ok (.aload_n 0, 1) := by decide +kernel
theorem dX0_asksOf_53 : decode cX0_asksOf 53 = .ok (.iload_n 2, 1) := by decide +kernel
theorem dX0_asksOf_54 : decode cX0_asksOf 54 = .ok (.invokevirtual 26, 3) := by decide +kernel
theorem dX0_asksOf_57 : decode cX0_asksOf 57 = .ok (.ireturn, 1) := by decide +kernel
theorem dX0_asksOf_58 : decode cX0_asksOf 58 = .ok (.iconst 0, 1) := by decide +kernel
theorem dX0_asksOf_59 : decode cX0_asksOf 59 = .ok (.ireturn, 1) := by decide +kernel
theorem dX0_holdsOf_0 : decode cX0_holdsOf 0 = .ok (.iload_n 1, 1) := by decide +kernel
theorem dX0_holdsOf_1 : decode cX0_holdsOf 1 = .ok (.tableswitch 48 0 3 #[31, 31, 37, 42], 31) := by decide +kernel
theorem dX0_holdsOf_32 : decode cX0_holdsOf 32 = .ok (.aload_n 0, 1) := by decide +kernel
theorem dX0_holdsOf_33 : decode cX0_holdsOf 33 = .ok (.iload_n 2, 1) := by decide +kernel
theorem dX0_holdsOf_34 : decode cX0_holdsOf 34 = .ok (.invokevirtual 29, 3) := by decide +kernel
theorem dX0_holdsOf_37 : decode cX0_holdsOf 37 = .ok (.ireturn, 1) := by decide +kernel
theorem dX0_holdsOf_38 : decode cX0_holdsOf 38 = .ok (.aload_n 0, 1) := by decide +kernel
theorem dX0_holdsOf_39 : decode cX0_holdsOf 39 = .ok (.invokevirtual 32, 3) := by decide +kernel
theorem dX0_holdsOf_42 : decode cX0_holdsOf 42 = .ok (.ireturn, 1) := by decide +kernel
theorem dX0_holdsOf_43 : decode cX0_holdsOf 43 = .ok (.aload_n 0, 1) := by decide +kernel
theorem dX0_holdsOf_44 : decode cX0_holdsOf 44 = .ok (.iload_n 2, 1) := by decide +kernel
theorem dX0_holdsOf_45 : decode cX0_holdsOf 45 = .ok (.invokevirtual 36, 3) := by decide +kernel
theorem dX0_holdsOf_48 : decode cX0_holdsOf 48 = .ok (.ireturn, 1) := by decide +kernel
theorem dX0_holdsOf_49 : decode cX0_holdsOf 49 = .ok (.aload_n 0, 1) := by decide +kernel
theorem dX0_holdsOf_50 : decode cX0_holdsOf 50 = .ok (.invokevirtual 39, 3) := by decide +kernel
theorem dX0_holdsOf_53 : decode cX0_holdsOf 53 = .ok (.ireturn, 1) := by decide +kernel
theorem dX0_asksAsCar_0 : decode cX0_asksAsCar 0 = .ok (.aload_n 0, 1) := by decide +kernel
theorem dX0_asksAsCar_1 : decode cX0_asksAsCar 1 = .ok (.dup, 1) := by decide +kernel
theorem dX0_asksAsCar_2 : decode cX0_asksAsCar 2 = .ok (.getfield 9, 3) := by decide +kernel
theorem dX0_asksAsCar_5 : decode cX0_asksAsCar 5 = .ok (.iconst 1, 1) := by decide +kernel
theorem dX0_asksAsCar_6 : decode cX0_asksAsCar 6 = .ok (.iadd, 1) := by decide +kernel
theorem dX0_asksAsCar_7 : decode cX0_asksAsCar 7 = .ok (.putfield 9, 3) := by decide +kernel
theorem dX0_asksAsCar_10 : decode cX0_asksAsCar 10 = .ok (.iload_n 1, 1) := by decide +kernel
theorem dX0_asksAsCar_11 : decode cX0_asksAsCar 11 = .ok (.ifCond .gt 10, 3) := by decide +kernel
theorem dX0_asksAsCar_14 : decode cX0_asksAsCar 14 = .ok (.iload_n 2, 1) := by decide +kernel
theorem dX0_asksAsCar_15 : decode cX0_asksAsCar 15 = .ok (.sipush 5000, 3) := by decide +kernel
theorem dX0_asksAsCar_18 : decode cX0_asksAsCar 18 = .ok (.if_icmp .lt 7, 3) := by decide +kernel
theorem dX0_asksAsCar_21 : decode cX0_asksAsCar 21 = .ok (.iconst 1, 1) := by decide +kernel
theorem dX0_asksAsCar_22 : decode cX0_asksAsCar 22 = .ok (.goto 4, 3) := by decide +kernel
theorem dX0_asksAsCar_25 : decode cX0_asksAsCar 25 = .ok (.iconst 0, 1) := by decide +kernel
theorem dX0_asksAsCar_26 : decode cX0_asksAsCar 26 = .ok (.ireturn, 1) := by decide +kernel
theorem dX0_asksAsTurn_0 : decode cX0_asksAsTurn 0 = .ok (.aload_n 0, 1) := by decide +kernel
theorem dX0_asksAsTurn_1 : decode cX0_asksAsTurn 1 = .ok (.dup, 1) := by decide +kernel
theorem dX0_asksAsTurn_2 : decode cX0_asksAsTurn 2 = .ok (.getfield 9, 3) := by decide +kernel
theorem dX0_asksAsTurn_5 : decode cX0_asksAsTurn 5 = .ok (.bipush 10, 2) := by decide +kernel
theorem dX0_asksAsTurn_7 : decode cX0_asksAsTurn 7 = .ok (.iadd, 1) := by decide +kernel
theorem dX0_asksAsTurn_8 : decode cX0_asksAsTurn 8 = .ok (.putfield 9, 3) := by decide +kernel
theorem dX0_asksAsTurn_11 : decode cX0_asksAsTurn 11 = .ok (.iload_n 2, 1) := by decide +kernel
theorem dX0_asksAsTurn_12 : decode cX0_asksAsTurn 12 = .ok (.sipush 2000, 3) := by decide +kernel
theorem dX0_asksAsTurn_15 : decode cX0_asksAsTurn 15 = .ok (.if_icmp .ge 12, 3) := by decide +kernel
theorem dX0_asksAsTurn_18 : decode cX0_asksAsTurn 18 = .ok (.aload_n 0, 1) := by decide +kernel
theorem dX0_asksAsTurn_19 : decode cX0_asksAsTurn 19 = .ok (.iload_n 1, 1) := by decide +kernel
theorem dX0_asksAsTurn_20 : decode cX0_asksAsTurn 20 = .ok (.iload_n 2, 1) := by decide +kernel
theorem dX0_asksAsTurn_21 : decode cX0_asksAsTurn 21 = .ok (.invokevirtual 15, 3) := by decide +kernel
theorem dX0_asksAsTurn_24 : decode cX0_asksAsTurn 24 = .ok (.ifCond .eq 7, 3) := by decide +kernel
theorem dX0_asksAsTurn_27 : decode cX0_asksAsTurn 27 = .ok (.iconst 1, 1) := by decide +kernel
theorem dX0_asksAsTurn_28 : decode cX0_asksAsTurn 28 = .ok (.goto 4, 3) := by decide +kernel
theorem dX0_asksAsTurn_31 : decode cX0_asksAsTurn 31 = .ok (.iconst 0, 1) := by decide +kernel
theorem dX0_asksAsTurn_32 : decode cX0_asksAsTurn 32 = .ok (.ireturn, 1) := by decide +kernel
theorem dX0_asksAsWalk_0 : decode cX0_asksAsWalk 0 = .ok (.aload_n 0, 1) := by decide +kernel
theorem dX0_asksAsWalk_1 : decode cX0_asksAsWalk 1 = .ok (.dup, 1) := by decide +kernel
theorem dX0_asksAsWalk_2 : decode cX0_asksAsWalk 2 = .ok (.getfield 9, 3) := by decide +kernel
theorem dX0_asksAsWalk_5 : decode cX0_asksAsWalk 5 = .ok (.bipush 100, 2) := by decide +kernel
theorem dX0_asksAsWalk_7 : decode cX0_asksAsWalk 7 = .ok (.iadd, 1) := by decide +kernel
theorem dX0_asksAsWalk_8 : decode cX0_asksAsWalk 8 = .ok (.putfield 9, 3) := by decide +kernel
theorem dX0_asksAsWalk_11 : decode cX0_asksAsWalk 11 = .ok (.iload_n 1, 1) := by decide +kernel
theorem dX0_asksAsWalk_12 : decode cX0_asksAsWalk 12 = .ok (.ifCond .le 7, 3) := by decide +kernel
theorem dX0_asksAsWalk_15 : decode cX0_asksAsWalk 15 = .ok (.iconst 1, 1) := by decide +kernel
theorem dX0_asksAsWalk_16 : decode cX0_asksAsWalk 16 = .ok (.goto 4, 3) := by decide +kernel
theorem dX0_asksAsWalk_19 : decode cX0_asksAsWalk 19 = .ok (.iconst 0, 1) := by decide +kernel
theorem dX0_asksAsWalk_20 : decode cX0_asksAsWalk 20 = .ok (.ireturn, 1) := by decide +kernel
theorem dX0_asksAsTram_0 : decode cX0_asksAsTram 0 = .ok (.aload_n 0, 1) := by decide +kernel
theorem dX0_asksAsTram_1 : decode cX0_asksAsTram 1 = .ok (.dup, 1) := by decide +kernel
theorem dX0_asksAsTram_2 : decode cX0_asksAsTram 2 = .ok (.getfield 9, 3) := by decide +kernel
theorem dX0_asksAsTram_5 : decode cX0_asksAsTram 5 = .ok (.sipush 1000, 3) := by decide +kernel
theorem dX0_asksAsTram_8 : decode cX0_asksAsTram 8 = .ok (.iadd, 1) := by decide +kernel
theorem dX0_asksAsTram_9 : decode cX0_asksAsTram 9 = .ok (.putfield 9, 3) := by decide +kernel
theorem dX0_asksAsTram_12 : decode cX0_asksAsTram 12 = .ok (.iload_n 1, 1) := by decide +kernel
theorem dX0_asksAsTram_13 : decode cX0_asksAsTram 13 = .ok (.ifCond .eq 7, 3) := by decide +kernel
theorem dX0_asksAsTram_16 : decode cX0_asksAsTram 16 = .ok (.iconst 1, 1) := by decide +kernel
theorem dX0_asksAsTram_17 : decode cX0_asksAsTram 17 = .ok (.goto 4, 3) := by decide +kernel
theorem dX0_asksAsTram_20 : decode cX0_asksAsTram 20 = .ok (.iconst 0, 1) := by decide +kernel
theorem dX0_asksAsTram_21 : decode cX0_asksAsTram 21 = .ok (.ireturn, 1) := by decide +kernel
theorem dX0_holdsAsCar_0 : decode cX0_holdsAsCar 0 = .ok (.aload_n 0, 1) := by decide +kernel
theorem dX0_holdsAsCar_1 : decode cX0_holdsAsCar 1 = .ok (.dup, 1) := by decide +kernel
theorem dX0_holdsAsCar_2 : decode cX0_holdsAsCar 2 = .ok (.getfield 9, 3) := by decide +kernel
theorem dX0_holdsAsCar_5 : decode cX0_holdsAsCar 5 = .ok (.iconst 5, 1) := by decide +kernel
theorem dX0_holdsAsCar_6 : decode cX0_holdsAsCar 6 = .ok (.iadd, 1) := by decide +kernel
theorem dX0_holdsAsCar_7 : decode cX0_holdsAsCar 7 = .ok (.putfield 9, 3) := by decide +kernel
theorem dX0_holdsAsCar_10 : decode cX0_holdsAsCar 10 = .ok (.iload_n 1, 1) := by decide +kernel
theorem dX0_holdsAsCar_11 : decode cX0_holdsAsCar 11 = .ok (.ifCond .le 7, 3) := by decide +kernel
theorem dX0_holdsAsCar_14 : decode cX0_holdsAsCar 14 = .ok (.iconst 1, 1) := by decide +kernel
theorem dX0_holdsAsCar_15 : decode cX0_holdsAsCar 15 = .ok (.goto 4, 3) := by decide +kernel
theorem dX0_holdsAsCar_18 : decode cX0_holdsAsCar 18 = .ok (.iconst 0, 1) := by decide +kernel
theorem dX0_holdsAsCar_19 : decode cX0_holdsAsCar 19 = .ok (.ireturn, 1) := by decide +kernel
theorem dX0_holdsAsWalk_0 : decode cX0_holdsAsWalk 0 = .ok (.aload_n 0, 1) := by decide +kernel
theorem dX0_holdsAsWalk_1 : decode cX0_holdsAsWalk 1 = .ok (.dup, 1) := by decide +kernel
theorem dX0_holdsAsWalk_2 : decode cX0_holdsAsWalk 2 = .ok (.getfield 9, 3) := by decide +kernel
theorem dX0_holdsAsWalk_5 : decode cX0_holdsAsWalk 5 = .ok (.bipush 50, 2) := by decide +kernel
theorem dX0_holdsAsWalk_7 : decode cX0_holdsAsWalk 7 = .ok (.iadd, 1) := by decide +kernel
theorem dX0_holdsAsWalk_8 : decode cX0_holdsAsWalk 8 = .ok (.putfield 9, 3) := by decide +kernel
theorem dX0_holdsAsWalk_11 : decode cX0_holdsAsWalk 11 = .ok (.iconst 0, 1) := by decide +kernel
theorem dX0_holdsAsWalk_12 : decode cX0_holdsAsWalk 12 = .ok (.ireturn, 1) := by decide +kernel
theorem dX0_holdsAsTram_0 : decode cX0_holdsAsTram 0 = .ok (.aload_n 0, 1) := by decide +kernel
theorem dX0_holdsAsTram_1 : decode cX0_holdsAsTram 1 = .ok (.dup, 1) := by decide +kernel
theorem dX0_holdsAsTram_2 : decode cX0_holdsAsTram 2 = .ok (.getfield 9, 3) := by decide +kernel
theorem dX0_holdsAsTram_5 : decode cX0_holdsAsTram 5 = .ok (.sipush 500, 3) := by decide +kernel
theorem dX0_holdsAsTram_8 : decode cX0_holdsAsTram 8 = .ok (.iadd, 1) := by decide +kernel
theorem dX0_holdsAsTram_9 : decode cX0_holdsAsTram 9 = .ok (.putfield 9, 3) := by decide +kernel
theorem dX0_holdsAsTram_12 : decode cX0_holdsAsTram 12 = .ok (.iload_n 1, 1) := by decide +kernel
theorem dX0_holdsAsTram_13 : decode cX0_holdsAsTram 13 = .ok (.ifCond .eq 7, 3) := by decide +kernel
theorem dX0_holdsAsTram_16 : decode cX0_holdsAsTram 16 = .ok (.iconst 1, 1) := by decide +kernel
theorem dX0_holdsAsTram_17 : decode cX0_holdsAsTram 17 = .ok (.goto 4, 3) := by decide +kernel
theorem dX0_holdsAsTram_20 : decode cX0_holdsAsTram 20 = .ok (.iconst 0, 1) := by decide +kernel
theorem dX0_holdsAsTram_21 : decode cX0_holdsAsTram 21 = .ok (.ireturn, 1) := by decide +kernel
theorem dX0_holdsAsRest_0 : decode cX0_holdsAsRest 0 = .ok (.aload_n 0, 1) := by decide +kernel
theorem dX0_holdsAsRest_1 : decode cX0_holdsAsRest 1 = .ok (.dup, 1) := by decide +kernel
theorem dX0_holdsAsRest_2 : decode cX0_holdsAsRest 2 = .ok (.getfield 9, 3) := by decide +kernel
theorem dX0_holdsAsRest_5 : decode cX0_holdsAsRest 5 = .ok (.sipush 5000, 3) := by decide +kernel
theorem dX0_holdsAsRest_8 : decode cX0_holdsAsRest 8 = .ok (.iadd, 1) := by decide +kernel
theorem dX0_holdsAsRest_9 : decode cX0_holdsAsRest 9 = .ok (.putfield 9, 3) := by decide +kernel
theorem dX0_holdsAsRest_12 : decode cX0_holdsAsRest 12 = .ok (.iconst 1, 1) := by decide +kernel
theorem dX0_holdsAsRest_13 : decode cX0_holdsAsRest 13 = .ok (.ireturn, 1) := by decide +kernel
theorem dX1_init_0 : decode cX1_init 0 = .ok (.aload_n 0, 1) := by decide +kernel
theorem dX1_init_1 : decode cX1_init 1 = .ok (.invokespecial 3, 3) := by decide +kernel
theorem dX1_init_4 : decode cX1_init 4 = .ok (.aload_n 0, 1) := by decide +kernel
theorem dX1_init_5 : decode cX1_init 5 = .ok (.sipush 200, 3) := by decide +kernel
theorem dX1_init_8 : decode cX1_init 8 = .ok (.newarray .byte, 2) := by decide +kernel
theorem dX1_init_10 : decode cX1_init 10 = .ok (.putfield 9, 3) := by decide +kernel
theorem dX1_init_13 : decode cX1_init 13 = .ok (.aload_n 0, 1) := by decide +kernel
theorem dX1_init_14 : decode cX1_init 14 = .ok (.sipush 200, 3) := by decide +kernel
theorem dX1_init_17 : decode cX1_init 17 = .ok (.newarray .short, 2) := by decide +kernel
theorem dX1_init_19 : decode cX1_init 19 = .ok (.putfield 15, 3) := by decide +kernel
theorem dX1_init_22 : decode cX1_init 22 = .ok (.aload_n 0, 1) := by decide +kernel
theorem dX1_init_23 : decode cX1_init 23 = .ok (.iconst 0, 1) := by decide +kernel
theorem dX1_init_24 : decode cX1_init 24 = .ok (.putfield 19, 3) := by decide +kernel
theorem dX1_init_27 : decode cX1_init 27 = .ok (.aload_n 0, 1) := by decide +kernel
theorem dX1_init_28 : decode cX1_init 28 = .ok (.iload_n 1, 1) := by decide +kernel
theorem dX1_init_29 : decode cX1_init 29 = .ok (.putfield 23, 3) := by decide +kernel
theorem dX1_init_32 : decode cX1_init 32 = .ok (.return_, 1) := by decide +kernel
theorem dX1_isCutOff_0 : decode cX1_isCutOff 0 = .ok (.aload_n 0, 1) := by decide +kernel
theorem dX1_isCutOff_1 : decode cX1_isCutOff 1 = .ok (.getfield 9, 3) := by decide +kernel
theorem dX1_isCutOff_4 : decode cX1_isCutOff 4 = .ok (.ifnull 10, 3) := by decide +kernel
theorem dX1_isCutOff_7 : decode cX1_isCutOff 7 = .ok (.aload_n 0, 1) := by decide +kernel
theorem dX1_isCutOff_8 : decode cX1_isCutOff 8 = .ok (.getfield 15, 3) := by decide +kernel
theorem dX1_isCutOff_11 : decode cX1_isCutOff 11 = .ok (.ifnonnull 7, 3) := by decide +kernel
theorem dX1_isCutOff_14 : decode cX1_isCutOff 14 = .ok (.iconst 1, 1) := by decide +kernel
theorem dX1_isCutOff_15 : decode cX1_isCutOff 15 = .ok (.goto 4, 3) := by decide +kernel
theorem dX1_isCutOff_18 : decode cX1_isCutOff 18 = .ok (.iconst 0, 1) := by decide +kernel
theorem dX1_isCutOff_19 : decode cX1_isCutOff 19 = .ok (.ireturn, 1) := by decide +kernel
theorem dX1_cutOff_0 : decode cX1_cutOff 0 = .ok (.aload_n 0, 1) := by decide +kernel
theorem dX1_cutOff_1 : decode cX1_cutOff 1 = .ok (.getfield 19, 3) := by decide +kernel
theorem dX1_cutOff_4 : decode cX1_cutOff 4 = .ok (.istore_n 1, 1) := by decide +kernel
theorem dX1_cutOff_5 : decode cX1_cutOff 5 = .ok (.aload_n 0, 1) := by decide +kernel
theorem dX1_cutOff_6 : decode cX1_cutOff 6 = .ok (.aconst_null, 1) := by decide +kernel
theorem dX1_cutOff_7 : decode cX1_cutOff 7 = .ok (.putfield 9, 3) := by decide +kernel
theorem dX1_cutOff_10 : decode cX1_cutOff 10 = .ok (.aload_n 0, 1) := by decide +kernel
theorem dX1_cutOff_11 : decode cX1_cutOff 11 = .ok (.aconst_null, 1) := by decide +kernel
theorem dX1_cutOff_12 : decode cX1_cutOff 12 = .ok (.putfield 15, 3) := by decide +kernel
theorem dX1_cutOff_15 : decode cX1_cutOff 15 = .ok (.aload_n 0, 1) := by decide +kernel
theorem dX1_cutOff_16 : decode cX1_cutOff 16 = .ok (.iconst 0, 1) := by decide +kernel
theorem dX1_cutOff_17 : decode cX1_cutOff 17 = .ok (.putfield 19, 3) := by decide +kernel
theorem dX1_cutOff_20 : decode cX1_cutOff 20 = .ok (.iload_n 1, 1) := by decide +kernel
theorem dX1_cutOff_21 : decode cX1_cutOff 21 = .ok (.ireturn, 1) := by decide +kernel
theorem dX1_addPlace_0 : decode cX1_addPlace 0 = .ok (.aload_n 0, 1) := by decide +kernel
theorem dX1_addPlace_1 : decode cX1_addPlace 1 = .ok (.invokevirtual 26, 3) := by decide +kernel
theorem dX1_addPlace_4 : decode cX1_addPlace 4 = .ok (.ifCond .ne 13, 3) := by decide +kernel
theorem dX1_addPlace_7 : decode cX1_addPlace 7 = .ok (.aload_n 0, 1) := by decide +kernel
theorem dX1_addPlace_8 : decode cX1_addPlace 8 = .ok (.getfield 19, 3) := by decide +kernel
theorem dX1_addPlace_11 : decode cX1_addPlace 11 = .ok (.sipush 200, 3) := by decide +kernel
theorem dX1_addPlace_14 : decode cX1_addPlace 14 = .ok (.if_icmp .lt 5, 3) := by decide +kernel
theorem dX1_addPlace_17 : decode cX1_addPlace 17 = .ok (.iconst 0, 1) := by decide +kernel
theorem dX1_addPlace_18 : decode cX1_addPlace 18 = .ok (.ireturn, 1) := by decide +kernel
theorem dX1_addPlace_19 : decode cX1_addPlace 19 = .ok (.aload_n 0, 1) := by decide +kernel
theorem dX1_addPlace_20 : decode cX1_addPlace 20 = .ok (.getfield 9, 3) := by decide +kernel
theorem dX1_addPlace_23 : decode cX1_addPlace 23 = .ok (.aload_n 0, 1) := by decide +kernel
theorem dX1_addPlace_24 : decode cX1_addPlace 24 = .ok (.getfield 19, 3) := by decide +kernel
theorem dX1_addPlace_27 : decode cX1_addPlace 27 = .ok (.iload_n 1, 1) := by decide +kernel
theorem dX1_addPlace_28 : decode cX1_addPlace 28 = .ok (.i2b, 1) := by decide +kernel
theorem dX1_addPlace_29 : decode cX1_addPlace 29 = .ok (.bastore, 1) := by decide +kernel
theorem dX1_addPlace_30 : decode cX1_addPlace 30 = .ok (.aload_n 0, 1) := by decide +kernel
theorem dX1_addPlace_31 : decode cX1_addPlace 31 = .ok (.getfield 15, 3) := by decide +kernel
theorem dX1_addPlace_34 : decode cX1_addPlace 34 = .ok (.aload_n 0, 1) := by decide +kernel
theorem dX1_addPlace_35 : decode cX1_addPlace 35 = .ok (.getfield 19, 3) := by decide +kernel
theorem dX1_addPlace_38 : decode cX1_addPlace 38 = .ok (.iload_n 2, 1) := by decide +kernel
theorem dX1_addPlace_39 : decode cX1_addPlace 39 = .ok (.i2s, 1) := by decide +kernel
theorem dX1_addPlace_40 : decode cX1_addPlace 40 = .ok (.sastore, 1) := by decide +kernel
theorem dX1_addPlace_41 : decode cX1_addPlace 41 = .ok (.aload_n 0, 1) := by decide +kernel
theorem dX1_addPlace_42 : decode cX1_addPlace 42 = .ok (.dup, 1) := by decide +kernel
theorem dX1_addPlace_43 : decode cX1_addPlace 43 = .ok (.getfield 19, 3) := by decide +kernel
theorem dX1_addPlace_46 : decode cX1_addPlace 46 = .ok (.iconst 1, 1) := by decide +kernel
theorem dX1_addPlace_47 : decode cX1_addPlace 47 = .ok (.iadd, 1) := by decide +kernel
theorem dX1_addPlace_48 : decode cX1_addPlace 48 = .ok (.putfield 19, 3) := by decide +kernel
theorem dX1_addPlace_51 : decode cX1_addPlace 51 = .ok (.iconst 1, 1) := by decide +kernel
theorem dX1_addPlace_52 : decode cX1_addPlace 52 = .ok (.ireturn, 1) := by decide +kernel
theorem dX1_reaches_0 : decode cX1_reaches 0 = .ok (.iload_n 1, 1) := by decide +kernel
theorem dX1_reaches_1 : decode cX1_reaches 1 = .ok (.ifCond .lt 15, 3) := by decide +kernel
theorem dX1_reaches_4 : decode cX1_reaches 4 = .ok (.iload_n 1, 1) := by decide +kernel
theorem dX1_reaches_5 : decode cX1_reaches 5 = .ok (.aload_n 0, 1) := by decide +kernel
theorem dX1_reaches_6 : decode cX1_reaches 6 = .ok (.getfield 19, 3) := by decide +kernel
theorem dX1_reaches_9 : decode cX1_reaches 9 = .ok (.if_icmp .ge 7, 3) := by decide +kernel
theorem dX1_reaches_12 : decode cX1_reaches 12 = .ok (.iconst 1, 1) := by decide +kernel
theorem dX1_reaches_13 : decode cX1_reaches 13 = .ok (.goto 4, 3) := by decide +kernel
theorem dX1_reaches_16 : decode cX1_reaches 16 = .ok (.iconst 0, 1) := by decide +kernel
theorem dX1_reaches_17 : decode cX1_reaches 17 = .ok (.ireturn, 1) := by decide +kernel
theorem dX1_passingsAt_0 : decode cX1_passingsAt 0 = .ok (.aload_n 0, 1) := by decide +kernel
theorem dX1_passingsAt_1 : decode cX1_passingsAt 1 = .ok (.getfield 9, 3) := by decide +kernel
theorem dX1_passingsAt_4 : decode cX1_passingsAt 4 = .ok (.ifnull 20, 3) := by decide +kernel
theorem dX1_passingsAt_7 : decode cX1_passingsAt 7 = .ok (.aload_n 0, 1) := by decide +kernel
theorem dX1_passingsAt_8 : decode cX1_passingsAt 8 = .ok (.iload_n 1, 1) := by decide +kernel
theorem dX1_passingsAt_9 : decode cX1_passingsAt 9 = .ok (.invokevirtual 30, 3) := by decide +kernel
theorem dX1_passingsAt_12 : decode cX1_passingsAt 12 = .ok (.ifCond .eq 12, 3) := by decide +kernel
theorem dX1_passingsAt_15 : decode cX1_passingsAt 15 = .ok (.aload_n 0, 1) := by decide +kernel
theorem dX1_passingsAt_16 : decode cX1_passingsAt 16 = .ok (.getfield 9, 3) := by decide +kernel
theorem dX1_passingsAt_19 : decode cX1_passingsAt 19 = .ok (.iload_n 1, 1) := by decide +kernel
theorem dX1_passingsAt_20 : decode cX1_passingsAt 20 = .ok (.baload, 1) := by decide +kernel
theorem dX1_passingsAt_21 : decode cX1_passingsAt 21 = .ok (.goto 4, 3) := by decide +kernel
theorem dX1_passingsAt_24 : decode cX1_passingsAt 24 = .ok (.iconst 0, 1) := by decide +kernel
theorem dX1_passingsAt_25 : decode cX1_passingsAt 25 = .ok (.ireturn, 1) := by decide +kernel
theorem dX1_occupiedAt_0 : decode cX1_occupiedAt 0 = .ok (.aload_n 0, 1) := by decide +kernel
theorem dX1_occupiedAt_1 : decode cX1_occupiedAt 1 = .ok (.getfield 15, 3) := by decide +kernel
theorem dX1_occupiedAt_4 : decode cX1_occupiedAt 4 = .ok (.ifnull 20, 3) := by decide +kernel
theorem dX1_occupiedAt_7 : decode cX1_occupiedAt 7 = .ok (.aload_n 0, 1) := by decide +kernel
theorem dX1_occupiedAt_8 : decode cX1_occupiedAt 8 = .ok (.iload_n 1, 1) := by decide +kernel
theorem dX1_occupiedAt_9 : decode cX1_occupiedAt 9 = .ok (.invokevirtual 30, 3) := by decide +kernel
theorem dX1_occupiedAt_12 : decode cX1_occupiedAt 12 = .ok (.ifCond .eq 12, 3) := by decide +kernel
theorem dX1_occupiedAt_15 : decode cX1_occupiedAt 15 = .ok (.aload_n 0, 1) := by decide +kernel
theorem dX1_occupiedAt_16 : decode cX1_occupiedAt 16 = .ok (.getfield 15, 3) := by decide +kernel
theorem dX1_occupiedAt_19 : decode cX1_occupiedAt 19 = .ok (.iload_n 1, 1) := by decide +kernel
theorem dX1_occupiedAt_20 : decode cX1_occupiedAt 20 = .ok (.saload, 1) := by decide +kernel
theorem dX1_occupiedAt_21 : decode cX1_occupiedAt 21 = .ok (.goto 4, 3) := by decide +kernel
theorem dX1_occupiedAt_24 : decode cX1_occupiedAt 24 = .ok (.iconst 0, 1) := by decide +kernel
theorem dX1_occupiedAt_25 : decode cX1_occupiedAt 25 = .ok (.ireturn, 1) := by decide +kernel
theorem dX2_init_0 : decode cX2_init 0 = .ok (.aload_n 0, 1) := by decide +kernel
theorem dX2_init_1 : decode cX2_init 1 = .ok (.invokespecial 3, 3) := by decide +kernel
theorem dX2_init_4 : decode cX2_init 4 = .ok (.aload_n 0, 1) := by decide +kernel
theorem dX2_init_5 : decode cX2_init 5 = .ok (.iconst 0, 1) := by decide +kernel
theorem dX2_init_6 : decode cX2_init 6 = .ok (.putfield 9, 3) := by decide +kernel
theorem dX2_init_9 : decode cX2_init 9 = .ok (.aload_n 0, 1) := by decide +kernel
theorem dX2_init_10 : decode cX2_init 10 = .ok (.iconst 0, 1) := by decide +kernel
theorem dX2_init_11 : decode cX2_init 11 = .ok (.putfield 15, 3) := by decide +kernel
theorem dX2_init_14 : decode cX2_init 14 = .ok (.aload_n 0, 1) := by decide +kernel
theorem dX2_init_15 : decode cX2_init 15 = .ok (.bipush (-5), 2) := by decide +kernel
theorem dX2_init_17 : decode cX2_init 17 = .ok (.putfield 18, 3) := by decide +kernel
theorem dX2_init_20 : decode cX2_init 20 = .ok (.aload_n 0, 1) := by decide +kernel
theorem dX2_init_21 : decode cX2_init 21 = .ok (.iconst 0, 1) := by decide +kernel
theorem dX2_init_22 : decode cX2_init 22 = .ok (.putfield 21, 3) := by decide +kernel
theorem dX2_init_25 : decode cX2_init 25 = .ok (.aload_n 0, 1) := by decide +kernel
theorem dX2_init_26 : decode cX2_init 26 = .ok (.iconst 0, 1) := by decide +kernel
theorem dX2_init_27 : decode cX2_init 27 = .ok (.putfield 24, 3) := by decide +kernel
theorem dX2_init_30 : decode cX2_init 30 = .ok (.return_, 1) := by decide +kernel
theorem dX2_meet_0 : decode cX2_meet 0 = .ok (.aload_n 0, 1) := by decide +kernel
theorem dX2_meet_1 : decode cX2_meet 1 = .ok (.dup, 1) := by decide +kernel
theorem dX2_meet_2 : decode cX2_meet 2 = .ok (.getfield 9, 3) := by decide +kernel
theorem dX2_meet_5 : decode cX2_meet 5 = .ok (.iconst 1, 1) := by decide +kernel
theorem dX2_meet_6 : decode cX2_meet 6 = .ok (.iadd, 1) := by decide +kernel
theorem dX2_meet_7 : decode cX2_meet 7 = .ok (.putfield 9, 3) := by decide +kernel
theorem dX2_meet_10 : decode cX2_meet 10 = .ok (.aload_n 0, 1) := by decide +kernel
theorem dX2_meet_11 : decode cX2_meet 11 = .ok (.iload_n 1, 1) := by decide +kernel
theorem dX2_meet_12 : decode cX2_meet 12 = .ok (.putfield 15, 3) := by decide +kernel
theorem dX2_meet_15 : decode cX2_meet 15 = .ok (.aload_n 0, 1) := by decide +kernel
theorem dX2_meet_16 : decode cX2_meet 16 = .ok (.iload_n 2, 1) := by decide +kernel
theorem dX2_meet_17 : decode cX2_meet 17 = .ok (.putfield 18, 3) := by decide +kernel
theorem dX2_meet_20 : decode cX2_meet 20 = .ok (.aload_n 0, 1) := by decide +kernel
theorem dX2_meet_21 : decode cX2_meet 21 = .ok (.iconst 1, 1) := by decide +kernel
theorem dX2_meet_22 : decode cX2_meet 22 = .ok (.putfield 21, 3) := by decide +kernel
theorem dX2_meet_25 : decode cX2_meet 25 = .ok (.aload_n 0, 1) := by decide +kernel
theorem dX2_meet_26 : decode cX2_meet 26 = .ok (.iconst 0, 1) := by decide +kernel
theorem dX2_meet_27 : decode cX2_meet 27 = .ok (.putfield 24, 3) := by decide +kernel
theorem dX2_meet_30 : decode cX2_meet 30 = .ok (.return_, 1) := by decide +kernel
theorem dX3_init_0 : decode cX3_init 0 = .ok (.aload_n 0, 1) := by decide +kernel
theorem dX3_init_1 : decode cX3_init 1 = .ok (.invokespecial 3, 3) := by decide +kernel
theorem dX3_init_4 : decode cX3_init 4 = .ok (.aload_n 0, 1) := by decide +kernel
theorem dX3_init_5 : decode cX3_init 5 = .ok (.iconst 5, 1) := by decide +kernel
theorem dX3_init_6 : decode cX3_init 6 = .ok (.newarray .int, 2) := by decide +kernel
theorem dX3_init_8 : decode cX3_init 8 = .ok (.putfield 9, 3) := by decide +kernel
theorem dX3_init_11 : decode cX3_init 11 = .ok (.aload_n 0, 1) := by decide +kernel
theorem dX3_init_12 : decode cX3_init 12 = .ok (.iconst 0, 1) := by decide +kernel
theorem dX3_init_13 : decode cX3_init 13 = .ok (.putfield 15, 3) := by decide +kernel
theorem dX3_init_16 : decode cX3_init 16 = .ok (.aload_n 0, 1) := by decide +kernel
theorem dX3_init_17 : decode cX3_init 17 = .ok (.bipush (-5), 2) := by decide +kernel
theorem dX3_init_19 : decode cX3_init 19 = .ok (.putfield 19, 3) := by decide +kernel
theorem dX3_init_22 : decode cX3_init 22 = .ok (.return_, 1) := by decide +kernel
theorem dX3_add_0 : decode cX3_add 0 = .ok (.iload_n 1, 1) := by decide +kernel
theorem dX3_add_1 : decode cX3_add 1 = .ok (.ifCond .lt 12, 3) := by decide +kernel
theorem dX3_add_4 : decode cX3_add 4 = .ok (.iload_n 1, 1) := by decide +kernel
theorem dX3_add_5 : decode cX3_add 5 = .ok (.aload_n 0, 1) := by decide +kernel
theorem dX3_add_6 : decode cX3_add 6 = .ok (.getfield 9, 3) := by decide +kernel
theorem dX3_add_9 : decode cX3_add 9 = .ok (.arraylength, 1) := by decide +kernel
theorem dX3_add_10 : decode cX3_add 10 = .ok (.if_icmp .lt 4, 3) := by decide +kernel
theorem dX3_add_13 : decode cX3_add 13 = .ok (.return_, 1) := by decide +kernel
theorem dX3_add_14 : decode cX3_add 14 = .ok (.aload_n 0, 1) := by decide +kernel
theorem dX3_add_15 : decode cX3_add 15 = .ok (.getfield 9, 3) := by decide +kernel
theorem dX3_add_18 : decode cX3_add 18 = .ok (.iload_n 1, 1) := by decide +kernel
theorem dX3_add_19 : decode cX3_add 19 = .ok (.dup2, 1) := by decide +kernel
theorem dX3_add_20 : decode cX3_add 20 = .ok (.iaload, 1) := by decide +kernel
theorem dX3_add_21 : decode cX3_add 21 = .ok (.iconst 1, 1) := by decide +kernel
theorem dX3_add_22 : decode cX3_add 22 = .ok (.iadd, 1) := by decide +kernel
theorem dX3_add_23 : decode cX3_add 23 = .ok (.iastore, 1) := by decide +kernel
theorem dX3_add_24 : decode cX3_add 24 = .ok (.aload_n 0, 1) := by decide +kernel
theorem dX3_add_25 : decode cX3_add 25 = .ok (.iload_n 1, 1) := by decide +kernel
theorem dX3_add_26 : decode cX3_add 26 = .ok (.putfield 15, 3) := by decide +kernel
theorem dX3_add_29 : decode cX3_add 29 = .ok (.aload_n 0, 1) := by decide +kernel
theorem dX3_add_30 : decode cX3_add 30 = .ok (.iload_n 2, 1) := by decide +kernel
theorem dX3_add_31 : decode cX3_add 31 = .ok (.putfield 19, 3) := by decide +kernel
theorem dX3_add_34 : decode cX3_add 34 = .ok (.return_, 1) := by decide +kernel
theorem dX3_howMany_0 : decode cX3_howMany 0 = .ok (.iload_n 1, 1) := by decide +kernel
theorem dX3_howMany_1 : decode cX3_howMany 1 = .ok (.ifCond .lt 21, 3) := by decide +kernel
theorem dX3_howMany_4 : decode cX3_howMany 4 = .ok (.iload_n 1, 1) := by decide +kernel
theorem dX3_howMany_5 : decode cX3_howMany 5 = .ok (.aload_n 0, 1) := by decide +kernel
theorem dX3_howMany_6 : decode cX3_howMany 6 = .ok (.getfield 9, 3) := by decide +kernel
theorem dX3_howMany_9 : decode cX3_howMany 9 = .ok (.arraylength, 1) := by decide +kernel
theorem dX3_howMany_10 : decode cX3_howMany 10 = .ok (.if_icmp .ge 12, 3) := by decide +kernel
theorem dX3_howMany_13 : decode cX3_howMany 13 = .ok (.aload_n 0, 1) := by decide +kernel
theorem dX3_howMany_14 : decode cX3_howMany 14 = .ok (.getfield 9, 3) := by decide +kernel
theorem dX3_howMany_17 : decode cX3_howMany 17 = .ok (.iload_n 1, 1) := by decide +kernel
theorem dX3_howMany_18 : decode cX3_howMany 18 = .ok (.iaload, 1) := by decide +kernel
theorem dX3_howMany_19 : decode cX3_howMany 19 = .ok (.goto 4, 3) := by decide +kernel
theorem dX3_howMany_22 : decode cX3_howMany 22 = .ok (.iconst 0, 1) := by decide +kernel
theorem dX3_howMany_23 : decode cX3_howMany 23 = .ok (.ireturn, 1) := by decide +kernel
theorem dX4_init_0 : decode cX4_init 0 = .ok (.aload_n 0, 1) := by decide +kernel
theorem dX4_init_1 : decode cX4_init 1 = .ok (.invokespecial 1, 3) := by decide +kernel
theorem dX4_init_4 : decode cX4_init 4 = .ok (.aload_n 0, 1) := by decide +kernel
theorem dX4_init_5 : decode cX4_init 5 = .ok (.aload_n 1, 1) := by decide +kernel
theorem dX4_init_6 : decode cX4_init 6 = .ok (.putfield 7, 3) := by decide +kernel
theorem dX4_init_9 : decode cX4_init 9 = .ok (.aload_n 0, 1) := by decide +kernel
theorem dX4_init_10 : decode cX4_init 10 = .ok (.iload_n 2, 1) := by decide +kernel
theorem dX4_init_11 : decode cX4_init 11 = .ok (.putfield 13, 3) := by decide +kernel
theorem dX4_init_14 : decode cX4_init 14 = .ok (.aload_n 0, 1) := by decide +kernel
theorem dX4_init_15 : decode cX4_init 15 = .ok (.iload_n 3, 1) := by decide +kernel
theorem dX4_init_16 : decode cX4_init 16 = .ok (.putfield 17, 3) := by decide +kernel
theorem dX4_init_19 : decode cX4_init 19 = .ok (.aload_n 0, 1) := by decide +kernel
theorem dX4_init_20 : decode cX4_init 20 = .ok (.iload 4, 2) := by decide +kernel
theorem dX4_init_22 : decode cX4_init 22 = .ok (.putfield 20, 3) := by decide +kernel
theorem dX4_init_25 : decode cX4_init 25 = .ok (.aload_n 0, 1) := by decide +kernel
theorem dX4_init_26 : decode cX4_init 26 = .ok (.iload 5, 2) := by decide +kernel
theorem dX4_init_28 : decode cX4_init 28 = .ok (.putfield 23, 3) := by decide +kernel
theorem dX4_init_31 : decode cX4_init 31 = .ok (.return_, 1) := by decide +kernel
theorem dX4_changeTable_0 : decode cX4_changeTable 0 = .ok (.aload_n 0, 1) := by decide +kernel
theorem dX4_changeTable_1 : decode cX4_changeTable 1 = .ok (.getfield 7, 3) := by decide +kernel
theorem dX4_changeTable_4 : decode cX4_changeTable 4 = .ok (.aload_n 0, 1) := by decide +kernel
theorem dX4_changeTable_5 : decode cX4_changeTable 5 = .ok (.getfield 13, 3) := by decide +kernel
theorem dX4_changeTable_8 : decode cX4_changeTable 8 = .ok (.putfield 26, 3) := by decide +kernel
theorem dX4_changeTable_11 : decode cX4_changeTable 11 = .ok (.aload_n 0, 1) := by decide +kernel
theorem dX4_changeTable_12 : decode cX4_changeTable 12 = .ok (.getfield 7, 3) := by decide +kernel
theorem dX4_changeTable_15 : decode cX4_changeTable 15 = .ok (.aload_n 0, 1) := by decide +kernel
theorem dX4_changeTable_16 : decode cX4_changeTable 16 = .ok (.getfield 17, 3) := by decide +kernel
theorem dX4_changeTable_19 : decode cX4_changeTable 19 = .ok (.putfield 29, 3) := by decide +kernel
theorem dX4_changeTable_22 : decode cX4_changeTable 22 = .ok (.aload_n 0, 1) := by decide +kernel
theorem dX4_changeTable_23 : decode cX4_changeTable 23 = .ok (.getfield 7, 3) := by decide +kernel
theorem dX4_changeTable_26 : decode cX4_changeTable 26 = .ok (.aload_n 0, 1) := by decide +kernel
theorem dX4_changeTable_27 : decode cX4_changeTable 27 = .ok (.getfield 20, 3) := by decide +kernel
theorem dX4_changeTable_30 : decode cX4_changeTable 30 = .ok (.putfield 30, 3) := by decide +kernel
theorem dX4_changeTable_33 : decode cX4_changeTable 33 = .ok (.return_, 1) := by decide +kernel
theorem dX5_init_0 : decode cX5_init 0 = .ok (.aload_n 0, 1) := by decide +kernel
theorem dX5_init_1 : decode cX5_init 1 = .ok (.invokespecial 1, 3) := by decide +kernel
theorem dX5_init_4 : decode cX5_init 4 = .ok (.aload_n 0, 1) := by decide +kernel
theorem dX5_init_5 : decode cX5_init 5 = .ok (.iconst 0, 1) := by decide +kernel
theorem dX5_init_6 : decode cX5_init 6 = .ok (.putfield 7, 3) := by decide +kernel
theorem dX5_init_9 : decode cX5_init 9 = .ok (.aload_n 0, 1) := by decide +kernel
theorem dX5_init_10 : decode cX5_init 10 = .ok (.aload_n 1, 1) := by decide +kernel
theorem dX5_init_11 : decode cX5_init 11 = .ok (.putfield 13, 3) := by decide +kernel
theorem dX5_init_14 : decode cX5_init 14 = .ok (.aload_n 0, 1) := by decide +kernel
theorem dX5_init_15 : decode cX5_init 15 = .ok (.aload_n 2, 1) := by decide +kernel
theorem dX5_init_16 : decode cX5_init 16 = .ok (.putfield 17, 3) := by decide +kernel
theorem dX5_init_19 : decode cX5_init 19 = .ok (.aload_n 0, 1) := by decide +kernel
theorem dX5_init_20 : decode cX5_init 20 = .ok (.iload_n 3, 1) := by decide +kernel
theorem dX5_init_21 : decode cX5_init 21 = .ok (.putfield 20, 3) := by decide +kernel
theorem dX5_init_24 : decode cX5_init 24 = .ok (.return_, 1) := by decide +kernel
theorem dX5_lookAt_0 : decode cX5_lookAt 0 = .ok (.aload_n 0, 1) := by decide +kernel
theorem dX5_lookAt_1 : decode cX5_lookAt 1 = .ok (.aload_n 0, 1) := by decide +kernel
theorem dX5_lookAt_2 : decode cX5_lookAt 2 = .ok (.iload_n 1, 1) := by decide +kernel
theorem dX5_lookAt_3 : decode cX5_lookAt 3 = .ok (.invokevirtual 23, 3) := by decide +kernel
theorem dX5_lookAt_6 : decode cX5_lookAt 6 = .ok (.ifCond .eq 12, 3) := by decide +kernel
theorem dX5_lookAt_9 : decode cX5_lookAt 9 = .ok (.aload_n 0, 1) := by decide +kernel
theorem dX5_lookAt_10 : decode cX5_lookAt 10 = .ok (.getfield 7, 3) := by decide +kernel
theorem dX5_lookAt_13 : decode cX5_lookAt 13 = .ok (.iconst 1, 1) := by decide +kernel
theorem dX5_lookAt_14 : decode cX5_lookAt 14 = .ok (.iadd, 1) := by decide +kernel
theorem dX5_lookAt_15 : decode cX5_lookAt 15 = .ok (.goto 4, 3) := by decide +kernel
theorem dX5_lookAt_18 : decode cX5_lookAt 18 = .ok (.iconst 0, 1) := by decide +kernel
theorem dX5_lookAt_19 : decode cX5_lookAt 19 = .ok (.putfield 7, 3) := by decide +kernel
theorem dX5_lookAt_22 : decode cX5_lookAt 22 = .ok (.return_, 1) := by decide +kernel
theorem dX5_differIn_0 : decode cX5_differIn 0 = .ok (.aload_n 0, 1) := by decide +kernel
theorem dX5_differIn_1 : decode cX5_differIn 1 = .ok (.getfield 13, 3) := by decide +kernel
theorem dX5_differIn_4 : decode cX5_differIn 4 = .ok (.iload_n 1, 1) := by decide +kernel
theorem dX5_differIn_5 : decode cX5_differIn 5 = .ok (.invokevirtual 27, 3) := by decide +kernel
theorem dX5_differIn_8 : decode cX5_differIn 8 = .ok (.ifCond .eq 14, 3) := by decide +kernel
theorem dX5_differIn_11 : decode cX5_differIn 11 = .ok (.aload_n 0, 1) := by decide +kernel
theorem dX5_differIn_12 : decode cX5_differIn 12 = .ok (.getfield 17, 3) := by decide +kernel
theorem dX5_differIn_15 : decode cX5_differIn 15 = .ok (.iload_n 1, 1) := by decide +kernel
theorem dX5_differIn_16 : decode cX5_differIn 16 = .ok (.invokevirtual 27, 3) := by decide +kernel
theorem dX5_differIn_19 : decode cX5_differIn 19 = .ok (.ifCond .ne 5, 3) := by decide +kernel
theorem dX5_differIn_22 : decode cX5_differIn 22 = .ok (.iconst 0, 1) := by decide +kernel
theorem dX5_differIn_23 : decode cX5_differIn 23 = .ok (.ireturn, 1) := by decide +kernel
theorem dX5_differIn_24 : decode cX5_differIn 24 = .ok (.aload_n 0, 1) := by decide +kernel
theorem dX5_differIn_25 : decode cX5_differIn 25 = .ok (.getfield 13, 3) := by decide +kernel
theorem dX5_differIn_28 : decode cX5_differIn 28 = .ok (.iload_n 1, 1) := by decide +kernel
theorem dX5_differIn_29 : decode cX5_differIn 29 = .ok (.invokevirtual 32, 3) := by decide +kernel
theorem dX5_differIn_32 : decode cX5_differIn 32 = .ok (.ifCond .le 7, 3) := by decide +kernel
theorem dX5_differIn_35 : decode cX5_differIn 35 = .ok (.iconst 1, 1) := by decide +kernel
theorem dX5_differIn_36 : decode cX5_differIn 36 = .ok (.goto 4, 3) := by decide +kernel
theorem dX5_differIn_39 : decode cX5_differIn 39 = .ok (.iconst 0, 1) := by decide +kernel
theorem dX5_differIn_40 : decode cX5_differIn 40 = .ok (.aload_n 0, 1) := by decide +kernel
theorem dX5_differIn_41 : decode cX5_differIn 41 = .ok (.getfield 17, 3) := by decide +kernel
theorem dX5_differIn_44 : decode cX5_differIn 44 = .ok (.iload_n 1, 1) := by decide +kernel
theorem dX5_differIn_45 : decode cX5_differIn 45 = .ok (.invokevirtual 32, 3) := by decide +kernel
theorem dX5_differIn_48 : decode cX5_differIn 48 = .ok (.ifCond .le 7, 3) := by decide +kernel
theorem dX5_differIn_51 : decode cX5_differIn 51 = .ok (.iconst 1, 1) := by decide +kernel
theorem dX5_differIn_52 : decode cX5_differIn 52 = .ok (.goto 4, 3) := by decide +kernel
theorem dX5_differIn_55 : decode cX5_differIn 55 = .ok (.iconst 0, 1) := by decide +kernel
theorem dX5_differIn_56 : decode cX5_differIn 56 = .ok (.if_icmp .eq 7, 3) := by decide +kernel
theorem dX5_differIn_59 : decode cX5_differIn 59 = .ok (.iconst 1, 1) := by decide +kernel
theorem dX5_differIn_60 : decode cX5_differIn 60 = .ok (.goto 4, 3) := by decide +kernel
theorem dX5_differIn_63 : decode cX5_differIn 63 = .ok (.iconst 0, 1) := by decide +kernel
theorem dX5_differIn_64 : decode cX5_differIn 64 = .ok (.ireturn, 1) := by decide +kernel
theorem dX5_isBroken_0 : decode cX5_isBroken 0 = .ok (.aload_n 0, 1) := by decide +kernel
theorem dX5_isBroken_1 : decode cX5_isBroken 1 = .ok (.getfield 7, 3) := by decide +kernel
theorem dX5_isBroken_4 : decode cX5_isBroken 4 = .ok (.aload_n 0, 1) := by decide +kernel
theorem dX5_isBroken_5 : decode cX5_isBroken 5 = .ok (.getfield 20, 3) := by decide +kernel
theorem dX5_isBroken_8 : decode cX5_isBroken 8 = .ok (.if_icmp .lt 7, 3) := by decide +kernel
theorem dX5_isBroken_11 : decode cX5_isBroken 11 = .ok (.iconst 1, 1) := by decide +kernel
theorem dX5_isBroken_12 : decode cX5_isBroken 12 = .ok (.goto 4, 3) := by decide +kernel
theorem dX5_isBroken_15 : decode cX5_isBroken 15 = .ok (.iconst 0, 1) := by decide +kernel
theorem dX5_isBroken_16 : decode cX5_isBroken 16 = .ok (.ireturn, 1) := by decide +kernel
theorem dX5_beginAnew_0 : decode cX5_beginAnew 0 = .ok (.aload_n 0, 1) := by decide +kernel
theorem dX5_beginAnew_1 : decode cX5_beginAnew 1 = .ok (.iconst 0, 1) := by decide +kernel
theorem dX5_beginAnew_2 : decode cX5_beginAnew 2 = .ok (.putfield 7, 3) := by decide +kernel
theorem dX5_beginAnew_5 : decode cX5_beginAnew 5 = .ok (.return_, 1) := by decide +kernel
theorem dX6_init_0 : decode cX6_init 0 = .ok (.aload_n 0, 1) := by decide +kernel
theorem dX6_init_1 : decode cX6_init 1 = .ok (.invokespecial 3, 3) := by decide +kernel
theorem dX6_init_4 : decode cX6_init 4 = .ok (.aload_n 0, 1) := by decide +kernel
theorem dX6_init_5 : decode cX6_init 5 = .ok (.bipush 8, 2) := by decide +kernel
theorem dX6_init_7 : decode cX6_init 7 = .ok (.newarray .int, 2) := by decide +kernel
theorem dX6_init_9 : decode cX6_init 9 = .ok (.putfield 9, 3) := by decide +kernel
theorem dX6_init_12 : decode cX6_init 12 = .ok (.aload_n 0, 1) := by decide +kernel
theorem dX6_init_13 : decode cX6_init 13 = .ok (.bipush 61, 2) := by decide +kernel
theorem dX6_init_15 : decode cX6_init 15 = .ok (.newarray .int, 2) := by decide +kernel
theorem dX6_init_17 : decode cX6_init 17 = .ok (.putfield 15, 3) := by decide +kernel
theorem dX6_init_20 : decode cX6_init 20 = .ok (.aload_n 0, 1) := by decide +kernel
theorem dX6_init_21 : decode cX6_init 21 = .ok (.aconst_null, 1) := by decide +kernel
theorem dX6_init_22 : decode cX6_init 22 = .ok (.putfield 18, 3) := by decide +kernel
theorem dX6_init_25 : decode cX6_init 25 = .ok (.aload_n 0, 1) := by decide +kernel
theorem dX6_init_26 : decode cX6_init 26 = .ok (.iconst 0, 1) := by decide +kernel
theorem dX6_init_27 : decode cX6_init 27 = .ok (.putfield 22, 3) := by decide +kernel
theorem dX6_init_30 : decode cX6_init 30 = .ok (.aload_n 0, 1) := by decide +kernel
theorem dX6_init_31 : decode cX6_init 31 = .ok (.iconst 0, 1) := by decide +kernel
theorem dX6_init_32 : decode cX6_init 32 = .ok (.putfield 26, 3) := by decide +kernel
theorem dX6_init_35 : decode cX6_init 35 = .ok (.aload_n 0, 1) := by decide +kernel
theorem dX6_init_36 : decode cX6_init 36 = .ok (.iconst 0, 1) := by decide +kernel
theorem dX6_init_37 : decode cX6_init 37 = .ok (.putfield 30, 3) := by decide +kernel
theorem dX6_init_40 : decode cX6_init 40 = .ok (.aload_n 0, 1) := by decide +kernel
theorem dX6_init_41 : decode cX6_init 41 = .ok (.bipush (-5), 2) := by decide +kernel
theorem dX6_init_43 : decode cX6_init 43 = .ok (.putfield 33, 3) := by decide +kernel
theorem dX6_init_46 : decode cX6_init 46 = .ok (.aload_n 0, 1) := by decide +kernel
theorem dX6_init_47 : decode cX6_init 47 = .ok (.bipush (-5), 2) := by decide +kernel
theorem dX6_init_49 : decode cX6_init 49 = .ok (.putfield 36, 3) := by decide +kernel
theorem dX6_init_52 : decode cX6_init 52 = .ok (.aload_n 0, 1) := by decide +kernel
theorem dX6_init_53 : decode cX6_init 53 = .ok (.iconst 0, 1) := by decide +kernel
theorem dX6_init_54 : decode cX6_init 54 = .ok (.putfield 39, 3) := by decide +kernel
theorem dX6_init_57 : decode cX6_init 57 = .ok (.aload_n 0, 1) := by decide +kernel
theorem dX6_init_58 : decode cX6_init 58 = .ok (.iconst 5, 1) := by decide +kernel
theorem dX6_init_59 : decode cX6_init 59 = .ok (.putfield 42, 3) := by decide +kernel
theorem dX6_init_62 : decode cX6_init 62 = .ok (.aload_n 0, 1) := by decide +kernel
theorem dX6_init_63 : decode cX6_init 63 = .ok (.bipush 20, 2) := by decide +kernel
theorem dX6_init_65 : decode cX6_init 65 = .ok (.putfield 45, 3) := by decide +kernel
theorem dX6_init_68 : decode cX6_init 68 = .ok (.aload_n 0, 1) := by decide +kernel
theorem dX6_init_69 : decode cX6_init 69 = .ok (.iconst 3, 1) := by decide +kernel
theorem dX6_init_70 : decode cX6_init 70 = .ok (.putfield 48, 3) := by decide +kernel
theorem dX6_init_73 : decode cX6_init 73 = .ok (.aload_n 0, 1) := by decide +kernel
theorem dX6_init_74 : decode cX6_init 74 = .ok (.iconst 0, 1) := by decide +kernel
theorem dX6_init_75 : decode cX6_init 75 = .ok (.putfield 51, 3) := by decide +kernel
theorem dX6_init_78 : decode cX6_init 78 = .ok (.aload_n 0, 1) := by decide +kernel
theorem dX6_init_79 : decode cX6_init 79 = .ok (.iconst 0, 1) := by decide +kernel
theorem dX6_init_80 : decode cX6_init 80 = .ok (.putfield 54, 3) := by decide +kernel
theorem dX6_init_83 : decode cX6_init 83 = .ok (.aload_n 0, 1) := by decide +kernel
theorem dX6_init_84 : decode cX6_init 84 = .ok (.iconst 0, 1) := by decide +kernel
theorem dX6_init_85 : decode cX6_init 85 = .ok (.putfield 57, 3) := by decide +kernel
theorem dX6_init_88 : decode cX6_init 88 = .ok (.aload_n 0, 1) := by decide +kernel
theorem dX6_init_89 : decode cX6_init 89 = .ok (.iconst 0, 1) := by decide +kernel
theorem dX6_init_90 : decode cX6_init 90 = .ok (.putfield 60, 3) := by decide +kernel
theorem dX6_init_93 : decode cX6_init 93 = .ok (.aload_n 0, 1) := by decide +kernel
theorem dX6_init_94 : decode cX6_init 94 = .ok (.iload_n 1, 1) := by decide +kernel
theorem dX6_init_95 : decode cX6_init 95 = .ok (.putfield 63, 3) := by decide +kernel
theorem dX6_init_98 : decode cX6_init 98 = .ok (.aload_n 0, 1) := by decide +kernel
theorem dX6_init_99 : decode cX6_init 99 = .ok (.iload_n 2, 1) := by decide +kernel
theorem dX6_init_100 : decode cX6_init 100 = .ok (.putfield 66, 3) := by decide +kernel
theorem dX6_init_103 : decode cX6_init 103 = .ok (.iconst 0, 1) := by decide +kernel
theorem dX6_init_104 : decode cX6_init 104 = .ok (.istore_n 3, 1) := by decide +kernel
theorem dX6_init_105 : decode cX6_init 105 = .ok (.iload_n 3, 1) := by decide +kernel
theorem dX6_init_106 : decode cX6_init 106 = .ok (.aload_n 0, 1) := by decide +kernel
theorem dX6_init_107 : decode cX6_init 107 = .ok (.getfield 9, 3) := by decide +kernel
theorem dX6_init_110 : decode cX6_init 110 = .ok (.arraylength, 1) := by decide +kernel
theorem dX6_init_111 : decode cX6_init 111 = .ok (.if_icmp .ge 17, 3) := by decide +kernel
theorem dX6_init_114 : decode cX6_init 114 = .ok (.aload_n 0, 1) := by decide +kernel
theorem dX6_init_115 : decode cX6_init 115 = .ok (.getfield 9, 3) := by decide +kernel
theorem dX6_init_118 : decode cX6_init 118 = .ok (.iload_n 3, 1) := by decide +kernel
theorem dX6_init_119 : decode cX6_init 119 = .ok (.bipush (-5), 2) := by decide +kernel
theorem dX6_init_121 : decode cX6_init 121 = .ok (.iastore, 1) := by decide +kernel
theorem dX6_init_122 : decode cX6_init 122 = .ok (.iinc 3 1, 3) := by decide +kernel
theorem dX6_init_125 : decode cX6_init 125 = .ok (.goto (-20), 3) := by decide +kernel
theorem dX6_init_128 : decode cX6_init 128 = .ok (.return_, 1) := by decide +kernel
theorem dX6_isAsked_0 : decode cX6_isAsked 0 = .ok (.aload_n 0, 1) := by decide +kernel
theorem dX6_isAsked_1 : decode cX6_isAsked 1 = .ok (.getfield 33, 3) := by decide +kernel
theorem dX6_isAsked_4 : decode cX6_isAsked 4 = .ok (.bipush (-5), 2) := by decide +kernel
theorem dX6_isAsked_6 : decode cX6_isAsked 6 = .ok (.if_icmp .eq 7, 3) := by decide +kernel
theorem dX6_isAsked_9 : decode cX6_isAsked 9 = .ok (.iconst 1, 1) := by decide +kernel
theorem dX6_isAsked_10 : decode cX6_isAsked 10 = .ok (.goto 4, 3) := by decide +kernel
theorem dX6_isAsked_13 : decode cX6_isAsked 13 = .ok (.iconst 0, 1) := by decide +kernel
theorem dX6_isAsked_14 : decode cX6_isAsked 14 = .ok (.ireturn, 1) := by decide +kernel
theorem dX6_isLit_0 : decode cX6_isLit 0 = .ok (.aload_n 0, 1) := by decide +kernel
theorem dX6_isLit_1 : decode cX6_isLit 1 = .ok (.getfield 26, 3) := by decide +kernel
theorem dX6_isLit_4 : decode cX6_isLit 4 = .ok (.iconst 1, 1) := by decide +kernel
theorem dX6_isLit_5 : decode cX6_isLit 5 = .ok (.if_icmp .eq 11, 3) := by decide +kernel
theorem dX6_isLit_8 : decode cX6_isLit 8 = .ok (.aload_n 0, 1) := by decide +kernel
theorem dX6_isLit_9 : decode cX6_isLit 9 = .ok (.getfield 26, 3) := by decide +kernel
theorem dX6_isLit_12 : decode cX6_isLit 12 = .ok (.iconst 2, 1) := by decide +kernel
theorem dX6_isLit_13 : decode cX6_isLit 13 = .ok (.if_icmp .ne 7, 3) := by decide +kernel
theorem dX6_isLit_16 : decode cX6_isLit 16 = .ok (.iconst 1, 1) := by decide +kernel
theorem dX6_isLit_17 : decode cX6_isLit 17 = .ok (.goto 4, 3) := by decide +kernel
theorem dX6_isLit_20 : decode cX6_isLit 20 = .ok (.iconst 0, 1) := by decide +kernel
theorem dX6_isLit_21 : decode cX6_isLit 21 = .ok (.ireturn, 1) := by decide +kernel
theorem dX6_setClearing_0 : decode cX6_setClearing 0 = .ok (.aload_n 1, 1) := by decide +kernel
theorem dX6_setClearing_1 : decode cX6_setClearing 1 = .ok (.getfield 63, 3) := by decide +kernel
theorem dX6_setClearing_4 : decode cX6_setClearing 4 = .ok (.istore_n 3, 1) := by decide +kernel
theorem dX6_setClearing_5 : decode cX6_setClearing 5 = .ok (.iload_n 3, 1) := by decide +kernel
theorem dX6_setClearing_6 : decode cX6_setClearing 6 = .ok (.ifCond .lt 19, 3) := by decide +kernel
theorem dX6_setClearing_9 : decode cX6_setClearing 9 = .ok (.iload_n 3, 1) := by decide +kernel
theorem dX6_setClearing_10 : decode cX6_setClearing 10 = .ok (.aload_n 0, 1) := by decide +kernel
theorem dX6_setClearing_11 : decode cX6_setClearing 11 = .ok (.getfield 9, 3) := by decide +kernel
theorem dX6_setClearing_14 : decode cX6_setClearing 14 = .ok (.arraylength, 1) := by decide +kernel
theorem dX6_setClearing_15 : decode cX6_setClearing 15 = .ok (.if_icmp .ge 10, 3) := by decide +kernel
theorem dX6_setClearing_18 : decode cX6_setClearing 18 = .ok (.aload_n 0, 1) := by decide +kernel
theorem dX6_setClearing_19 : decode cX6_setClearing 19 = .ok (.getfield 9, 3) := by decide +kernel
theorem dX6_setClearing_22 : decode cX6_setClearing 22 = .ok (.iload_n 3, 1) := by decide +kernel
theorem dX6_setClearing_23 : decode cX6_setClearing 23 = .ok (.iload_n 2, 1) := by decide +kernel
theorem dX6_setClearing_24 : decode cX6_setClearing 24 = .ok (.iastore, 1) := by decide +kernel
theorem dX6_setClearing_25 : decode cX6_setClearing 25 = .ok (.return_, 1) := by decide +kernel
theorem dX6_clearingTo_0 : decode cX6_clearingTo 0 = .ok (.aload_n 1, 1) := by decide +kernel
theorem dX6_clearingTo_1 : decode cX6_clearingTo 1 = .ok (.getfield 63, 3) := by decide +kernel
theorem dX6_clearingTo_4 : decode cX6_clearingTo 4 = .ok (.istore_n 2, 1) := by decide +kernel
theorem dX6_clearingTo_5 : decode cX6_clearingTo 5 = .ok (.iload_n 2, 1) := by decide +kernel
theorem dX6_clearingTo_6 : decode cX6_clearingTo 6 = .ok (.ifCond .lt 21, 3) := by decide +kernel
theorem dX6_clearingTo_9 : decode cX6_clearingTo 9 = .ok (.iload_n 2, 1) := by decide +kernel
theorem dX6_clearingTo_10 : decode cX6_clearingTo 10 = .ok (.aload_n 0, 1) := by decide +kernel
theorem dX6_clearingTo_11 : decode cX6_clearingTo 11 = .ok (.getfield 9, 3) := by decide +kernel
theorem dX6_clearingTo_14 : decode cX6_clearingTo 14 = .ok (.arraylength, 1) := by decide +kernel
theorem dX6_clearingTo_15 : decode cX6_clearingTo 15 = .ok (.if_icmp .ge 12, 3) := by decide +kernel
theorem dX6_clearingTo_18 : decode cX6_clearingTo 18 = .ok (.aload_n 0, 1) := by decide +kernel
theorem dX6_clearingTo_19 : decode cX6_clearingTo 19 = .ok (.getfield 9, 3) := by decide +kernel
theorem dX6_clearingTo_22 : decode cX6_clearingTo 22 = .ok (.iload_n 2, 1) := by decide +kernel
theorem dX6_clearingTo_23 : decode cX6_clearingTo 23 = .ok (.iaload, 1) := by decide +kernel
theorem dX6_clearingTo_24 : decode cX6_clearingTo 24 = .ok (.goto 5, 3) := by decide +kernel
theorem dX6_clearingTo_27 : decode cX6_clearingTo 27 = .ok (.bipush (-5), 2) := by decide +kernel
theorem dX6_clearingTo_29 : decode cX6_clearingTo 29 = .ok (.ireturn, 1) := by decide +kernel
theorem dX6_greatestClearing_0 : decode cX6_greatestClearing 0 = .ok (.iconst 0, 1) := by decide +kernel
theorem dX6_greatestClearing_1 : decode cX6_greatestClearing 1 = .ok (.istore_n 1, 1) := by decide +kernel
theorem dX6_greatestClearing_2 : decode cX6_greatestClearing 2 = .ok (.aload_n 0, 1) := by decide +kernel
theorem dX6_greatestClearing_3 : decode cX6_greatestClearing 3 = .ok (.getfield 9, 3) := by decide +kernel
theorem dX6_greatestClearing_6 : decode cX6_greatestClearing 6 = .ok (.astore_n 2, 1) := by decide +kernel
theorem dX6_greatestClearing_7 : decode cX6_greatestClearing 7 = .ok (.aload_n 2, 1) := by decide +kernel
theorem dX6_greatestClearing_8 : decode cX6_greatestClearing 8 = .ok (.arraylength, 1) := by decide +kernel
theorem dX6_greatestClearing_9 : decode cX6_greatestClearing 9 = .ok (.istore_n 3, 1) := by decide +kernel
theorem dX6_greatestClearing_10 : decode cX6_greatestClearing 10 = .ok (.iconst 0, 1) := by decide +kernel
theorem dX6_greatestClearing_11 : decode cX6_greatestClearing 11 = .ok (.istore 4, 2) := by decide +kernel
theorem dX6_greatestClearing_13 : decode cX6_greatestClearing 13 = .ok (.iload 4, 2) := by decide +kernel
theorem dX6_greatestClearing_15 : decode cX6_greatestClearing 15 = .ok (.iload_n 3, 1) := by decide +kernel
theorem dX6_greatestClearing_16 : decode cX6_greatestClearing 16 = .ok (.if_icmp .ge 22, 3) := by decide +kernel
theorem dX6_greatestClearing_19 : decode cX6_greatestClearing 19 = .ok (.aload_n 2, 1) := by decide +kernel
theorem dX6_greatestClearing_20 : decode cX6_greatestClearing 20 = .ok (.iload 4, 2) := by decide +kernel
theorem dX6_greatestClearing_22 : decode cX6_greatestClearing 22 = .ok (.iaload, 1) := by decide +kernel
theorem dX6_greatestClearing_23 : decode cX6_greatestClearing 23 = .ok (.istore 5, 2) := by decide +kernel
theorem dX6_greatestClearing_25 : decode cX6_greatestClearing 25 = .ok (.iload_n 1, 1) := by decide +kernel
theorem dX6_greatestClearing_26 : decode cX6_greatestClearing 26 = .ok (.iload 5, 2) := by decide +kernel
theorem dX6_greatestClearing_28 : decode cX6_greatestClearing 28 = .ok (.invokestatic 69, 3) := by decide +kernel
theorem dX6_greatestClearing_31 : decode cX6_greatestClearing 31 = .ok (.istore_n 1, 1) := by decide +kernel
theorem dX6_greatestClearing_32 : decode cX6_greatestClearing 32 = .ok (.iinc 4 1, 3) := by decide +kernel
theorem dX6_greatestClearing_35 : decode cX6_greatestClearing 35 = .ok (.goto (-22), 3) := by decide +kernel
theorem dX6_greatestClearing_38 : decode cX6_greatestClearing 38 = .ok (.iload_n 1, 1) := by decide +kernel
theorem dX6_greatestClearing_39 : decode cX6_greatestClearing 39 = .ok (.ireturn, 1) := by decide +kernel
theorem dX6_keepLight_0 : decode cX6_keepLight 0 = .ok (.aload_n 0, 1) := by decide +kernel
theorem dX6_keepLight_1 : decode cX6_keepLight 1 = .ok (.getfield 15, 3) := by decide +kernel
theorem dX6_keepLight_4 : decode cX6_keepLight 4 = .ok (.iload_n 1, 1) := by decide +kernel
theorem dX6_keepLight_5 : decode cX6_keepLight 5 = .ok (.bipush 61, 2) := by decide +kernel
theorem dX6_keepLight_7 : decode cX6_keepLight 7 = .ok (.invokestatic 75, 3) := by decide +kernel
theorem dX6_keepLight_10 : decode cX6_keepLight 10 = .ok (.aload_n 0, 1) := by decide +kernel
theorem dX6_keepLight_11 : decode cX6_keepLight 11 = .ok (.getfield 26, 3) := by decide +kernel
theorem dX6_keepLight_14 : decode cX6_keepLight 14 = .ok (.iastore, 1) := by decide +kernel
theorem dX6_keepLight_15 : decode cX6_keepLight 15 = .ok (.return_, 1) := by decide +kernel
theorem dX6_lightBehind_0 : decode cX6_lightBehind 0 = .ok (.aload_n 0, 1) := by decide +kernel
theorem dX6_lightBehind_1 : decode cX6_lightBehind 1 = .ok (.getfield 15, 3) := by decide +kernel
theorem dX6_lightBehind_4 : decode cX6_lightBehind 4 = .ok (.iload_n 1, 1) := by decide +kernel
theorem dX6_lightBehind_5 : decode cX6_lightBehind 5 = .ok (.bipush 61, 2) := by decide +kernel
theorem dX6_lightBehind_7 : decode cX6_lightBehind 7 = .ok (.invokestatic 75, 3) := by decide +kernel
theorem dX6_lightBehind_10 : decode cX6_lightBehind 10 = .ok (.iaload, 1) := by decide +kernel
theorem dX6_lightBehind_11 : decode cX6_lightBehind 11 = .ok (.ireturn, 1) := by decide +kernel
theorem dX7_init_0 : decode cX7_init 0 = .ok (.aload_n 0, 1) := by decide +kernel
theorem dX7_init_1 : decode cX7_init 1 = .ok (.invokespecial 3, 3) := by decide +kernel
theorem dX7_init_4 : decode cX7_init 4 = .ok (.aload_n 0, 1) := by decide +kernel
theorem dX7_init_5 : decode cX7_init 5 = .ok (.iconst 4, 1) := by decide +kernel
theorem dX7_init_6 : decode cX7_init 6 = .ok (.anewarray 9, 3) := by decide +kernel
theorem dX7_init_9 : decode cX7_init 9 = .ok (.putfield 11, 3) := by decide +kernel
theorem dX7_init_12 : decode cX7_init 12 = .ok (.aload_n 0, 1) := by decide +kernel
theorem dX7_init_13 : decode cX7_init 13 = .ok (.iload_n 1, 1) := by decide +kernel
theorem dX7_init_14 : decode cX7_init 14 = .ok (.putfield 17, 3) := by decide +kernel
theorem dX7_init_17 : decode cX7_init 17 = .ok (.return_, 1) := by decide +kernel
theorem dX7_putPhase_0 : decode cX7_putPhase 0 = .ok (.iload_n 1, 1) := by decide +kernel
theorem dX7_putPhase_1 : decode cX7_putPhase 1 = .ok (.ifCond .lt 19, 3) := by decide +kernel
theorem dX7_putPhase_4 : decode cX7_putPhase 4 = .ok (.iload_n 1, 1) := by decide +kernel
theorem dX7_putPhase_5 : decode cX7_putPhase 5 = .ok (.aload_n 0, 1) := by decide +kernel
theorem dX7_putPhase_6 : decode cX7_putPhase 6 = .ok (.getfield 11, 3) := by decide +kernel
theorem dX7_putPhase_9 : decode cX7_putPhase 9 = .ok (.arraylength, 1) := by decide +kernel
theorem dX7_putPhase_10 : decode cX7_putPhase 10 = .ok (.if_icmp .ge 10, 3) := by decide +kernel
theorem dX7_putPhase_13 : decode cX7_putPhase 13 = .ok (.aload_n 0, 1) := by decide +kernel
theorem dX7_putPhase_14 : decode cX7_putPhase 14 = .ok (.getfield 11, 3) := by decide +kernel
theorem dX7_putPhase_17 : decode cX7_putPhase 17 = .ok (.iload_n 1, 1) := by decide +kernel
theorem dX7_putPhase_18 : decode cX7_putPhase 18 = .ok (.aload_n 2, 1) := by decide +kernel
theorem dX7_putPhase_19 : decode cX7_putPhase 19 = .ok (.aastore, 1) := by decide +kernel
theorem dX7_putPhase_20 : decode cX7_putPhase 20 = .ok (.return_, 1) := by decide +kernel
theorem dX7_phaseIn_0 : decode cX7_phaseIn 0 = .ok (.iload_n 1, 1) := by decide +kernel
theorem dX7_phaseIn_1 : decode cX7_phaseIn 1 = .ok (.ifCond .lt 21, 3) := by decide +kernel
theorem dX7_phaseIn_4 : decode cX7_phaseIn 4 = .ok (.iload_n 1, 1) := by decide +kernel
theorem dX7_phaseIn_5 : decode cX7_phaseIn 5 = .ok (.aload_n 0, 1) := by decide +kernel
theorem dX7_phaseIn_6 : decode cX7_phaseIn 6 = .ok (.getfield 11, 3) := by decide +kernel
theorem dX7_phaseIn_9 : decode cX7_phaseIn 9 = .ok (.arraylength, 1) := by decide +kernel
theorem dX7_phaseIn_10 : decode cX7_phaseIn 10 = .ok (.if_icmp .ge 12, 3) := by decide +kernel
theorem dX7_phaseIn_13 : decode cX7_phaseIn 13 = .ok (.aload_n 0, 1) := by decide +kernel
theorem dX7_phaseIn_14 : decode cX7_phaseIn 14 = .ok (.getfield 11, 3) := by decide +kernel
theorem dX7_phaseIn_17 : decode cX7_phaseIn 17 = .ok (.iload_n 1, 1) := by decide +kernel
theorem dX7_phaseIn_18 : decode cX7_phaseIn 18 = .ok (.aaload, 1) := by decide +kernel
theorem dX7_phaseIn_19 : decode cX7_phaseIn 19 = .ok (.goto 4, 3) := by decide +kernel
theorem dX7_phaseIn_22 : decode cX7_phaseIn 22 = .ok (.aconst_null, 1) := by decide +kernel
theorem dX7_phaseIn_23 : decode cX7_phaseIn 23 = .ok (.areturn, 1) := by decide +kernel
theorem dX7_hasPhase_0 : decode cX7_hasPhase 0 = .ok (.aload_n 0, 1) := by decide +kernel
theorem dX7_hasPhase_1 : decode cX7_hasPhase 1 = .ok (.getfield 11, 3) := by decide +kernel
theorem dX7_hasPhase_4 : decode cX7_hasPhase 4 = .ok (.astore_n 2, 1) := by decide +kernel
theorem dX7_hasPhase_5 : decode cX7_hasPhase 5 = .ok (.aload_n 2, 1) := by decide +kernel
theorem dX7_hasPhase_6 : decode cX7_hasPhase 6 = .ok (.arraylength, 1) := by decide +kernel
theorem dX7_hasPhase_7 : decode cX7_hasPhase 7 = .ok (.istore_n 3, 1) := by decide +kernel
theorem dX7_hasPhase_8 : decode cX7_hasPhase 8 = .ok (.iconst 0, 1) := by decide +kernel
theorem dX7_hasPhase_9 : decode cX7_hasPhase 9 = .ok (.istore 4, 2) := by decide +kernel
theorem dX7_hasPhase_11 : decode cX7_hasPhase 11 = .ok (.iload 4, 2) := by decide +kernel
theorem dX7_hasPhase_13 : decode cX7_hasPhase 13 = .ok (.iload_n 3, 1) := by decide +kernel
theorem dX7_hasPhase_14 : decode cX7_hasPhase 14 = .ok (.if_icmp .ge 28, 3) := by decide +kernel
theorem dX7_hasPhase_17 : decode cX7_hasPhase 17 = .ok (.aload_n 2, 1) := by decide +kernel
theorem dX7_hasPhase_18 : decode cX7_hasPhase 18 = .ok (.iload 4, 2) := by decide +kernel
theorem dX7_hasPhase_20 : decode cX7_hasPhase 20 = .ok (.aaload, 1) := by decide +kernel
theorem dX7_hasPhase_21 : decode cX7_hasPhase 21 = .ok (.astore 5, 2) := by decide +kernel
theorem dX7_hasPhase_23 : decode cX7_hasPhase 23 = .ok (.aload 5, 2) := by decide +kernel
theorem dX7_hasPhase_25 : decode cX7_hasPhase 25 = .ok (.ifnull 11, 3) := by decide +kernel
theorem dX7_hasPhase_28 : decode cX7_hasPhase 28 = .ok (.aload 5, 2) := by decide +kernel
theorem dX7_hasPhase_30 : decode cX7_hasPhase 30 = .ok (.aload_n 1, 1) := by decide +kernel
theorem dX7_hasPhase_31 : decode cX7_hasPhase 31 = .ok (.if_acmp .ne 5, 3) := by decide +kernel
theorem dX7_hasPhase_34 : decode cX7_hasPhase 34 = .ok (.iconst 1, 1) := by decide +kernel
theorem dX7_hasPhase_35 : decode cX7_hasPhase 35 = .ok (.ireturn, 1) := by decide +kernel
theorem dX7_hasPhase_36 : decode cX7_hasPhase 36 = .ok (.iinc 4 1, 3) := by decide +kernel
theorem dX7_hasPhase_39 : decode cX7_hasPhase 39 = .ok (.goto (-28), 3) := by decide +kernel
theorem dX7_hasPhase_42 : decode cX7_hasPhase 42 = .ok (.iconst 0, 1) := by decide +kernel
theorem dX7_hasPhase_43 : decode cX7_hasPhase 43 = .ok (.ireturn, 1) := by decide +kernel
theorem dX7_isEmpty_0 : decode cX7_isEmpty 0 = .ok (.aload_n 0, 1) := by decide +kernel
theorem dX7_isEmpty_1 : decode cX7_isEmpty 1 = .ok (.getfield 11, 3) := by decide +kernel
theorem dX7_isEmpty_4 : decode cX7_isEmpty 4 = .ok (.astore_n 1, 1) := by decide +kernel
theorem dX7_isEmpty_5 : decode cX7_isEmpty 5 = .ok (.aload_n 1, 1) := by decide +kernel
theorem dX7_isEmpty_6 : decode cX7_isEmpty 6 = .ok (.arraylength, 1) := by decide +kernel
theorem dX7_isEmpty_7 : decode cX7_isEmpty 7 = .ok (.istore_n 2, 1) := by decide +kernel
theorem dX7_isEmpty_8 : decode cX7_isEmpty 8 = .ok (.iconst 0, 1) := by decide +kernel
theorem dX7_isEmpty_9 : decode cX7_isEmpty 9 = .ok (.istore_n 3, 1) := by decide +kernel
theorem dX7_isEmpty_10 : decode cX7_isEmpty 10 = .ok (.iload_n 3, 1) := by decide +kernel
theorem dX7_isEmpty_11 : decode cX7_isEmpty 11 = .ok (.iload_n 2, 1) := by decide +kernel
theorem dX7_isEmpty_12 : decode cX7_isEmpty 12 = .ok (.if_icmp .ge 21, 3) := by decide +kernel
theorem dX7_isEmpty_15 : decode cX7_isEmpty 15 = .ok (.aload_n 1, 1) := by decide +kernel
theorem dX7_isEmpty_16 : decode cX7_isEmpty 16 = .ok (.iload_n 3, 1) := by decide +kernel
theorem dX7_isEmpty_17 : decode cX7_isEmpty 17 = .ok (.aaload, 1) := by decide +kernel
theorem dX7_isEmpty_18 : decode cX7_isEmpty 18 = .ok (.astore 4, 2) := by decide +kernel
theorem dX7_isEmpty_20 : decode cX7_isEmpty 20 = .ok (.aload 4, 2) := by decide +kernel
theorem dX7_isEmpty_22 : decode cX7_isEmpty 22 = .ok (.ifnull 5, 3) := by decide +kernel
theorem dX7_isEmpty_25 : decode cX7_isEmpty 25 = .ok (.iconst 0, 1) := by decide +kernel
theorem dX7_isEmpty_26 : decode cX7_isEmpty 26 = .ok (.ireturn, 1) := by decide +kernel
theorem dX7_isEmpty_27 : decode cX7_isEmpty 27 = .ok (.iinc 3 1, 3) := by decide +kernel
theorem dX7_isEmpty_30 : decode cX7_isEmpty 30 = .ok (.goto (-20), 3) := by decide +kernel
theorem dX7_isEmpty_33 : decode cX7_isEmpty 33 = .ok (.iconst 1, 1) := by decide +kernel
theorem dX7_isEmpty_34 : decode cX7_isEmpty 34 = .ok (.ireturn, 1) := by decide +kernel
theorem dX7_hasConflict_0 : decode cX7_hasConflict 0 = .ok (.aload_n 0, 1) := by decide +kernel
theorem dX7_hasConflict_1 : decode cX7_hasConflict 1 = .ok (.getfield 11, 3) := by decide +kernel
theorem dX7_hasConflict_4 : decode cX7_hasConflict 4 = .ok (.astore_n 1, 1) := by decide +kernel
theorem dX7_hasConflict_5 : decode cX7_hasConflict 5 = .ok (.aload_n 1, 1) := by decide +kernel
theorem dX7_hasConflict_6 : decode cX7_hasConflict 6 = .ok (.arraylength, 1) := by decide +kernel
theorem dX7_hasConflict_7 : decode cX7_hasConflict 7 = .ok (.istore_n 2, 1) := by decide +kernel
theorem dX7_hasConflict_8 : decode cX7_hasConflict 8 = .ok (.iconst 0, 1) := by decide +kernel
theorem dX7_hasConflict_9 : decode cX7_hasConflict 9 = .ok (.istore_n 3, 1) := by decide +kernel
theorem dX7_hasConflict_10 : decode cX7_hasConflict 10 = .ok (.iload_n 3, 1) := by decide +kernel
theorem dX7_hasConflict_11 : decode cX7_hasConflict 11 = .ok (.iload_n 2, 1) := by decide +kernel
theorem dX7_hasConflict_12 : decode cX7_hasConflict 12 = .ok (.if_icmp .ge 72, 3) := by decide +kernel
theorem dX7_hasConflict_15 : decode cX7_hasConflict 15 = .ok (.aload_n 1, 1) := by decide +kernel
theorem dX7_hasConflict_16 : decode cX7_hasConflict 16 = .ok (.iload_n 3, 1) := by decide +kernel
theorem dX7_hasConflict_17 : decode cX7_hasConflict 17 = .ok (.aaload, 1) := by decide +kernel
theorem dX7_hasConflict_18 : decode cX7_hasConflict 18 = .ok (.astore 4, 2) := by decide +kernel
theorem dX7_hasConflict_20 : decode cX7_hasConflict 20 = .ok (.aload_n 0, 1) := by decide +kernel
theorem dX7_hasConflict_21 : decode cX7_hasConflict 21 = .ok (.getfield 11, 3) := by decide +kernel
theorem dX7_hasConflict_24 : decode cX7_hasConflict 24 = .ok (.astore 5, 2) := by decide +kernel
theorem dX7_hasConflict_26 : decode cX7_hasConflict 26 = .ok (.aload 5, 2) := by decide +kernel
theorem dX7_hasConflict_28 : decode cX7_hasConflict 28 = .ok (.arraylength, 1) := by decide +kernel
theorem dX7_hasConflict_29 : decode cX7_hasConflict 29 = .ok (.istore 6, 2) := by decide +kernel
theorem dX7_hasConflict_31 : decode cX7_hasConflict 31 = .ok (.iconst 0, 1) := by decide +kernel
theorem dX7_hasConflict_32 : decode cX7_hasConflict 32 = .ok (.istore 7, 2) := by decide +kernel
theorem dX7_hasConflict_34 : decode cX7_hasConflict 34 = .ok (.iload 7, 2) := by decide +kernel
theorem dX7_hasConflict_36 : decode cX7_hasConflict 36 = .ok (.iload 6, 2) := by decide +kernel
theorem dX7_hasConflict_38 : decode cX7_hasConflict 38 = .ok (.if_icmp .ge 40, 3) := by decide +kernel
theorem dX7_hasConflict_41 : decode cX7_hasConflict 41 = .ok (.aload 5, 2) := by decide +kernel
theorem dX7_hasConflict_43 : decode cX7_hasConflict 43 = .ok (.iload 7, 2) := by decide +kernel
theorem dX7_hasConflict_45 : decode cX7_hasConflict 45 = .ok (.aaload, 1) := by decide +kernel
theorem dX7_hasConflict_46 : decode cX7_hasConflict 46 = .ok (.astore 8, 2) := by decide +kernel
theorem dX7_hasConflict_48 : decode cX7_hasConflict 48 = .ok (.aload 4, 2) := by decide +kernel
theorem dX7_hasConflict_50 : decode cX7_hasConflict 50 = .ok (.ifnull 22, 3) := by decide +kernel
theorem dX7_hasConflict_53 : decode cX7_hasConflict 53 = .ok (.aload 8, 2) := by decide +kernel
theorem dX7_hasConflict_55 : decode cX7_hasConflict 55 = .ok (.ifnull 17, 3) := by decide +kernel
theorem dX7_hasConflict_58 : decode cX7_hasConflict 58 = .ok (.aload 4, 2) := by decide +kernel
theorem dX7_hasConflict_60 : decode cX7_hasConflict 60 = .ok (.aload 8, 2) := by decide +kernel
theorem dX7_hasConflict_62 : decode cX7_hasConflict 62 = .ok (.invokevirtual 21, 3) := by decide +kernel
theorem dX7_hasConflict_65 : decode cX7_hasConflict 65 = .ok (.bipush (-5), 2) := by decide +kernel
theorem dX7_hasConflict_67 : decode cX7_hasConflict 67 = .ok (.if_icmp .eq 5, 3) := by decide +kernel
theorem dX7_hasConflict_70 : decode cX7_hasConflict 70 = .ok (.iconst 1, 1) := by decide +kernel
theorem dX7_hasConflict_71 : decode cX7_hasConflict 71 = .ok (.ireturn, 1) := by decide +kernel
theorem dX7_hasConflict_72 : decode cX7_hasConflict 72 = .ok (.iinc 7 1, 3) := by decide +kernel
theorem dX7_hasConflict_75 : decode cX7_hasConflict 75 = .ok (.goto (-41), 3) := by decide +kernel
theorem dX7_hasConflict_78 : decode cX7_hasConflict 78 = .ok (.iinc 3 1, 3) := by decide +kernel
theorem dX7_hasConflict_81 : decode cX7_hasConflict 81 = .ok (.goto (-71), 3) := by decide +kernel
theorem dX7_hasConflict_84 : decode cX7_hasConflict 84 = .ok (.iconst 0, 1) := by decide +kernel
theorem dX7_hasConflict_85 : decode cX7_hasConflict 85 = .ok (.ireturn, 1) := by decide +kernel
theorem dX7_leastGreen_0 : decode cX7_leastGreen 0 = .ok (.iconst 0, 1) := by decide +kernel
theorem dX7_leastGreen_1 : decode cX7_leastGreen 1 = .ok (.istore_n 1, 1) := by decide +kernel
theorem dX7_leastGreen_2 : decode cX7_leastGreen 2 = .ok (.aload_n 0, 1) := by decide +kernel
theorem dX7_leastGreen_3 : decode cX7_leastGreen 3 = .ok (.getfield 11, 3) := by decide +kernel
theorem dX7_leastGreen_6 : decode cX7_leastGreen 6 = .ok (.astore_n 2, 1) := by decide +kernel
theorem dX7_leastGreen_7 : decode cX7_leastGreen 7 = .ok (.aload_n 2, 1) := by decide +kernel
theorem dX7_leastGreen_8 : decode cX7_leastGreen 8 = .ok (.arraylength, 1) := by decide +kernel
theorem dX7_leastGreen_9 : decode cX7_leastGreen 9 = .ok (.istore_n 3, 1) := by decide +kernel
theorem dX7_leastGreen_10 : decode cX7_leastGreen 10 = .ok (.iconst 0, 1) := by decide +kernel
theorem dX7_leastGreen_11 : decode cX7_leastGreen 11 = .ok (.istore 4, 2) := by decide +kernel
theorem dX7_leastGreen_13 : decode cX7_leastGreen 13 = .ok (.iload 4, 2) := by decide +kernel
theorem dX7_leastGreen_15 : decode cX7_leastGreen 15 = .ok (.iload_n 3, 1) := by decide +kernel
theorem dX7_leastGreen_16 : decode cX7_leastGreen 16 = .ok (.if_icmp .ge 30, 3) := by decide +kernel
theorem dX7_leastGreen_19 : decode cX7_leastGreen 19 = .ok (.aload_n 2, 1) := by decide +kernel
theorem dX7_leastGreen_20 : decode cX7_leastGreen 20 = .ok (.iload 4, 2) := by decide +kernel
theorem dX7_leastGreen_22 : decode cX7_leastGreen 22 = .ok (.aaload, 1) := by decide +kernel
theorem dX7_leastGreen_23 : decode cX7_leastGreen 23 = .ok (.astore 5, 2) := by decide +kernel
theorem dX7_leastGreen_25 : decode cX7_leastGreen 25 = .ok (.aload 5, 2) := by decide +kernel
theorem dX7_leastGreen_27 : decode cX7_leastGreen 27 = .ok (.ifnull 13, 3) := by decide +kernel
theorem dX7_leastGreen_30 : decode cX7_leastGreen 30 = .ok (.iload_n 1, 1) := by decide +kernel
theorem dX7_leastGreen_31 : decode cX7_leastGreen 31 = .ok (.aload 5, 2) := by decide +kernel
theorem dX7_leastGreen_33 : decode cX7_leastGreen 33 = .ok (.getfield 25, 3) := by decide +kernel
theorem dX7_leastGreen_36 : decode cX7_leastGreen 36 = .ok (.invokestatic 28, 3) := by decide +kernel
theorem dX7_leastGreen_39 : decode cX7_leastGreen 39 = .ok (.istore_n 1, 1) := by decide +kernel
theorem dX7_leastGreen_40 : decode cX7_leastGreen 40 = .ok (.iinc 4 1, 3) := by decide +kernel
theorem dX7_leastGreen_43 : decode cX7_leastGreen 43 = .ok (.goto (-30), 3) := by decide +kernel
theorem dX7_leastGreen_46 : decode cX7_leastGreen 46 = .ok (.iload_n 1, 1) := by decide +kernel
theorem dX7_leastGreen_47 : decode cX7_leastGreen 47 = .ok (.ireturn, 1) := by decide +kernel
theorem dX7_greatestGreen_0 : decode cX7_greatestGreen 0 = .ok (.bipush 120, 2) := by decide +kernel
theorem dX7_greatestGreen_2 : decode cX7_greatestGreen 2 = .ok (.istore_n 1, 1) := by decide +kernel
theorem dX7_greatestGreen_3 : decode cX7_greatestGreen 3 = .ok (.aload_n 0, 1) := by decide +kernel
theorem dX7_greatestGreen_4 : decode cX7_greatestGreen 4 = .ok (.getfield 11, 3) := by decide +kernel
theorem dX7_greatestGreen_7 : decode cX7_greatestGreen 7 = .ok (.astore_n 2, 1) := by decide +kernel
theorem dX7_greatestGreen_8 : decode cX7_greatestGreen 8 = .ok (.aload_n 2, 1) := by decide +kernel
theorem dX7_greatestGreen_9 : decode cX7_greatestGreen 9 = .ok (.arraylength, 1) := by decide +kernel
theorem dX7_greatestGreen_10 : decode cX7_greatestGreen 10 = .ok (.istore_n 3, 1) := by decide +kernel
theorem dX7_greatestGreen_11 : decode cX7_greatestGreen 11 = .ok (.iconst 0, 1) := by decide +kernel
theorem dX7_greatestGreen_12 : decode cX7_greatestGreen 12 = .ok (.istore 4, 2) := by decide +kernel
theorem dX7_greatestGreen_14 : decode cX7_greatestGreen 14 = .ok (.iload 4, 2) := by decide +kernel
theorem dX7_greatestGreen_16 : decode cX7_greatestGreen 16 = .ok (.iload_n 3, 1) := by decide +kernel
theorem dX7_greatestGreen_17 : decode cX7_greatestGreen 17 = .ok (.if_icmp .ge 30, 3) := by decide +kernel
theorem dX7_greatestGreen_20 : decode cX7_greatestGreen 20 = .ok (.aload_n 2, 1) := by decide +kernel
theorem dX7_greatestGreen_21 : decode cX7_greatestGreen 21 = .ok (.iload 4, 2) := by decide +kernel
theorem dX7_greatestGreen_23 : decode cX7_greatestGreen 23 = .ok (.aaload, 1) := by decide +kernel
theorem dX7_greatestGreen_24 : decode cX7_greatestGreen 24 = .ok (.astore 5, 2) := by decide +kernel
theorem dX7_greatestGreen_26 : decode cX7_greatestGreen 26 = .ok (.aload 5, 2) := by decide +kernel
theorem dX7_greatestGreen_28 : decode cX7_greatestGreen 28 = .ok (.ifnull 13, 3) := by decide +kernel
theorem dX7_greatestGreen_31 : decode cX7_greatestGreen 31 = .ok (.iload_n 1, 1) := by decide +kernel
theorem dX7_greatestGreen_32 : decode cX7_greatestGreen 32 = .ok (.aload 5, 2) := by decide +kernel
theorem dX7_greatestGreen_34 : decode cX7_greatestGreen 34 = .ok (.getfield 34, 3) := by decide +kernel
theorem dX7_greatestGreen_37 : decode cX7_greatestGreen 37 = .ok (.invokestatic 37, 3) := by decide +kernel
theorem dX7_greatestGreen_40 : decode cX7_greatestGreen 40 = .ok (.istore_n 1, 1) := by decide +kernel
theorem dX7_greatestGreen_41 : decode cX7_greatestGreen 41 = .ok (.iinc 4 1, 3) := by decide +kernel
theorem dX7_greatestGreen_44 : decode cX7_greatestGreen 44 = .ok (.goto (-30), 3) := by decide +kernel
theorem dX7_greatestGreen_47 : decode cX7_greatestGreen 47 = .ok (.iload_n 1, 1) := by decide +kernel
theorem dX7_greatestGreen_48 : decode cX7_greatestGreen 48 = .ok (.aload_n 0, 1) := by decide +kernel
theorem dX7_greatestGreen_49 : decode cX7_greatestGreen 49 = .ok (.invokevirtual 40, 3) := by decide +kernel
theorem dX7_greatestGreen_52 : decode cX7_greatestGreen 52 = .ok (.invokestatic 28, 3) := by decide +kernel
theorem dX7_greatestGreen_55 : decode cX7_greatestGreen 55 = .ok (.ireturn, 1) := by decide +kernel
theorem dX7_isHeld_0 : decode cX7_isHeld 0 = .ok (.aload_n 0, 1) := by decide +kernel
theorem dX7_isHeld_1 : decode cX7_isHeld 1 = .ok (.getfield 11, 3) := by decide +kernel
theorem dX7_isHeld_4 : decode cX7_isHeld 4 = .ok (.astore_n 1, 1) := by decide +kernel
theorem dX7_isHeld_5 : decode cX7_isHeld 5 = .ok (.aload_n 1, 1) := by decide +kernel
theorem dX7_isHeld_6 : decode cX7_isHeld 6 = .ok (.arraylength, 1) := by decide +kernel
theorem dX7_isHeld_7 : decode cX7_isHeld 7 = .ok (.istore_n 2, 1) := by decide +kernel
theorem dX7_isHeld_8 : decode cX7_isHeld 8 = .ok (.iconst 0, 1) := by decide +kernel
theorem dX7_isHeld_9 : decode cX7_isHeld 9 = .ok (.istore_n 3, 1) := by decide +kernel
theorem dX7_isHeld_10 : decode cX7_isHeld 10 = .ok (.iload_n 3, 1) := by decide +kernel
theorem dX7_isHeld_11 : decode cX7_isHeld 11 = .ok (.iload_n 2, 1) := by decide +kernel
theorem dX7_isHeld_12 : decode cX7_isHeld 12 = .ok (.if_icmp .ge 29, 3) := by decide +kernel
theorem dX7_isHeld_15 : decode cX7_isHeld 15 = .ok (.aload_n 1, 1) := by decide +kernel
theorem dX7_isHeld_16 : decode cX7_isHeld 16 = .ok (.iload_n 3, 1) := by decide +kernel
theorem dX7_isHeld_17 : decode cX7_isHeld 17 = .ok (.aaload, 1) := by decide +kernel
theorem dX7_isHeld_18 : decode cX7_isHeld 18 = .ok (.astore 4, 2) := by decide +kernel
theorem dX7_isHeld_20 : decode cX7_isHeld 20 = .ok (.aload 4, 2) := by decide +kernel
theorem dX7_isHeld_22 : decode cX7_isHeld 22 = .ok (.ifnull 13, 3) := by decide +kernel
theorem dX7_isHeld_25 : decode cX7_isHeld 25 = .ok (.aload 4, 2) := by decide +kernel
theorem dX7_isHeld_27 : decode cX7_isHeld 27 = .ok (.getfield 44, 3) := by decide +kernel
theorem dX7_isHeld_30 : decode cX7_isHeld 30 = .ok (.ifCond .eq 5, 3) := by decide +kernel
theorem dX7_isHeld_33 : decode cX7_isHeld 33 = .ok (.iconst 1, 1) := by decide +kernel
theorem dX7_isHeld_34 : decode cX7_isHeld 34 = .ok (.ireturn, 1) := by decide +kernel
theorem dX7_isHeld_35 : decode cX7_isHeld 35 = .ok (.iinc 3 1, 3) := by decide +kernel
theorem dX7_isHeld_38 : decode cX7_isHeld 38 = .ok (.goto (-28), 3) := by decide +kernel
theorem dX7_isHeld_41 : decode cX7_isHeld 41 = .ok (.iconst 0, 1) := by decide +kernel
theorem dX7_isHeld_42 : decode cX7_isHeld 42 = .ok (.ireturn, 1) := by decide +kernel
theorem dX7_firstAsked_0 : decode cX7_firstAsked 0 = .ok (.bipush (-5), 2) := by decide +kernel
theorem dX7_firstAsked_2 : decode cX7_firstAsked 2 = .ok (.istore_n 1, 1) := by decide +kernel
theorem dX7_firstAsked_3 : decode cX7_firstAsked 3 = .ok (.aload_n 0, 1) := by decide +kernel
theorem dX7_firstAsked_4 : decode cX7_firstAsked 4 = .ok (.getfield 11, 3) := by decide +kernel
theorem dX7_firstAsked_7 : decode cX7_firstAsked 7 = .ok (.astore_n 2, 1) := by decide +kernel
theorem dX7_firstAsked_8 : decode cX7_firstAsked 8 = .ok (.aload_n 2, 1) := by decide +kernel
theorem dX7_firstAsked_9 : decode cX7_firstAsked 9 = .ok (.arraylength, 1) := by decide +kernel
theorem dX7_firstAsked_10 : decode cX7_firstAsked 10 = .ok (.istore_n 3, 1) := by decide +kernel
theorem dX7_firstAsked_11 : decode cX7_firstAsked 11 = .ok (.iconst 0, 1) := by decide +kernel
theorem dX7_firstAsked_12 : decode cX7_firstAsked 12 = .ok (.istore 4, 2) := by decide +kernel
theorem dX7_firstAsked_14 : decode cX7_firstAsked 14 = .ok (.iload 4, 2) := by decide +kernel
theorem dX7_firstAsked_16 : decode cX7_firstAsked 16 = .ok (.iload_n 3, 1) := by decide +kernel
theorem dX7_firstAsked_17 : decode cX7_firstAsked 17 = .ok (.if_icmp .ge 52, 3) := by decide +kernel
theorem dX7_firstAsked_20 : decode cX7_firstAsked 20 = .ok (.aload_n 2, 1) := by decide +kernel
theorem dX7_firstAsked_21 : decode cX7_firstAsked 21 = .ok (.iload 4, 2) := by decide +kernel
theorem dX7_firstAsked_23 : decode cX7_firstAsked 23 = .ok (.aaload, 1) := by decide +kernel
theorem dX7_firstAsked_24 : decode cX7_firstAsked 24 = .ok (.astore 5, 2) := by decide +kernel
theorem dX7_firstAsked_26 : decode cX7_firstAsked 26 = .ok (.aload 5, 2) := by decide +kernel
theorem dX7_firstAsked_28 : decode cX7_firstAsked 28 = .ok (.ifnull 35, 3) := by decide +kernel
theorem dX7_firstAsked_31 : decode cX7_firstAsked 31 = .ok (.aload 5, 2) := by decide +kernel
theorem dX7_firstAsked_33 : decode cX7_firstAsked 33 = .ok (.invokevirtual 48, 3) := by decide +kernel
theorem dX7_firstAsked_36 : decode cX7_firstAsked 36 = .ok (.ifCond .ne 6, 3) := by decide +kernel
theorem dX7_firstAsked_39 : decode cX7_firstAsked 39 = .ok (.goto 24, 3) := by decide +kernel
theorem dX7_firstAsked_42 : decode cX7_firstAsked 42 = .ok (.iload_n 1, 1) := by decide +kernel
theorem dX7_firstAsked_43 : decode cX7_firstAsked 43 = .ok (.bipush (-5), 2) := by decide +kernel
theorem dX7_firstAsked_45 : decode cX7_firstAsked 45 = .ok (.if_icmp .eq 12, 3) := by decide +kernel
theorem dX7_firstAsked_48 : decode cX7_firstAsked 48 = .ok (.aload 5, 2) := by decide +kernel
theorem dX7_firstAsked_50 : decode cX7_firstAsked 50 = .ok (.getfield 52, 3) := by decide +kernel
theorem dX7_firstAsked_53 : decode cX7_firstAsked 53 = .ok (.iload_n 1, 1) := by decide +kernel
theorem dX7_firstAsked_54 : decode cX7_firstAsked 54 = .ok (.if_icmp .ge 9, 3) := by decide +kernel
theorem dX7_firstAsked_57 : decode cX7_firstAsked 57 = .ok (.aload 5, 2) := by decide +kernel
theorem dX7_firstAsked_59 : decode cX7_firstAsked 59 = .ok (.getfield 52, 3) := by decide +kernel
theorem dX7_firstAsked_62 : decode cX7_firstAsked 62 = .ok (.istore_n 1, 1) := by decide +kernel
theorem dX7_firstAsked_63 : decode cX7_firstAsked 63 = .ok (.iinc 4 1, 3) := by decide +kernel
theorem dX7_firstAsked_66 : decode cX7_firstAsked 66 = .ok (.goto (-52), 3) := by decide +kernel
theorem dX7_firstAsked_69 : decode cX7_firstAsked 69 = .ok (.iload_n 1, 1) := by decide +kernel
theorem dX7_firstAsked_70 : decode cX7_firstAsked 70 = .ok (.ireturn, 1) := by decide +kernel
theorem dX7_mayBeGreen_0 : decode cX7_mayBeGreen 0 = .ok (.aload_n 0, 1) := by decide +kernel
theorem dX7_mayBeGreen_1 : decode cX7_mayBeGreen 1 = .ok (.getfield 11, 3) := by decide +kernel
theorem dX7_mayBeGreen_4 : decode cX7_mayBeGreen 4 = .ok (.astore_n 2, 1) := by decide +kernel
theorem dX7_mayBeGreen_5 : decode cX7_mayBeGreen 5 = .ok (.aload_n 2, 1) := by decide +kernel
theorem dX7_mayBeGreen_6 : decode cX7_mayBeGreen 6 = .ok (.arraylength, 1) := by decide +kernel
theorem dX7_mayBeGreen_7 : decode cX7_mayBeGreen 7 = .ok (.istore_n 3, 1) := by decide +kernel
theorem dX7_mayBeGreen_8 : decode cX7_mayBeGreen 8 = .ok (.iconst 0, 1) := by decide +kernel
theorem dX7_mayBeGreen_9 : decode cX7_mayBeGreen 9 = .ok (.istore 4, 2) := by decide +kernel
theorem dX7_mayBeGreen_11 : decode cX7_mayBeGreen 11 = .ok (.iload 4, 2) := by decide +kernel
theorem dX7_mayBeGreen_13 : decode cX7_mayBeGreen 13 = .ok (.iload_n 3, 1) := by decide +kernel
theorem dX7_mayBeGreen_14 : decode cX7_mayBeGreen 14 = .ok (.if_icmp .ge 39, 3) := by decide +kernel
theorem dX7_mayBeGreen_17 : decode cX7_mayBeGreen 17 = .ok (.aload_n 2, 1) := by decide +kernel
theorem dX7_mayBeGreen_18 : decode cX7_mayBeGreen 18 = .ok (.iload 4, 2) := by decide +kernel
theorem dX7_mayBeGreen_20 : decode cX7_mayBeGreen 20 = .ok (.aaload, 1) := by decide +kernel
theorem dX7_mayBeGreen_21 : decode cX7_mayBeGreen 21 = .ok (.astore 5, 2) := by decide +kernel
theorem dX7_mayBeGreen_23 : decode cX7_mayBeGreen 23 = .ok (.aload 5, 2) := by decide +kernel
theorem dX7_mayBeGreen_25 : decode cX7_mayBeGreen 25 = .ok (.ifnull 22, 3) := by decide +kernel
theorem dX7_mayBeGreen_28 : decode cX7_mayBeGreen 28 = .ok (.aload 5, 2) := by decide +kernel
theorem dX7_mayBeGreen_30 : decode cX7_mayBeGreen 30 = .ok (.getfield 55, 3) := by decide +kernel
theorem dX7_mayBeGreen_33 : decode cX7_mayBeGreen 33 = .ok (.ifCond .ne 12, 3) := by decide +kernel
theorem dX7_mayBeGreen_36 : decode cX7_mayBeGreen 36 = .ok (.aload 5, 2) := by decide +kernel
theorem dX7_mayBeGreen_38 : decode cX7_mayBeGreen 38 = .ok (.getfield 58, 3) := by decide +kernel
theorem dX7_mayBeGreen_41 : decode cX7_mayBeGreen 41 = .ok (.iload_n 1, 1) := by decide +kernel
theorem dX7_mayBeGreen_42 : decode cX7_mayBeGreen 42 = .ok (.if_icmp .le 5, 3) := by decide +kernel
theorem dX7_mayBeGreen_45 : decode cX7_mayBeGreen 45 = .ok (.iconst 0, 1) := by decide +kernel
theorem dX7_mayBeGreen_46 : decode cX7_mayBeGreen 46 = .ok (.ireturn, 1) := by decide +kernel
theorem dX7_mayBeGreen_47 : decode cX7_mayBeGreen 47 = .ok (.iinc 4 1, 3) := by decide +kernel
theorem dX7_mayBeGreen_50 : decode cX7_mayBeGreen 50 = .ok (.goto (-39), 3) := by decide +kernel
theorem dX7_mayBeGreen_53 : decode cX7_mayBeGreen 53 = .ok (.iconst 1, 1) := by decide +kernel
theorem dX7_mayBeGreen_54 : decode cX7_mayBeGreen 54 = .ok (.ireturn, 1) := by decide +kernel
theorem dX8_init_0 : decode cX8_init 0 = .ok (.aload_n 0, 1) := by decide +kernel
theorem dX8_init_1 : decode cX8_init 1 = .ok (.invokespecial 1, 3) := by decide +kernel
theorem dX8_init_4 : decode cX8_init 4 = .ok (.aload_n 0, 1) := by decide +kernel
theorem dX8_init_5 : decode cX8_init 5 = .ok (.new 7, 3) := by decide +kernel
theorem dX8_init_8 : decode cX8_init 8 = .ok (.dup, 1) := by decide +kernel
theorem dX8_init_9 : decode cX8_init 9 = .ok (.invokespecial 9, 3) := by decide +kernel
theorem dX8_init_12 : decode cX8_init 12 = .ok (.putfield 10, 3) := by decide +kernel
theorem dX8_init_15 : decode cX8_init 15 = .ok (.aload_n 0, 1) := by decide +kernel
theorem dX8_init_16 : decode cX8_init 16 = .ok (.new 7, 3) := by decide +kernel
theorem dX8_init_19 : decode cX8_init 19 = .ok (.dup, 1) := by decide +kernel
theorem dX8_init_20 : decode cX8_init 20 = .ok (.invokespecial 9, 3) := by decide +kernel
theorem dX8_init_23 : decode cX8_init 23 = .ok (.putfield 16, 3) := by decide +kernel
theorem dX8_init_26 : decode cX8_init 26 = .ok (.aload_n 0, 1) := by decide +kernel
theorem dX8_init_27 : decode cX8_init 27 = .ok (.new 7, 3) := by decide +kernel
theorem dX8_init_30 : decode cX8_init 30 = .ok (.dup, 1) := by decide +kernel
theorem dX8_init_31 : decode cX8_init 31 = .ok (.invokespecial 9, 3) := by decide +kernel
theorem dX8_init_34 : decode cX8_init 34 = .ok (.putfield 19, 3) := by decide +kernel
theorem dX8_init_37 : decode cX8_init 37 = .ok (.aload_n 0, 1) := by decide +kernel
theorem dX8_init_38 : decode cX8_init 38 = .ok (.new 7, 3) := by decide +kernel
theorem dX8_init_41 : decode cX8_init 41 = .ok (.dup, 1) := by decide +kernel
theorem dX8_init_42 : decode cX8_init 42 = .ok (.invokespecial 9, 3) := by decide +kernel
theorem dX8_init_45 : decode cX8_init 45 = .ok (.putfield 22, 3) := by decide +kernel
theorem dX8_init_48 : decode cX8_init 48 = .ok (.aload_n 0, 1) := by decide +kernel
theorem dX8_init_49 : decode cX8_init 49 = .ok (.new 7, 3) := by decide +kernel
theorem dX8_init_52 : decode cX8_init 52 = .ok (.dup, 1) := by decide +kernel
theorem dX8_init_53 : decode cX8_init 53 = .ok (.invokespecial 9, 3) := by decide +kernel
theorem dX8_init_56 : decode cX8_init 56 = .ok (.putfield 25, 3) := by decide +kernel
theorem dX8_init_59 : decode cX8_init 59 = .ok (.aload_n 0, 1) := by decide +kernel
theorem dX8_init_60 : decode cX8_init 60 = .ok (.new 28, 3) := by decide +kernel
theorem dX8_init_63 : decode cX8_init 63 = .ok (.dup, 1) := by decide +kernel
theorem dX8_init_64 : decode cX8_init 64 = .ok (.invokespecial 30, 3) := by decide +kernel
theorem dX8_init_67 : decode cX8_init 67 = .ok (.putfield 31, 3) := by decide +kernel
theorem dX8_init_70 : decode cX8_init 70 = .ok (.aload_n 0, 1) := by decide +kernel
theorem dX8_init_71 : decode cX8_init 71 = .ok (.new 35, 3) := by decide +kernel
theorem dX8_init_74 : decode cX8_init 74 = .ok (.dup, 1) := by decide +kernel
theorem dX8_init_75 : decode cX8_init 75 = .ok (.invokespecial 37, 3) := by decide +kernel
theorem dX8_init_78 : decode cX8_init 78 = .ok (.putfield 38, 3) := by decide +kernel
theorem dX8_init_81 : decode cX8_init 81 = .ok (.aload_n 0, 1) := by decide +kernel
theorem dX8_init_82 : decode cX8_init 82 = .ok (.new 42, 3) := by decide +kernel
theorem dX8_init_85 : decode cX8_init 85 = .ok (.dup, 1) := by decide +kernel
theorem dX8_init_86 : decode cX8_init 86 = .ok (.invokespecial 44, 3) := by decide +kernel
theorem dX8_init_89 : decode cX8_init 89 = .ok (.putfield 45, 3) := by decide +kernel
theorem dX8_init_92 : decode cX8_init 92 = .ok (.aload_n 0, 1) := by decide +kernel
theorem dX8_init_93 : decode cX8_init 93 = .ok (.iconst 0, 1) := by decide +kernel
theorem dX8_init_94 : decode cX8_init 94 = .ok (.putfield 49, 3) := by decide +kernel
theorem dX8_init_97 : decode cX8_init 97 = .ok (.aload_n 0, 1) := by decide +kernel
theorem dX8_init_98 : decode cX8_init 98 = .ok (.iconst 0, 1) := by decide +kernel
theorem dX8_init_99 : decode cX8_init 99 = .ok (.putfield 53, 3) := by decide +kernel
theorem dX8_init_102 : decode cX8_init 102 = .ok (.aload_n 0, 1) := by decide +kernel
theorem dX8_init_103 : decode cX8_init 103 = .ok (.aconst_null, 1) := by decide +kernel
theorem dX8_init_104 : decode cX8_init 104 = .ok (.putfield 56, 3) := by decide +kernel
theorem dX8_init_107 : decode cX8_init 107 = .ok (.aload_n 0, 1) := by decide +kernel
theorem dX8_init_108 : decode cX8_init 108 = .ok (.iconst 0, 1) := by decide +kernel
theorem dX8_init_109 : decode cX8_init 109 = .ok (.putfield 60, 3) := by decide +kernel
theorem dX8_init_112 : decode cX8_init 112 = .ok (.aload_n 0, 1) := by decide +kernel
theorem dX8_init_113 : decode cX8_init 113 = .ok (.iconst 0, 1) := by decide +kernel
theorem dX8_init_114 : decode cX8_init 114 = .ok (.putfield 63, 3) := by decide +kernel
theorem dX8_init_117 : decode cX8_init 117 = .ok (.aload_n 0, 1) := by decide +kernel
theorem dX8_init_118 : decode cX8_init 118 = .ok (.iconst 0, 1) := by decide +kernel
theorem dX8_init_119 : decode cX8_init 119 = .ok (.putfield 66, 3) := by decide +kernel
theorem dX8_init_122 : decode cX8_init 122 = .ok (.aload_n 0, 1) := by decide +kernel
theorem dX8_init_123 : decode cX8_init 123 = .ok (.aconst_null, 1) := by decide +kernel
theorem dX8_init_124 : decode cX8_init 124 = .ok (.putfield 69, 3) := by decide +kernel
theorem dX8_init_127 : decode cX8_init 127 = .ok (.aload_n 0, 1) := by decide +kernel
theorem dX8_init_128 : decode cX8_init 128 = .ok (.iconst (-1), 1) := by decide +kernel
theorem dX8_init_129 : decode cX8_init 129 = .ok (.putfield 72, 3) := by decide +kernel
theorem dX8_init_132 : decode cX8_init 132 = .ok (.return_, 1) := by decide +kernel
theorem dX8_phase_0 : decode cX8_phase 0 = .ok (.iload_n 1, 1) := by decide +kernel
theorem dX8_phase_1 : decode cX8_phase 1 = .ok (.ifCond .lt 8, 3) := by decide +kernel
theorem dX8_phase_4 : decode cX8_phase 4 = .ok (.iload_n 1, 1) := by decide +kernel
theorem dX8_phase_5 : decode cX8_phase 5 = .ok (.iconst 4, 1) := by decide +kernel
theorem dX8_phase_6 : decode cX8_phase 6 = .ok (.if_icmp .le 5, 3) := by decide +kernel
theorem dX8_phase_9 : decode cX8_phase 9 = .ok (.iconst (-1), 1) := by decide +kernel
theorem dX8_phase_10 : decode cX8_phase 10 = .ok (.ireturn, 1) := by decide +kernel
theorem dX8_phase_11 : decode cX8_phase 11 = .ok (.aload_n 0, 1) := by decide +kernel
theorem dX8_phase_12 : decode cX8_phase 12 = .ok (.getfield 49, 3) := by decide +kernel
theorem dX8_phase_15 : decode cX8_phase 15 = .ok (.ifCond .le 6, 3) := by decide +kernel
theorem dX8_phase_18 : decode cX8_phase 18 = .ok (.bipush (-3), 2) := by decide +kernel
theorem dX8_phase_20 : decode cX8_phase 20 = .ok (.ireturn, 1) := by decide +kernel
theorem dX8_phase_21 : decode cX8_phase 21 = .ok (.aload_n 0, 1) := by decide +kernel
theorem dX8_phase_22 : decode cX8_phase 22 = .ok (.getfield 10, 3) := by decide +kernel
theorem dX8_phase_25 : decode cX8_phase 25 = .ok (.invokevirtual 75, 3) := by decide +kernel
theorem dX8_phase_28 : decode cX8_phase 28 = .ok (.bipush 8, 2) := by decide +kernel
theorem dX8_phase_30 : decode cX8_phase 30 = .ok (.if_icmp .lt 6, 3) := by decide +kernel
theorem dX8_phase_33 : decode cX8_phase 33 = .ok (.bipush (-2), 2) := by decide +kernel
theorem dX8_phase_35 : decode cX8_phase 35 = .ok (.ireturn, 1) := by decide +kernel
theorem dX8_phase_36 : decode cX8_phase 36 = .ok (.new 79, 3) := by decide +kernel
theorem dX8_phase_39 : decode cX8_phase 39 = .ok (.dup, 1) := by decide +kernel
theorem dX8_phase_40 : decode cX8_phase 40 = .ok (.aload_n 0, 1) := by decide +kernel
theorem dX8_phase_41 : decode cX8_phase 41 = .ok (.getfield 10, 3) := by decide +kernel
theorem dX8_phase_44 : decode cX8_phase 44 = .ok (.invokevirtual 75, 3) := by decide +kernel
theorem dX8_phase_47 : decode cX8_phase 47 = .ok (.iload_n 1, 1) := by decide +kernel
theorem dX8_phase_48 : decode cX8_phase 48 = .ok (.invokespecial 81, 3) := by decide +kernel
theorem dX8_phase_51 : decode cX8_phase 51 = .ok (.astore_n 2, 1) := by decide +kernel
theorem dX8_phase_52 : decode cX8_phase 52 = .ok (.aload_n 0, 1) := by decide +kernel
theorem dX8_phase_53 : decode cX8_phase 53 = .ok (.getfield 10, 3) := by decide +kernel
theorem dX8_phase_56 : decode cX8_phase 56 = .ok (.aload_n 2, 1) := by decide +kernel
theorem dX8_phase_57 : decode cX8_phase 57 = .ok (.invokevirtual 84, 3) := by decide +kernel
theorem dX8_phase_60 : decode cX8_phase 60 = .ok (.pop, 1) := by decide +kernel
theorem dX8_phase_61 : decode cX8_phase 61 = .ok (.aload_n 2, 1) := by decide +kernel
theorem dX8_phase_62 : decode cX8_phase 62 = .ok (.getfield 88, 3) := by decide +kernel
theorem dX8_phase_65 : decode cX8_phase 65 = .ok (.ireturn, 1) := by decide +kernel
theorem dX8_conflict_0 : decode cX8_conflict 0 = .ok (.aload_n 0, 1) := by decide +kernel
theorem dX8_conflict_1 : decode cX8_conflict 1 = .ok (.iload_n 1, 1) := by decide +kernel
theorem dX8_conflict_2 : decode cX8_conflict 2 = .ok (.invokevirtual 91, 3) := by decide +kernel
theorem dX8_conflict_5 : decode cX8_conflict 5 = .ok (.astore 5, 2) := by decide +kernel
theorem dX8_conflict_7 : decode cX8_conflict 7 = .ok (.aload_n 0, 1) := by decide +kernel
theorem dX8_conflict_8 : decode cX8_conflict 8 = .ok (.iload_n 2, 1) := by decide +kernel
theorem dX8_conflict_9 : decode cX8_conflict 9 = .ok (.invokevirtual 91, 3) := by decide +kernel
theorem dX8_conflict_12 : decode cX8_conflict 12 = .ok (.astore 6, 2) := by decide +kernel
theorem dX8_conflict_14 : decode cX8_conflict 14 = .ok (.aload 5, 2) := by decide +kernel
theorem dX8_conflict_16 : decode cX8_conflict 16 = .ok (.ifnull 15, 3) := by decide +kernel
theorem dX8_conflict_19 : decode cX8_conflict 19 = .ok (.aload 6, 2) := by decide +kernel
theorem dX8_conflict_21 : decode cX8_conflict 21 = .ok (.ifnull 10, 3) := by decide +kernel
theorem dX8_conflict_24 : decode cX8_conflict 24 = .ok (.aload 5, 2) := by decide +kernel
theorem dX8_conflict_26 : decode cX8_conflict 26 = .ok (.aload 6, 2) := by decide +kernel
theorem dX8_conflict_28 : decode cX8_conflict 28 = .ok (.if_acmp .ne 5, 3) := by decide +kernel
theorem dX8_conflict_31 : decode cX8_conflict 31 = .ok (.iconst (-1), 1) := by decide +kernel
theorem dX8_conflict_32 : decode cX8_conflict 32 = .ok (.ireturn, 1) := by decide +kernel
theorem dX8_conflict_33 : decode cX8_conflict 33 = .ok (.iload_n 3, 1) := by decide +kernel
theorem dX8_conflict_34 : decode cX8_conflict 34 = .ok (.iconst 0, 1) := by decide +kernel
theorem dX8_conflict_35 : decode cX8_conflict 35 = .ok (.bipush 20, 2) := by decide +kernel
theorem dX8_conflict_37 : decode cX8_conflict 37 = .ok (.invokestatic 95, 3) := by decide +kernel
theorem dX8_conflict_40 : decode cX8_conflict 40 = .ok (.ifCond .eq 14, 3) := by decide +kernel
theorem dX8_conflict_43 : decode cX8_conflict 43 = .ok (.iload 4, 2) := by decide +kernel
theorem dX8_conflict_45 : decode cX8_conflict 45 = .ok (.iconst 0, 1) := by decide +kernel
theorem dX8_conflict_46 : decode cX8_conflict 46 = .ok (.bipush 20, 2) := by decide +kernel
theorem dX8_conflict_48 : decode cX8_conflict 48 = .ok (.invokestatic 95, 3) := by decide +kernel
theorem dX8_conflict_51 : decode cX8_conflict 51 = .ok (.ifCond .ne 5, 3) := by decide +kernel
theorem dX8_conflict_54 : decode cX8_conflict 54 = .ok (.iconst (-1), 1) := by decide +kernel
theorem dX8_conflict_55 : decode cX8_conflict 55 = .ok (.ireturn, 1) := by decide +kernel
theorem dX8_conflict_56 : decode cX8_conflict 56 = .ok (.aload_n 0, 1) := by decide +kernel
theorem dX8_conflict_57 : decode cX8_conflict 57 = .ok (.getfield 49, 3) := by decide +kernel
theorem dX8_conflict_60 : decode cX8_conflict 60 = .ok (.ifCond .le 6, 3) := by decide +kernel
theorem dX8_conflict_63 : decode cX8_conflict 63 = .ok (.bipush (-3), 2) := by decide +kernel
theorem dX8_conflict_65 : decode cX8_conflict 65 = .ok (.ireturn, 1) := by decide +kernel
theorem dX8_conflict_66 : decode cX8_conflict 66 = .ok (.iconst 0, 1) := by decide +kernel
theorem dX8_conflict_67 : decode cX8_conflict 67 = .ok (.istore 7, 2) := by decide +kernel
theorem dX8_conflict_69 : decode cX8_conflict 69 = .ok (.iload 7, 2) := by decide +kernel
theorem dX8_conflict_71 : decode cX8_conflict 71 = .ok (.aload_n 0, 1) := by decide +kernel
theorem dX8_conflict_72 : decode cX8_conflict 72 = .ok (.getfield 16, 3) := by decide +kernel
theorem dX8_conflict_75 : decode cX8_conflict 75 = .ok (.invokevirtual 75, 3) := by decide +kernel
theorem dX8_conflict_78 : decode cX8_conflict 78 = .ok (.if_icmp .ge 46, 3) := by decide +kernel
theorem dX8_conflict_81 : decode cX8_conflict 81 = .ok (.aload_n 0, 1) := by decide +kernel
theorem dX8_conflict_82 : decode cX8_conflict 82 = .ok (.getfield 16, 3) := by decide +kernel
theorem dX8_conflict_85 : decode cX8_conflict 85 = .ok (.iload 7, 2) := by decide +kernel
theorem dX8_conflict_87 : decode cX8_conflict 87 = .ok (.invokevirtual 99, 3) := by decide +kernel
theorem dX8_conflict_90 : decode cX8_conflict 90 = .ok (.checkcast 103, 3) := by decide +kernel
theorem dX8_conflict_93 : decode cX8_conflict 93 = .ok (.astore 8, 2) := by decide +kernel
theorem dX8_conflict_95 : decode cX8_conflict 95 = .ok (.aload 8, 2) := by decide +kernel
theorem dX8_conflict_97 : decode cX8_conflict 97 = .ok (.aload 5, 2) := by decide +kernel
theorem dX8_conflict_99 : decode cX8_conflict 99 = .ok (.invokevirtual 105, 3) := by decide +kernel
theorem dX8_conflict_102 : decode cX8_conflict 102 = .ok (.ifCond .eq 16, 3) := by decide +kernel
theorem dX8_conflict_105 : decode cX8_conflict 105 = .ok (.aload 8, 2) := by decide +kernel
theorem dX8_conflict_107 : decode cX8_conflict 107 = .ok (.aload 6, 2) := by decide +kernel
theorem dX8_conflict_109 : decode cX8_conflict 109 = .ok (.invokevirtual 105, 3) := by decide +kernel
theorem dX8_conflict_112 : decode cX8_conflict 112 = .ok (.ifCond .eq 6, 3) := by decide +kernel
theorem dX8_conflict_115 : decode cX8_conflict 115 = .ok (.bipush (-4), 2) := by decide +kernel
theorem dX8_conflict_117 : decode cX8_conflict 117 = .ok (.ireturn, 1) := by decide +kernel
theorem dX8_conflict_118 : decode cX8_conflict 118 = .ok (.iinc 7 1, 3) := by decide +kernel
theorem dX8_conflict_121 : decode cX8_conflict 121 = .ok (.goto (-52), 3) := by decide +kernel
theorem dX8_conflict_124 : decode cX8_conflict 124 = .ok (.aload 5, 2) := by decide +kernel
theorem dX8_conflict_126 : decode cX8_conflict 126 = .ok (.aload 6, 2) := by decide +kernel
theorem dX8_conflict_128 : decode cX8_conflict 128 = .ok (.iload_n 3, 1) := by decide +kernel
theorem dX8_conflict_129 : decode cX8_conflict 129 = .ok (.invokevirtual 109, 3) := by decide +kernel
theorem dX8_conflict_132 : decode cX8_conflict 132 = .ok (.aload 6, 2) := by decide +kernel
theorem dX8_conflict_134 : decode cX8_conflict 134 = .ok (.aload 5, 2) := by decide +kernel
theorem dX8_conflict_136 : decode cX8_conflict 136 = .ok (.iload 4, 2) := by decide +kernel
theorem dX8_conflict_138 : decode cX8_conflict 138 = .ok (.invokevirtual 109, 3) := by decide +kernel
theorem dX8_conflict_141 : decode cX8_conflict 141 = .ok (.iconst 1, 1) := by decide +kernel
theorem dX8_conflict_142 : decode cX8_conflict 142 = .ok (.ireturn, 1) := by decide +kernel
theorem dX8_stage_0 : decode cX8_stage 0 = .ok (.iconst 4, 1) := by decide +kernel
theorem dX8_stage_1 : decode cX8_stage 1 = .ok (.newarray .int, 2) := by decide +kernel
theorem dX8_stage_3 : decode cX8_stage 3 = .ok (.dup, 1) := by decide +kernel
theorem dX8_stage_4 : decode cX8_stage 4 = .ok (.iconst 0, 1) := by decide +kernel
theorem dX8_stage_5 : decode cX8_stage 5 = .ok (.iload_n 1, 1) := by decide +kernel
theorem dX8_stage_6 : decode cX8_stage 6 = .ok (.iastore, 1) := by decide +kernel
theorem dX8_stage_7 : decode cX8_stage 7 = .ok (.dup, 1) := by decide +kernel
theorem dX8_stage_8 : decode cX8_stage 8 = .ok (.iconst 1, 1) := by decide +kernel
theorem dX8_stage_9 : decode cX8_stage 9 = .ok (.iload_n 2, 1) := by decide +kernel
theorem dX8_stage_10 : decode cX8_stage 10 = .ok (.iastore, 1) := by decide +kernel
theorem dX8_stage_11 : decode cX8_stage 11 = .ok (.dup, 1) := by decide +kernel
theorem dX8_stage_12 : decode cX8_stage 12 = .ok (.iconst 2, 1) := by decide +kernel
theorem dX8_stage_13 : decode cX8_stage 13 = .ok (.iload_n 3, 1) := by decide +kernel
theorem dX8_stage_14 : decode cX8_stage 14 = .ok (.iastore, 1) := by decide +kernel
theorem dX8_stage_15 : decode cX8_stage 15 = .ok (.dup, 1) := by decide +kernel
theorem dX8_stage_16 : decode cX8_stage 16 = .ok (.iconst 3, 1) := by decide +kernel
theorem dX8_stage_17 : decode cX8_stage 17 = .ok (.iload 4, 2) := by decide +kernel
theorem dX8_stage_19 : decode cX8_stage 19 = .ok (.iastore, 1) := by decide +kernel
theorem dX8_stage_20 : decode cX8_stage 20 = .ok (.astore 5, 2) := by decide +kernel
theorem dX8_stage_22 : decode cX8_stage 22 = .ok (.new 103, 3) := by decide +kernel
theorem dX8_stage_25 : decode cX8_stage 25 = .ok (.dup, 1) := by decide +kernel
theorem dX8_stage_26 : decode cX8_stage 26 = .ok (.aload_n 0, 1) := by decide +kernel
theorem dX8_stage_27 : decode cX8_stage 27 = .ok (.getfield 16, 3) := by decide +kernel
theorem dX8_stage_30 : decode cX8_stage 30 = .ok (.invokevirtual 75, 3) := by decide +kernel
theorem dX8_stage_33 : decode cX8_stage 33 = .ok (.invokespecial 113, 3) := by decide +kernel
theorem dX8_stage_36 : decode cX8_stage 36 = .ok (.astore 6, 2) := by decide +kernel
theorem dX8_stage_38 : decode cX8_stage 38 = .ok (.iconst 0, 1) := by decide +kernel
theorem dX8_stage_39 : decode cX8_stage 39 = .ok (.istore 7, 2) := by decide +kernel
theorem dX8_stage_41 : decode cX8_stage 41 = .ok (.iload 7, 2) := by decide +kernel
theorem dX8_stage_43 : decode cX8_stage 43 = .ok (.aload 5, 2) := by decide +kernel
theorem dX8_stage_45 : decode cX8_stage 45 = .ok (.arraylength, 1) := by decide +kernel
theorem dX8_stage_46 : decode cX8_stage 46 = .ok (.if_icmp .ge 59, 3) := by decide +kernel
theorem dX8_stage_49 : decode cX8_stage 49 = .ok (.aload 5, 2) := by decide +kernel
theorem dX8_stage_51 : decode cX8_stage 51 = .ok (.iload 7, 2) := by decide +kernel
theorem dX8_stage_53 : decode cX8_stage 53 = .ok (.iaload, 1) := by decide +kernel
theorem dX8_stage_54 : decode cX8_stage 54 = .ok (.bipush (-5), 2) := by decide +kernel
theorem dX8_stage_56 : decode cX8_stage 56 = .ok (.if_icmp .ne 6, 3) := by decide +kernel
theorem dX8_stage_59 : decode cX8_stage 59 = .ok (.goto 40, 3) := by decide +kernel
theorem dX8_stage_62 : decode cX8_stage 62 = .ok (.aload_n 0, 1) := by decide +kernel
theorem dX8_stage_63 : decode cX8_stage 63 = .ok (.aload 5, 2) := by decide +kernel
theorem dX8_stage_65 : decode cX8_stage 65 = .ok (.iload 7, 2) := by decide +kernel
theorem dX8_stage_67 : decode cX8_stage 67 = .ok (.iaload, 1) := by decide +kernel
theorem dX8_stage_68 : decode cX8_stage 68 = .ok (.invokevirtual 91, 3) := by decide +kernel
theorem dX8_stage_71 : decode cX8_stage 71 = .ok (.astore 8, 2) := by decide +kernel
theorem dX8_stage_73 : decode cX8_stage 73 = .ok (.aload 8, 2) := by decide +kernel
theorem dX8_stage_75 : decode cX8_stage 75 = .ok (.ifnull 13, 3) := by decide +kernel
theorem dX8_stage_78 : decode cX8_stage 78 = .ok (.aload 6, 2) := by decide +kernel
theorem dX8_stage_80 : decode cX8_stage 80 = .ok (.aload 8, 2) := by decide +kernel
theorem dX8_stage_82 : decode cX8_stage 82 = .ok (.invokevirtual 105, 3) := by decide +kernel
theorem dX8_stage_85 : decode cX8_stage 85 = .ok (.ifCond .eq 5, 3) := by decide +kernel
theorem dX8_stage_88 : decode cX8_stage 88 = .ok (.iconst (-1), 1) := by decide +kernel
theorem dX8_stage_89 : decode cX8_stage 89 = .ok (.ireturn, 1) := by decide +kernel
theorem dX8_stage_90 : decode cX8_stage 90 = .ok (.aload 6, 2) := by decide +kernel
theorem dX8_stage_92 : decode cX8_stage 92 = .ok (.iload 7, 2) := by decide +kernel
theorem dX8_stage_94 : decode cX8_stage 94 = .ok (.aload 8, 2) := by decide +kernel
theorem dX8_stage_96 : decode cX8_stage 96 = .ok (.invokevirtual 116, 3) := by decide +kernel
theorem dX8_stage_99 : decode cX8_stage 99 = .ok (.iinc 7 1, 3) := by decide +kernel
theorem dX8_stage_102 : decode cX8_stage 102 = .ok (.goto (-61), 3) := by decide +kernel
theorem dX8_stage_105 : decode cX8_stage 105 = .ok (.aload 6, 2) := by decide +kernel
theorem dX8_stage_107 : decode cX8_stage 107 = .ok (.invokevirtual 120, 3) := by decide +kernel
theorem dX8_stage_110 : decode cX8_stage 110 = .ok (.ifCond .eq 5, 3) := by decide +kernel
theorem dX8_stage_113 : decode cX8_stage 113 = .ok (.iconst (-1), 1) := by decide +kernel
theorem dX8_stage_114 : decode cX8_stage 114 = .ok (.ireturn, 1) := by decide +kernel
theorem dX8_stage_115 : decode cX8_stage 115 = .ok (.aload_n 0, 1) := by decide +kernel
theorem dX8_stage_116 : decode cX8_stage 116 = .ok (.getfield 49, 3) := by decide +kernel
theorem dX8_stage_119 : decode cX8_stage 119 = .ok (.ifCond .le 6, 3) := by decide +kernel
theorem dX8_stage_122 : decode cX8_stage 122 = .ok (.bipush (-3), 2) := by decide +kernel
theorem dX8_stage_124 : decode cX8_stage 124 = .ok (.ireturn, 1) := by decide +kernel
theorem dX8_stage_125 : decode cX8_stage 125 = .ok (.aload 6, 2) := by decide +kernel
theorem dX8_stage_127 : decode cX8_stage 127 = .ok (.invokevirtual 124, 3) := by decide +kernel
theorem dX8_stage_130 : decode cX8_stage 130 = .ok (.ifCond .eq 6, 3) := by decide +kernel
theorem dX8_stage_133 : decode cX8_stage 133 = .ok (.bipush (-4), 2) := by decide +kernel
theorem dX8_stage_135 : decode cX8_stage 135 = .ok (.ireturn, 1) := by decide +kernel
theorem dX8_stage_136 : decode cX8_stage 136 = .ok (.aload_n 0, 1) := by decide +kernel
theorem dX8_stage_137 : decode cX8_stage 137 = .ok (.getfield 16, 3) := by decide +kernel
theorem dX8_stage_140 : decode cX8_stage 140 = .ok (.invokevirtual 75, 3) := by decide +kernel
theorem dX8_stage_143 : decode cX8_stage 143 = .ok (.bipush 6, 2) := by decide +kernel
theorem dX8_stage_145 : decode cX8_stage 145 = .ok (.if_icmp .lt 6, 3) := by decide +kernel
theorem dX8_stage_148 : decode cX8_stage 148 = .ok (.bipush (-2), 2) := by decide +kernel
theorem dX8_stage_150 : decode cX8_stage 150 = .ok (.ireturn, 1) := by decide +kernel
theorem dX8_stage_151 : decode cX8_stage 151 = .ok (.aload_n 0, 1) := by decide +kernel
theorem dX8_stage_152 : decode cX8_stage 152 = .ok (.getfield 16, 3) := by decide +kernel
theorem dX8_stage_155 : decode cX8_stage 155 = .ok (.aload 6, 2) := by decide +kernel
theorem dX8_stage_157 : decode cX8_stage 157 = .ok (.invokevirtual 84, 3) := by decide +kernel
theorem dX8_stage_160 : decode cX8_stage 160 = .ok (.pop, 1) := by decide +kernel
theorem dX8_stage_161 : decode cX8_stage 161 = .ok (.aload 6, 2) := by decide +kernel
theorem dX8_stage_163 : decode cX8_stage 163 = .ok (.getfield 127, 3) := by decide +kernel
theorem dX8_stage_166 : decode cX8_stage 166 = .ok (.ireturn, 1) := by decide +kernel
theorem dX8_detector_0 : decode cX8_detector 0 = .ok (.aload_n 0, 1) := by decide +kernel
theorem dX8_detector_1 : decode cX8_detector 1 = .ok (.iload_n 1, 1) := by decide +kernel
theorem dX8_detector_2 : decode cX8_detector 2 = .ok (.invokevirtual 91, 3) := by decide +kernel
theorem dX8_detector_5 : decode cX8_detector 5 = .ok (.astore_n 2, 1) := by decide +kernel
theorem dX8_detector_6 : decode cX8_detector 6 = .ok (.aload_n 2, 1) := by decide +kernel
theorem dX8_detector_7 : decode cX8_detector 7 = .ok (.ifnonnull 5, 3) := by decide +kernel
theorem dX8_detector_10 : decode cX8_detector 10 = .ok (.iconst (-1), 1) := by decide +kernel
theorem dX8_detector_11 : decode cX8_detector 11 = .ok (.ireturn, 1) := by decide +kernel
theorem dX8_detector_12 : decode cX8_detector 12 = .ok (.aload_n 0, 1) := by decide +kernel
theorem dX8_detector_13 : decode cX8_detector 13 = .ok (.getfield 19, 3) := by decide +kernel
theorem dX8_detector_16 : decode cX8_detector 16 = .ok (.invokevirtual 75, 3) := by decide +kernel
theorem dX8_detector_19 : decode cX8_detector 19 = .ok (.bipush 12, 2) := by decide +kernel
theorem dX8_detector_21 : decode cX8_detector 21 = .ok (.if_icmp .lt 6, 3) := by decide +kernel
theorem dX8_detector_24 : decode cX8_detector 24 = .ok (.bipush (-2), 2) := by decide +kernel
theorem dX8_detector_26 : decode cX8_detector 26 = .ok (.ireturn, 1) := by decide +kernel
theorem dX8_detector_27 : decode cX8_detector 27 = .ok (.new 128, 3) := by decide +kernel
theorem dX8_detector_30 : decode cX8_detector 30 = .ok (.dup, 1) := by decide +kernel
theorem dX8_detector_31 : decode cX8_detector 31 = .ok (.aload_n 0, 1) := by decide +kernel
theorem dX8_detector_32 : decode cX8_detector 32 = .ok (.getfield 19, 3) := by decide +kernel
theorem dX8_detector_35 : decode cX8_detector 35 = .ok (.invokevirtual 75, 3) := by decide +kernel
theorem dX8_detector_38 : decode cX8_detector 38 = .ok (.invokespecial 130, 3) := by decide +kernel
theorem dX8_detector_41 : decode cX8_detector 41 = .ok (.astore_n 3, 1) := by decide +kernel
theorem dX8_detector_42 : decode cX8_detector 42 = .ok (.aload_n 0, 1) := by decide +kernel
theorem dX8_detector_43 : decode cX8_detector 43 = .ok (.getfield 19, 3) := by decide +kernel
theorem dX8_detector_46 : decode cX8_detector 46 = .ok (.aload_n 3, 1) := by decide +kernel
theorem dX8_detector_47 : decode cX8_detector 47 = .ok (.invokevirtual 84, 3) := by decide +kernel
theorem dX8_detector_50 : decode cX8_detector 50 = .ok (.pop, 1) := by decide +kernel
theorem dX8_detector_51 : decode cX8_detector 51 = .ok (.aload_n 2, 1) := by decide +kernel
theorem dX8_detector_52 : decode cX8_detector 52 = .ok (.aload_n 3, 1) := by decide +kernel
theorem dX8_detector_53 : decode cX8_detector 53 = .ok (.putfield 131, 3) := by decide +kernel
theorem dX8_detector_56 : decode cX8_detector 56 = .ok (.aload_n 3, 1) := by decide +kernel
theorem dX8_detector_57 : decode cX8_detector 57 = .ok (.getfield 135, 3) := by decide +kernel
theorem dX8_detector_60 : decode cX8_detector 60 = .ok (.ireturn, 1) := by decide +kernel
theorem dX8_cut_0 : decode cX8_cut 0 = .ok (.aload_n 0, 1) := by decide +kernel
theorem dX8_cut_1 : decode cX8_cut 1 = .ok (.iload_n 1, 1) := by decide +kernel
theorem dX8_cut_2 : decode cX8_cut 2 = .ok (.invokevirtual 136, 3) := by decide +kernel
theorem dX8_cut_5 : decode cX8_cut 5 = .ok (.astore_n 2, 1) := by decide +kernel
theorem dX8_cut_6 : decode cX8_cut 6 = .ok (.aload_n 2, 1) := by decide +kernel
theorem dX8_cut_7 : decode cX8_cut 7 = .ok (.ifnonnull 5, 3) := by decide +kernel
theorem dX8_cut_10 : decode cX8_cut 10 = .ok (.iconst (-1), 1) := by decide +kernel
theorem dX8_cut_11 : decode cX8_cut 11 = .ok (.ireturn, 1) := by decide +kernel
theorem dX8_cut_12 : decode cX8_cut 12 = .ok (.aload_n 2, 1) := by decide +kernel
theorem dX8_cut_13 : decode cX8_cut 13 = .ok (.invokevirtual 140, 3) := by decide +kernel
theorem dX8_cut_16 : decode cX8_cut 16 = .ok (.ifCond .eq 6, 3) := by decide +kernel
theorem dX8_cut_19 : decode cX8_cut 19 = .ok (.bipush (-3), 2) := by decide +kernel
theorem dX8_cut_21 : decode cX8_cut 21 = .ok (.ireturn, 1) := by decide +kernel
theorem dX8_cut_22 : decode cX8_cut 22 = .ok (.aload_n 2, 1) := by decide +kernel
theorem dX8_cut_23 : decode cX8_cut 23 = .ok (.invokevirtual 143, 3) := by decide +kernel
theorem dX8_cut_26 : decode cX8_cut 26 = .ok (.ireturn, 1) := by decide +kernel
theorem dX8_passing_0 : decode cX8_passing 0 = .ok (.aload_n 0, 1) := by decide +kernel
theorem dX8_passing_1 : decode cX8_passing 1 = .ok (.iload_n 1, 1) := by decide +kernel
theorem dX8_passing_2 : decode cX8_passing 2 = .ok (.invokevirtual 136, 3) := by decide +kernel
theorem dX8_passing_5 : decode cX8_passing 5 = .ok (.astore 4, 2) := by decide +kernel
theorem dX8_passing_7 : decode cX8_passing 7 = .ok (.aload 4, 2) := by decide +kernel
theorem dX8_passing_9 : decode cX8_passing 9 = .ok (.ifnonnull 5, 3) := by decide +kernel
theorem dX8_passing_12 : decode cX8_passing 12 = .ok (.iconst (-1), 1) := by decide +kernel
theorem dX8_passing_13 : decode cX8_passing 13 = .ok (.ireturn, 1) := by decide +kernel
theorem dX8_passing_14 : decode cX8_passing 14 = .ok (.iload_n 2, 1) := by decide +kernel
theorem dX8_passing_15 : decode cX8_passing 15 = .ok (.bipush (-128), 2) := by decide +kernel
theorem dX8_passing_17 : decode cX8_passing 17 = .ok (.bipush 127, 2) := by decide +kernel
theorem dX8_passing_19 : decode cX8_passing 19 = .ok (.invokestatic 95, 3) := by decide +kernel
theorem dX8_passing_22 : decode cX8_passing 22 = .ok (.ifCond .ne 5, 3) := by decide +kernel
theorem dX8_passing_25 : decode cX8_passing 25 = .ok (.iconst (-1), 1) := by decide +kernel
theorem dX8_passing_26 : decode cX8_passing 26 = .ok (.ireturn, 1) := by decide +kernel
theorem dX8_passing_27 : decode cX8_passing 27 = .ok (.iload_n 3, 1) := by decide +kernel
theorem dX8_passing_28 : decode cX8_passing 28 = .ok (.iconst 0, 1) := by decide +kernel
theorem dX8_passing_29 : decode cX8_passing 29 = .ok (.sipush 10000, 3) := by decide +kernel
theorem dX8_passing_32 : decode cX8_passing 32 = .ok (.invokestatic 95, 3) := by decide +kernel
theorem dX8_passing_35 : decode cX8_passing 35 = .ok (.ifCond .ne 5, 3) := by decide +kernel
theorem dX8_passing_38 : decode cX8_passing 38 = .ok (.iconst (-1), 1) := by decide +kernel
theorem dX8_passing_39 : decode cX8_passing 39 = .ok (.ireturn, 1) := by decide +kernel
theorem dX8_passing_40 : decode cX8_passing 40 = .ok (.aload 4, 2) := by decide +kernel
theorem dX8_passing_42 : decode cX8_passing 42 = .ok (.invokevirtual 140, 3) := by decide +kernel
theorem dX8_passing_45 : decode cX8_passing 45 = .ok (.ifCond .eq 6, 3) := by decide +kernel
theorem dX8_passing_48 : decode cX8_passing 48 = .ok (.bipush (-3), 2) := by decide +kernel
theorem dX8_passing_50 : decode cX8_passing 50 = .ok (.ireturn, 1) := by decide +kernel
theorem dX8_passing_51 : decode cX8_passing 51 = .ok (.aload 4, 2) := by decide +kernel
theorem dX8_passing_53 : decode cX8_passing 53 = .ok (.iload_n 2, 1) := by decide +kernel
theorem dX8_passing_54 : decode cX8_passing 54 = .ok (.iload_n 3, 1) := by decide +kernel
theorem dX8_passing_55 : decode cX8_passing 55 = .ok (.invokevirtual 146, 3) := by decide +kernel
theorem dX8_passing_58 : decode cX8_passing 58 = .ok (.ifCond .eq 11, 3) := by decide +kernel
theorem dX8_passing_61 : decode cX8_passing 61 = .ok (.aload 4, 2) := by decide +kernel
theorem dX8_passing_63 : decode cX8_passing 63 = .ok (.getfield 150, 3) := by decide +kernel
theorem dX8_passing_66 : decode cX8_passing 66 = .ok (.goto 5, 3) := by decide +kernel
theorem dX8_passing_69 : decode cX8_passing 69 = .ok (.bipush (-2), 2) := by decide +kernel
theorem dX8_passing_71 : decode cX8_passing 71 = .ok (.ireturn, 1) := by decide +kernel
theorem dX8_table_0 : decode cX8_table 0 = .ok (.aload_n 0, 1) := by decide +kernel
theorem dX8_table_1 : decode cX8_table 1 = .ok (.iload_n 1, 1) := by decide +kernel
theorem dX8_table_2 : decode cX8_table 2 = .ok (.invokevirtual 91, 3) := by decide +kernel
theorem dX8_table_5 : decode cX8_table 5 = .ok (.astore 6, 2) := by decide +kernel
theorem dX8_table_7 : decode cX8_table 7 = .ok (.aload 6, 2) := by decide +kernel
theorem dX8_table_9 : decode cX8_table 9 = .ok (.ifnull 12, 3) := by decide +kernel
theorem dX8_table_12 : decode cX8_table 12 = .ok (.iload 5, 2) := by decide +kernel
theorem dX8_table_14 : decode cX8_table 14 = .ok (.aload_n 0, 1) := by decide +kernel
theorem dX8_table_15 : decode cX8_table 15 = .ok (.getfield 49, 3) := by decide +kernel
theorem dX8_table_18 : decode cX8_table 18 = .ok (.if_icmp .ge 5, 3) := by decide +kernel
theorem dX8_table_21 : decode cX8_table 21 = .ok (.iconst (-1), 1) := by decide +kernel
theorem dX8_table_22 : decode cX8_table 22 = .ok (.ireturn, 1) := by decide +kernel
theorem dX8_table_23 : decode cX8_table 23 = .ok (.iload_n 2, 1) := by decide +kernel
theorem dX8_table_24 : decode cX8_table 24 = .ok (.iconst 1, 1) := by decide +kernel
theorem dX8_table_25 : decode cX8_table 25 = .ok (.bipush 60, 2) := by decide +kernel
theorem dX8_table_27 : decode cX8_table 27 = .ok (.invokestatic 95, 3) := by decide +kernel
theorem dX8_table_30 : decode cX8_table 30 = .ok (.ifCond .ne 5, 3) := by decide +kernel
theorem dX8_table_33 : decode cX8_table 33 = .ok (.iconst (-1), 1) := by decide +kernel
theorem dX8_table_34 : decode cX8_table 34 = .ok (.ireturn, 1) := by decide +kernel
theorem dX8_table_35 : decode cX8_table 35 = .ok (.iload_n 3, 1) := by decide +kernel
theorem dX8_table_36 : decode cX8_table 36 = .ok (.iload_n 2, 1) := by decide +kernel
theorem dX8_table_37 : decode cX8_table 37 = .ok (.bipush 120, 2) := by decide +kernel
theorem dX8_table_39 : decode cX8_table 39 = .ok (.invokestatic 95, 3) := by decide +kernel
theorem dX8_table_42 : decode cX8_table 42 = .ok (.ifCond .ne 5, 3) := by decide +kernel
theorem dX8_table_45 : decode cX8_table 45 = .ok (.iconst (-1), 1) := by decide +kernel
theorem dX8_table_46 : decode cX8_table 46 = .ok (.ireturn, 1) := by decide +kernel
theorem dX8_table_47 : decode cX8_table 47 = .ok (.iload 4, 2) := by decide +kernel
theorem dX8_table_49 : decode cX8_table 49 = .ok (.iconst 0, 1) := by decide +kernel
theorem dX8_table_50 : decode cX8_table 50 = .ok (.bipush 9, 2) := by decide +kernel
theorem dX8_table_52 : decode cX8_table 52 = .ok (.invokestatic 95, 3) := by decide +kernel
theorem dX8_table_55 : decode cX8_table 55 = .ok (.ifCond .ne 5, 3) := by decide +kernel
theorem dX8_table_58 : decode cX8_table 58 = .ok (.iconst (-1), 1) := by decide +kernel
theorem dX8_table_59 : decode cX8_table 59 = .ok (.ireturn, 1) := by decide +kernel
theorem dX8_table_60 : decode cX8_table 60 = .ok (.aload_n 0, 1) := by decide +kernel
theorem dX8_table_61 : decode cX8_table 61 = .ok (.getfield 22, 3) := by decide +kernel
theorem dX8_table_64 : decode cX8_table 64 = .ok (.invokevirtual 75, 3) := by decide +kernel
theorem dX8_table_67 : decode cX8_table 67 = .ok (.bipush 16, 2) := by decide +kernel
theorem dX8_table_69 : decode cX8_table 69 = .ok (.if_icmp .lt 6, 3) := by decide +kernel
theorem dX8_table_72 : decode cX8_table 72 = .ok (.bipush (-2), 2) := by decide +kernel
theorem dX8_table_74 : decode cX8_table 74 = .ok (.ireturn, 1) := by decide +kernel
theorem dX8_table_75 : decode cX8_table 75 = .ok (.aload_n 0, 1) := by decide +kernel
theorem dX8_table_76 : decode cX8_table 76 = .ok (.getfield 22, 3) := by decide +kernel
theorem dX8_table_79 : decode cX8_table 79 = .ok (.new 152, 3) := by decide +kernel
theorem dX8_table_82 : decode cX8_table 82 = .ok (.dup, 1) := by decide +kernel
theorem dX8_table_83 : decode cX8_table 83 = .ok (.aload 6, 2) := by decide +kernel
theorem dX8_table_85 : decode cX8_table 85 = .ok (.iload_n 2, 1) := by decide +kernel
theorem dX8_table_86 : decode cX8_table 86 = .ok (.iload_n 3, 1) := by decide +kernel
theorem dX8_table_87 : decode cX8_table 87 = .ok (.iload 4, 2) := by decide +kernel
theorem dX8_table_89 : decode cX8_table 89 = .ok (.iload 5, 2) := by decide +kernel
theorem dX8_table_91 : decode cX8_table 91 = .ok (.invokespecial 154, 3) := by decide +kernel
theorem dX8_table_94 : decode cX8_table 94 = .ok (.invokevirtual 84, 3) := by decide +kernel
theorem dX8_table_97 : decode cX8_table 97 = .ok (.pop, 1) := by decide +kernel
theorem dX8_table_98 : decode cX8_table 98 = .ok (.aload_n 0, 1) := by decide +kernel
theorem dX8_table_99 : decode cX8_table 99 = .ok (.getfield 22, 3) := by decide +kernel
theorem dX8_table_102 : decode cX8_table 102 = .ok (.invokevirtual 75, 3) := by decide +kernel
theorem dX8_table_105 : decode cX8_table 105 = .ok (.ireturn, 1) := by decide +kernel
theorem dX8_lamp_0 : decode cX8_lamp 0 = .ok (.aload_n 0, 1) := by decide +kernel
theorem dX8_lamp_1 : decode cX8_lamp 1 = .ok (.iload_n 1, 1) := by decide +kernel
theorem dX8_lamp_2 : decode cX8_lamp 2 = .ok (.invokevirtual 91, 3) := by decide +kernel
theorem dX8_lamp_5 : decode cX8_lamp 5 = .ok (.astore_n 3, 1) := by decide +kernel
theorem dX8_lamp_6 : decode cX8_lamp 6 = .ok (.aload_n 3, 1) := by decide +kernel
theorem dX8_lamp_7 : decode cX8_lamp 7 = .ok (.ifnonnull 5, 3) := by decide +kernel
theorem dX8_lamp_10 : decode cX8_lamp 10 = .ok (.iconst (-1), 1) := by decide +kernel
theorem dX8_lamp_11 : decode cX8_lamp 11 = .ok (.ireturn, 1) := by decide +kernel
theorem dX8_lamp_12 : decode cX8_lamp 12 = .ok (.aload_n 3, 1) := by decide +kernel
theorem dX8_lamp_13 : decode cX8_lamp 13 = .ok (.getfield 157, 3) := by decide +kernel
theorem dX8_lamp_16 : decode cX8_lamp 16 = .ok (.ifCond .eq 7, 3) := by decide +kernel
theorem dX8_lamp_19 : decode cX8_lamp 19 = .ok (.iconst 1, 1) := by decide +kernel
theorem dX8_lamp_20 : decode cX8_lamp 20 = .ok (.goto 4, 3) := by decide +kernel
theorem dX8_lamp_23 : decode cX8_lamp 23 = .ok (.iconst 0, 1) := by decide +kernel
theorem dX8_lamp_24 : decode cX8_lamp 24 = .ok (.istore 4, 2) := by decide +kernel
theorem dX8_lamp_26 : decode cX8_lamp 26 = .ok (.aload_n 3, 1) := by decide +kernel
theorem dX8_lamp_27 : decode cX8_lamp 27 = .ok (.iload_n 2, 1) := by decide +kernel
theorem dX8_lamp_28 : decode cX8_lamp 28 = .ok (.putfield 157, 3) := by decide +kernel
theorem dX8_lamp_31 : decode cX8_lamp 31 = .ok (.iload 4, 2) := by decide +kernel
theorem dX8_lamp_33 : decode cX8_lamp 33 = .ok (.ireturn, 1) := by decide +kernel
theorem dX8_pair_0 : decode cX8_pair 0 = .ok (.aload_n 0, 1) := by decide +kernel
theorem dX8_pair_1 : decode cX8_pair 1 = .ok (.iload_n 1, 1) := by decide +kernel
theorem dX8_pair_2 : decode cX8_pair 2 = .ok (.invokevirtual 136, 3) := by decide +kernel
theorem dX8_pair_5 : decode cX8_pair 5 = .ok (.astore 4, 2) := by decide +kernel
theorem dX8_pair_7 : decode cX8_pair 7 = .ok (.aload_n 0, 1) := by decide +kernel
theorem dX8_pair_8 : decode cX8_pair 8 = .ok (.iload_n 2, 1) := by decide +kernel
theorem dX8_pair_9 : decode cX8_pair 9 = .ok (.invokevirtual 136, 3) := by decide +kernel
theorem dX8_pair_12 : decode cX8_pair 12 = .ok (.astore 5, 2) := by decide +kernel
theorem dX8_pair_14 : decode cX8_pair 14 = .ok (.aload 4, 2) := by decide +kernel
theorem dX8_pair_16 : decode cX8_pair 16 = .ok (.ifnull 15, 3) := by decide +kernel
theorem dX8_pair_19 : decode cX8_pair 19 = .ok (.aload 5, 2) := by decide +kernel
theorem dX8_pair_21 : decode cX8_pair 21 = .ok (.ifnull 10, 3) := by decide +kernel
theorem dX8_pair_24 : decode cX8_pair 24 = .ok (.aload 4, 2) := by decide +kernel
theorem dX8_pair_26 : decode cX8_pair 26 = .ok (.aload 5, 2) := by decide +kernel
theorem dX8_pair_28 : decode cX8_pair 28 = .ok (.if_acmp .ne 5, 3) := by decide +kernel
theorem dX8_pair_31 : decode cX8_pair 31 = .ok (.iconst (-1), 1) := by decide +kernel
theorem dX8_pair_32 : decode cX8_pair 32 = .ok (.ireturn, 1) := by decide +kernel
theorem dX8_pair_33 : decode cX8_pair 33 = .ok (.iload_n 3, 1) := by decide +kernel
theorem dX8_pair_34 : decode cX8_pair 34 = .ok (.iconst 1, 1) := by decide +kernel
theorem dX8_pair_35 : decode cX8_pair 35 = .ok (.bipush 60, 2) := by decide +kernel
theorem dX8_pair_37 : decode cX8_pair 37 = .ok (.invokestatic 95, 3) := by decide +kernel
theorem dX8_pair_40 : decode cX8_pair 40 = .ok (.ifCond .ne 5, 3) := by decide +kernel
theorem dX8_pair_43 : decode cX8_pair 43 = .ok (.iconst (-1), 1) := by decide +kernel
theorem dX8_pair_44 : decode cX8_pair 44 = .ok (.ireturn, 1) := by decide +kernel
theorem dX8_pair_45 : decode cX8_pair 45 = .ok (.aload_n 0, 1) := by decide +kernel
theorem dX8_pair_46 : decode cX8_pair 46 = .ok (.getfield 25, 3) := by decide +kernel
theorem dX8_pair_49 : decode cX8_pair 49 = .ok (.invokevirtual 75, 3) := by decide +kernel
theorem dX8_pair_52 : decode cX8_pair 52 = .ok (.bipush 6, 2) := by decide +kernel
theorem dX8_pair_54 : decode cX8_pair 54 = .ok (.if_icmp .lt 6, 3) := by decide +kernel
theorem dX8_pair_57 : decode cX8_pair 57 = .ok (.bipush (-2), 2) := by decide +kernel
theorem dX8_pair_59 : decode cX8_pair 59 = .ok (.ireturn, 1) := by decide +kernel
theorem dX8_pair_60 : decode cX8_pair 60 = .ok (.aload_n 0, 1) := by decide +kernel
theorem dX8_pair_61 : decode cX8_pair 61 = .ok (.getfield 25, 3) := by decide +kernel
theorem dX8_pair_64 : decode cX8_pair 64 = .ok (.new 161, 3) := by decide +kernel
theorem dX8_pair_67 : decode cX8_pair 67 = .ok (.dup, 1) := by decide +kernel
theorem dX8_pair_68 : decode cX8_pair 68 = .ok (.aload 4, 2) := by decide +kernel
theorem dX8_pair_70 : decode cX8_pair 70 = .ok (.aload 5, 2) := by decide +kernel
theorem dX8_pair_72 : decode cX8_pair 72 = .ok (.iload_n 3, 1) := by decide +kernel
theorem dX8_pair_73 : decode cX8_pair 73 = .ok (.invokespecial 163, 3) := by decide +kernel
theorem dX8_pair_76 : decode cX8_pair 76 = .ok (.invokevirtual 84, 3) := by decide +kernel
theorem dX8_pair_79 : decode cX8_pair 79 = .ok (.pop, 1) := by decide +kernel
theorem dX8_pair_80 : decode cX8_pair 80 = .ok (.aload_n 0, 1) := by decide +kernel
theorem dX8_pair_81 : decode cX8_pair 81 = .ok (.getfield 25, 3) := by decide +kernel
theorem dX8_pair_84 : decode cX8_pair 84 = .ok (.invokevirtual 75, 3) := by decide +kernel
theorem dX8_pair_87 : decode cX8_pair 87 = .ok (.iconst 1, 1) := by decide +kernel
theorem dX8_pair_88 : decode cX8_pair 88 = .ok (.isub, 1) := by decide +kernel
theorem dX8_pair_89 : decode cX8_pair 89 = .ok (.ireturn, 1) := by decide +kernel
theorem dX8_ask_0 : decode cX8_ask 0 = .ok (.aload_n 0, 1) := by decide +kernel
theorem dX8_ask_1 : decode cX8_ask 1 = .ok (.iload_n 1, 1) := by decide +kernel
theorem dX8_ask_2 : decode cX8_ask 2 = .ok (.invokevirtual 91, 3) := by decide +kernel
theorem dX8_ask_5 : decode cX8_ask 5 = .ok (.astore_n 2, 1) := by decide +kernel
theorem dX8_ask_6 : decode cX8_ask 6 = .ok (.aload_n 2, 1) := by decide +kernel
theorem dX8_ask_7 : decode cX8_ask 7 = .ok (.ifnonnull 5, 3) := by decide +kernel
theorem dX8_ask_10 : decode cX8_ask 10 = .ok (.iconst (-1), 1) := by decide +kernel
theorem dX8_ask_11 : decode cX8_ask 11 = .ok (.ireturn, 1) := by decide +kernel
theorem dX8_ask_12 : decode cX8_ask 12 = .ok (.aload_n 2, 1) := by decide +kernel
theorem dX8_ask_13 : decode cX8_ask 13 = .ok (.invokevirtual 166, 3) := by decide +kernel
theorem dX8_ask_16 : decode cX8_ask 16 = .ok (.ifCond .ne 11, 3) := by decide +kernel
theorem dX8_ask_19 : decode cX8_ask 19 = .ok (.aload_n 2, 1) := by decide +kernel
theorem dX8_ask_20 : decode cX8_ask 20 = .ok (.getfield 169, 3) := by decide +kernel
theorem dX8_ask_23 : decode cX8_ask 23 = .ok (.iconst 1, 1) := by decide +kernel
theorem dX8_ask_24 : decode cX8_ask 24 = .ok (.if_icmp .ne 5, 3) := by decide +kernel
theorem dX8_ask_27 : decode cX8_ask 27 = .ok (.iconst 0, 1) := by decide +kernel
theorem dX8_ask_28 : decode cX8_ask 28 = .ok (.ireturn, 1) := by decide +kernel
theorem dX8_ask_29 : decode cX8_ask 29 = .ok (.aload_n 2, 1) := by decide +kernel
theorem dX8_ask_30 : decode cX8_ask 30 = .ok (.aload_n 0, 1) := by decide +kernel
theorem dX8_ask_31 : decode cX8_ask 31 = .ok (.getfield 49, 3) := by decide +kernel
theorem dX8_ask_34 : decode cX8_ask 34 = .ok (.putfield 172, 3) := by decide +kernel
theorem dX8_ask_37 : decode cX8_ask 37 = .ok (.iconst 1, 1) := by decide +kernel
theorem dX8_ask_38 : decode cX8_ask 38 = .ok (.ireturn, 1) := by decide +kernel
theorem dX8_hurry_0 : decode cX8_hurry 0 = .ok (.aload_n 0, 1) := by decide +kernel
theorem dX8_hurry_1 : decode cX8_hurry 1 = .ok (.iload_n 1, 1) := by decide +kernel
theorem dX8_hurry_2 : decode cX8_hurry 2 = .ok (.invokevirtual 175, 3) := by decide +kernel
theorem dX8_hurry_5 : decode cX8_hurry 5 = .ok (.astore_n 2, 1) := by decide +kernel
theorem dX8_hurry_6 : decode cX8_hurry 6 = .ok (.aload_n 2, 1) := by decide +kernel
theorem dX8_hurry_7 : decode cX8_hurry 7 = .ok (.ifnonnull 5, 3) := by decide +kernel
theorem dX8_hurry_10 : decode cX8_hurry 10 = .ok (.iconst (-1), 1) := by decide +kernel
theorem dX8_hurry_11 : decode cX8_hurry 11 = .ok (.ireturn, 1) := by decide +kernel
theorem dX8_hurry_12 : decode cX8_hurry 12 = .ok (.aload_n 0, 1) := by decide +kernel
theorem dX8_hurry_13 : decode cX8_hurry 13 = .ok (.getfield 38, 3) := by decide +kernel
theorem dX8_hurry_16 : decode cX8_hurry 16 = .ok (.getfield 179, 3) := by decide +kernel
theorem dX8_hurry_19 : decode cX8_hurry 19 = .ok (.ifCond .eq 6, 3) := by decide +kernel
theorem dX8_hurry_22 : decode cX8_hurry 22 = .ok (.bipush (-3), 2) := by decide +kernel
theorem dX8_hurry_24 : decode cX8_hurry 24 = .ok (.ireturn, 1) := by decide +kernel
theorem dX8_hurry_25 : decode cX8_hurry 25 = .ok (.aload_n 2, 1) := by decide +kernel
theorem dX8_hurry_26 : decode cX8_hurry 26 = .ok (.aload_n 0, 1) := by decide +kernel
theorem dX8_hurry_27 : decode cX8_hurry 27 = .ok (.getfield 56, 3) := by decide +kernel
theorem dX8_hurry_30 : decode cX8_hurry 30 = .ok (.if_acmp .ne 5, 3) := by decide +kernel
theorem dX8_hurry_33 : decode cX8_hurry 33 = .ok (.iconst 0, 1) := by decide +kernel
theorem dX8_hurry_34 : decode cX8_hurry 34 = .ok (.ireturn, 1) := by decide +kernel
theorem dX8_hurry_35 : decode cX8_hurry 35 = .ok (.aload_n 0, 1) := by decide +kernel
theorem dX8_hurry_36 : decode cX8_hurry 36 = .ok (.aload_n 2, 1) := by decide +kernel
theorem dX8_hurry_37 : decode cX8_hurry 37 = .ok (.putfield 69, 3) := by decide +kernel
theorem dX8_hurry_40 : decode cX8_hurry 40 = .ok (.iconst 1, 1) := by decide +kernel
theorem dX8_hurry_41 : decode cX8_hurry 41 = .ok (.ireturn, 1) := by decide +kernel
theorem dX8_second_0 : decode cX8_second 0 = .ok (.iload_n 1, 1) := by decide +kernel
theorem dX8_second_1 : decode cX8_second 1 = .ok (.iconst 0, 1) := by decide +kernel
theorem dX8_second_2 : decode cX8_second 2 = .ok (.iconst 4, 1) := by decide +kernel
theorem dX8_second_3 : decode cX8_second 3 = .ok (.invokestatic 95, 3) := by decide +kernel
theorem dX8_second_6 : decode cX8_second 6 = .ok (.ifCond .ne 5, 3) := by decide +kernel
theorem dX8_second_9 : decode cX8_second 9 = .ok (.iconst (-1), 1) := by decide +kernel
theorem dX8_second_10 : decode cX8_second 10 = .ok (.ireturn, 1) := by decide +kernel
theorem dX8_second_11 : decode cX8_second 11 = .ok (.aload_n 0, 1) := by decide +kernel
theorem dX8_second_12 : decode cX8_second 12 = .ok (.getfield 38, 3) := by decide +kernel
theorem dX8_second_15 : decode cX8_second 15 = .ok (.getfield 182, 3) := by decide +kernel
theorem dX8_second_18 : decode cX8_second 18 = .ok (.istore_n 2, 1) := by decide +kernel
theorem dX8_second_19 : decode cX8_second 19 = .ok (.iconst 0, 1) := by decide +kernel
theorem dX8_second_20 : decode cX8_second 20 = .ok (.istore_n 3, 1) := by decide +kernel
theorem dX8_second_21 : decode cX8_second 21 = .ok (.iload_n 3, 1) := by decide +kernel
theorem dX8_second_22 : decode cX8_second 22 = .ok (.iload_n 1, 1) := by decide +kernel
theorem dX8_second_23 : decode cX8_second 23 = .ok (.if_icmp .ge 75, 3) := by decide +kernel
theorem dX8_second_26 : decode cX8_second 26 = .ok (.aload_n 0, 1) := by decide +kernel
theorem dX8_second_27 : decode cX8_second 27 = .ok (.getfield 38, 3) := by decide +kernel
theorem dX8_second_30 : decode cX8_second 30 = .ok (.getfield 182, 3) := by decide +kernel
theorem dX8_second_33 : decode cX8_second 33 = .ok (.iload_n 2, 1) := by decide +kernel
theorem dX8_second_34 : decode cX8_second 34 = .ok (.if_icmp .ne 64, 3) := by decide +kernel
theorem dX8_second_37 : decode cX8_second 37 = .ok (.aload_n 0, 1) := by decide +kernel
theorem dX8_second_38 : decode cX8_second 38 = .ok (.aload_n 0, 1) := by decide +kernel
theorem dX8_second_39 : decode cX8_second 39 = .ok (.getfield 49, 3) := by decide +kernel
theorem dX8_second_42 : decode cX8_second 42 = .ok (.invokevirtual 185, 3) := by decide +kernel
theorem dX8_second_45 : decode cX8_second 45 = .ok (.aload_n 0, 1) := by decide +kernel
theorem dX8_second_46 : decode cX8_second 46 = .ok (.getfield 38, 3) := by decide +kernel
theorem dX8_second_49 : decode cX8_second 49 = .ok (.getfield 179, 3) := by decide +kernel
theorem dX8_second_52 : decode cX8_second 52 = .ok (.ifCond .ne 14, 3) := by decide +kernel
theorem dX8_second_55 : decode cX8_second 55 = .ok (.aload_n 0, 1) := by decide +kernel
theorem dX8_second_56 : decode cX8_second 56 = .ok (.aload_n 0, 1) := by decide +kernel
theorem dX8_second_57 : decode cX8_second 57 = .ok (.getfield 49, 3) := by decide +kernel
theorem dX8_second_60 : decode cX8_second 60 = .ok (.invokevirtual 188, 3) := by decide +kernel
theorem dX8_second_63 : decode cX8_second 63 = .ok (.goto 11, 3) := by decide +kernel
theorem dX8_second_66 : decode cX8_second 66 = .ok (.aload_n 0, 1) := by decide +kernel
theorem dX8_second_67 : decode cX8_second 67 = .ok (.aload_n 0, 1) := by decide +kernel
theorem dX8_second_68 : decode cX8_second 68 = .ok (.getfield 49, 3) := by decide +kernel
theorem dX8_second_71 : decode cX8_second 71 = .ok (.invokevirtual 191, 3) := by decide +kernel
theorem dX8_second_74 : decode cX8_second 74 = .ok (.aload_n 0, 1) := by decide +kernel
theorem dX8_second_75 : decode cX8_second 75 = .ok (.aload_n 0, 1) := by decide +kernel
theorem dX8_second_76 : decode cX8_second 76 = .ok (.getfield 49, 3) := by decide +kernel
theorem dX8_second_79 : decode cX8_second 79 = .ok (.invokevirtual 194, 3) := by decide +kernel
theorem dX8_second_82 : decode cX8_second 82 = .ok (.aload_n 0, 1) := by decide +kernel
theorem dX8_second_83 : decode cX8_second 83 = .ok (.dup, 1) := by decide +kernel
theorem dX8_second_84 : decode cX8_second 84 = .ok (.getfield 49, 3) := by decide +kernel
theorem dX8_second_87 : decode cX8_second 87 = .ok (.iconst 1, 1) := by decide +kernel
theorem dX8_second_88 : decode cX8_second 88 = .ok (.iadd, 1) := by decide +kernel
theorem dX8_second_89 : decode cX8_second 89 = .ok (.putfield 49, 3) := by decide +kernel
theorem dX8_second_92 : decode cX8_second 92 = .ok (.iinc 3 1, 3) := by decide +kernel
theorem dX8_second_95 : decode cX8_second 95 = .ok (.goto (-74), 3) := by decide +kernel
theorem dX8_second_98 : decode cX8_second 98 = .ok (.iload_n 3, 1) := by decide +kernel
theorem dX8_second_99 : decode cX8_second 99 = .ok (.ireturn, 1) := by decide +kernel
theorem dX8_alarm_0 : decode cX8_alarm 0 = .ok (.aload_n 0, 1) := by decide +kernel
theorem dX8_alarm_1 : decode cX8_alarm 1 = .ok (.getfield 38, 3) := by decide +kernel
theorem dX8_alarm_4 : decode cX8_alarm 4 = .ok (.getfield 179, 3) := by decide +kernel
theorem dX8_alarm_7 : decode cX8_alarm 7 = .ok (.ifCond .eq 6, 3) := by decide +kernel
theorem dX8_alarm_10 : decode cX8_alarm 10 = .ok (.bipush (-3), 2) := by decide +kernel
theorem dX8_alarm_12 : decode cX8_alarm 12 = .ok (.ireturn, 1) := by decide +kernel
theorem dX8_alarm_13 : decode cX8_alarm 13 = .ok (.aload_n 0, 1) := by decide +kernel
theorem dX8_alarm_14 : decode cX8_alarm 14 = .ok (.getfield 38, 3) := by decide +kernel
theorem dX8_alarm_17 : decode cX8_alarm 17 = .ok (.iconst 1, 1) := by decide +kernel
theorem dX8_alarm_18 : decode cX8_alarm 18 = .ok (.putfield 197, 3) := by decide +kernel
theorem dX8_alarm_21 : decode cX8_alarm 21 = .ok (.iconst 1, 1) := by decide +kernel
theorem dX8_alarm_22 : decode cX8_alarm 22 = .ok (.ireturn, 1) := by decide +kernel
theorem dX8_restore_0 : decode cX8_restore 0 = .ok (.aload_n 0, 1) := by decide +kernel
theorem dX8_restore_1 : decode cX8_restore 1 = .ok (.getfield 38, 3) := by decide +kernel
theorem dX8_restore_4 : decode cX8_restore 4 = .ok (.getfield 179, 3) := by decide +kernel
theorem dX8_restore_7 : decode cX8_restore 7 = .ok (.ifCond .ne 6, 3) := by decide +kernel
theorem dX8_restore_10 : decode cX8_restore 10 = .ok (.bipush (-3), 2) := by decide +kernel
theorem dX8_restore_12 : decode cX8_restore 12 = .ok (.ireturn, 1) := by decide +kernel
theorem dX8_restore_13 : decode cX8_restore 13 = .ok (.aload_n 0, 1) := by decide +kernel
theorem dX8_restore_14 : decode cX8_restore 14 = .ok (.getfield 38, 3) := by decide +kernel
theorem dX8_restore_17 : decode cX8_restore 17 = .ok (.iconst 0, 1) := by decide +kernel
theorem dX8_restore_18 : decode cX8_restore 18 = .ok (.putfield 179, 3) := by decide +kernel
theorem dX8_restore_21 : decode cX8_restore 21 = .ok (.aload_n 0, 1) := by decide +kernel
theorem dX8_restore_22 : decode cX8_restore 22 = .ok (.iconst 0, 1) := by decide +kernel
theorem dX8_restore_23 : decode cX8_restore 23 = .ok (.invokevirtual 200, 3) := by decide +kernel
theorem dX8_restore_26 : decode cX8_restore 26 = .ok (.iconst 1, 1) := by decide +kernel
theorem dX8_restore_27 : decode cX8_restore 27 = .ok (.ireturn, 1) := by decide +kernel
theorem dX8_light_0 : decode cX8_light 0 = .ok (.aload_n 0, 1) := by decide +kernel
theorem dX8_light_1 : decode cX8_light 1 = .ok (.iload_n 1, 1) := by decide +kernel
theorem dX8_light_2 : decode cX8_light 2 = .ok (.invokevirtual 91, 3) := by decide +kernel
theorem dX8_light_5 : decode cX8_light 5 = .ok (.astore_n 2, 1) := by decide +kernel
theorem dX8_light_6 : decode cX8_light 6 = .ok (.aload_n 2, 1) := by decide +kernel
theorem dX8_light_7 : decode cX8_light 7 = .ok (.ifnonnull 7, 3) := by decide +kernel
theorem dX8_light_10 : decode cX8_light 10 = .ok (.iconst (-1), 1) := by decide +kernel
theorem dX8_light_11 : decode cX8_light 11 = .ok (.goto 7, 3) := by decide +kernel
theorem dX8_light_14 : decode cX8_light 14 = .ok (.aload_n 2, 1) := by decide +kernel
theorem dX8_light_15 : decode cX8_light 15 = .ok (.getfield 169, 3) := by decide +kernel
theorem dX8_light_18 : decode cX8_light 18 = .ok (.ireturn, 1) := by decide +kernel
theorem dX8_was_0 : decode cX8_was 0 = .ok (.aload_n 0, 1) := by decide +kernel
theorem dX8_was_1 : decode cX8_was 1 = .ok (.iload_n 1, 1) := by decide +kernel
theorem dX8_was_2 : decode cX8_was 2 = .ok (.invokevirtual 91, 3) := by decide +kernel
theorem dX8_was_5 : decode cX8_was 5 = .ok (.astore_n 3, 1) := by decide +kernel
theorem dX8_was_6 : decode cX8_was 6 = .ok (.aload_n 3, 1) := by decide +kernel
theorem dX8_was_7 : decode cX8_was 7 = .ok (.ifnull 13, 3) := by decide +kernel
theorem dX8_was_10 : decode cX8_was 10 = .ok (.iload_n 2, 1) := by decide +kernel
theorem dX8_was_11 : decode cX8_was 11 = .ok (.iconst 0, 1) := by decide +kernel
theorem dX8_was_12 : decode cX8_was 12 = .ok (.bipush 60, 2) := by decide +kernel
theorem dX8_was_14 : decode cX8_was 14 = .ok (.invokestatic 95, 3) := by decide +kernel
theorem dX8_was_17 : decode cX8_was 17 = .ok (.ifCond .ne 5, 3) := by decide +kernel
theorem dX8_was_20 : decode cX8_was 20 = .ok (.iconst (-1), 1) := by decide +kernel
theorem dX8_was_21 : decode cX8_was 21 = .ok (.ireturn, 1) := by decide +kernel
theorem dX8_was_22 : decode cX8_was 22 = .ok (.iload_n 2, 1) := by decide +kernel
theorem dX8_was_23 : decode cX8_was 23 = .ok (.aload_n 0, 1) := by decide +kernel
theorem dX8_was_24 : decode cX8_was 24 = .ok (.getfield 49, 3) := by decide +kernel
theorem dX8_was_27 : decode cX8_was 27 = .ok (.if_icmp .ge 18, 3) := by decide +kernel
theorem dX8_was_30 : decode cX8_was 30 = .ok (.aload_n 3, 1) := by decide +kernel
theorem dX8_was_31 : decode cX8_was 31 = .ok (.aload_n 0, 1) := by decide +kernel
theorem dX8_was_32 : decode cX8_was 32 = .ok (.getfield 49, 3) := by decide +kernel
theorem dX8_was_35 : decode cX8_was 35 = .ok (.iconst 1, 1) := by decide +kernel
theorem dX8_was_36 : decode cX8_was 36 = .ok (.isub, 1) := by decide +kernel
theorem dX8_was_37 : decode cX8_was 37 = .ok (.iload_n 2, 1) := by decide +kernel
theorem dX8_was_38 : decode cX8_was 38 = .ok (.isub, 1) := by decide +kernel
theorem dX8_was_39 : decode cX8_was 39 = .ok (.invokevirtual 203, 3) := by decide +kernel
theorem dX8_was_42 : decode cX8_was 42 = .ok (.goto 5, 3) := by decide +kernel
theorem dX8_was_45 : decode cX8_was 45 = .ok (.bipush (-5), 2) := by decide +kernel
theorem dX8_was_47 : decode cX8_was 47 = .ok (.ireturn, 1) := by decide +kernel
theorem dX8_stageOf_0 : decode cX8_stageOf 0 = .ok (.iload_n 1, 1) := by decide +kernel
theorem dX8_stageOf_1 : decode cX8_stageOf 1 = .ok (.tableswitch 77 0 3 #[31, 39, 47, 55], 31) := by decide +kernel
theorem dX8_stageOf_32 : decode cX8_stageOf 32 = .ok (.aload_n 0, 1) := by decide +kernel
theorem dX8_stageOf_33 : decode cX8_stageOf 33 = .ok (.getfield 56, 3) := by decide +kernel
theorem dX8_stageOf_36 : decode cX8_stageOf 36 = .ok (.invokestatic 207, 3) := by decide +kernel
theorem dX8_stageOf_39 : decode cX8_stageOf 39 = .ok (.ireturn, 1) := by decide +kernel
theorem dX8_stageOf_40 : decode cX8_stageOf 40 = .ok (.aload_n 0, 1) := by decide +kernel
theorem dX8_stageOf_41 : decode cX8_stageOf 41 = .ok (.invokevirtual 211, 3) := by decide +kernel
theorem dX8_stageOf_44 : decode cX8_stageOf 44 = .ok (.invokestatic 207, 3) := by decide +kernel
theorem dX8_stageOf_47 : decode cX8_stageOf 47 = .ok (.ireturn, 1) := by decide +kernel
theorem dX8_stageOf_48 : decode cX8_stageOf 48 = .ok (.aload_n 0, 1) := by decide +kernel
theorem dX8_stageOf_49 : decode cX8_stageOf 49 = .ok (.getfield 69, 3) := by decide +kernel
theorem dX8_stageOf_52 : decode cX8_stageOf 52 = .ok (.invokestatic 207, 3) := by decide +kernel
theorem dX8_stageOf_55 : decode cX8_stageOf 55 = .ok (.ireturn, 1) := by decide +kernel
theorem dX8_stageOf_56 : decode cX8_stageOf 56 = .ok (.aload_n 0, 1) := by decide +kernel
theorem dX8_stageOf_57 : decode cX8_stageOf 57 = .ok (.getfield 56, 3) := by decide +kernel
theorem dX8_stageOf_60 : decode cX8_stageOf 60 = .ok (.ifnonnull 8, 3) := by decide +kernel
theorem dX8_stageOf_63 : decode cX8_stageOf 63 = .ok (.bipush (-5), 2) := by decide +kernel
theorem dX8_stageOf_65 : decode cX8_stageOf 65 = .ok (.goto 12, 3) := by decide +kernel
theorem dX8_stageOf_68 : decode cX8_stageOf 68 = .ok (.aload_n 0, 1) := by decide +kernel
theorem dX8_stageOf_69 : decode cX8_stageOf 69 = .ok (.getfield 49, 3) := by decide +kernel
theorem dX8_stageOf_72 : decode cX8_stageOf 72 = .ok (.aload_n 0, 1) := by decide +kernel
theorem dX8_stageOf_73 : decode cX8_stageOf 73 = .ok (.getfield 60, 3) := by decide +kernel
theorem dX8_stageOf_76 : decode cX8_stageOf 76 = .ok (.isub, 1) := by decide +kernel
theorem dX8_stageOf_77 : decode cX8_stageOf 77 = .ok (.ireturn, 1) := by decide +kernel
theorem dX8_stageOf_78 : decode cX8_stageOf 78 = .ok (.iconst (-1), 1) := by decide +kernel
theorem dX8_stageOf_79 : decode cX8_stageOf 79 = .ok (.ireturn, 1) := by decide +kernel
theorem dX8_place_0 : decode cX8_place 0 = .ok (.aload_n 0, 1) := by decide +kernel
theorem dX8_place_1 : decode cX8_place 1 = .ok (.iload_n 1, 1) := by decide +kernel
theorem dX8_place_2 : decode cX8_place 2 = .ok (.invokevirtual 175, 3) := by decide +kernel
theorem dX8_place_5 : decode cX8_place 5 = .ok (.astore_n 3, 1) := by decide +kernel
theorem dX8_place_6 : decode cX8_place 6 = .ok (.aload_n 3, 1) := by decide +kernel
theorem dX8_place_7 : decode cX8_place 7 = .ok (.ifnull 12, 3) := by decide +kernel
theorem dX8_place_10 : decode cX8_place 10 = .ok (.iload_n 2, 1) := by decide +kernel
theorem dX8_place_11 : decode cX8_place 11 = .ok (.iconst 0, 1) := by decide +kernel
theorem dX8_place_12 : decode cX8_place 12 = .ok (.iconst 3, 1) := by decide +kernel
theorem dX8_place_13 : decode cX8_place 13 = .ok (.invokestatic 95, 3) := by decide +kernel
theorem dX8_place_16 : decode cX8_place 16 = .ok (.ifCond .ne 5, 3) := by decide +kernel
theorem dX8_place_19 : decode cX8_place 19 = .ok (.iconst (-1), 1) := by decide +kernel
theorem dX8_place_20 : decode cX8_place 20 = .ok (.ireturn, 1) := by decide +kernel
theorem dX8_place_21 : decode cX8_place 21 = .ok (.aload_n 3, 1) := by decide +kernel
theorem dX8_place_22 : decode cX8_place 22 = .ok (.iload_n 2, 1) := by decide +kernel
theorem dX8_place_23 : decode cX8_place 23 = .ok (.invokevirtual 215, 3) := by decide +kernel
theorem dX8_place_26 : decode cX8_place 26 = .ok (.astore 4, 2) := by decide +kernel
theorem dX8_place_28 : decode cX8_place 28 = .ok (.aload 4, 2) := by decide +kernel
theorem dX8_place_30 : decode cX8_place 30 = .ok (.ifnull 9, 3) := by decide +kernel
theorem dX8_place_33 : decode cX8_place 33 = .ok (.aload 4, 2) := by decide +kernel
theorem dX8_place_35 : decode cX8_place 35 = .ok (.getfield 88, 3) := by decide +kernel
theorem dX8_place_38 : decode cX8_place 38 = .ok (.ireturn, 1) := by decide +kernel
theorem dX8_place_39 : decode cX8_place 39 = .ok (.aload_n 0, 1) := by decide +kernel
theorem dX8_place_40 : decode cX8_place 40 = .ok (.getfield 31, 3) := by decide +kernel
theorem dX8_place_43 : decode cX8_place 43 = .ok (.iconst 4, 1) := by decide +kernel
theorem dX8_place_44 : decode cX8_place 44 = .ok (.bipush (-5), 2) := by decide +kernel
theorem dX8_place_46 : decode cX8_place 46 = .ok (.invokevirtual 218, 3) := by decide +kernel
theorem dX8_place_49 : decode cX8_place 49 = .ok (.bipush (-5), 2) := by decide +kernel
theorem dX8_place_51 : decode cX8_place 51 = .ok (.ireturn, 1) := by decide +kernel
theorem dX8_told_0 : decode cX8_told 0 = .ok (.aload_n 0, 1) := by decide +kernel
theorem dX8_told_1 : decode cX8_told 1 = .ok (.iload_n 1, 1) := by decide +kernel
theorem dX8_told_2 : decode cX8_told 2 = .ok (.invokevirtual 91, 3) := by decide +kernel
theorem dX8_told_5 : decode cX8_told 5 = .ok (.astore_n 3, 1) := by decide +kernel
theorem dX8_told_6 : decode cX8_told 6 = .ok (.aload_n 3, 1) := by decide +kernel
theorem dX8_told_7 : decode cX8_told 7 = .ok (.ifnonnull 5, 3) := by decide +kernel
theorem dX8_told_10 : decode cX8_told 10 = .ok (.iconst (-1), 1) := by decide +kernel
theorem dX8_told_11 : decode cX8_told 11 = .ok (.ireturn, 1) := by decide +kernel
theorem dX8_told_12 : decode cX8_told 12 = .ok (.iload_n 2, 1) := by decide +kernel
theorem dX8_told_13 : decode cX8_told 13 = .ok (.tableswitch 138 0 11 #[63, 68, 88, 93, 98, 103, 108, 113, 118, 123, 128, 133], 63) := by decide +kernel
theorem dX8_told_76 : decode cX8_told 76 = .ok (.aload_n 3, 1) := by decide +kernel
theorem dX8_told_77 : decode cX8_told 77 = .ok (.getfield 220, 3) := by decide +kernel
theorem dX8_told_80 : decode cX8_told 80 = .ok (.ireturn, 1) := by decide +kernel
theorem dX8_told_81 : decode cX8_told 81 = .ok (.aload_n 3, 1) := by decide +kernel
theorem dX8_told_82 : decode cX8_told 82 = .ok (.getfield 131, 3) := by decide +kernel
theorem dX8_told_85 : decode cX8_told 85 = .ok (.ifnonnull 8, 3) := by decide +kernel
theorem dX8_told_88 : decode cX8_told 88 = .ok (.bipush (-5), 2) := by decide +kernel
theorem dX8_told_90 : decode cX8_told 90 = .ok (.goto 10, 3) := by decide +kernel
theorem dX8_told_93 : decode cX8_told 93 = .ok (.aload_n 3, 1) := by decide +kernel
theorem dX8_told_94 : decode cX8_told 94 = .ok (.getfield 131, 3) := by decide +kernel
theorem dX8_told_97 : decode cX8_told 97 = .ok (.getfield 135, 3) := by decide +kernel
theorem dX8_told_100 : decode cX8_told 100 = .ok (.ireturn, 1) := by decide +kernel
theorem dX8_told_101 : decode cX8_told 101 = .ok (.aload_n 3, 1) := by decide +kernel
theorem dX8_told_102 : decode cX8_told 102 = .ok (.getfield 223, 3) := by decide +kernel
theorem dX8_told_105 : decode cX8_told 105 = .ok (.ireturn, 1) := by decide +kernel
theorem dX8_told_106 : decode cX8_told 106 = .ok (.aload_n 3, 1) := by decide +kernel
theorem dX8_told_107 : decode cX8_told 107 = .ok (.getfield 226, 3) := by decide +kernel
theorem dX8_told_110 : decode cX8_told 110 = .ok (.ireturn, 1) := by decide +kernel
theorem dX8_told_111 : decode cX8_told 111 = .ok (.aload_n 3, 1) := by decide +kernel
theorem dX8_told_112 : decode cX8_told 112 = .ok (.getfield 229, 3) := by decide +kernel
theorem dX8_told_115 : decode cX8_told 115 = .ok (.ireturn, 1) := by decide +kernel
theorem dX8_told_116 : decode cX8_told 116 = .ok (.aload_n 3, 1) := by decide +kernel
theorem dX8_told_117 : decode cX8_told 117 = .ok (.getfield 232, 3) := by decide +kernel
theorem dX8_told_120 : decode cX8_told 120 = .ok (.ireturn, 1) := by decide +kernel
theorem dX8_told_121 : decode cX8_told 121 = .ok (.aload_n 3, 1) := by decide +kernel
theorem dX8_told_122 : decode cX8_told 122 = .ok (.getfield 235, 3) := by decide +kernel
theorem dX8_told_125 : decode cX8_told 125 = .ok (.ireturn, 1) := by decide +kernel
theorem dX8_told_126 : decode cX8_told 126 = .ok (.aload_n 3, 1) := by decide +kernel
theorem dX8_told_127 : decode cX8_told 127 = .ok (.getfield 238, 3) := by decide +kernel
theorem dX8_told_130 : decode cX8_told 130 = .ok (.ireturn, 1) := by decide +kernel
theorem dX8_told_131 : decode cX8_told 131 = .ok (.aload_n 3, 1) := by decide +kernel
theorem dX8_told_132 : decode cX8_told 132 = .ok (.getfield 172, 3) := by decide +kernel
theorem dX8_told_135 : decode cX8_told 135 = .ok (.ireturn, 1) := by decide +kernel
theorem dX8_told_136 : decode cX8_told 136 = .ok (.aload_n 3, 1) := by decide +kernel
theorem dX8_told_137 : decode cX8_told 137 = .ok (.getfield 241, 3) := by decide +kernel
theorem dX8_told_140 : decode cX8_told 140 = .ok (.ireturn, 1) := by decide +kernel
theorem dX8_told_141 : decode cX8_told 141 = .ok (.aload_n 3, 1) := by decide +kernel
theorem dX8_told_142 : decode cX8_told 142 = .ok (.getfield 244, 3) := by decide +kernel
theorem dX8_told_145 : decode cX8_told 145 = .ok (.ireturn, 1) := by decide +kernel
theorem dX8_told_146 : decode cX8_told 146 = .ok (.aload_n 3, 1) := by decide +kernel
theorem dX8_told_147 : decode cX8_told 147 = .ok (.getfield 247, 3) := by decide +kernel
theorem dX8_told_150 : decode cX8_told 150 = .ok (.ireturn, 1) := by decide +kernel
theorem dX8_told_151 : decode cX8_told 151 = .ok (.iconst (-1), 1) := by decide +kernel
theorem dX8_told_152 : decode cX8_told 152 = .ok (.ireturn, 1) := by decide +kernel
theorem dX8_length_0 : decode cX8_length 0 = .ok (.aload_n 0, 1) := by decide +kernel
theorem dX8_length_1 : decode cX8_length 1 = .ok (.iload_n 1, 1) := by decide +kernel
theorem dX8_length_2 : decode cX8_length 2 = .ok (.invokevirtual 136, 3) := by decide +kernel
theorem dX8_length_5 : decode cX8_length 5 = .ok (.astore_n 2, 1) := by decide +kernel
theorem dX8_length_6 : decode cX8_length 6 = .ok (.aload_n 2, 1) := by decide +kernel
theorem dX8_length_7 : decode cX8_length 7 = .ok (.ifnonnull 5, 3) := by decide +kernel
theorem dX8_length_10 : decode cX8_length 10 = .ok (.iconst (-1), 1) := by decide +kernel
theorem dX8_length_11 : decode cX8_length 11 = .ok (.ireturn, 1) := by decide +kernel
theorem dX8_length_12 : decode cX8_length 12 = .ok (.aload_n 2, 1) := by decide +kernel
theorem dX8_length_13 : decode cX8_length 13 = .ok (.invokevirtual 140, 3) := by decide +kernel
theorem dX8_length_16 : decode cX8_length 16 = .ok (.ifCond .eq 8, 3) := by decide +kernel
theorem dX8_length_19 : decode cX8_length 19 = .ok (.bipush (-5), 2) := by decide +kernel
theorem dX8_length_21 : decode cX8_length 21 = .ok (.goto 7, 3) := by decide +kernel
theorem dX8_length_24 : decode cX8_length 24 = .ok (.aload_n 2, 1) := by decide +kernel
theorem dX8_length_25 : decode cX8_length 25 = .ok (.getfield 150, 3) := by decide +kernel
theorem dX8_length_28 : decode cX8_length 28 = .ok (.ireturn, 1) := by decide +kernel
theorem dX8_bound_0 : decode cX8_bound 0 = .ok (.iconst 0, 1) := by decide +kernel
theorem dX8_bound_1 : decode cX8_bound 1 = .ok (.istore_n 1, 1) := by decide +kernel
theorem dX8_bound_2 : decode cX8_bound 2 = .ok (.iconst 0, 1) := by decide +kernel
theorem dX8_bound_3 : decode cX8_bound 3 = .ok (.istore_n 2, 1) := by decide +kernel
theorem dX8_bound_4 : decode cX8_bound 4 = .ok (.iload_n 2, 1) := by decide +kernel
theorem dX8_bound_5 : decode cX8_bound 5 = .ok (.aload_n 0, 1) := by decide +kernel
theorem dX8_bound_6 : decode cX8_bound 6 = .ok (.getfield 16, 3) := by decide +kernel
theorem dX8_bound_9 : decode cX8_bound 9 = .ok (.invokevirtual 75, 3) := by decide +kernel
theorem dX8_bound_12 : decode cX8_bound 12 = .ok (.if_icmp .ge 26, 3) := by decide +kernel
theorem dX8_bound_15 : decode cX8_bound 15 = .ok (.iload_n 1, 1) := by decide +kernel
theorem dX8_bound_16 : decode cX8_bound 16 = .ok (.aload_n 0, 1) := by decide +kernel
theorem dX8_bound_17 : decode cX8_bound 17 = .ok (.getfield 16, 3) := by decide +kernel
theorem dX8_bound_20 : decode cX8_bound 20 = .ok (.iload_n 2, 1) := by decide +kernel
theorem dX8_bound_21 : decode cX8_bound 21 = .ok (.invokevirtual 99, 3) := by decide +kernel
theorem dX8_bound_24 : decode cX8_bound 24 = .ok (.checkcast 103, 3) := by decide +kernel
theorem dX8_bound_27 : decode cX8_bound 27 = .ok (.invokevirtual 250, 3) := by decide +kernel
theorem dX8_bound_30 : decode cX8_bound 30 = .ok (.iadd, 1) := by decide +kernel
theorem dX8_bound_31 : decode cX8_bound 31 = .ok (.istore_n 1, 1) := by decide +kernel
theorem dX8_bound_32 : decode cX8_bound 32 = .ok (.iinc 2 1, 3) := by decide +kernel
theorem dX8_bound_35 : decode cX8_bound 35 = .ok (.goto (-31), 3) := by decide +kernel
theorem dX8_bound_38 : decode cX8_bound 38 = .ok (.iconst 0, 1) := by decide +kernel
theorem dX8_bound_39 : decode cX8_bound 39 = .ok (.istore_n 2, 1) := by decide +kernel
theorem dX8_bound_40 : decode cX8_bound 40 = .ok (.iconst 0, 1) := by decide +kernel
theorem dX8_bound_41 : decode cX8_bound 41 = .ok (.istore_n 3, 1) := by decide +kernel
theorem dX8_bound_42 : decode cX8_bound 42 = .ok (.iconst 0, 1) := by decide +kernel
theorem dX8_bound_43 : decode cX8_bound 43 = .ok (.istore 4, 2) := by decide +kernel
theorem dX8_bound_45 : decode cX8_bound 45 = .ok (.iload 4, 2) := by decide +kernel
theorem dX8_bound_47 : decode cX8_bound 47 = .ok (.aload_n 0, 1) := by decide +kernel
theorem dX8_bound_48 : decode cX8_bound 48 = .ok (.getfield 10, 3) := by decide +kernel
theorem dX8_bound_51 : decode cX8_bound 51 = .ok (.invokevirtual 75, 3) := by decide +kernel
theorem dX8_bound_54 : decode cX8_bound 54 = .ok (.if_icmp .ge 49, 3) := by decide +kernel
theorem dX8_bound_57 : decode cX8_bound 57 = .ok (.iload_n 2, 1) := by decide +kernel
theorem dX8_bound_58 : decode cX8_bound 58 = .ok (.aload_n 0, 1) := by decide +kernel
theorem dX8_bound_59 : decode cX8_bound 59 = .ok (.getfield 10, 3) := by decide +kernel
theorem dX8_bound_62 : decode cX8_bound 62 = .ok (.iload 4, 2) := by decide +kernel
theorem dX8_bound_64 : decode cX8_bound 64 = .ok (.invokevirtual 99, 3) := by decide +kernel
theorem dX8_bound_67 : decode cX8_bound 67 = .ok (.checkcast 79, 3) := by decide +kernel
theorem dX8_bound_70 : decode cX8_bound 70 = .ok (.getfield 247, 3) := by decide +kernel
theorem dX8_bound_73 : decode cX8_bound 73 = .ok (.invokestatic 253, 3) := by decide +kernel
theorem dX8_bound_76 : decode cX8_bound 76 = .ok (.istore_n 2, 1) := by decide +kernel
theorem dX8_bound_77 : decode cX8_bound 77 = .ok (.iload_n 3, 1) := by decide +kernel
theorem dX8_bound_78 : decode cX8_bound 78 = .ok (.aload_n 0, 1) := by decide +kernel
theorem dX8_bound_79 : decode cX8_bound 79 = .ok (.getfield 10, 3) := by decide +kernel
theorem dX8_bound_82 : decode cX8_bound 82 = .ok (.iload 4, 2) := by decide +kernel
theorem dX8_bound_84 : decode cX8_bound 84 = .ok (.invokevirtual 99, 3) := by decide +kernel
theorem dX8_bound_87 : decode cX8_bound 87 = .ok (.checkcast 79, 3) := by decide +kernel
theorem dX8_bound_90 : decode cX8_bound 90 = .ok (.invokevirtual 259, 3) := by decide +kernel
theorem dX8_bound_93 : decode cX8_bound 93 = .ok (.invokestatic 253, 3) := by decide +kernel
theorem dX8_bound_96 : decode cX8_bound 96 = .ok (.istore_n 3, 1) := by decide +kernel
theorem dX8_bound_97 : decode cX8_bound 97 = .ok (.iinc 4 1, 3) := by decide +kernel
theorem dX8_bound_100 : decode cX8_bound 100 = .ok (.goto (-55), 3) := by decide +kernel
theorem dX8_bound_103 : decode cX8_bound 103 = .ok (.iload_n 1, 1) := by decide +kernel
theorem dX8_bound_104 : decode cX8_bound 104 = .ok (.aload_n 0, 1) := by decide +kernel
theorem dX8_bound_105 : decode cX8_bound 105 = .ok (.getfield 16, 3) := by decide +kernel
theorem dX8_bound_108 : decode cX8_bound 108 = .ok (.invokevirtual 75, 3) := by decide +kernel
theorem dX8_bound_111 : decode cX8_bound 111 = .ok (.iload_n 2, 1) := by decide +kernel
theorem dX8_bound_112 : decode cX8_bound 112 = .ok (.iload_n 3, 1) := by decide +kernel
theorem dX8_bound_113 : decode cX8_bound 113 = .ok (.iadd, 1) := by decide +kernel
theorem dX8_bound_114 : decode cX8_bound 114 = .ok (.imul, 1) := by decide +kernel
theorem dX8_bound_115 : decode cX8_bound 115 = .ok (.iadd, 1) := by decide +kernel
theorem dX8_bound_116 : decode cX8_bound 116 = .ok (.ireturn, 1) := by decide +kernel
theorem dX8_count_0 : decode cX8_count 0 = .ok (.iload_n 1, 1) := by decide +kernel
theorem dX8_count_1 : decode cX8_count 1 = .ok (.tableswitch 130 0 11 #[63, 68, 68, 68, 68, 77, 85, 93, 101, 109, 117, 125], 63) := by decide +kernel
theorem dX8_count_64 : decode cX8_count 64 = .ok (.aload_n 0, 1) := by decide +kernel
theorem dX8_count_65 : decode cX8_count 65 = .ok (.getfield 49, 3) := by decide +kernel
theorem dX8_count_68 : decode cX8_count 68 = .ok (.ireturn, 1) := by decide +kernel
theorem dX8_count_69 : decode cX8_count 69 = .ok (.aload_n 0, 1) := by decide +kernel
theorem dX8_count_70 : decode cX8_count 70 = .ok (.getfield 31, 3) := by decide +kernel
theorem dX8_count_73 : decode cX8_count 73 = .ok (.iload_n 1, 1) := by decide +kernel
theorem dX8_count_74 : decode cX8_count 74 = .ok (.invokevirtual 262, 3) := by decide +kernel
theorem dX8_count_77 : decode cX8_count 77 = .ok (.ireturn, 1) := by decide +kernel
theorem dX8_count_78 : decode cX8_count 78 = .ok (.aload_n 0, 1) := by decide +kernel
theorem dX8_count_79 : decode cX8_count 79 = .ok (.getfield 38, 3) := by decide +kernel
theorem dX8_count_82 : decode cX8_count 82 = .ok (.getfield 182, 3) := by decide +kernel
theorem dX8_count_85 : decode cX8_count 85 = .ok (.ireturn, 1) := by decide +kernel
theorem dX8_count_86 : decode cX8_count 86 = .ok (.aload_n 0, 1) := by decide +kernel
theorem dX8_count_87 : decode cX8_count 87 = .ok (.getfield 10, 3) := by decide +kernel
theorem dX8_count_90 : decode cX8_count 90 = .ok (.invokevirtual 75, 3) := by decide +kernel
theorem dX8_count_93 : decode cX8_count 93 = .ok (.ireturn, 1) := by decide +kernel
theorem dX8_count_94 : decode cX8_count 94 = .ok (.aload_n 0, 1) := by decide +kernel
theorem dX8_count_95 : decode cX8_count 95 = .ok (.getfield 16, 3) := by decide +kernel
theorem dX8_count_98 : decode cX8_count 98 = .ok (.invokevirtual 75, 3) := by decide +kernel
theorem dX8_count_101 : decode cX8_count 101 = .ok (.ireturn, 1) := by decide +kernel
theorem dX8_count_102 : decode cX8_count 102 = .ok (.aload_n 0, 1) := by decide +kernel
theorem dX8_count_103 : decode cX8_count 103 = .ok (.getfield 19, 3) := by decide +kernel
theorem dX8_count_106 : decode cX8_count 106 = .ok (.invokevirtual 75, 3) := by decide +kernel
theorem dX8_count_109 : decode cX8_count 109 = .ok (.ireturn, 1) := by decide +kernel
theorem dX8_count_110 : decode cX8_count 110 = .ok (.aload_n 0, 1) := by decide +kernel
theorem dX8_count_111 : decode cX8_count 111 = .ok (.getfield 22, 3) := by decide +kernel
theorem dX8_count_114 : decode cX8_count 114 = .ok (.invokevirtual 75, 3) := by decide +kernel
theorem dX8_count_117 : decode cX8_count 117 = .ok (.ireturn, 1) := by decide +kernel
theorem dX8_count_118 : decode cX8_count 118 = .ok (.aload_n 0, 1) := by decide +kernel
theorem dX8_count_119 : decode cX8_count 119 = .ok (.getfield 25, 3) := by decide +kernel
theorem dX8_count_122 : decode cX8_count 122 = .ok (.invokevirtual 75, 3) := by decide +kernel
theorem dX8_count_125 : decode cX8_count 125 = .ok (.ireturn, 1) := by decide +kernel
theorem dX8_count_126 : decode cX8_count 126 = .ok (.aload_n 0, 1) := by decide +kernel
theorem dX8_count_127 : decode cX8_count 127 = .ok (.getfield 53, 3) := by decide +kernel
theorem dX8_count_130 : decode cX8_count 130 = .ok (.ireturn, 1) := by decide +kernel
theorem dX8_count_131 : decode cX8_count 131 = .ok (.iconst (-1), 1) := by decide +kernel
theorem dX8_count_132 : decode cX8_count 132 = .ok (.ireturn, 1) := by decide +kernel
theorem dX8_finding_0 : decode cX8_finding 0 = .ok (.iload_n 1, 1) := by decide +kernel
theorem dX8_finding_1 : decode cX8_finding 1 = .ok (.lookupswitch 43 #[(0, 27), (1, 35)], 27) := by decide +kernel
theorem dX8_finding_28 : decode cX8_finding 28 = .ok (.aload_n 0, 1) := by decide +kernel
theorem dX8_finding_29 : decode cX8_finding 29 = .ok (.getfield 31, 3) := by decide +kernel
theorem dX8_finding_32 : decode cX8_finding 32 = .ok (.getfield 265, 3) := by decide +kernel
theorem dX8_finding_35 : decode cX8_finding 35 = .ok (.ireturn, 1) := by decide +kernel
theorem dX8_finding_36 : decode cX8_finding 36 = .ok (.aload_n 0, 1) := by decide +kernel
theorem dX8_finding_37 : decode cX8_finding 37 = .ok (.getfield 31, 3) := by decide +kernel
theorem dX8_finding_40 : decode cX8_finding 40 = .ok (.getfield 268, 3) := by decide +kernel
theorem dX8_finding_43 : decode cX8_finding 43 = .ok (.ireturn, 1) := by decide +kernel
theorem dX8_finding_44 : decode cX8_finding 44 = .ok (.iconst (-1), 1) := by decide +kernel
theorem dX8_finding_45 : decode cX8_finding 45 = .ok (.ireturn, 1) := by decide +kernel
theorem dX8_fault_0 : decode cX8_fault 0 = .ok (.iload_n 1, 1) := by decide +kernel
theorem dX8_fault_1 : decode cX8_fault 1 = .ok (.tableswitch 63 0 3 #[31, 39, 47, 55], 31) := by decide +kernel
theorem dX8_fault_32 : decode cX8_fault 32 = .ok (.aload_n 0, 1) := by decide +kernel
theorem dX8_fault_33 : decode cX8_fault 33 = .ok (.getfield 38, 3) := by decide +kernel
theorem dX8_fault_36 : decode cX8_fault 36 = .ok (.getfield 271, 3) := by decide +kernel
theorem dX8_fault_39 : decode cX8_fault 39 = .ok (.ireturn, 1) := by decide +kernel
theorem dX8_fault_40 : decode cX8_fault 40 = .ok (.aload_n 0, 1) := by decide +kernel
theorem dX8_fault_41 : decode cX8_fault 41 = .ok (.getfield 38, 3) := by decide +kernel
theorem dX8_fault_44 : decode cX8_fault 44 = .ok (.getfield 272, 3) := by decide +kernel
theorem dX8_fault_47 : decode cX8_fault 47 = .ok (.ireturn, 1) := by decide +kernel
theorem dX8_fault_48 : decode cX8_fault 48 = .ok (.aload_n 0, 1) := by decide +kernel
theorem dX8_fault_49 : decode cX8_fault 49 = .ok (.getfield 38, 3) := by decide +kernel
theorem dX8_fault_52 : decode cX8_fault 52 = .ok (.getfield 182, 3) := by decide +kernel
theorem dX8_fault_55 : decode cX8_fault 55 = .ok (.ireturn, 1) := by decide +kernel
theorem dX8_fault_56 : decode cX8_fault 56 = .ok (.aload_n 0, 1) := by decide +kernel
theorem dX8_fault_57 : decode cX8_fault 57 = .ok (.getfield 38, 3) := by decide +kernel
theorem dX8_fault_60 : decode cX8_fault 60 = .ok (.getfield 179, 3) := by decide +kernel
theorem dX8_fault_63 : decode cX8_fault 63 = .ok (.ireturn, 1) := by decide +kernel
theorem dX8_fault_64 : decode cX8_fault 64 = .ok (.iconst (-1), 1) := by decide +kernel
theorem dX8_fault_65 : decode cX8_fault 65 = .ok (.ireturn, 1) := by decide +kernel
theorem dX8_trace_0 : decode cX8_trace 0 = .ok (.aload_n 0, 1) := by decide +kernel
theorem dX8_trace_1 : decode cX8_trace 1 = .ok (.getfield 45, 3) := by decide +kernel
theorem dX8_trace_4 : decode cX8_trace 4 = .ok (.getfield 275, 3) := by decide +kernel
theorem dX8_trace_7 : decode cX8_trace 7 = .ok (.ireturn, 1) := by decide +kernel
theorem dX8_isWithin_0 : decode cX8_isWithin 0 = .ok (.iload_n 0, 1) := by decide +kernel
theorem dX8_isWithin_1 : decode cX8_isWithin 1 = .ok (.iload_n 1, 1) := by decide +kernel
theorem dX8_isWithin_2 : decode cX8_isWithin 2 = .ok (.if_icmp .lt 12, 3) := by decide +kernel
theorem dX8_isWithin_5 : decode cX8_isWithin 5 = .ok (.iload_n 0, 1) := by decide +kernel
theorem dX8_isWithin_6 : decode cX8_isWithin 6 = .ok (.iload_n 2, 1) := by decide +kernel
theorem dX8_isWithin_7 : decode cX8_isWithin 7 = .ok (.if_icmp .gt 7, 3) := by decide +kernel
theorem dX8_isWithin_10 : decode cX8_isWithin 10 = .ok (.iconst 1, 1) := by decide +kernel
theorem dX8_isWithin_11 : decode cX8_isWithin 11 = .ok (.goto 4, 3) := by decide +kernel
theorem dX8_isWithin_14 : decode cX8_isWithin 14 = .ok (.iconst 0, 1) := by decide +kernel
theorem dX8_isWithin_15 : decode cX8_isWithin 15 = .ok (.ireturn, 1) := by decide +kernel
theorem dX8_phaseAt_0 : decode cX8_phaseAt 0 = .ok (.iload_n 1, 1) := by decide +kernel
theorem dX8_phaseAt_1 : decode cX8_phaseAt 1 = .ok (.ifCond .lt 28, 3) := by decide +kernel
theorem dX8_phaseAt_4 : decode cX8_phaseAt 4 = .ok (.iload_n 1, 1) := by decide +kernel
theorem dX8_phaseAt_5 : decode cX8_phaseAt 5 = .ok (.aload_n 0, 1) := by decide +kernel
theorem dX8_phaseAt_6 : decode cX8_phaseAt 6 = .ok (.getfield 10, 3) := by decide +kernel
theorem dX8_phaseAt_9 : decode cX8_phaseAt 9 = .ok (.invokevirtual 75, 3) := by decide +kernel
theorem dX8_phaseAt_12 : decode cX8_phaseAt 12 = .ok (.if_icmp .ge 17, 3) := by decide +kernel
theorem dX8_phaseAt_15 : decode cX8_phaseAt 15 = .ok (.aload_n 0, 1) := by decide +kernel
theorem dX8_phaseAt_16 : decode cX8_phaseAt 16 = .ok (.getfield 10, 3) := by decide +kernel
theorem dX8_phaseAt_19 : decode cX8_phaseAt 19 = .ok (.iload_n 1, 1) := by decide +kernel
theorem dX8_phaseAt_20 : decode cX8_phaseAt 20 = .ok (.invokevirtual 99, 3) := by decide +kernel
theorem dX8_phaseAt_23 : decode cX8_phaseAt 23 = .ok (.checkcast 79, 3) := by decide +kernel
theorem dX8_phaseAt_26 : decode cX8_phaseAt 26 = .ok (.goto 4, 3) := by decide +kernel
theorem dX8_phaseAt_29 : decode cX8_phaseAt 29 = .ok (.aconst_null, 1) := by decide +kernel
theorem dX8_phaseAt_30 : decode cX8_phaseAt 30 = .ok (.areturn, 1) := by decide +kernel
theorem dX8_stageAt_0 : decode cX8_stageAt 0 = .ok (.iload_n 1, 1) := by decide +kernel
theorem dX8_stageAt_1 : decode cX8_stageAt 1 = .ok (.ifCond .lt 28, 3) := by decide +kernel
theorem dX8_stageAt_4 : decode cX8_stageAt 4 = .ok (.iload_n 1, 1) := by decide +kernel
theorem dX8_stageAt_5 : decode cX8_stageAt 5 = .ok (.aload_n 0, 1) := by decide +kernel
theorem dX8_stageAt_6 : decode cX8_stageAt 6 = .ok (.getfield 16, 3) := by decide +kernel
theorem dX8_stageAt_9 : decode cX8_stageAt 9 = .ok (.invokevirtual 75, 3) := by decide +kernel
theorem dX8_stageAt_12 : decode cX8_stageAt 12 = .ok (.if_icmp .ge 17, 3) := by decide +kernel
theorem dX8_stageAt_15 : decode cX8_stageAt 15 = .ok (.aload_n 0, 1) := by decide +kernel
theorem dX8_stageAt_16 : decode cX8_stageAt 16 = .ok (.getfield 16, 3) := by decide +kernel
theorem dX8_stageAt_19 : decode cX8_stageAt 19 = .ok (.iload_n 1, 1) := by decide +kernel
theorem dX8_stageAt_20 : decode cX8_stageAt 20 = .ok (.invokevirtual 99, 3) := by decide +kernel
theorem dX8_stageAt_23 : decode cX8_stageAt 23 = .ok (.checkcast 103, 3) := by decide +kernel
theorem dX8_stageAt_26 : decode cX8_stageAt 26 = .ok (.goto 4, 3) := by decide +kernel
theorem dX8_stageAt_29 : decode cX8_stageAt 29 = .ok (.aconst_null, 1) := by decide +kernel
theorem dX8_stageAt_30 : decode cX8_stageAt 30 = .ok (.areturn, 1) := by decide +kernel
theorem dX8_detectorAt_0 : decode cX8_detectorAt 0 = .ok (.iload_n 1, 1) := by decide +kernel
theorem dX8_detectorAt_1 : decode cX8_detectorAt 1 = .ok (.ifCond .lt 28, 3) := by decide +kernel
theorem dX8_detectorAt_4 : decode cX8_detectorAt 4 = .ok (.iload_n 1, 1) := by decide +kernel
theorem dX8_detectorAt_5 : decode cX8_detectorAt 5 = .ok (.aload_n 0, 1) := by decide +kernel
theorem dX8_detectorAt_6 : decode cX8_detectorAt 6 = .ok (.getfield 19, 3) := by decide +kernel
theorem dX8_detectorAt_9 : decode cX8_detectorAt 9 = .ok (.invokevirtual 75, 3) := by decide +kernel
theorem dX8_detectorAt_12 : decode cX8_detectorAt 12 = .ok (.if_icmp .ge 17, 3) := by decide +kernel
theorem dX8_detectorAt_15 : decode cX8_detectorAt 15 = .ok (.aload_n 0, 1) := by decide +kernel
theorem dX8_detectorAt_16 : decode cX8_detectorAt 16 = .ok (.getfield 19, 3) := by decide +kernel
theorem dX8_detectorAt_19 : decode cX8_detectorAt 19 = .ok (.iload_n 1, 1) := by decide +kernel
theorem dX8_detectorAt_20 : decode cX8_detectorAt 20 = .ok (.invokevirtual 99, 3) := by decide +kernel
theorem dX8_detectorAt_23 : decode cX8_detectorAt 23 = .ok (.checkcast 128, 3) := by decide +kernel
theorem dX8_detectorAt_26 : decode cX8_detectorAt 26 = .ok (.goto 4, 3) := by decide +kernel
theorem dX8_detectorAt_29 : decode cX8_detectorAt 29 = .ok (.aconst_null, 1) := by decide +kernel
theorem dX8_detectorAt_30 : decode cX8_detectorAt 30 = .ok (.areturn, 1) := by decide +kernel
theorem dX8_numberOf_0 : decode cX8_numberOf 0 = .ok (.aload_n 0, 1) := by decide +kernel
theorem dX8_numberOf_1 : decode cX8_numberOf 1 = .ok (.ifnonnull 8, 3) := by decide +kernel
theorem dX8_numberOf_4 : decode cX8_numberOf 4 = .ok (.bipush (-5), 2) := by decide +kernel
theorem dX8_numberOf_6 : decode cX8_numberOf 6 = .ok (.goto 7, 3) := by decide +kernel
theorem dX8_numberOf_9 : decode cX8_numberOf 9 = .ok (.aload_n 0, 1) := by decide +kernel
theorem dX8_numberOf_10 : decode cX8_numberOf 10 = .ok (.getfield 127, 3) := by decide +kernel
theorem dX8_numberOf_13 : decode cX8_numberOf 13 = .ok (.ireturn, 1) := by decide +kernel
theorem dX8_doOrders_0 : decode cX8_doOrders 0 = .ok (.iconst 0, 1) := by decide +kernel
theorem dX8_doOrders_1 : decode cX8_doOrders 1 = .ok (.istore_n 2, 1) := by decide +kernel
theorem dX8_doOrders_2 : decode cX8_doOrders 2 = .ok (.iload_n 2, 1) := by decide +kernel
theorem dX8_doOrders_3 : decode cX8_doOrders 3 = .ok (.aload_n 0, 1) := by decide +kernel
theorem dX8_doOrders_4 : decode cX8_doOrders 4 = .ok (.getfield 22, 3) := by decide +kernel
theorem dX8_doOrders_7 : decode cX8_doOrders 7 = .ok (.invokevirtual 75, 3) := by decide +kernel
theorem dX8_doOrders_10 : decode cX8_doOrders 10 = .ok (.if_icmp .ge 41, 3) := by decide +kernel
theorem dX8_doOrders_13 : decode cX8_doOrders 13 = .ok (.aload_n 0, 1) := by decide +kernel
theorem dX8_doOrders_14 : decode cX8_doOrders 14 = .ok (.getfield 22, 3) := by decide +kernel
theorem dX8_doOrders_17 : decode cX8_doOrders 17 = .ok (.iload_n 2, 1) := by decide +kernel
theorem dX8_doOrders_18 : decode cX8_doOrders 18 = .ok (.invokevirtual 99, 3) := by decide +kernel
theorem dX8_doOrders_21 : decode cX8_doOrders 21 = .ok (.checkcast 152, 3) := by decide +kernel
theorem dX8_doOrders_24 : decode cX8_doOrders 24 = .ok (.getfield 278, 3) := by decide +kernel
theorem dX8_doOrders_27 : decode cX8_doOrders 27 = .ok (.iload_n 1, 1) := by decide +kernel
theorem dX8_doOrders_28 : decode cX8_doOrders 28 = .ok (.if_icmp .ne 17, 3) := by decide +kernel
theorem dX8_doOrders_31 : decode cX8_doOrders 31 = .ok (.aload_n 0, 1) := by decide +kernel
theorem dX8_doOrders_32 : decode cX8_doOrders 32 = .ok (.getfield 22, 3) := by decide +kernel
theorem dX8_doOrders_35 : decode cX8_doOrders 35 = .ok (.iload_n 2, 1) := by decide +kernel
theorem dX8_doOrders_36 : decode cX8_doOrders 36 = .ok (.invokevirtual 99, 3) := by decide +kernel
theorem dX8_doOrders_39 : decode cX8_doOrders 39 = .ok (.checkcast 152, 3) := by decide +kernel
theorem dX8_doOrders_42 : decode cX8_doOrders 42 = .ok (.invokevirtual 281, 3) := by decide +kernel
theorem dX8_doOrders_45 : decode cX8_doOrders 45 = .ok (.iinc 2 1, 3) := by decide +kernel
theorem dX8_doOrders_48 : decode cX8_doOrders 48 = .ok (.goto (-46), 3) := by decide +kernel
theorem dX8_doOrders_51 : decode cX8_doOrders 51 = .ok (.aload_n 0, 1) := by decide +kernel
theorem dX8_doOrders_52 : decode cX8_doOrders 52 = .ok (.getfield 22, 3) := by decide +kernel
theorem dX8_doOrders_55 : decode cX8_doOrders 55 = .ok (.invokevirtual 75, 3) := by decide +kernel
theorem dX8_doOrders_58 : decode cX8_doOrders 58 = .ok (.iconst 1, 1) := by decide +kernel
theorem dX8_doOrders_59 : decode cX8_doOrders 59 = .ok (.isub, 1) := by decide +kernel
theorem dX8_doOrders_60 : decode cX8_doOrders 60 = .ok (.istore_n 2, 1) := by decide +kernel
theorem dX8_doOrders_61 : decode cX8_doOrders 61 = .ok (.iload_n 2, 1) := by decide +kernel
theorem dX8_doOrders_62 : decode cX8_doOrders 62 = .ok (.ifCond .lt 36, 3) := by decide +kernel
theorem dX8_doOrders_65 : decode cX8_doOrders 65 = .ok (.aload_n 0, 1) := by decide +kernel
theorem dX8_doOrders_66 : decode cX8_doOrders 66 = .ok (.getfield 22, 3) := by decide +kernel
theorem dX8_doOrders_69 : decode cX8_doOrders 69 = .ok (.iload_n 2, 1) := by decide +kernel
theorem dX8_doOrders_70 : decode cX8_doOrders 70 = .ok (.invokevirtual 99, 3) := by decide +kernel
theorem dX8_doOrders_73 : decode cX8_doOrders 73 = .ok (.checkcast 152, 3) := by decide +kernel
theorem dX8_doOrders_76 : decode cX8_doOrders 76 = .ok (.getfield 278, 3) := by decide +kernel
theorem dX8_doOrders_79 : decode cX8_doOrders 79 = .ok (.iload_n 1, 1) := by decide +kernel
theorem dX8_doOrders_80 : decode cX8_doOrders 80 = .ok (.if_icmp .ne 12, 3) := by decide +kernel
theorem dX8_doOrders_83 : decode cX8_doOrders 83 = .ok (.aload_n 0, 1) := by decide +kernel
theorem dX8_doOrders_84 : decode cX8_doOrders 84 = .ok (.getfield 22, 3) := by decide +kernel
theorem dX8_doOrders_87 : decode cX8_doOrders 87 = .ok (.iload_n 2, 1) := by decide +kernel
theorem dX8_doOrders_88 : decode cX8_doOrders 88 = .ok (.invokevirtual 284, 3) := by decide +kernel
theorem dX8_doOrders_91 : decode cX8_doOrders 91 = .ok (.pop, 1) := by decide +kernel
theorem dX8_doOrders_92 : decode cX8_doOrders 92 = .ok (.iinc 2 (-1), 3) := by decide +kernel
theorem dX8_doOrders_95 : decode cX8_doOrders 95 = .ok (.goto (-34), 3) := by decide +kernel
theorem dX8_doOrders_98 : decode cX8_doOrders 98 = .ok (.return_, 1) := by decide +kernel
theorem dX8_runLights_0 : decode cX8_runLights 0 = .ok (.aload_n 0, 1) := by decide +kernel
theorem dX8_runLights_1 : decode cX8_runLights 1 = .ok (.iload_n 1, 1) := by decide +kernel
theorem dX8_runLights_2 : decode cX8_runLights 2 = .ok (.invokevirtual 287, 3) := by decide +kernel
theorem dX8_runLights_5 : decode cX8_runLights 5 = .ok (.aload_n 0, 1) := by decide +kernel
theorem dX8_runLights_6 : decode cX8_runLights 6 = .ok (.iload_n 1, 1) := by decide +kernel
theorem dX8_runLights_7 : decode cX8_runLights 7 = .ok (.invokevirtual 290, 3) := by decide +kernel
theorem dX8_runLights_10 : decode cX8_runLights 10 = .ok (.aload_n 0, 1) := by decide +kernel
theorem dX8_runLights_11 : decode cX8_runLights 11 = .ok (.invokevirtual 293, 3) := by decide +kernel
theorem dX8_runLights_14 : decode cX8_runLights 14 = .ok (.istore_n 2, 1) := by decide +kernel
theorem dX8_runLights_15 : decode cX8_runLights 15 = .ok (.iload_n 2, 1) := by decide +kernel
theorem dX8_runLights_16 : decode cX8_runLights 16 = .ok (.ifCond .eq 10, 3) := by decide +kernel
theorem dX8_runLights_19 : decode cX8_runLights 19 = .ok (.aload_n 0, 1) := by decide +kernel
theorem dX8_runLights_20 : decode cX8_runLights 20 = .ok (.iload_n 2, 1) := by decide +kernel
theorem dX8_runLights_21 : decode cX8_runLights 21 = .ok (.iload_n 1, 1) := by decide +kernel
theorem dX8_runLights_22 : decode cX8_runLights 22 = .ok (.invokevirtual 296, 3) := by decide +kernel
theorem dX8_runLights_25 : decode cX8_runLights 25 = .ok (.return_, 1) := by decide +kernel
theorem dX8_runLights_26 : decode cX8_runLights 26 = .ok (.aload_n 0, 1) := by decide +kernel
theorem dX8_runLights_27 : decode cX8_runLights 27 = .ok (.getfield 56, 3) := by decide +kernel
theorem dX8_runLights_30 : decode cX8_runLights 30 = .ok (.ifnull 24, 3) := by decide +kernel
theorem dX8_runLights_33 : decode cX8_runLights 33 = .ok (.aload_n 0, 1) := by decide +kernel
theorem dX8_runLights_34 : decode cX8_runLights 34 = .ok (.aload_n 0, 1) := by decide +kernel
theorem dX8_runLights_35 : decode cX8_runLights 35 = .ok (.getfield 56, 3) := by decide +kernel
theorem dX8_runLights_38 : decode cX8_runLights 38 = .ok (.iload_n 1, 1) := by decide +kernel
theorem dX8_runLights_39 : decode cX8_runLights 39 = .ok (.invokevirtual 299, 3) := by decide +kernel
theorem dX8_runLights_42 : decode cX8_runLights 42 = .ok (.ifCond .eq 12, 3) := by decide +kernel
theorem dX8_runLights_45 : decode cX8_runLights 45 = .ok (.aload_n 0, 1) := by decide +kernel
theorem dX8_runLights_46 : decode cX8_runLights 46 = .ok (.aload_n 0, 1) := by decide +kernel
theorem dX8_runLights_47 : decode cX8_runLights 47 = .ok (.getfield 56, 3) := by decide +kernel
theorem dX8_runLights_50 : decode cX8_runLights 50 = .ok (.iload_n 1, 1) := by decide +kernel
theorem dX8_runLights_51 : decode cX8_runLights 51 = .ok (.invokevirtual 303, 3) := by decide +kernel
theorem dX8_runLights_54 : decode cX8_runLights 54 = .ok (.aload_n 0, 1) := by decide +kernel
theorem dX8_runLights_55 : decode cX8_runLights 55 = .ok (.iload_n 1, 1) := by decide +kernel
theorem dX8_runLights_56 : decode cX8_runLights 56 = .ok (.invokevirtual 307, 3) := by decide +kernel
theorem dX8_runLights_59 : decode cX8_runLights 59 = .ok (.aload_n 0, 1) := by decide +kernel
theorem dX8_runLights_60 : decode cX8_runLights 60 = .ok (.getfield 56, 3) := by decide +kernel
theorem dX8_runLights_63 : decode cX8_runLights 63 = .ok (.ifnonnull 10, 3) := by decide +kernel
theorem dX8_runLights_66 : decode cX8_runLights 66 = .ok (.aload_n 0, 1) := by decide +kernel
theorem dX8_runLights_67 : decode cX8_runLights 67 = .ok (.invokevirtual 211, 3) := by decide +kernel
theorem dX8_runLights_70 : decode cX8_runLights 70 = .ok (.goto 4, 3) := by decide +kernel
theorem dX8_runLights_73 : decode cX8_runLights 73 = .ok (.aconst_null, 1) := by decide +kernel
theorem dX8_runLights_74 : decode cX8_runLights 74 = .ok (.astore_n 3, 1) := by decide +kernel
theorem dX8_runLights_75 : decode cX8_runLights 75 = .ok (.aload_n 3, 1) := by decide +kernel
theorem dX8_runLights_76 : decode cX8_runLights 76 = .ok (.ifnull 17, 3) := by decide +kernel
theorem dX8_runLights_79 : decode cX8_runLights 79 = .ok (.aload_n 3, 1) := by decide +kernel
theorem dX8_runLights_80 : decode cX8_runLights 80 = .ok (.iload_n 1, 1) := by decide +kernel
theorem dX8_runLights_81 : decode cX8_runLights 81 = .ok (.invokevirtual 310, 3) := by decide +kernel
theorem dX8_runLights_84 : decode cX8_runLights 84 = .ok (.ifCond .eq 9, 3) := by decide +kernel
theorem dX8_runLights_87 : decode cX8_runLights 87 = .ok (.aload_n 0, 1) := by decide +kernel
theorem dX8_runLights_88 : decode cX8_runLights 88 = .ok (.aload_n 3, 1) := by decide +kernel
theorem dX8_runLights_89 : decode cX8_runLights 89 = .ok (.iload_n 1, 1) := by decide +kernel
theorem dX8_runLights_90 : decode cX8_runLights 90 = .ok (.invokevirtual 314, 3) := by decide +kernel
theorem dX8_runLights_93 : decode cX8_runLights 93 = .ok (.return_, 1) := by decide +kernel
theorem dX8_keepLights_0 : decode cX8_keepLights 0 = .ok (.iconst 0, 1) := by decide +kernel
theorem dX8_keepLights_1 : decode cX8_keepLights 1 = .ok (.istore_n 2, 1) := by decide +kernel
theorem dX8_keepLights_2 : decode cX8_keepLights 2 = .ok (.iload_n 2, 1) := by decide +kernel
theorem dX8_keepLights_3 : decode cX8_keepLights 3 = .ok (.aload_n 0, 1) := by decide +kernel
theorem dX8_keepLights_4 : decode cX8_keepLights 4 = .ok (.getfield 10, 3) := by decide +kernel
theorem dX8_keepLights_7 : decode cX8_keepLights 7 = .ok (.invokevirtual 75, 3) := by decide +kernel
theorem dX8_keepLights_10 : decode cX8_keepLights 10 = .ok (.if_icmp .ge 24, 3) := by decide +kernel
theorem dX8_keepLights_13 : decode cX8_keepLights 13 = .ok (.aload_n 0, 1) := by decide +kernel
theorem dX8_keepLights_14 : decode cX8_keepLights 14 = .ok (.getfield 10, 3) := by decide +kernel
theorem dX8_keepLights_17 : decode cX8_keepLights 17 = .ok (.iload_n 2, 1) := by decide +kernel
theorem dX8_keepLights_18 : decode cX8_keepLights 18 = .ok (.invokevirtual 99, 3) := by decide +kernel
theorem dX8_keepLights_21 : decode cX8_keepLights 21 = .ok (.checkcast 79, 3) := by decide +kernel
theorem dX8_keepLights_24 : decode cX8_keepLights 24 = .ok (.iload_n 1, 1) := by decide +kernel
theorem dX8_keepLights_25 : decode cX8_keepLights 25 = .ok (.invokevirtual 317, 3) := by decide +kernel
theorem dX8_keepLights_28 : decode cX8_keepLights 28 = .ok (.iinc 2 1, 3) := by decide +kernel
theorem dX8_keepLights_31 : decode cX8_keepLights 31 = .ok (.goto (-29), 3) := by decide +kernel
theorem dX8_keepLights_34 : decode cX8_keepLights 34 = .ok (.return_, 1) := by decide +kernel
theorem dX8_readPhases_0 : decode cX8_readPhases 0 = .ok (.iconst 0, 1) := by decide +kernel
theorem dX8_readPhases_1 : decode cX8_readPhases 1 = .ok (.istore_n 2, 1) := by decide +kernel
theorem dX8_readPhases_2 : decode cX8_readPhases 2 = .ok (.iload_n 2, 1) := by decide +kernel
theorem dX8_readPhases_3 : decode cX8_readPhases 3 = .ok (.aload_n 0, 1) := by decide +kernel
theorem dX8_readPhases_4 : decode cX8_readPhases 4 = .ok (.getfield 10, 3) := by decide +kernel
theorem dX8_readPhases_7 : decode cX8_readPhases 7 = .ok (.invokevirtual 75, 3) := by decide +kernel
theorem dX8_readPhases_10 : decode cX8_readPhases 10 = .ok (.if_icmp .ge 71, 3) := by decide +kernel
theorem dX8_readPhases_13 : decode cX8_readPhases 13 = .ok (.aload_n 0, 1) := by decide +kernel
theorem dX8_readPhases_14 : decode cX8_readPhases 14 = .ok (.getfield 10, 3) := by decide +kernel
theorem dX8_readPhases_17 : decode cX8_readPhases 17 = .ok (.iload_n 2, 1) := by decide +kernel
theorem dX8_readPhases_18 : decode cX8_readPhases 18 = .ok (.invokevirtual 99, 3) := by decide +kernel
theorem dX8_readPhases_21 : decode cX8_readPhases 21 = .ok (.checkcast 79, 3) := by decide +kernel
theorem dX8_readPhases_24 : decode cX8_readPhases 24 = .ok (.astore_n 3, 1) := by decide +kernel
theorem dX8_readPhases_25 : decode cX8_readPhases 25 = .ok (.aload_n 3, 1) := by decide +kernel
theorem dX8_readPhases_26 : decode cX8_readPhases 26 = .ok (.getfield 169, 3) := by decide +kernel
theorem dX8_readPhases_29 : decode cX8_readPhases 29 = .ok (.iconst 1, 1) := by decide +kernel
theorem dX8_readPhases_30 : decode cX8_readPhases 30 = .ok (.if_icmp .ne 16, 3) := by decide +kernel
theorem dX8_readPhases_33 : decode cX8_readPhases 33 = .ok (.aload_n 3, 1) := by decide +kernel
theorem dX8_readPhases_34 : decode cX8_readPhases 34 = .ok (.aload_n 0, 1) := by decide +kernel
theorem dX8_readPhases_35 : decode cX8_readPhases 35 = .ok (.aload_n 3, 1) := by decide +kernel
theorem dX8_readPhases_36 : decode cX8_readPhases 36 = .ok (.iload_n 1, 1) := by decide +kernel
theorem dX8_readPhases_37 : decode cX8_readPhases 37 = .ok (.invokevirtual 320, 3) := by decide +kernel
theorem dX8_readPhases_40 : decode cX8_readPhases 40 = .ok (.putfield 324, 3) := by decide +kernel
theorem dX8_readPhases_43 : decode cX8_readPhases 43 = .ok (.goto 32, 3) := by decide +kernel
theorem dX8_readPhases_46 : decode cX8_readPhases 46 = .ok (.aload_n 3, 1) := by decide +kernel
theorem dX8_readPhases_47 : decode cX8_readPhases 47 = .ok (.getfield 220, 3) := by decide +kernel
theorem dX8_readPhases_50 : decode cX8_readPhases 50 = .ok (.iconst 4, 1) := by decide +kernel
theorem dX8_readPhases_51 : decode cX8_readPhases 51 = .ok (.if_icmp .eq 24, 3) := by decide +kernel
theorem dX8_readPhases_54 : decode cX8_readPhases 54 = .ok (.aload_n 3, 1) := by decide +kernel
theorem dX8_readPhases_55 : decode cX8_readPhases 55 = .ok (.invokevirtual 166, 3) := by decide +kernel
theorem dX8_readPhases_58 : decode cX8_readPhases 58 = .ok (.ifCond .ne 17, 3) := by decide +kernel
theorem dX8_readPhases_61 : decode cX8_readPhases 61 = .ok (.aload_n 0, 1) := by decide +kernel
theorem dX8_readPhases_62 : decode cX8_readPhases 62 = .ok (.aload_n 3, 1) := by decide +kernel
theorem dX8_readPhases_63 : decode cX8_readPhases 63 = .ok (.iload_n 1, 1) := by decide +kernel
theorem dX8_readPhases_64 : decode cX8_readPhases 64 = .ok (.invokevirtual 327, 3) := by decide +kernel
theorem dX8_readPhases_67 : decode cX8_readPhases 67 = .ok (.ifCond .eq 8, 3) := by decide +kernel
theorem dX8_readPhases_70 : decode cX8_readPhases 70 = .ok (.aload_n 3, 1) := by decide +kernel
theorem dX8_readPhases_71 : decode cX8_readPhases 71 = .ok (.iload_n 1, 1) := by decide +kernel
theorem dX8_readPhases_72 : decode cX8_readPhases 72 = .ok (.putfield 172, 3) := by decide +kernel
theorem dX8_readPhases_75 : decode cX8_readPhases 75 = .ok (.iinc 2 1, 3) := by decide +kernel
theorem dX8_readPhases_78 : decode cX8_readPhases 78 = .ok (.goto (-76), 3) := by decide +kernel
theorem dX8_readPhases_81 : decode cX8_readPhases 81 = .ok (.return_, 1) := by decide +kernel
theorem dX8_holdsIn_0 : decode cX8_holdsIn 0 = .ok (.aload_n 1, 1) := by decide +kernel
theorem dX8_holdsIn_1 : decode cX8_holdsIn 1 = .ok (.getfield 220, 3) := by decide +kernel
theorem dX8_holdsIn_4 : decode cX8_holdsIn 4 = .ok (.iconst 4, 1) := by decide +kernel
theorem dX8_holdsIn_5 : decode cX8_holdsIn 5 = .ok (.if_icmp .ne 13, 3) := by decide +kernel
theorem dX8_holdsIn_8 : decode cX8_holdsIn 8 = .ok (.aload_n 0, 1) := by decide +kernel
theorem dX8_holdsIn_9 : decode cX8_holdsIn 9 = .ok (.getfield 45, 3) := by decide +kernel
theorem dX8_holdsIn_12 : decode cX8_holdsIn 12 = .ok (.iconst 4, 1) := by decide +kernel
theorem dX8_holdsIn_13 : decode cX8_holdsIn 13 = .ok (.iconst 0, 1) := by decide +kernel
theorem dX8_holdsIn_14 : decode cX8_holdsIn 14 = .ok (.invokevirtual 330, 3) := by decide +kernel
theorem dX8_holdsIn_17 : decode cX8_holdsIn 17 = .ok (.ireturn, 1) := by decide +kernel
theorem dX8_holdsIn_18 : decode cX8_holdsIn 18 = .ok (.aload_n 0, 1) := by decide +kernel
theorem dX8_holdsIn_19 : decode cX8_holdsIn 19 = .ok (.aload_n 1, 1) := by decide +kernel
theorem dX8_holdsIn_20 : decode cX8_holdsIn 20 = .ok (.iload_n 2, 1) := by decide +kernel
theorem dX8_holdsIn_21 : decode cX8_holdsIn 21 = .ok (.invokevirtual 333, 3) := by decide +kernel
theorem dX8_holdsIn_24 : decode cX8_holdsIn 24 = .ok (.astore_n 3, 1) := by decide +kernel
theorem dX8_holdsIn_25 : decode cX8_holdsIn 25 = .ok (.aload_n 3, 1) := by decide +kernel
theorem dX8_holdsIn_26 : decode cX8_holdsIn 26 = .ok (.ifnull 22, 3) := by decide +kernel
theorem dX8_holdsIn_29 : decode cX8_holdsIn 29 = .ok (.aload_n 0, 1) := by decide +kernel
theorem dX8_holdsIn_30 : decode cX8_holdsIn 30 = .ok (.getfield 45, 3) := by decide +kernel
theorem dX8_holdsIn_33 : decode cX8_holdsIn 33 = .ok (.aload_n 1, 1) := by decide +kernel
theorem dX8_holdsIn_34 : decode cX8_holdsIn 34 = .ok (.getfield 220, 3) := by decide +kernel
theorem dX8_holdsIn_37 : decode cX8_holdsIn 37 = .ok (.aload_n 3, 1) := by decide +kernel
theorem dX8_holdsIn_38 : decode cX8_holdsIn 38 = .ok (.iload_n 2, 1) := by decide +kernel
theorem dX8_holdsIn_39 : decode cX8_holdsIn 39 = .ok (.invokevirtual 337, 3) := by decide +kernel
theorem dX8_holdsIn_42 : decode cX8_holdsIn 42 = .ok (.invokevirtual 330, 3) := by decide +kernel
theorem dX8_holdsIn_45 : decode cX8_holdsIn 45 = .ok (.ifCond .eq 7, 3) := by decide +kernel
theorem dX8_holdsIn_48 : decode cX8_holdsIn 48 = .ok (.iconst 1, 1) := by decide +kernel
theorem dX8_holdsIn_49 : decode cX8_holdsIn 49 = .ok (.goto 4, 3) := by decide +kernel
theorem dX8_holdsIn_52 : decode cX8_holdsIn 52 = .ok (.iconst 0, 1) := by decide +kernel
theorem dX8_holdsIn_53 : decode cX8_holdsIn 53 = .ok (.ireturn, 1) := by decide +kernel
theorem dX8_asksIn_0 : decode cX8_asksIn 0 = .ok (.aload_n 0, 1) := by decide +kernel
theorem dX8_asksIn_1 : decode cX8_asksIn 1 = .ok (.aload_n 1, 1) := by decide +kernel
theorem dX8_asksIn_2 : decode cX8_asksIn 2 = .ok (.iload_n 2, 1) := by decide +kernel
theorem dX8_asksIn_3 : decode cX8_asksIn 3 = .ok (.invokevirtual 333, 3) := by decide +kernel
theorem dX8_asksIn_6 : decode cX8_asksIn 6 = .ok (.astore_n 3, 1) := by decide +kernel
theorem dX8_asksIn_7 : decode cX8_asksIn 7 = .ok (.aload_n 3, 1) := by decide +kernel
theorem dX8_asksIn_8 : decode cX8_asksIn 8 = .ok (.ifnull 27, 3) := by decide +kernel
theorem dX8_asksIn_11 : decode cX8_asksIn 11 = .ok (.aload_n 0, 1) := by decide +kernel
theorem dX8_asksIn_12 : decode cX8_asksIn 12 = .ok (.getfield 45, 3) := by decide +kernel
theorem dX8_asksIn_15 : decode cX8_asksIn 15 = .ok (.aload_n 1, 1) := by decide +kernel
theorem dX8_asksIn_16 : decode cX8_asksIn 16 = .ok (.getfield 220, 3) := by decide +kernel
theorem dX8_asksIn_19 : decode cX8_asksIn 19 = .ok (.aload_n 3, 1) := by decide +kernel
theorem dX8_asksIn_20 : decode cX8_asksIn 20 = .ok (.iload_n 2, 1) := by decide +kernel
theorem dX8_asksIn_21 : decode cX8_asksIn 21 = .ok (.invokevirtual 337, 3) := by decide +kernel
theorem dX8_asksIn_24 : decode cX8_asksIn 24 = .ok (.aload_n 3, 1) := by decide +kernel
theorem dX8_asksIn_25 : decode cX8_asksIn 25 = .ok (.iload_n 2, 1) := by decide +kernel
theorem dX8_asksIn_26 : decode cX8_asksIn 26 = .ok (.invokevirtual 340, 3) := by decide +kernel
theorem dX8_asksIn_29 : decode cX8_asksIn 29 = .ok (.invokevirtual 343, 3) := by decide +kernel
theorem dX8_asksIn_32 : decode cX8_asksIn 32 = .ok (.ifCond .eq 7, 3) := by decide +kernel
theorem dX8_asksIn_35 : decode cX8_asksIn 35 = .ok (.iconst 1, 1) := by decide +kernel
theorem dX8_asksIn_36 : decode cX8_asksIn 36 = .ok (.goto 4, 3) := by decide +kernel
theorem dX8_asksIn_39 : decode cX8_asksIn 39 = .ok (.iconst 0, 1) := by decide +kernel
theorem dX8_asksIn_40 : decode cX8_asksIn 40 = .ok (.ireturn, 1) := by decide +kernel
theorem dX8_rowsUntil_0 : decode cX8_rowsUntil 0 = .ok (.aload_n 1, 1) := by decide +kernel
theorem dX8_rowsUntil_1 : decode cX8_rowsUntil 1 = .ok (.getfield 131, 3) := by decide +kernel
theorem dX8_rowsUntil_4 : decode cX8_rowsUntil 4 = .ok (.astore_n 3, 1) := by decide +kernel
theorem dX8_rowsUntil_5 : decode cX8_rowsUntil 5 = .ok (.aload_n 3, 1) := by decide +kernel
theorem dX8_rowsUntil_6 : decode cX8_rowsUntil 6 = .ok (.ifnull 10, 3) := by decide +kernel
theorem dX8_rowsUntil_9 : decode cX8_rowsUntil 9 = .ok (.aload_n 3, 1) := by decide +kernel
theorem dX8_rowsUntil_10 : decode cX8_rowsUntil 10 = .ok (.invokevirtual 140, 3) := by decide +kernel
theorem dX8_rowsUntil_13 : decode cX8_rowsUntil 13 = .ok (.ifCond .eq 17, 3) := by decide +kernel
theorem dX8_rowsUntil_16 : decode cX8_rowsUntil 16 = .ok (.aload_n 0, 1) := by decide +kernel
theorem dX8_rowsUntil_17 : decode cX8_rowsUntil 17 = .ok (.getfield 31, 3) := by decide +kernel
theorem dX8_rowsUntil_20 : decode cX8_rowsUntil 20 = .ok (.iconst 1, 1) := by decide +kernel
theorem dX8_rowsUntil_21 : decode cX8_rowsUntil 21 = .ok (.aload_n 1, 1) := by decide +kernel
theorem dX8_rowsUntil_22 : decode cX8_rowsUntil 22 = .ok (.getfield 88, 3) := by decide +kernel
theorem dX8_rowsUntil_25 : decode cX8_rowsUntil 25 = .ok (.invokevirtual 218, 3) := by decide +kernel
theorem dX8_rowsUntil_28 : decode cX8_rowsUntil 28 = .ok (.aconst_null, 1) := by decide +kernel
theorem dX8_rowsUntil_29 : decode cX8_rowsUntil 29 = .ok (.areturn, 1) := by decide +kernel
theorem dX8_rowsUntil_30 : decode cX8_rowsUntil 30 = .ok (.aload_n 3, 1) := by decide +kernel
theorem dX8_rowsUntil_31 : decode cX8_rowsUntil 31 = .ok (.iload_n 2, 1) := by decide +kernel
theorem dX8_rowsUntil_32 : decode cX8_rowsUntil 32 = .ok (.invokevirtual 346, 3) := by decide +kernel
theorem dX8_rowsUntil_35 : decode cX8_rowsUntil 35 = .ok (.ifCond .ne 17, 3) := by decide +kernel
theorem dX8_rowsUntil_38 : decode cX8_rowsUntil 38 = .ok (.aload_n 0, 1) := by decide +kernel
theorem dX8_rowsUntil_39 : decode cX8_rowsUntil 39 = .ok (.getfield 31, 3) := by decide +kernel
theorem dX8_rowsUntil_42 : decode cX8_rowsUntil 42 = .ok (.iconst 2, 1) := by decide +kernel
theorem dX8_rowsUntil_43 : decode cX8_rowsUntil 43 = .ok (.aload_n 1, 1) := by decide +kernel
theorem dX8_rowsUntil_44 : decode cX8_rowsUntil 44 = .ok (.getfield 88, 3) := by decide +kernel
theorem dX8_rowsUntil_47 : decode cX8_rowsUntil 47 = .ok (.invokevirtual 218, 3) := by decide +kernel
theorem dX8_rowsUntil_50 : decode cX8_rowsUntil 50 = .ok (.aconst_null, 1) := by decide +kernel
theorem dX8_rowsUntil_51 : decode cX8_rowsUntil 51 = .ok (.areturn, 1) := by decide +kernel
theorem dX8_rowsUntil_52 : decode cX8_rowsUntil 52 = .ok (.aload_n 3, 1) := by decide +kernel
theorem dX8_rowsUntil_53 : decode cX8_rowsUntil 53 = .ok (.areturn, 1) := by decide +kernel
theorem dX8_endsIn_0 : decode cX8_endsIn 0 = .ok (.iload_n 2, 1) := by decide +kernel
theorem dX8_endsIn_1 : decode cX8_endsIn 1 = .ok (.aload_n 0, 1) := by decide +kernel
theorem dX8_endsIn_2 : decode cX8_endsIn 2 = .ok (.getfield 60, 3) := by decide +kernel
theorem dX8_endsIn_5 : decode cX8_endsIn 5 = .ok (.isub, 1) := by decide +kernel
theorem dX8_endsIn_6 : decode cX8_endsIn 6 = .ok (.istore_n 3, 1) := by decide +kernel
theorem dX8_endsIn_7 : decode cX8_endsIn 7 = .ok (.aload_n 0, 1) := by decide +kernel
theorem dX8_endsIn_8 : decode cX8_endsIn 8 = .ok (.invokevirtual 211, 3) := by decide +kernel
theorem dX8_endsIn_11 : decode cX8_endsIn 11 = .ok (.ifnull 11, 3) := by decide +kernel
theorem dX8_endsIn_14 : decode cX8_endsIn 14 = .ok (.iload_n 3, 1) := by decide +kernel
theorem dX8_endsIn_15 : decode cX8_endsIn 15 = .ok (.aload_n 0, 1) := by decide +kernel
theorem dX8_endsIn_16 : decode cX8_endsIn 16 = .ok (.getfield 63, 3) := by decide +kernel
theorem dX8_endsIn_19 : decode cX8_endsIn 19 = .ok (.if_icmp .ge 5, 3) := by decide +kernel
theorem dX8_endsIn_22 : decode cX8_endsIn 22 = .ok (.iconst 0, 1) := by decide +kernel
theorem dX8_endsIn_23 : decode cX8_endsIn 23 = .ok (.ireturn, 1) := by decide +kernel
theorem dX8_endsIn_24 : decode cX8_endsIn 24 = .ok (.iload_n 3, 1) := by decide +kernel
theorem dX8_endsIn_25 : decode cX8_endsIn 25 = .ok (.aload_n 0, 1) := by decide +kernel
theorem dX8_endsIn_26 : decode cX8_endsIn 26 = .ok (.getfield 66, 3) := by decide +kernel
theorem dX8_endsIn_29 : decode cX8_endsIn 29 = .ok (.if_icmp .ge 17, 3) := by decide +kernel
theorem dX8_endsIn_32 : decode cX8_endsIn 32 = .ok (.aload_n 0, 1) := by decide +kernel
theorem dX8_endsIn_33 : decode cX8_endsIn 33 = .ok (.getfield 69, 3) := by decide +kernel
theorem dX8_endsIn_36 : decode cX8_endsIn 36 = .ok (.ifnonnull 10, 3) := by decide +kernel
theorem dX8_endsIn_39 : decode cX8_endsIn 39 = .ok (.aload_n 1, 1) := by decide +kernel
theorem dX8_endsIn_40 : decode cX8_endsIn 40 = .ok (.invokevirtual 349, 3) := by decide +kernel
theorem dX8_endsIn_43 : decode cX8_endsIn 43 = .ok (.ifCond .ne 7, 3) := by decide +kernel
theorem dX8_endsIn_46 : decode cX8_endsIn 46 = .ok (.iconst 1, 1) := by decide +kernel
theorem dX8_endsIn_47 : decode cX8_endsIn 47 = .ok (.goto 4, 3) := by decide +kernel
theorem dX8_endsIn_50 : decode cX8_endsIn 50 = .ok (.iconst 0, 1) := by decide +kernel
theorem dX8_endsIn_51 : decode cX8_endsIn 51 = .ok (.ireturn, 1) := by decide +kernel
theorem dX8_endStage_0 : decode cX8_endStage 0 = .ok (.aload_n 1, 1) := by decide +kernel
theorem dX8_endStage_1 : decode cX8_endStage 1 = .ok (.getfield 352, 3) := by decide +kernel
theorem dX8_endStage_4 : decode cX8_endStage 4 = .ok (.astore_n 3, 1) := by decide +kernel
theorem dX8_endStage_5 : decode cX8_endStage 5 = .ok (.aload_n 3, 1) := by decide +kernel
theorem dX8_endStage_6 : decode cX8_endStage 6 = .ok (.arraylength, 1) := by decide +kernel
theorem dX8_endStage_7 : decode cX8_endStage 7 = .ok (.istore 4, 2) := by decide +kernel
theorem dX8_endStage_9 : decode cX8_endStage 9 = .ok (.iconst 0, 1) := by decide +kernel
theorem dX8_endStage_10 : decode cX8_endStage 10 = .ok (.istore 5, 2) := by decide +kernel
theorem dX8_endStage_12 : decode cX8_endStage 12 = .ok (.iload 5, 2) := by decide +kernel
theorem dX8_endStage_14 : decode cX8_endStage 14 = .ok (.iload 4, 2) := by decide +kernel
theorem dX8_endStage_16 : decode cX8_endStage 16 = .ok (.if_icmp .ge 56, 3) := by decide +kernel
theorem dX8_endStage_19 : decode cX8_endStage 19 = .ok (.aload_n 3, 1) := by decide +kernel
theorem dX8_endStage_20 : decode cX8_endStage 20 = .ok (.iload 5, 2) := by decide +kernel
theorem dX8_endStage_22 : decode cX8_endStage 22 = .ok (.aaload, 1) := by decide +kernel
theorem dX8_endStage_23 : decode cX8_endStage 23 = .ok (.astore 6, 2) := by decide +kernel
theorem dX8_endStage_25 : decode cX8_endStage 25 = .ok (.aload 6, 2) := by decide +kernel
theorem dX8_endStage_27 : decode cX8_endStage 27 = .ok (.ifnonnull 6, 3) := by decide +kernel
theorem dX8_endStage_30 : decode cX8_endStage 30 = .ok (.goto 36, 3) := by decide +kernel
theorem dX8_endStage_33 : decode cX8_endStage 33 = .ok (.aload_n 0, 1) := by decide +kernel
theorem dX8_endStage_34 : decode cX8_endStage 34 = .ok (.aload 6, 2) := by decide +kernel
theorem dX8_endStage_36 : decode cX8_endStage 36 = .ok (.aload 6, 2) := by decide +kernel
theorem dX8_endStage_38 : decode cX8_endStage 38 = .ok (.getfield 247, 3) := by decide +kernel
theorem dX8_endStage_41 : decode cX8_endStage 41 = .ok (.ifCond .ne 7, 3) := by decide +kernel
theorem dX8_endStage_44 : decode cX8_endStage 44 = .ok (.iconst 0, 1) := by decide +kernel
theorem dX8_endStage_45 : decode cX8_endStage 45 = .ok (.goto 4, 3) := by decide +kernel
theorem dX8_endStage_48 : decode cX8_endStage 48 = .ok (.iconst 2, 1) := by decide +kernel
theorem dX8_endStage_49 : decode cX8_endStage 49 = .ok (.iload_n 2, 1) := by decide +kernel
theorem dX8_endStage_50 : decode cX8_endStage 50 = .ok (.invokevirtual 356, 3) := by decide +kernel
theorem dX8_endStage_53 : decode cX8_endStage 53 = .ok (.aload_n 0, 1) := by decide +kernel
theorem dX8_endStage_54 : decode cX8_endStage 54 = .ok (.aload 6, 2) := by decide +kernel
theorem dX8_endStage_56 : decode cX8_endStage 56 = .ok (.iload_n 2, 1) := by decide +kernel
theorem dX8_endStage_57 : decode cX8_endStage 57 = .ok (.aload 6, 2) := by decide +kernel
theorem dX8_endStage_59 : decode cX8_endStage 59 = .ok (.getfield 247, 3) := by decide +kernel
theorem dX8_endStage_62 : decode cX8_endStage 62 = .ok (.iadd, 1) := by decide +kernel
theorem dX8_endStage_63 : decode cX8_endStage 63 = .ok (.invokevirtual 360, 3) := by decide +kernel
theorem dX8_endStage_66 : decode cX8_endStage 66 = .ok (.iinc 5 1, 3) := by decide +kernel
theorem dX8_endStage_69 : decode cX8_endStage 69 = .ok (.goto (-57), 3) := by decide +kernel
theorem dX8_endStage_72 : decode cX8_endStage 72 = .ok (.aload_n 0, 1) := by decide +kernel
theorem dX8_endStage_73 : decode cX8_endStage 73 = .ok (.aconst_null, 1) := by decide +kernel
theorem dX8_endStage_74 : decode cX8_endStage 74 = .ok (.putfield 56, 3) := by decide +kernel
theorem dX8_endStage_77 : decode cX8_endStage 77 = .ok (.return_, 1) := by decide +kernel
theorem dX8_setEnd_0 : decode cX8_setEnd 0 = .ok (.aload_n 1, 1) := by decide +kernel
theorem dX8_setEnd_1 : decode cX8_setEnd 1 = .ok (.iload_n 2, 1) := by decide +kernel
theorem dX8_setEnd_2 : decode cX8_setEnd 2 = .ok (.putfield 235, 3) := by decide +kernel
theorem dX8_setEnd_5 : decode cX8_setEnd 5 = .ok (.iconst 0, 1) := by decide +kernel
theorem dX8_setEnd_6 : decode cX8_setEnd 6 = .ok (.istore_n 3, 1) := by decide +kernel
theorem dX8_setEnd_7 : decode cX8_setEnd 7 = .ok (.iload_n 3, 1) := by decide +kernel
theorem dX8_setEnd_8 : decode cX8_setEnd 8 = .ok (.aload_n 0, 1) := by decide +kernel
theorem dX8_setEnd_9 : decode cX8_setEnd 9 = .ok (.getfield 10, 3) := by decide +kernel
theorem dX8_setEnd_12 : decode cX8_setEnd 12 = .ok (.invokevirtual 75, 3) := by decide +kernel
theorem dX8_setEnd_15 : decode cX8_setEnd 15 = .ok (.if_icmp .ge 54, 3) := by decide +kernel
theorem dX8_setEnd_18 : decode cX8_setEnd 18 = .ok (.aload_n 0, 1) := by decide +kernel
theorem dX8_setEnd_19 : decode cX8_setEnd 19 = .ok (.getfield 10, 3) := by decide +kernel
theorem dX8_setEnd_22 : decode cX8_setEnd 22 = .ok (.iload_n 3, 1) := by decide +kernel
theorem dX8_setEnd_23 : decode cX8_setEnd 23 = .ok (.invokevirtual 99, 3) := by decide +kernel
theorem dX8_setEnd_26 : decode cX8_setEnd 26 = .ok (.checkcast 79, 3) := by decide +kernel
theorem dX8_setEnd_29 : decode cX8_setEnd 29 = .ok (.astore 4, 2) := by decide +kernel
theorem dX8_setEnd_31 : decode cX8_setEnd 31 = .ok (.aload_n 1, 1) := by decide +kernel
theorem dX8_setEnd_32 : decode cX8_setEnd 32 = .ok (.aload 4, 2) := by decide +kernel
theorem dX8_setEnd_34 : decode cX8_setEnd 34 = .ok (.invokevirtual 363, 3) := by decide +kernel
theorem dX8_setEnd_37 : decode cX8_setEnd 37 = .ok (.istore 5, 2) := by decide +kernel
theorem dX8_setEnd_39 : decode cX8_setEnd 39 = .ok (.iload 5, 2) := by decide +kernel
theorem dX8_setEnd_41 : decode cX8_setEnd 41 = .ok (.bipush (-5), 2) := by decide +kernel
theorem dX8_setEnd_43 : decode cX8_setEnd 43 = .ok (.if_icmp .eq 20, 3) := by decide +kernel
theorem dX8_setEnd_46 : decode cX8_setEnd 46 = .ok (.aload 4, 2) := by decide +kernel
theorem dX8_setEnd_48 : decode cX8_setEnd 48 = .ok (.aload 4, 2) := by decide +kernel
theorem dX8_setEnd_50 : decode cX8_setEnd 50 = .ok (.getfield 238, 3) := by decide +kernel
theorem dX8_setEnd_53 : decode cX8_setEnd 53 = .ok (.iload_n 2, 1) := by decide +kernel
theorem dX8_setEnd_54 : decode cX8_setEnd 54 = .ok (.iload 5, 2) := by decide +kernel
theorem dX8_setEnd_56 : decode cX8_setEnd 56 = .ok (.iadd, 1) := by decide +kernel
theorem dX8_setEnd_57 : decode cX8_setEnd 57 = .ok (.invokestatic 253, 3) := by decide +kernel
theorem dX8_setEnd_60 : decode cX8_setEnd 60 = .ok (.putfield 238, 3) := by decide +kernel
theorem dX8_setEnd_63 : decode cX8_setEnd 63 = .ok (.iinc 3 1, 3) := by decide +kernel
theorem dX8_setEnd_66 : decode cX8_setEnd 66 = .ok (.goto (-59), 3) := by decide +kernel
theorem dX8_setEnd_69 : decode cX8_setEnd 69 = .ok (.return_, 1) := by decide +kernel
theorem dX8_endAmbers_0 : decode cX8_endAmbers 0 = .ok (.iconst 0, 1) := by decide +kernel
theorem dX8_endAmbers_1 : decode cX8_endAmbers 1 = .ok (.istore_n 2, 1) := by decide +kernel
theorem dX8_endAmbers_2 : decode cX8_endAmbers 2 = .ok (.iload_n 2, 1) := by decide +kernel
theorem dX8_endAmbers_3 : decode cX8_endAmbers 3 = .ok (.aload_n 0, 1) := by decide +kernel
theorem dX8_endAmbers_4 : decode cX8_endAmbers 4 = .ok (.getfield 10, 3) := by decide +kernel
theorem dX8_endAmbers_7 : decode cX8_endAmbers 7 = .ok (.invokevirtual 75, 3) := by decide +kernel
theorem dX8_endAmbers_10 : decode cX8_endAmbers 10 = .ok (.if_icmp .ge 44, 3) := by decide +kernel
theorem dX8_endAmbers_13 : decode cX8_endAmbers 13 = .ok (.aload_n 0, 1) := by decide +kernel
theorem dX8_endAmbers_14 : decode cX8_endAmbers 14 = .ok (.getfield 10, 3) := by decide +kernel
theorem dX8_endAmbers_17 : decode cX8_endAmbers 17 = .ok (.iload_n 2, 1) := by decide +kernel
theorem dX8_endAmbers_18 : decode cX8_endAmbers 18 = .ok (.invokevirtual 99, 3) := by decide +kernel
theorem dX8_endAmbers_21 : decode cX8_endAmbers 21 = .ok (.checkcast 79, 3) := by decide +kernel
theorem dX8_endAmbers_24 : decode cX8_endAmbers 24 = .ok (.astore_n 3, 1) := by decide +kernel
theorem dX8_endAmbers_25 : decode cX8_endAmbers 25 = .ok (.aload_n 3, 1) := by decide +kernel
theorem dX8_endAmbers_26 : decode cX8_endAmbers 26 = .ok (.getfield 169, 3) := by decide +kernel
theorem dX8_endAmbers_29 : decode cX8_endAmbers 29 = .ok (.iconst 2, 1) := by decide +kernel
theorem dX8_endAmbers_30 : decode cX8_endAmbers 30 = .ok (.if_icmp .ne 18, 3) := by decide +kernel
theorem dX8_endAmbers_33 : decode cX8_endAmbers 33 = .ok (.aload_n 3, 1) := by decide +kernel
theorem dX8_endAmbers_34 : decode cX8_endAmbers 34 = .ok (.getfield 235, 3) := by decide +kernel
theorem dX8_endAmbers_37 : decode cX8_endAmbers 37 = .ok (.iload_n 1, 1) := by decide +kernel
theorem dX8_endAmbers_38 : decode cX8_endAmbers 38 = .ok (.if_icmp .gt 10, 3) := by decide +kernel
theorem dX8_endAmbers_41 : decode cX8_endAmbers 41 = .ok (.aload_n 0, 1) := by decide +kernel
theorem dX8_endAmbers_42 : decode cX8_endAmbers 42 = .ok (.aload_n 3, 1) := by decide +kernel
theorem dX8_endAmbers_43 : decode cX8_endAmbers 43 = .ok (.iconst 0, 1) := by decide +kernel
theorem dX8_endAmbers_44 : decode cX8_endAmbers 44 = .ok (.iload_n 1, 1) := by decide +kernel
theorem dX8_endAmbers_45 : decode cX8_endAmbers 45 = .ok (.invokevirtual 356, 3) := by decide +kernel
theorem dX8_endAmbers_48 : decode cX8_endAmbers 48 = .ok (.iinc 2 1, 3) := by decide +kernel
theorem dX8_endAmbers_51 : decode cX8_endAmbers 51 = .ok (.goto (-49), 3) := by decide +kernel
theorem dX8_endAmbers_54 : decode cX8_endAmbers 54 = .ok (.return_, 1) := by decide +kernel
theorem dX8_beginStage_0 : decode cX8_beginStage 0 = .ok (.aload_n 0, 1) := by decide +kernel
theorem dX8_beginStage_1 : decode cX8_beginStage 1 = .ok (.aload_n 1, 1) := by decide +kernel
theorem dX8_beginStage_2 : decode cX8_beginStage 2 = .ok (.putfield 56, 3) := by decide +kernel
theorem dX8_beginStage_5 : decode cX8_beginStage 5 = .ok (.aload_n 0, 1) := by decide +kernel
theorem dX8_beginStage_6 : decode cX8_beginStage 6 = .ok (.iload_n 2, 1) := by decide +kernel
theorem dX8_beginStage_7 : decode cX8_beginStage 7 = .ok (.putfield 60, 3) := by decide +kernel
theorem dX8_beginStage_10 : decode cX8_beginStage 10 = .ok (.aload_n 0, 1) := by decide +kernel
theorem dX8_beginStage_11 : decode cX8_beginStage 11 = .ok (.aload_n 1, 1) := by decide +kernel
theorem dX8_beginStage_12 : decode cX8_beginStage 12 = .ok (.invokevirtual 367, 3) := by decide +kernel
theorem dX8_beginStage_15 : decode cX8_beginStage 15 = .ok (.putfield 63, 3) := by decide +kernel
theorem dX8_beginStage_18 : decode cX8_beginStage 18 = .ok (.aload_n 0, 1) := by decide +kernel
theorem dX8_beginStage_19 : decode cX8_beginStage 19 = .ok (.aload_n 1, 1) := by decide +kernel
theorem dX8_beginStage_20 : decode cX8_beginStage 20 = .ok (.invokevirtual 250, 3) := by decide +kernel
theorem dX8_beginStage_23 : decode cX8_beginStage 23 = .ok (.putfield 66, 3) := by decide +kernel
theorem dX8_beginStage_26 : decode cX8_beginStage 26 = .ok (.aload_n 0, 1) := by decide +kernel
theorem dX8_beginStage_27 : decode cX8_beginStage 27 = .ok (.aload_n 1, 1) := by decide +kernel
theorem dX8_beginStage_28 : decode cX8_beginStage 28 = .ok (.getfield 127, 3) := by decide +kernel
theorem dX8_beginStage_31 : decode cX8_beginStage 31 = .ok (.putfield 72, 3) := by decide +kernel
theorem dX8_beginStage_34 : decode cX8_beginStage 34 = .ok (.aload_n 0, 1) := by decide +kernel
theorem dX8_beginStage_35 : decode cX8_beginStage 35 = .ok (.getfield 69, 3) := by decide +kernel
theorem dX8_beginStage_38 : decode cX8_beginStage 38 = .ok (.aload_n 1, 1) := by decide +kernel
theorem dX8_beginStage_39 : decode cX8_beginStage 39 = .ok (.if_acmp .ne 8, 3) := by decide +kernel
theorem dX8_beginStage_42 : decode cX8_beginStage 42 = .ok (.aload_n 0, 1) := by decide +kernel
theorem dX8_beginStage_43 : decode cX8_beginStage 43 = .ok (.aconst_null, 1) := by decide +kernel
theorem dX8_beginStage_44 : decode cX8_beginStage 44 = .ok (.putfield 69, 3) := by decide +kernel
theorem dX8_beginStage_47 : decode cX8_beginStage 47 = .ok (.aload_n 1, 1) := by decide +kernel
theorem dX8_beginStage_48 : decode cX8_beginStage 48 = .ok (.getfield 352, 3) := by decide +kernel
theorem dX8_beginStage_51 : decode cX8_beginStage 51 = .ok (.astore_n 3, 1) := by decide +kernel
theorem dX8_beginStage_52 : decode cX8_beginStage 52 = .ok (.aload_n 3, 1) := by decide +kernel
theorem dX8_beginStage_53 : decode cX8_beginStage 53 = .ok (.arraylength, 1) := by decide +kernel
theorem dX8_beginStage_54 : decode cX8_beginStage 54 = .ok (.istore 4, 2) := by decide +kernel
theorem dX8_beginStage_56 : decode cX8_beginStage 56 = .ok (.iconst 0, 1) := by decide +kernel
theorem dX8_beginStage_57 : decode cX8_beginStage 57 = .ok (.istore 5, 2) := by decide +kernel
theorem dX8_beginStage_59 : decode cX8_beginStage 59 = .ok (.iload 5, 2) := by decide +kernel
theorem dX8_beginStage_61 : decode cX8_beginStage 61 = .ok (.iload 4, 2) := by decide +kernel
theorem dX8_beginStage_63 : decode cX8_beginStage 63 = .ok (.if_icmp .ge 49, 3) := by decide +kernel
theorem dX8_beginStage_66 : decode cX8_beginStage 66 = .ok (.aload_n 3, 1) := by decide +kernel
theorem dX8_beginStage_67 : decode cX8_beginStage 67 = .ok (.iload 5, 2) := by decide +kernel
theorem dX8_beginStage_69 : decode cX8_beginStage 69 = .ok (.aaload, 1) := by decide +kernel
theorem dX8_beginStage_70 : decode cX8_beginStage 70 = .ok (.astore 6, 2) := by decide +kernel
theorem dX8_beginStage_72 : decode cX8_beginStage 72 = .ok (.aload 6, 2) := by decide +kernel
theorem dX8_beginStage_74 : decode cX8_beginStage 74 = .ok (.ifnonnull 6, 3) := by decide +kernel
theorem dX8_beginStage_77 : decode cX8_beginStage 77 = .ok (.goto 29, 3) := by decide +kernel
theorem dX8_beginStage_80 : decode cX8_beginStage 80 = .ok (.aload_n 0, 1) := by decide +kernel
theorem dX8_beginStage_81 : decode cX8_beginStage 81 = .ok (.aload 6, 2) := by decide +kernel
theorem dX8_beginStage_83 : decode cX8_beginStage 83 = .ok (.iconst 1, 1) := by decide +kernel
theorem dX8_beginStage_84 : decode cX8_beginStage 84 = .ok (.iload_n 2, 1) := by decide +kernel
theorem dX8_beginStage_85 : decode cX8_beginStage 85 = .ok (.invokevirtual 356, 3) := by decide +kernel
theorem dX8_beginStage_88 : decode cX8_beginStage 88 = .ok (.aload 6, 2) := by decide +kernel
theorem dX8_beginStage_90 : decode cX8_beginStage 90 = .ok (.dup, 1) := by decide +kernel
theorem dX8_beginStage_91 : decode cX8_beginStage 91 = .ok (.getfield 232, 3) := by decide +kernel
theorem dX8_beginStage_94 : decode cX8_beginStage 94 = .ok (.iconst 1, 1) := by decide +kernel
theorem dX8_beginStage_95 : decode cX8_beginStage 95 = .ok (.iadd, 1) := by decide +kernel
theorem dX8_beginStage_96 : decode cX8_beginStage 96 = .ok (.putfield 232, 3) := by decide +kernel
theorem dX8_beginStage_99 : decode cX8_beginStage 99 = .ok (.aload 6, 2) := by decide +kernel
theorem dX8_beginStage_101 : decode cX8_beginStage 101 = .ok (.bipush (-5), 2) := by decide +kernel
theorem dX8_beginStage_103 : decode cX8_beginStage 103 = .ok (.putfield 172, 3) := by decide +kernel
theorem dX8_beginStage_106 : decode cX8_beginStage 106 = .ok (.iinc 5 1, 3) := by decide +kernel
theorem dX8_beginStage_109 : decode cX8_beginStage 109 = .ok (.goto (-50), 3) := by decide +kernel
theorem dX8_beginStage_112 : decode cX8_beginStage 112 = .ok (.return_, 1) := by decide +kernel
theorem dX8_nextStage_0 : decode cX8_nextStage 0 = .ok (.aload_n 0, 1) := by decide +kernel
theorem dX8_nextStage_1 : decode cX8_nextStage 1 = .ok (.getfield 69, 3) := by decide +kernel
theorem dX8_nextStage_4 : decode cX8_nextStage 4 = .ok (.ifnull 8, 3) := by decide +kernel
theorem dX8_nextStage_7 : decode cX8_nextStage 7 = .ok (.aload_n 0, 1) := by decide +kernel
theorem dX8_nextStage_8 : decode cX8_nextStage 8 = .ok (.getfield 69, 3) := by decide +kernel
theorem dX8_nextStage_11 : decode cX8_nextStage 11 = .ok (.areturn, 1) := by decide +kernel
theorem dX8_nextStage_12 : decode cX8_nextStage 12 = .ok (.aload_n 0, 1) := by decide +kernel
theorem dX8_nextStage_13 : decode cX8_nextStage 13 = .ok (.getfield 16, 3) := by decide +kernel
theorem dX8_nextStage_16 : decode cX8_nextStage 16 = .ok (.invokevirtual 75, 3) := by decide +kernel
theorem dX8_nextStage_19 : decode cX8_nextStage 19 = .ok (.istore_n 1, 1) := by decide +kernel
theorem dX8_nextStage_20 : decode cX8_nextStage 20 = .ok (.aconst_null, 1) := by decide +kernel
theorem dX8_nextStage_21 : decode cX8_nextStage 21 = .ok (.astore_n 2, 1) := by decide +kernel
theorem dX8_nextStage_22 : decode cX8_nextStage 22 = .ok (.bipush (-5), 2) := by decide +kernel
theorem dX8_nextStage_24 : decode cX8_nextStage 24 = .ok (.istore_n 3, 1) := by decide +kernel
theorem dX8_nextStage_25 : decode cX8_nextStage 25 = .ok (.iconst 1, 1) := by decide +kernel
theorem dX8_nextStage_26 : decode cX8_nextStage 26 = .ok (.istore 4, 2) := by decide +kernel
theorem dX8_nextStage_28 : decode cX8_nextStage 28 = .ok (.iload 4, 2) := by decide +kernel
theorem dX8_nextStage_30 : decode cX8_nextStage 30 = .ok (.iload_n 1, 1) := by decide +kernel
theorem dX8_nextStage_31 : decode cX8_nextStage 31 = .ok (.if_icmp .gt 74, 3) := by decide +kernel
theorem dX8_nextStage_34 : decode cX8_nextStage 34 = .ok (.aload_n 0, 1) := by decide +kernel
theorem dX8_nextStage_35 : decode cX8_nextStage 35 = .ok (.getfield 16, 3) := by decide +kernel
theorem dX8_nextStage_38 : decode cX8_nextStage 38 = .ok (.aload_n 0, 1) := by decide +kernel
theorem dX8_nextStage_39 : decode cX8_nextStage 39 = .ok (.getfield 72, 3) := by decide +kernel
theorem dX8_nextStage_42 : decode cX8_nextStage 42 = .ok (.iload 4, 2) := by decide +kernel
theorem dX8_nextStage_44 : decode cX8_nextStage 44 = .ok (.iadd, 1) := by decide +kernel
theorem dX8_nextStage_45 : decode cX8_nextStage 45 = .ok (.iload_n 1, 1) := by decide +kernel
theorem dX8_nextStage_46 : decode cX8_nextStage 46 = .ok (.invokestatic 370, 3) := by decide +kernel
theorem dX8_nextStage_49 : decode cX8_nextStage 49 = .ok (.invokevirtual 99, 3) := by decide +kernel
theorem dX8_nextStage_52 : decode cX8_nextStage 52 = .ok (.checkcast 103, 3) := by decide +kernel
theorem dX8_nextStage_55 : decode cX8_nextStage 55 = .ok (.astore 5, 2) := by decide +kernel
theorem dX8_nextStage_57 : decode cX8_nextStage 57 = .ok (.aload 5, 2) := by decide +kernel
theorem dX8_nextStage_59 : decode cX8_nextStage 59 = .ok (.invokevirtual 373, 3) := by decide +kernel
theorem dX8_nextStage_62 : decode cX8_nextStage 62 = .ok (.istore 6, 2) := by decide +kernel
theorem dX8_nextStage_64 : decode cX8_nextStage 64 = .ok (.aload 5, 2) := by decide +kernel
theorem dX8_nextStage_66 : decode cX8_nextStage 66 = .ok (.aload_n 0, 1) := by decide +kernel
theorem dX8_nextStage_67 : decode cX8_nextStage 67 = .ok (.getfield 56, 3) := by decide +kernel
theorem dX8_nextStage_70 : decode cX8_nextStage 70 = .ok (.if_acmp .eq 29, 3) := by decide +kernel
theorem dX8_nextStage_73 : decode cX8_nextStage 73 = .ok (.iload 6, 2) := by decide +kernel
theorem dX8_nextStage_75 : decode cX8_nextStage 75 = .ok (.bipush (-5), 2) := by decide +kernel
theorem dX8_nextStage_77 : decode cX8_nextStage 77 = .ok (.if_icmp .ne 6, 3) := by decide +kernel
theorem dX8_nextStage_80 : decode cX8_nextStage 80 = .ok (.goto 19, 3) := by decide +kernel
theorem dX8_nextStage_83 : decode cX8_nextStage 83 = .ok (.aload_n 2, 1) := by decide +kernel
theorem dX8_nextStage_84 : decode cX8_nextStage 84 = .ok (.ifnull 9, 3) := by decide +kernel
theorem dX8_nextStage_87 : decode cX8_nextStage 87 = .ok (.iload 6, 2) := by decide +kernel
theorem dX8_nextStage_89 : decode cX8_nextStage 89 = .ok (.iload_n 3, 1) := by decide +kernel
theorem dX8_nextStage_90 : decode cX8_nextStage 90 = .ok (.if_icmp .ge 9, 3) := by decide +kernel
theorem dX8_nextStage_93 : decode cX8_nextStage 93 = .ok (.aload 5, 2) := by decide +kernel
theorem dX8_nextStage_95 : decode cX8_nextStage 95 = .ok (.astore_n 2, 1) := by decide +kernel
theorem dX8_nextStage_96 : decode cX8_nextStage 96 = .ok (.iload 6, 2) := by decide +kernel
theorem dX8_nextStage_98 : decode cX8_nextStage 98 = .ok (.istore_n 3, 1) := by decide +kernel
theorem dX8_nextStage_99 : decode cX8_nextStage 99 = .ok (.iinc 4 1, 3) := by decide +kernel
theorem dX8_nextStage_102 : decode cX8_nextStage 102 = .ok (.goto (-74), 3) := by decide +kernel
theorem dX8_nextStage_105 : decode cX8_nextStage 105 = .ok (.aload_n 2, 1) := by decide +kernel
theorem dX8_nextStage_106 : decode cX8_nextStage 106 = .ok (.areturn, 1) := by decide +kernel
theorem dX8_changeLight_0 : decode cX8_changeLight 0 = .ok (.aload_n 1, 1) := by decide +kernel
theorem dX8_changeLight_1 : decode cX8_changeLight 1 = .ok (.dup, 1) := by decide +kernel
theorem dX8_changeLight_2 : decode cX8_changeLight 2 = .ok (.getfield 223, 3) := by decide +kernel
theorem dX8_changeLight_5 : decode cX8_changeLight 5 = .ok (.iconst 1, 1) := by decide +kernel
theorem dX8_changeLight_6 : decode cX8_changeLight 6 = .ok (.iadd, 1) := by decide +kernel
theorem dX8_changeLight_7 : decode cX8_changeLight 7 = .ok (.putfield 223, 3) := by decide +kernel
theorem dX8_changeLight_10 : decode cX8_changeLight 10 = .ok (.aload_n 1, 1) := by decide +kernel
theorem dX8_changeLight_11 : decode cX8_changeLight 11 = .ok (.getfield 169, 3) := by decide +kernel
theorem dX8_changeLight_14 : decode cX8_changeLight 14 = .ok (.iconst 1, 1) := by decide +kernel
theorem dX8_changeLight_15 : decode cX8_changeLight 15 = .ok (.if_icmp .ne 13, 3) := by decide +kernel
theorem dX8_changeLight_18 : decode cX8_changeLight 18 = .ok (.aload_n 1, 1) := by decide +kernel
theorem dX8_changeLight_19 : decode cX8_changeLight 19 = .ok (.aload_n 0, 1) := by decide +kernel
theorem dX8_changeLight_20 : decode cX8_changeLight 20 = .ok (.aload_n 1, 1) := by decide +kernel
theorem dX8_changeLight_21 : decode cX8_changeLight 21 = .ok (.iload_n 3, 1) := by decide +kernel
theorem dX8_changeLight_22 : decode cX8_changeLight 22 = .ok (.invokevirtual 376, 3) := by decide +kernel
theorem dX8_changeLight_25 : decode cX8_changeLight 25 = .ok (.putfield 229, 3) := by decide +kernel
theorem dX8_changeLight_28 : decode cX8_changeLight 28 = .ok (.aload_n 1, 1) := by decide +kernel
theorem dX8_changeLight_29 : decode cX8_changeLight 29 = .ok (.iload_n 2, 1) := by decide +kernel
theorem dX8_changeLight_30 : decode cX8_changeLight 30 = .ok (.putfield 169, 3) := by decide +kernel
theorem dX8_changeLight_33 : decode cX8_changeLight 33 = .ok (.aload_n 0, 1) := by decide +kernel
theorem dX8_changeLight_34 : decode cX8_changeLight 34 = .ok (.dup, 1) := by decide +kernel
theorem dX8_changeLight_35 : decode cX8_changeLight 35 = .ok (.getfield 53, 3) := by decide +kernel
theorem dX8_changeLight_38 : decode cX8_changeLight 38 = .ok (.iconst 1, 1) := by decide +kernel
theorem dX8_changeLight_39 : decode cX8_changeLight 39 = .ok (.iadd, 1) := by decide +kernel
theorem dX8_changeLight_40 : decode cX8_changeLight 40 = .ok (.putfield 53, 3) := by decide +kernel
theorem dX8_changeLight_43 : decode cX8_changeLight 43 = .ok (.aload_n 1, 1) := by decide +kernel
theorem dX8_changeLight_44 : decode cX8_changeLight 44 = .ok (.dup, 1) := by decide +kernel
theorem dX8_changeLight_45 : decode cX8_changeLight 45 = .ok (.getfield 226, 3) := by decide +kernel
theorem dX8_changeLight_48 : decode cX8_changeLight 48 = .ok (.iconst 1, 1) := by decide +kernel
theorem dX8_changeLight_49 : decode cX8_changeLight 49 = .ok (.iadd, 1) := by decide +kernel
theorem dX8_changeLight_50 : decode cX8_changeLight 50 = .ok (.putfield 226, 3) := by decide +kernel
theorem dX8_changeLight_53 : decode cX8_changeLight 53 = .ok (.return_, 1) := by decide +kernel
theorem dX8_changeAllLights_0 : decode cX8_changeAllLights 0 = .ok (.iconst 0, 1) := by decide +kernel
theorem dX8_changeAllLights_1 : decode cX8_changeAllLights 1 = .ok (.istore_n 2, 1) := by decide +kernel
theorem dX8_changeAllLights_2 : decode cX8_changeAllLights 2 = .ok (.iload_n 2, 1) := by decide +kernel
theorem dX8_changeAllLights_3 : decode cX8_changeAllLights 3 = .ok (.aload_n 0, 1) := by decide +kernel
theorem dX8_changeAllLights_4 : decode cX8_changeAllLights 4 = .ok (.getfield 10, 3) := by decide +kernel
theorem dX8_changeAllLights_7 : decode cX8_changeAllLights 7 = .ok (.invokevirtual 75, 3) := by decide +kernel
theorem dX8_changeAllLights_10 : decode cX8_changeAllLights 10 = .ok (.if_icmp .ge 29, 3) := by decide +kernel
theorem dX8_changeAllLights_13 : decode cX8_changeAllLights 13 = .ok (.aload_n 0, 1) := by decide +kernel
theorem dX8_changeAllLights_14 : decode cX8_changeAllLights 14 = .ok (.aload_n 0, 1) := by decide +kernel
theorem dX8_changeAllLights_15 : decode cX8_changeAllLights 15 = .ok (.getfield 10, 3) := by decide +kernel
theorem dX8_changeAllLights_18 : decode cX8_changeAllLights 18 = .ok (.iload_n 2, 1) := by decide +kernel
theorem dX8_changeAllLights_19 : decode cX8_changeAllLights 19 = .ok (.invokevirtual 99, 3) := by decide +kernel
theorem dX8_changeAllLights_22 : decode cX8_changeAllLights 22 = .ok (.checkcast 79, 3) := by decide +kernel
theorem dX8_changeAllLights_25 : decode cX8_changeAllLights 25 = .ok (.iload_n 1, 1) := by decide +kernel
theorem dX8_changeAllLights_26 : decode cX8_changeAllLights 26 = .ok (.aload_n 0, 1) := by decide +kernel
theorem dX8_changeAllLights_27 : decode cX8_changeAllLights 27 = .ok (.getfield 49, 3) := by decide +kernel
theorem dX8_changeAllLights_30 : decode cX8_changeAllLights 30 = .ok (.invokevirtual 356, 3) := by decide +kernel
theorem dX8_changeAllLights_33 : decode cX8_changeAllLights 33 = .ok (.iinc 2 1, 3) := by decide +kernel
theorem dX8_changeAllLights_36 : decode cX8_changeAllLights 36 = .ok (.goto (-34), 3) := by decide +kernel
theorem dX8_changeAllLights_39 : decode cX8_changeAllLights 39 = .ok (.return_, 1) := by decide +kernel
theorem dX8_gapOf_0 : decode cX8_gapOf 0 = .ok (.aload_n 1, 1) := by decide +kernel
theorem dX8_gapOf_1 : decode cX8_gapOf 1 = .ok (.getfield 220, 3) := by decide +kernel
theorem dX8_gapOf_4 : decode cX8_gapOf 4 = .ok (.iconst 4, 1) := by decide +kernel
theorem dX8_gapOf_5 : decode cX8_gapOf 5 = .ok (.if_icmp .ne 5, 3) := by decide +kernel
theorem dX8_gapOf_8 : decode cX8_gapOf 8 = .ok (.iconst 0, 1) := by decide +kernel
theorem dX8_gapOf_9 : decode cX8_gapOf 9 = .ok (.ireturn, 1) := by decide +kernel
theorem dX8_gapOf_10 : decode cX8_gapOf 10 = .ok (.aload_n 0, 1) := by decide +kernel
theorem dX8_gapOf_11 : decode cX8_gapOf 11 = .ok (.aload_n 1, 1) := by decide +kernel
theorem dX8_gapOf_12 : decode cX8_gapOf 12 = .ok (.iload_n 2, 1) := by decide +kernel
theorem dX8_gapOf_13 : decode cX8_gapOf 13 = .ok (.iconst 1, 1) := by decide +kernel
theorem dX8_gapOf_14 : decode cX8_gapOf 14 = .ok (.isub, 1) := by decide +kernel
theorem dX8_gapOf_15 : decode cX8_gapOf 15 = .ok (.invokevirtual 333, 3) := by decide +kernel
theorem dX8_gapOf_18 : decode cX8_gapOf 18 = .ok (.astore_n 3, 1) := by decide +kernel
theorem dX8_gapOf_19 : decode cX8_gapOf 19 = .ok (.aload_n 3, 1) := by decide +kernel
theorem dX8_gapOf_20 : decode cX8_gapOf 20 = .ok (.ifnonnull 5, 3) := by decide +kernel
theorem dX8_gapOf_23 : decode cX8_gapOf 23 = .ok (.iconst 0, 1) := by decide +kernel
theorem dX8_gapOf_24 : decode cX8_gapOf 24 = .ok (.ireturn, 1) := by decide +kernel
theorem dX8_gapOf_25 : decode cX8_gapOf 25 = .ok (.iconst 0, 1) := by decide +kernel
theorem dX8_gapOf_26 : decode cX8_gapOf 26 = .ok (.istore 4, 2) := by decide +kernel
theorem dX8_gapOf_28 : decode cX8_gapOf 28 = .ok (.aload_n 0, 1) := by decide +kernel
theorem dX8_gapOf_29 : decode cX8_gapOf 29 = .ok (.getfield 60, 3) := by decide +kernel
theorem dX8_gapOf_32 : decode cX8_gapOf 32 = .ok (.istore 5, 2) := by decide +kernel
theorem dX8_gapOf_34 : decode cX8_gapOf 34 = .ok (.iload 5, 2) := by decide +kernel
theorem dX8_gapOf_36 : decode cX8_gapOf 36 = .ok (.iload_n 2, 1) := by decide +kernel
theorem dX8_gapOf_37 : decode cX8_gapOf 37 = .ok (.if_icmp .ge 20, 3) := by decide +kernel
theorem dX8_gapOf_40 : decode cX8_gapOf 40 = .ok (.iload 4, 2) := by decide +kernel
theorem dX8_gapOf_42 : decode cX8_gapOf 42 = .ok (.aload_n 3, 1) := by decide +kernel
theorem dX8_gapOf_43 : decode cX8_gapOf 43 = .ok (.iload 5, 2) := by decide +kernel
theorem dX8_gapOf_45 : decode cX8_gapOf 45 = .ok (.invokevirtual 337, 3) := by decide +kernel
theorem dX8_gapOf_48 : decode cX8_gapOf 48 = .ok (.iadd, 1) := by decide +kernel
theorem dX8_gapOf_49 : decode cX8_gapOf 49 = .ok (.istore 4, 2) := by decide +kernel
theorem dX8_gapOf_51 : decode cX8_gapOf 51 = .ok (.iinc 5 1, 3) := by decide +kernel
theorem dX8_gapOf_54 : decode cX8_gapOf 54 = .ok (.goto (-20), 3) := by decide +kernel
theorem dX8_gapOf_57 : decode cX8_gapOf 57 = .ok (.iload 4, 2) := by decide +kernel
theorem dX8_gapOf_59 : decode cX8_gapOf 59 = .ok (.ifCond .ne 17, 3) := by decide +kernel
theorem dX8_gapOf_62 : decode cX8_gapOf 62 = .ok (.aload_n 0, 1) := by decide +kernel
theorem dX8_gapOf_63 : decode cX8_gapOf 63 = .ok (.getfield 31, 3) := by decide +kernel
theorem dX8_gapOf_66 : decode cX8_gapOf 66 = .ok (.iconst 3, 1) := by decide +kernel
theorem dX8_gapOf_67 : decode cX8_gapOf 67 = .ok (.aload_n 1, 1) := by decide +kernel
theorem dX8_gapOf_68 : decode cX8_gapOf 68 = .ok (.getfield 88, 3) := by decide +kernel
theorem dX8_gapOf_71 : decode cX8_gapOf 71 = .ok (.invokevirtual 218, 3) := by decide +kernel
theorem dX8_gapOf_74 : decode cX8_gapOf 74 = .ok (.iconst 0, 1) := by decide +kernel
theorem dX8_gapOf_75 : decode cX8_gapOf 75 = .ok (.ireturn, 1) := by decide +kernel
theorem dX8_gapOf_76 : decode cX8_gapOf 76 = .ok (.iload_n 2, 1) := by decide +kernel
theorem dX8_gapOf_77 : decode cX8_gapOf 77 = .ok (.aload_n 0, 1) := by decide +kernel
theorem dX8_gapOf_78 : decode cX8_gapOf 78 = .ok (.getfield 60, 3) := by decide +kernel
theorem dX8_gapOf_81 : decode cX8_gapOf 81 = .ok (.isub, 1) := by decide +kernel
theorem dX8_gapOf_82 : decode cX8_gapOf 82 = .ok (.iload 4, 2) := by decide +kernel
theorem dX8_gapOf_84 : decode cX8_gapOf 84 = .ok (.idiv, 1) := by decide +kernel
theorem dX8_gapOf_85 : decode cX8_gapOf 85 = .ok (.ireturn, 1) := by decide +kernel
theorem dX8_lookAtPairs_0 : decode cX8_lookAtPairs 0 = .ok (.iconst 0, 1) := by decide +kernel
theorem dX8_lookAtPairs_1 : decode cX8_lookAtPairs 1 = .ok (.istore_n 2, 1) := by decide +kernel
theorem dX8_lookAtPairs_2 : decode cX8_lookAtPairs 2 = .ok (.iload_n 2, 1) := by decide +kernel
theorem dX8_lookAtPairs_3 : decode cX8_lookAtPairs 3 = .ok (.aload_n 0, 1) := by decide +kernel
theorem dX8_lookAtPairs_4 : decode cX8_lookAtPairs 4 = .ok (.getfield 25, 3) := by decide +kernel
theorem dX8_lookAtPairs_7 : decode cX8_lookAtPairs 7 = .ok (.invokevirtual 75, 3) := by decide +kernel
theorem dX8_lookAtPairs_10 : decode cX8_lookAtPairs 10 = .ok (.if_icmp .ge 24, 3) := by decide +kernel
theorem dX8_lookAtPairs_13 : decode cX8_lookAtPairs 13 = .ok (.aload_n 0, 1) := by decide +kernel
theorem dX8_lookAtPairs_14 : decode cX8_lookAtPairs 14 = .ok (.getfield 25, 3) := by decide +kernel
theorem dX8_lookAtPairs_17 : decode cX8_lookAtPairs 17 = .ok (.iload_n 2, 1) := by decide +kernel
theorem dX8_lookAtPairs_18 : decode cX8_lookAtPairs 18 = .ok (.invokevirtual 99, 3) := by decide +kernel
theorem dX8_lookAtPairs_21 : decode cX8_lookAtPairs 21 = .ok (.checkcast 161, 3) := by decide +kernel
theorem dX8_lookAtPairs_24 : decode cX8_lookAtPairs 24 = .ok (.iload_n 1, 1) := by decide +kernel
theorem dX8_lookAtPairs_25 : decode cX8_lookAtPairs 25 = .ok (.invokevirtual 380, 3) := by decide +kernel
theorem dX8_lookAtPairs_28 : decode cX8_lookAtPairs 28 = .ok (.iinc 2 1, 3) := by decide +kernel
theorem dX8_lookAtPairs_31 : decode cX8_lookAtPairs 31 = .ok (.goto (-29), 3) := by decide +kernel
theorem dX8_lookAtPairs_34 : decode cX8_lookAtPairs 34 = .ok (.return_, 1) := by decide +kernel
theorem dX8_faultToMeet_0 : decode cX8_faultToMeet 0 = .ok (.iconst 0, 1) := by decide +kernel
theorem dX8_faultToMeet_1 : decode cX8_faultToMeet 1 = .ok (.istore_n 1, 1) := by decide +kernel
theorem dX8_faultToMeet_2 : decode cX8_faultToMeet 2 = .ok (.iload_n 1, 1) := by decide +kernel
theorem dX8_faultToMeet_3 : decode cX8_faultToMeet 3 = .ok (.aload_n 0, 1) := by decide +kernel
theorem dX8_faultToMeet_4 : decode cX8_faultToMeet 4 = .ok (.getfield 10, 3) := by decide +kernel
theorem dX8_faultToMeet_7 : decode cX8_faultToMeet 7 = .ok (.invokevirtual 75, 3) := by decide +kernel
theorem dX8_faultToMeet_10 : decode cX8_faultToMeet 10 = .ok (.if_icmp .ge 37, 3) := by decide +kernel
theorem dX8_faultToMeet_13 : decode cX8_faultToMeet 13 = .ok (.aload_n 0, 1) := by decide +kernel
theorem dX8_faultToMeet_14 : decode cX8_faultToMeet 14 = .ok (.getfield 10, 3) := by decide +kernel
theorem dX8_faultToMeet_17 : decode cX8_faultToMeet 17 = .ok (.iload_n 1, 1) := by decide +kernel
theorem dX8_faultToMeet_18 : decode cX8_faultToMeet 18 = .ok (.invokevirtual 99, 3) := by decide +kernel
theorem dX8_faultToMeet_21 : decode cX8_faultToMeet 21 = .ok (.checkcast 79, 3) := by decide +kernel
theorem dX8_faultToMeet_24 : decode cX8_faultToMeet 24 = .ok (.astore_n 2, 1) := by decide +kernel
theorem dX8_faultToMeet_25 : decode cX8_faultToMeet 25 = .ok (.aload_n 2, 1) := by decide +kernel
theorem dX8_faultToMeet_26 : decode cX8_faultToMeet 26 = .ok (.getfield 157, 3) := by decide +kernel
theorem dX8_faultToMeet_29 : decode cX8_faultToMeet 29 = .ok (.ifCond .eq 12, 3) := by decide +kernel
theorem dX8_faultToMeet_32 : decode cX8_faultToMeet 32 = .ok (.aload_n 2, 1) := by decide +kernel
theorem dX8_faultToMeet_33 : decode cX8_faultToMeet 33 = .ok (.invokevirtual 383, 3) := by decide +kernel
theorem dX8_faultToMeet_36 : decode cX8_faultToMeet 36 = .ok (.ifCond .eq 5, 3) := by decide +kernel
theorem dX8_faultToMeet_39 : decode cX8_faultToMeet 39 = .ok (.iconst 1, 1) := by decide +kernel
theorem dX8_faultToMeet_40 : decode cX8_faultToMeet 40 = .ok (.ireturn, 1) := by decide +kernel
theorem dX8_faultToMeet_41 : decode cX8_faultToMeet 41 = .ok (.iinc 1 1, 3) := by decide +kernel
theorem dX8_faultToMeet_44 : decode cX8_faultToMeet 44 = .ok (.goto (-42), 3) := by decide +kernel
theorem dX8_faultToMeet_47 : decode cX8_faultToMeet 47 = .ok (.iconst 0, 1) := by decide +kernel
theorem dX8_faultToMeet_48 : decode cX8_faultToMeet 48 = .ok (.istore_n 1, 1) := by decide +kernel
theorem dX8_faultToMeet_49 : decode cX8_faultToMeet 49 = .ok (.iload_n 1, 1) := by decide +kernel
theorem dX8_faultToMeet_50 : decode cX8_faultToMeet 50 = .ok (.aload_n 0, 1) := by decide +kernel
theorem dX8_faultToMeet_51 : decode cX8_faultToMeet 51 = .ok (.getfield 25, 3) := by decide +kernel
theorem dX8_faultToMeet_54 : decode cX8_faultToMeet 54 = .ok (.invokevirtual 75, 3) := by decide +kernel
theorem dX8_faultToMeet_57 : decode cX8_faultToMeet 57 = .ok (.if_icmp .ge 28, 3) := by decide +kernel
theorem dX8_faultToMeet_60 : decode cX8_faultToMeet 60 = .ok (.aload_n 0, 1) := by decide +kernel
theorem dX8_faultToMeet_61 : decode cX8_faultToMeet 61 = .ok (.getfield 25, 3) := by decide +kernel
theorem dX8_faultToMeet_64 : decode cX8_faultToMeet 64 = .ok (.iload_n 1, 1) := by decide +kernel
theorem dX8_faultToMeet_65 : decode cX8_faultToMeet 65 = .ok (.invokevirtual 99, 3) := by decide +kernel
theorem dX8_faultToMeet_68 : decode cX8_faultToMeet 68 = .ok (.checkcast 161, 3) := by decide +kernel
theorem dX8_faultToMeet_71 : decode cX8_faultToMeet 71 = .ok (.invokevirtual 386, 3) := by decide +kernel
theorem dX8_faultToMeet_74 : decode cX8_faultToMeet 74 = .ok (.ifCond .eq 5, 3) := by decide +kernel
theorem dX8_faultToMeet_77 : decode cX8_faultToMeet 77 = .ok (.iconst 2, 1) := by decide +kernel
theorem dX8_faultToMeet_78 : decode cX8_faultToMeet 78 = .ok (.ireturn, 1) := by decide +kernel
theorem dX8_faultToMeet_79 : decode cX8_faultToMeet 79 = .ok (.iinc 1 1, 3) := by decide +kernel
theorem dX8_faultToMeet_82 : decode cX8_faultToMeet 82 = .ok (.goto (-33), 3) := by decide +kernel
theorem dX8_faultToMeet_85 : decode cX8_faultToMeet 85 = .ok (.aload_n 0, 1) := by decide +kernel
theorem dX8_faultToMeet_86 : decode cX8_faultToMeet 86 = .ok (.getfield 38, 3) := by decide +kernel
theorem dX8_faultToMeet_89 : decode cX8_faultToMeet 89 = .ok (.getfield 197, 3) := by decide +kernel
theorem dX8_faultToMeet_92 : decode cX8_faultToMeet 92 = .ok (.ifCond .eq 7, 3) := by decide +kernel
theorem dX8_faultToMeet_95 : decode cX8_faultToMeet 95 = .ok (.iconst 3, 1) := by decide +kernel
theorem dX8_faultToMeet_96 : decode cX8_faultToMeet 96 = .ok (.goto 4, 3) := by decide +kernel
theorem dX8_faultToMeet_99 : decode cX8_faultToMeet 99 = .ok (.iconst 0, 1) := by decide +kernel
theorem dX8_faultToMeet_100 : decode cX8_faultToMeet 100 = .ok (.ireturn, 1) := by decide +kernel
theorem dX8_meetFault_0 : decode cX8_meetFault 0 = .ok (.aload_n 0, 1) := by decide +kernel
theorem dX8_meetFault_1 : decode cX8_meetFault 1 = .ok (.getfield 38, 3) := by decide +kernel
theorem dX8_meetFault_4 : decode cX8_meetFault 4 = .ok (.iload_n 1, 1) := by decide +kernel
theorem dX8_meetFault_5 : decode cX8_meetFault 5 = .ok (.iload_n 2, 1) := by decide +kernel
theorem dX8_meetFault_6 : decode cX8_meetFault 6 = .ok (.invokevirtual 389, 3) := by decide +kernel
theorem dX8_meetFault_9 : decode cX8_meetFault 9 = .ok (.iconst 0, 1) := by decide +kernel
theorem dX8_meetFault_10 : decode cX8_meetFault 10 = .ok (.istore_n 3, 1) := by decide +kernel
theorem dX8_meetFault_11 : decode cX8_meetFault 11 = .ok (.iload_n 3, 1) := by decide +kernel
theorem dX8_meetFault_12 : decode cX8_meetFault 12 = .ok (.aload_n 0, 1) := by decide +kernel
theorem dX8_meetFault_13 : decode cX8_meetFault 13 = .ok (.getfield 10, 3) := by decide +kernel
theorem dX8_meetFault_16 : decode cX8_meetFault 16 = .ok (.invokevirtual 75, 3) := by decide +kernel
theorem dX8_meetFault_19 : decode cX8_meetFault 19 = .ok (.if_icmp .ge 48, 3) := by decide +kernel
theorem dX8_meetFault_22 : decode cX8_meetFault 22 = .ok (.aload_n 0, 1) := by decide +kernel
theorem dX8_meetFault_23 : decode cX8_meetFault 23 = .ok (.getfield 10, 3) := by decide +kernel
theorem dX8_meetFault_26 : decode cX8_meetFault 26 = .ok (.iload_n 3, 1) := by decide +kernel
theorem dX8_meetFault_27 : decode cX8_meetFault 27 = .ok (.invokevirtual 99, 3) := by decide +kernel
theorem dX8_meetFault_30 : decode cX8_meetFault 30 = .ok (.checkcast 79, 3) := by decide +kernel
theorem dX8_meetFault_33 : decode cX8_meetFault 33 = .ok (.astore 4, 2) := by decide +kernel
theorem dX8_meetFault_35 : decode cX8_meetFault 35 = .ok (.aload 4, 2) := by decide +kernel
theorem dX8_meetFault_37 : decode cX8_meetFault 37 = .ok (.invokevirtual 383, 3) := by decide +kernel
theorem dX8_meetFault_40 : decode cX8_meetFault 40 = .ok (.ifCond .ne 6, 3) := by decide +kernel
theorem dX8_meetFault_43 : decode cX8_meetFault 43 = .ok (.goto 18, 3) := by decide +kernel
theorem dX8_meetFault_46 : decode cX8_meetFault 46 = .ok (.aload_n 0, 1) := by decide +kernel
theorem dX8_meetFault_47 : decode cX8_meetFault 47 = .ok (.aload 4, 2) := by decide +kernel
theorem dX8_meetFault_49 : decode cX8_meetFault 49 = .ok (.iconst 0, 1) := by decide +kernel
theorem dX8_meetFault_50 : decode cX8_meetFault 50 = .ok (.iload_n 2, 1) := by decide +kernel
theorem dX8_meetFault_51 : decode cX8_meetFault 51 = .ok (.invokevirtual 356, 3) := by decide +kernel
theorem dX8_meetFault_54 : decode cX8_meetFault 54 = .ok (.aload_n 0, 1) := by decide +kernel
theorem dX8_meetFault_55 : decode cX8_meetFault 55 = .ok (.aload 4, 2) := by decide +kernel
theorem dX8_meetFault_57 : decode cX8_meetFault 57 = .ok (.iload_n 2, 1) := by decide +kernel
theorem dX8_meetFault_58 : decode cX8_meetFault 58 = .ok (.invokevirtual 360, 3) := by decide +kernel
theorem dX8_meetFault_61 : decode cX8_meetFault 61 = .ok (.iinc 3 1, 3) := by decide +kernel
theorem dX8_meetFault_64 : decode cX8_meetFault 64 = .ok (.goto (-53), 3) := by decide +kernel
theorem dX8_meetFault_67 : decode cX8_meetFault 67 = .ok (.aload_n 0, 1) := by decide +kernel
theorem dX8_meetFault_68 : decode cX8_meetFault 68 = .ok (.aconst_null, 1) := by decide +kernel
theorem dX8_meetFault_69 : decode cX8_meetFault 69 = .ok (.putfield 56, 3) := by decide +kernel
theorem dX8_meetFault_72 : decode cX8_meetFault 72 = .ok (.aload_n 0, 1) := by decide +kernel
theorem dX8_meetFault_73 : decode cX8_meetFault 73 = .ok (.aconst_null, 1) := by decide +kernel
theorem dX8_meetFault_74 : decode cX8_meetFault 74 = .ok (.putfield 69, 3) := by decide +kernel
theorem dX8_meetFault_77 : decode cX8_meetFault 77 = .ok (.iconst 0, 1) := by decide +kernel
theorem dX8_meetFault_78 : decode cX8_meetFault 78 = .ok (.istore_n 3, 1) := by decide +kernel
theorem dX8_meetFault_79 : decode cX8_meetFault 79 = .ok (.iload_n 3, 1) := by decide +kernel
theorem dX8_meetFault_80 : decode cX8_meetFault 80 = .ok (.aload_n 0, 1) := by decide +kernel
theorem dX8_meetFault_81 : decode cX8_meetFault 81 = .ok (.getfield 25, 3) := by decide +kernel
theorem dX8_meetFault_84 : decode cX8_meetFault 84 = .ok (.invokevirtual 75, 3) := by decide +kernel
theorem dX8_meetFault_87 : decode cX8_meetFault 87 = .ok (.if_icmp .ge 23, 3) := by decide +kernel
theorem dX8_meetFault_90 : decode cX8_meetFault 90 = .ok (.aload_n 0, 1) := by decide +kernel
theorem dX8_meetFault_91 : decode cX8_meetFault 91 = .ok (.getfield 25, 3) := by decide +kernel
theorem dX8_meetFault_94 : decode cX8_meetFault 94 = .ok (.iload_n 3, 1) := by decide +kernel
theorem dX8_meetFault_95 : decode cX8_meetFault 95 = .ok (.invokevirtual 99, 3) := by decide +kernel
theorem dX8_meetFault_98 : decode cX8_meetFault 98 = .ok (.checkcast 161, 3) := by decide +kernel
theorem dX8_meetFault_101 : decode cX8_meetFault 101 = .ok (.invokevirtual 392, 3) := by decide +kernel
theorem dX8_meetFault_104 : decode cX8_meetFault 104 = .ok (.iinc 3 1, 3) := by decide +kernel
theorem dX8_meetFault_107 : decode cX8_meetFault 107 = .ok (.goto (-28), 3) := by decide +kernel
theorem dX8_meetFault_110 : decode cX8_meetFault 110 = .ok (.return_, 1) := by decide +kernel
theorem dX8_flashIfDue_0 : decode cX8_flashIfDue 0 = .ok (.aload_n 0, 1) := by decide +kernel
theorem dX8_flashIfDue_1 : decode cX8_flashIfDue 1 = .ok (.getfield 38, 3) := by decide +kernel
theorem dX8_flashIfDue_4 : decode cX8_flashIfDue 4 = .ok (.getfield 179, 3) := by decide +kernel
theorem dX8_flashIfDue_7 : decode cX8_flashIfDue 7 = .ok (.iconst 1, 1) := by decide +kernel
theorem dX8_flashIfDue_8 : decode cX8_flashIfDue 8 = .ok (.if_icmp .ne 16, 3) := by decide +kernel
theorem dX8_flashIfDue_11 : decode cX8_flashIfDue 11 = .ok (.iload_n 1, 1) := by decide +kernel
theorem dX8_flashIfDue_12 : decode cX8_flashIfDue 12 = .ok (.aload_n 0, 1) := by decide +kernel
theorem dX8_flashIfDue_13 : decode cX8_flashIfDue 13 = .ok (.getfield 38, 3) := by decide +kernel
theorem dX8_flashIfDue_16 : decode cX8_flashIfDue 16 = .ok (.getfield 272, 3) := by decide +kernel
theorem dX8_flashIfDue_19 : decode cX8_flashIfDue 19 = .ok (.isub, 1) := by decide +kernel
theorem dX8_flashIfDue_20 : decode cX8_flashIfDue 20 = .ok (.iconst 3, 1) := by decide +kernel
theorem dX8_flashIfDue_21 : decode cX8_flashIfDue 21 = .ok (.if_icmp .ge 4, 3) := by decide +kernel
theorem dX8_flashIfDue_24 : decode cX8_flashIfDue 24 = .ok (.return_, 1) := by decide +kernel
theorem dX8_flashIfDue_25 : decode cX8_flashIfDue 25 = .ok (.aload_n 0, 1) := by decide +kernel
theorem dX8_flashIfDue_26 : decode cX8_flashIfDue 26 = .ok (.iconst 3, 1) := by decide +kernel
theorem dX8_flashIfDue_27 : decode cX8_flashIfDue 27 = .ok (.invokevirtual 200, 3) := by decide +kernel
theorem dX8_flashIfDue_30 : decode cX8_flashIfDue 30 = .ok (.aload_n 0, 1) := by decide +kernel
theorem dX8_flashIfDue_31 : decode cX8_flashIfDue 31 = .ok (.getfield 38, 3) := by decide +kernel
theorem dX8_flashIfDue_34 : decode cX8_flashIfDue 34 = .ok (.iconst 2, 1) := by decide +kernel
theorem dX8_flashIfDue_35 : decode cX8_flashIfDue 35 = .ok (.putfield 179, 3) := by decide +kernel
theorem dX8_flashIfDue_38 : decode cX8_flashIfDue 38 = .ok (.return_, 1) := by decide +kernel
end
section
theorem dJ9_floorMod_7cf53_0 : decode cJ9_floorMod_7cf53 0 = .ok (.iload_n 0, 1) := by decide +kernel
theorem dJ9_floorMod_7cf53_1 : decode cJ9_floorMod_7cf53 1 = .ok (.iload_n 1, 1) := by decide +kernel
theorem dJ9_floorMod_7cf53_2 : decode cJ9_floorMod_7cf53 2 = .ok (.irem, 1) := by decide +kernel
theorem dJ9_floorMod_7cf53_3 : decode cJ9_floorMod_7cf53 3 = .ok (.istore_n 2, 1) := by decide +kernel
theorem dJ9_floorMod_7cf53_4 : decode cJ9_floorMod_7cf53 4 = .ok (.iload_n 0, 1) := by decide +kernel
theorem dJ9_floorMod_7cf53_5 : decode cJ9_floorMod_7cf53 5 = .ok (.iload_n 1, 1) := by decide +kernel
theorem dJ9_floorMod_7cf53_6 : decode cJ9_floorMod_7cf53 6 = .ok (.ixor, 1) := by decide +kernel
theorem dJ9_floorMod_7cf53_7 : decode cJ9_floorMod_7cf53 7 = .ok (.ifCond .ge 11, 3) := by decide +kernel
theorem dJ9_floorMod_7cf53_10 : decode cJ9_floorMod_7cf53 10 = .ok (.iload_n 2, 1) := by decide +kernel
theorem dJ9_floorMod_7cf53_11 : decode cJ9_floorMod_7cf53 11 = .ok (.ifCond .eq 7, 3) := by decide +kernel
theorem dJ9_floorMod_7cf53_14 : decode cJ9_floorMod_7cf53 14 = .ok (.iload_n 2, 1) := by decide +kernel
theorem dJ9_floorMod_7cf53_15 : decode cJ9_floorMod_7cf53 15 = .ok (.iload_n 1, 1) := by decide +kernel
theorem dJ9_floorMod_7cf53_16 : decode cJ9_floorMod_7cf53 16 = .ok (.iadd, 1) := by decide +kernel
theorem dJ9_floorMod_7cf53_17 : decode cJ9_floorMod_7cf53 17 = .ok (.ireturn, 1) := by decide +kernel
theorem dJ9_floorMod_7cf53_18 : decode cJ9_floorMod_7cf53 18 = .ok (.iload_n 2, 1) := by decide +kernel
theorem dJ9_floorMod_7cf53_19 : decode cJ9_floorMod_7cf53 19 = .ok (.ireturn, 1) := by decide +kernel
theorem dJ9_max_7cf53_0 : decode cJ9_max_7cf53 0 = .ok (.iload_n 0, 1) := by decide +kernel
theorem dJ9_max_7cf53_1 : decode cJ9_max_7cf53 1 = .ok (.iload_n 1, 1) := by decide +kernel
theorem dJ9_max_7cf53_2 : decode cJ9_max_7cf53 2 = .ok (.if_icmp .lt 7, 3) := by decide +kernel
theorem dJ9_max_7cf53_5 : decode cJ9_max_7cf53 5 = .ok (.iload_n 0, 1) := by decide +kernel
theorem dJ9_max_7cf53_6 : decode cJ9_max_7cf53 6 = .ok (.goto 4, 3) := by decide +kernel
theorem dJ9_max_7cf53_9 : decode cJ9_max_7cf53 9 = .ok (.iload_n 1, 1) := by decide +kernel
theorem dJ9_max_7cf53_10 : decode cJ9_max_7cf53 10 = .ok (.ireturn, 1) := by decide +kernel
theorem dJ9_min_7cf53_0 : decode cJ9_min_7cf53 0 = .ok (.iload_n 0, 1) := by decide +kernel
theorem dJ9_min_7cf53_1 : decode cJ9_min_7cf53 1 = .ok (.iload_n 1, 1) := by decide +kernel
theorem dJ9_min_7cf53_2 : decode cJ9_min_7cf53 2 = .ok (.if_icmp .gt 7, 3) := by decide +kernel
theorem dJ9_min_7cf53_5 : decode cJ9_min_7cf53 5 = .ok (.iload_n 0, 1) := by decide +kernel
theorem dJ9_min_7cf53_6 : decode cJ9_min_7cf53 6 = .ok (.goto 4, 3) := by decide +kernel
theorem dJ9_min_7cf53_9 : decode cJ9_min_7cf53 9 = .ok (.iload_n 1, 1) := by decide +kernel
theorem dJ9_min_7cf53_10 : decode cJ9_min_7cf53 10 = .ok (.ireturn, 1) := by decide +kernel
theorem dJxa1e45_init_da8c8_0 : decode cJxa1e45_init_da8c8 0 = .ok (.aload_n 0, 1) := by decide +kernel
theorem dJxa1e45_init_da8c8_1 : decode cJxa1e45_init_da8c8 1 = .ok (.invokespecial 1, 3) := by decide +kernel
theorem dJxa1e45_init_da8c8_4 : decode cJxa1e45_init_da8c8 4 = .ok (.return_, 1) := by decide +kernel
theorem dJxc12de_init_da8c8_0 : decode cJxc12de_init_da8c8 0 = .ok (.aload_n 0, 1) := by decide +kernel
theorem dJxc12de_init_da8c8_1 : decode cJxc12de_init_da8c8 1 = .ok (.invokespecial 1, 3) := by decide +kernel
theorem dJxc12de_init_da8c8_4 : decode cJxc12de_init_da8c8 4 = .ok (.aload_n 0, 1) := by decide +kernel
theorem dJxc12de_init_da8c8_5 : decode cJxc12de_init_da8c8 5 = .ok (.iconst 0, 1) := by decide +kernel
theorem dJxc12de_init_da8c8_6 : decode cJxc12de_init_da8c8 6 = .ok (.putfield 7, 3) := by decide +kernel
theorem dJxc12de_init_da8c8_9 : decode cJxc12de_init_da8c8 9 = .ok (.return_, 1) := by decide +kernel
theorem dJx4a65c_init_da8c8_0 : decode cJx4a65c_init_da8c8 0 = .ok (.aload_n 0, 1) := by decide +kernel
theorem dJx4a65c_init_da8c8_1 : decode cJx4a65c_init_da8c8 1 = .ok (.invokespecial 1, 3) := by decide +kernel
theorem dJx4a65c_init_da8c8_4 : decode cJx4a65c_init_da8c8 4 = .ok (.aload_n 0, 1) := by decide +kernel
theorem dJx4a65c_init_da8c8_5 : decode cJx4a65c_init_da8c8 5 = .ok (.getstatic 39, 3) := by decide +kernel
theorem dJx4a65c_init_da8c8_8 : decode cJx4a65c_init_da8c8 8 = .ok (.putfield 9, 3) := by decide +kernel
theorem dJx4a65c_init_da8c8_11 : decode cJx4a65c_init_da8c8 11 = .ok (.return_, 1) := by decide +kernel
theorem dJx4a65c_grow_92f84_0 : decode cJx4a65c_grow_92f84 0 = .ok (.aload_n 0, 1) := by decide +kernel
theorem dJx4a65c_grow_92f84_1 : decode cJx4a65c_grow_92f84 1 = .ok (.getfield 9, 3) := by decide +kernel
theorem dJx4a65c_grow_92f84_4 : decode cJx4a65c_grow_92f84 4 = .ok (.arraylength, 1) := by decide +kernel
theorem dJx4a65c_grow_92f84_5 : decode cJx4a65c_grow_92f84 5 = .ok (.istore_n 2, 1) := by decide +kernel
theorem dJx4a65c_grow_92f84_6 : decode cJx4a65c_grow_92f84 6 = .ok (.iload_n 2, 1) := by decide +kernel
theorem dJx4a65c_grow_92f84_7 : decode cJx4a65c_grow_92f84 7 = .ok (.ifCond .gt 13, 3) := by decide +kernel
theorem dJx4a65c_grow_92f84_10 : decode cJx4a65c_grow_92f84 10 = .ok (.aload_n 0, 1) := by decide +kernel
theorem dJx4a65c_grow_92f84_11 : decode cJx4a65c_grow_92f84 11 = .ok (.getfield 9, 3) := by decide +kernel
theorem dJx4a65c_grow_92f84_14 : decode cJx4a65c_grow_92f84 14 = .ok (.getstatic 39, 3) := by decide +kernel
theorem dJx4a65c_grow_92f84_17 : decode cJx4a65c_grow_92f84 17 = .ok (.if_acmp .eq 28, 3) := by decide +kernel
theorem dJx4a65c_grow_92f84_20 : decode cJx4a65c_grow_92f84 20 = .ok (.iload_n 2, 1) := by decide +kernel
theorem dJx4a65c_grow_92f84_21 : decode cJx4a65c_grow_92f84 21 = .ok (.iload_n 1, 1) := by decide +kernel
theorem dJx4a65c_grow_92f84_22 : decode cJx4a65c_grow_92f84 22 = .ok (.iload_n 2, 1) := by decide +kernel
theorem dJx4a65c_grow_92f84_23 : decode cJx4a65c_grow_92f84 23 = .ok (.isub, 1) := by decide +kernel
theorem dJx4a65c_grow_92f84_24 : decode cJx4a65c_grow_92f84 24 = .ok (.iload_n 2, 1) := by decide +kernel
theorem dJx4a65c_grow_92f84_25 : decode cJx4a65c_grow_92f84 25 = .ok (.iconst 1, 1) := by decide +kernel
theorem dJx4a65c_grow_92f84_26 : decode cJx4a65c_grow_92f84 26 = .ok (.ishr, 1) := by decide +kernel
theorem dJx4a65c_grow_92f84_27 : decode cJx4a65c_grow_92f84 27 = .ok (.invokestatic 73, 3) := by decide +kernel
theorem dJx4a65c_grow_92f84_30 : decode cJx4a65c_grow_92f84 30 = .ok (.istore_n 3, 1) := by decide +kernel
theorem dJx4a65c_grow_92f84_31 : decode cJx4a65c_grow_92f84 31 = .ok (.aload_n 0, 1) := by decide +kernel
theorem dJx4a65c_grow_92f84_32 : decode cJx4a65c_grow_92f84 32 = .ok (.aload_n 0, 1) := by decide +kernel
theorem dJx4a65c_grow_92f84_33 : decode cJx4a65c_grow_92f84 33 = .ok (.getfield 9, 3) := by decide +kernel
theorem dJx4a65c_grow_92f84_36 : decode cJx4a65c_grow_92f84 36 = .ok (.iload_n 3, 1) := by decide +kernel
theorem dJx4a65c_grow_92f84_37 : decode cJx4a65c_grow_92f84 37 = .ok (.invokestatic 66, 3) := by decide +kernel
theorem dJx4a65c_grow_92f84_40 : decode cJx4a65c_grow_92f84 40 = .ok (.dup_x1, 1) := by decide +kernel
theorem dJx4a65c_grow_92f84_41 : decode cJx4a65c_grow_92f84 41 = .ok (.putfield 9, 3) := by decide +kernel
theorem dJx4a65c_grow_92f84_44 : decode cJx4a65c_grow_92f84 44 = .ok (.areturn, 1) := by decide +kernel
theorem dJx4a65c_grow_92f84_45 : decode cJx4a65c_grow_92f84 45 = .ok (.aload_n 0, 1) := by decide +kernel
theorem dJx4a65c_grow_92f84_46 : decode cJx4a65c_grow_92f84 46 = .ok (.bipush 10, 2) := by decide +kernel
theorem dJx4a65c_grow_92f84_48 : decode cJx4a65c_grow_92f84 48 = .ok (.iload_n 1, 1) := by decide +kernel
theorem dJx4a65c_grow_92f84_49 : decode cJx4a65c_grow_92f84 49 = .ok (.invokestatic 79, 3) := by decide +kernel
theorem dJx4a65c_grow_92f84_52 : decode cJx4a65c_grow_92f84 52 = .ok (.anewarray 7, 3) := by decide +kernel
theorem dJx4a65c_grow_92f84_55 : decode cJx4a65c_grow_92f84 55 = .ok (.dup_x1, 1) := by decide +kernel
theorem dJx4a65c_grow_92f84_56 : decode cJx4a65c_grow_92f84 56 = .ok (.putfield 9, 3) := by decide +kernel
theorem dJx4a65c_grow_92f84_59 : decode cJx4a65c_grow_92f84 59 = .ok (.areturn, 1) := by decide +kernel
theorem dJx4a65c_grow_d5877_0 : decode cJx4a65c_grow_d5877 0 = .ok (.aload_n 0, 1) := by decide +kernel
theorem dJx4a65c_grow_d5877_1 : decode cJx4a65c_grow_d5877 1 = .ok (.aload_n 0, 1) := by decide +kernel
theorem dJx4a65c_grow_d5877_2 : decode cJx4a65c_grow_d5877 2 = .ok (.getfield 48, 3) := by decide +kernel
theorem dJx4a65c_grow_d5877_5 : decode cJx4a65c_grow_d5877 5 = .ok (.iconst 1, 1) := by decide +kernel
theorem dJx4a65c_grow_d5877_6 : decode cJx4a65c_grow_d5877 6 = .ok (.iadd, 1) := by decide +kernel
theorem dJx4a65c_grow_d5877_7 : decode cJx4a65c_grow_d5877 7 = .ok (.invokevirtual 69, 3) := by decide +kernel
theorem dJx4a65c_grow_d5877_10 : decode cJx4a65c_grow_d5877 10 = .ok (.areturn, 1) := by decide +kernel
theorem dJx4a65c_size_8abf5_0 : decode cJx4a65c_size_8abf5 0 = .ok (.aload_n 0, 1) := by decide +kernel
theorem dJx4a65c_size_8abf5_1 : decode cJx4a65c_size_8abf5 1 = .ok (.getfield 48, 3) := by decide +kernel
theorem dJx4a65c_size_8abf5_4 : decode cJx4a65c_size_8abf5 4 = .ok (.ireturn, 1) := by decide +kernel
theorem dJx4a65c_elementData_915e3_0 : decode cJx4a65c_elementData_915e3 0 = .ok (.aload_n 0, 1) := by decide +kernel
theorem dJx4a65c_elementData_915e3_1 : decode cJx4a65c_elementData_915e3 1 = .ok (.getfield 9, 3) := by decide +kernel
theorem dJx4a65c_elementData_915e3_4 : decode cJx4a65c_elementData_915e3 4 = .ok (.iload_n 1, 1) := by decide +kernel
theorem dJx4a65c_elementData_915e3_5 : decode cJx4a65c_elementData_915e3 5 = .ok (.aaload, 1) := by decide +kernel
theorem dJx4a65c_elementData_915e3_6 : decode cJx4a65c_elementData_915e3 6 = .ok (.areturn, 1) := by decide +kernel
theorem dJx4a65c_get_915e3_0 : decode cJx4a65c_get_915e3 0 = .ok (.iload_n 1, 1) := by decide +kernel
theorem dJx4a65c_get_915e3_1 : decode cJx4a65c_get_915e3 1 = .ok (.aload_n 0, 1) := by decide +kernel
theorem dJx4a65c_get_915e3_2 : decode cJx4a65c_get_915e3 2 = .ok (.getfield 48, 3) := by decide +kernel
theorem dJx4a65c_get_915e3_5 : decode cJx4a65c_get_915e3 5 = .ok (.invokestatic 118, 3) := by decide +kernel
theorem dJx4a65c_get_915e3_8 : decode cJx4a65c_get_915e3 8 = .ok (.pop, 1) := by decide +kernel
theorem dJx4a65c_get_915e3_9 : decode cJx4a65c_get_915e3 9 = .ok (.aload_n 0, 1) := by decide +kernel
theorem dJx4a65c_get_915e3_10 : decode cJx4a65c_get_915e3 10 = .ok (.iload_n 1, 1) := by decide +kernel
theorem dJx4a65c_get_915e3_11 : decode cJx4a65c_get_915e3 11 = .ok (.invokevirtual 123, 3) := by decide +kernel
theorem dJx4a65c_get_915e3_14 : decode cJx4a65c_get_915e3 14 = .ok (.areturn, 1) := by decide +kernel
theorem dJx4a65c_add_72be8_0 : decode cJx4a65c_add_72be8 0 = .ok (.iload_n 3, 1) := by decide +kernel
theorem dJx4a65c_add_72be8_1 : decode cJx4a65c_add_72be8 1 = .ok (.aload_n 2, 1) := by decide +kernel
theorem dJx4a65c_add_72be8_2 : decode cJx4a65c_add_72be8 2 = .ok (.arraylength, 1) := by decide +kernel
theorem dJx4a65c_add_72be8_3 : decode cJx4a65c_add_72be8 3 = .ok (.if_icmp .ne 8, 3) := by decide +kernel
theorem dJx4a65c_add_72be8_6 : decode cJx4a65c_add_72be8 6 = .ok (.aload_n 0, 1) := by decide +kernel
theorem dJx4a65c_add_72be8_7 : decode cJx4a65c_add_72be8 7 = .ok (.invokevirtual 129, 3) := by decide +kernel
theorem dJx4a65c_add_72be8_10 : decode cJx4a65c_add_72be8 10 = .ok (.astore_n 2, 1) := by decide +kernel
theorem dJx4a65c_add_72be8_11 : decode cJx4a65c_add_72be8 11 = .ok (.aload_n 2, 1) := by decide +kernel
theorem dJx4a65c_add_72be8_12 : decode cJx4a65c_add_72be8 12 = .ok (.iload_n 3, 1) := by decide +kernel
theorem dJx4a65c_add_72be8_13 : decode cJx4a65c_add_72be8 13 = .ok (.aload_n 1, 1) := by decide +kernel
theorem dJx4a65c_add_72be8_14 : decode cJx4a65c_add_72be8 14 = .ok (.aastore, 1) := by decide +kernel
theorem dJx4a65c_add_72be8_15 : decode cJx4a65c_add_72be8 15 = .ok (.aload_n 0, 1) := by decide +kernel
theorem dJx4a65c_add_72be8_16 : decode cJx4a65c_add_72be8 16 = .ok (.iload_n 3, 1) := by decide +kernel
theorem dJx4a65c_add_72be8_17 : decode cJx4a65c_add_72be8 17 = .ok (.iconst 1, 1) := by decide +kernel
theorem dJx4a65c_add_72be8_18 : decode cJx4a65c_add_72be8 18 = .ok (.iadd, 1) := by decide +kernel
theorem dJx4a65c_add_72be8_19 : decode cJx4a65c_add_72be8 19 = .ok (.putfield 48, 3) := by decide +kernel
theorem dJx4a65c_add_72be8_22 : decode cJx4a65c_add_72be8 22 = .ok (.return_, 1) := by decide +kernel
theorem dJx4a65c_add_9ea2d_0 : decode cJx4a65c_add_9ea2d 0 = .ok (.aload_n 0, 1) := by decide +kernel
theorem dJx4a65c_add_9ea2d_1 : decode cJx4a65c_add_9ea2d 1 = .ok (.dup, 1) := by decide +kernel
theorem dJx4a65c_add_9ea2d_2 : decode cJx4a65c_add_9ea2d 2 = .ok (.getfield 63, 3) := by decide +kernel
theorem dJx4a65c_add_9ea2d_5 : decode cJx4a65c_add_9ea2d 5 = .ok (.iconst 1, 1) := by decide +kernel
theorem dJx4a65c_add_9ea2d_6 : decode cJx4a65c_add_9ea2d 6 = .ok (.iadd, 1) := by decide +kernel
theorem dJx4a65c_add_9ea2d_7 : decode cJx4a65c_add_9ea2d 7 = .ok (.putfield 63, 3) := by decide +kernel
theorem dJx4a65c_add_9ea2d_10 : decode cJx4a65c_add_9ea2d 10 = .ok (.aload_n 0, 1) := by decide +kernel
theorem dJx4a65c_add_9ea2d_11 : decode cJx4a65c_add_9ea2d 11 = .ok (.aload_n 1, 1) := by decide +kernel
theorem dJx4a65c_add_9ea2d_12 : decode cJx4a65c_add_9ea2d 12 = .ok (.aload_n 0, 1) := by decide +kernel
theorem dJx4a65c_add_9ea2d_13 : decode cJx4a65c_add_9ea2d 13 = .ok (.getfield 9, 3) := by decide +kernel
theorem dJx4a65c_add_9ea2d_16 : decode cJx4a65c_add_9ea2d 16 = .ok (.aload_n 0, 1) := by decide +kernel
theorem dJx4a65c_add_9ea2d_17 : decode cJx4a65c_add_9ea2d 17 = .ok (.getfield 48, 3) := by decide +kernel
theorem dJx4a65c_add_9ea2d_20 : decode cJx4a65c_add_9ea2d 20 = .ok (.invokevirtual 131, 3) := by decide +kernel
theorem dJx4a65c_add_9ea2d_23 : decode cJx4a65c_add_9ea2d 23 = .ok (.iconst 1, 1) := by decide +kernel
theorem dJx4a65c_add_9ea2d_24 : decode cJx4a65c_add_9ea2d 24 = .ok (.ireturn, 1) := by decide +kernel
theorem dJx4a65c_remove_915e3_0 : decode cJx4a65c_remove_915e3 0 = .ok (.iload_n 1, 1) := by decide +kernel
theorem dJx4a65c_remove_915e3_1 : decode cJx4a65c_remove_915e3 1 = .ok (.aload_n 0, 1) := by decide +kernel
theorem dJx4a65c_remove_915e3_2 : decode cJx4a65c_remove_915e3 2 = .ok (.getfield 48, 3) := by decide +kernel
theorem dJx4a65c_remove_915e3_5 : decode cJx4a65c_remove_915e3 5 = .ok (.invokestatic 118, 3) := by decide +kernel
theorem dJx4a65c_remove_915e3_8 : decode cJx4a65c_remove_915e3 8 = .ok (.pop, 1) := by decide +kernel
theorem dJx4a65c_remove_915e3_9 : decode cJx4a65c_remove_915e3 9 = .ok (.aload_n 0, 1) := by decide +kernel
theorem dJx4a65c_remove_915e3_10 : decode cJx4a65c_remove_915e3 10 = .ok (.getfield 9, 3) := by decide +kernel
theorem dJx4a65c_remove_915e3_13 : decode cJx4a65c_remove_915e3 13 = .ok (.astore_n 2, 1) := by decide +kernel
theorem dJx4a65c_remove_915e3_14 : decode cJx4a65c_remove_915e3 14 = .ok (.aload_n 2, 1) := by decide +kernel
theorem dJx4a65c_remove_915e3_15 : decode cJx4a65c_remove_915e3 15 = .ok (.iload_n 1, 1) := by decide +kernel
theorem dJx4a65c_remove_915e3_16 : decode cJx4a65c_remove_915e3 16 = .ok (.aaload, 1) := by decide +kernel
theorem dJx4a65c_remove_915e3_17 : decode cJx4a65c_remove_915e3 17 = .ok (.astore_n 3, 1) := by decide +kernel
theorem dJx4a65c_remove_915e3_18 : decode cJx4a65c_remove_915e3 18 = .ok (.aload_n 0, 1) := by decide +kernel
theorem dJx4a65c_remove_915e3_19 : decode cJx4a65c_remove_915e3 19 = .ok (.aload_n 2, 1) := by decide +kernel
theorem dJx4a65c_remove_915e3_20 : decode cJx4a65c_remove_915e3 20 = .ok (.iload_n 1, 1) := by decide +kernel
theorem dJx4a65c_remove_915e3_21 : decode cJx4a65c_remove_915e3 21 = .ok (.invokevirtual 144, 3) := by decide +kernel
theorem dJx4a65c_remove_915e3_24 : decode cJx4a65c_remove_915e3 24 = .ok (.aload_n 3, 1) := by decide +kernel
theorem dJx4a65c_remove_915e3_25 : decode cJx4a65c_remove_915e3 25 = .ok (.areturn, 1) := by decide +kernel
theorem dJx4a65c_fastRemove_b59b0_0 : decode cJx4a65c_fastRemove_b59b0 0 = .ok (.aload_n 0, 1) := by decide +kernel
theorem dJx4a65c_fastRemove_b59b0_1 : decode cJx4a65c_fastRemove_b59b0 1 = .ok (.dup, 1) := by decide +kernel
theorem dJx4a65c_fastRemove_b59b0_2 : decode cJx4a65c_fastRemove_b59b0 2 = .ok (.getfield 63, 3) := by decide +kernel
theorem dJx4a65c_fastRemove_b59b0_5 : decode cJx4a65c_fastRemove_b59b0 5 = .ok (.iconst 1, 1) := by decide +kernel
theorem dJx4a65c_fastRemove_b59b0_6 : decode cJx4a65c_fastRemove_b59b0 6 = .ok (.iadd, 1) := by decide +kernel
theorem dJx4a65c_fastRemove_b59b0_7 : decode cJx4a65c_fastRemove_b59b0 7 = .ok (.putfield 63, 3) := by decide +kernel
theorem dJx4a65c_fastRemove_b59b0_10 : decode cJx4a65c_fastRemove_b59b0 10 = .ok (.aload_n 0, 1) := by decide +kernel
theorem dJx4a65c_fastRemove_b59b0_11 : decode cJx4a65c_fastRemove_b59b0 11 = .ok (.getfield 48, 3) := by decide +kernel
theorem dJx4a65c_fastRemove_b59b0_14 : decode cJx4a65c_fastRemove_b59b0 14 = .ok (.iconst 1, 1) := by decide +kernel
theorem dJx4a65c_fastRemove_b59b0_15 : decode cJx4a65c_fastRemove_b59b0 15 = .ok (.isub, 1) := by decide +kernel
theorem dJx4a65c_fastRemove_b59b0_16 : decode cJx4a65c_fastRemove_b59b0 16 = .ok (.dup, 1) := by decide +kernel
theorem dJx4a65c_fastRemove_b59b0_17 : decode cJx4a65c_fastRemove_b59b0 17 = .ok (.istore_n 3, 1) := by decide +kernel
theorem dJx4a65c_fastRemove_b59b0_18 : decode cJx4a65c_fastRemove_b59b0 18 = .ok (.iload_n 2, 1) := by decide +kernel
theorem dJx4a65c_fastRemove_b59b0_19 : decode cJx4a65c_fastRemove_b59b0 19 = .ok (.if_icmp .le 15, 3) := by decide +kernel
theorem dJx4a65c_fastRemove_b59b0_22 : decode cJx4a65c_fastRemove_b59b0 22 = .ok (.aload_n 1, 1) := by decide +kernel
theorem dJx4a65c_fastRemove_b59b0_23 : decode cJx4a65c_fastRemove_b59b0 23 = .ok (.iload_n 2, 1) := by decide +kernel
theorem dJx4a65c_fastRemove_b59b0_24 : decode cJx4a65c_fastRemove_b59b0 24 = .ok (.iconst 1, 1) := by decide +kernel
theorem dJx4a65c_fastRemove_b59b0_25 : decode cJx4a65c_fastRemove_b59b0 25 = .ok (.iadd, 1) := by decide +kernel
theorem dJx4a65c_fastRemove_b59b0_26 : decode cJx4a65c_fastRemove_b59b0 26 = .ok (.aload_n 1, 1) := by decide +kernel
theorem dJx4a65c_fastRemove_b59b0_27 : decode cJx4a65c_fastRemove_b59b0 27 = .ok (.iload_n 2, 1) := by decide +kernel
theorem dJx4a65c_fastRemove_b59b0_28 : decode cJx4a65c_fastRemove_b59b0 28 = .ok (.iload_n 3, 1) := by decide +kernel
theorem dJx4a65c_fastRemove_b59b0_29 : decode cJx4a65c_fastRemove_b59b0 29 = .ok (.iload_n 2, 1) := by decide +kernel
theorem dJx4a65c_fastRemove_b59b0_30 : decode cJx4a65c_fastRemove_b59b0 30 = .ok (.isub, 1) := by decide +kernel
theorem dJx4a65c_fastRemove_b59b0_31 : decode cJx4a65c_fastRemove_b59b0 31 = .ok (.invokestatic 112, 3) := by decide +kernel
theorem dJx4a65c_fastRemove_b59b0_34 : decode cJx4a65c_fastRemove_b59b0 34 = .ok (.aload_n 1, 1) := by decide +kernel
theorem dJx4a65c_fastRemove_b59b0_35 : decode cJx4a65c_fastRemove_b59b0 35 = .ok (.aload_n 0, 1) := by decide +kernel
theorem dJx4a65c_fastRemove_b59b0_36 : decode cJx4a65c_fastRemove_b59b0 36 = .ok (.iload_n 3, 1) := by decide +kernel
theorem dJx4a65c_fastRemove_b59b0_37 : decode cJx4a65c_fastRemove_b59b0 37 = .ok (.dup_x1, 1) := by decide +kernel
theorem dJx4a65c_fastRemove_b59b0_38 : decode cJx4a65c_fastRemove_b59b0 38 = .ok (.putfield 48, 3) := by decide +kernel
theorem dJx4a65c_fastRemove_b59b0_41 : decode cJx4a65c_fastRemove_b59b0 41 = .ok (.aconst_null, 1) := by decide +kernel
theorem dJx4a65c_fastRemove_b59b0_42 : decode cJx4a65c_fastRemove_b59b0 42 = .ok (.aastore, 1) := by decide +kernel
theorem dJx4a65c_fastRemove_b59b0_43 : decode cJx4a65c_fastRemove_b59b0 43 = .ok (.return_, 1) := by decide +kernel
theorem dJ7_copyOf_1904c_0 : decode cJ7_copyOf_1904c 0 = .ok (.aload_n 0, 1) := by decide +kernel
theorem dJ7_copyOf_1904c_1 : decode cJ7_copyOf_1904c 1 = .ok (.iload_n 1, 1) := by decide +kernel
theorem dJ7_copyOf_1904c_2 : decode cJ7_copyOf_1904c 2 = .ok (.aload_n 0, 1) := by decide +kernel
theorem dJ7_copyOf_1904c_3 : decode cJ7_copyOf_1904c 3 = .ok (.invokevirtual 86, 3) := by decide +kernel
theorem dJ7_copyOf_1904c_6 : decode cJ7_copyOf_1904c 6 = .ok (.invokestatic 300, 3) := by decide +kernel
theorem dJ7_copyOf_1904c_9 : decode cJ7_copyOf_1904c 9 = .ok (.areturn, 1) := by decide +kernel
theorem dJ7_copyOf_6403c_0 : decode cJ7_copyOf_6403c 0 = .ok (.aload_n 2, 1) := by decide +kernel
theorem dJ7_copyOf_6403c_1 : decode cJ7_copyOf_6403c 1 = .ok (.ldc 110, 2) := by decide +kernel
theorem dJ7_copyOf_6403c_3 : decode cJ7_copyOf_6403c 3 = .ok (.if_acmp .ne 10, 3) := by decide +kernel
theorem dJ7_copyOf_6403c_6 : decode cJ7_copyOf_6403c 6 = .ok (.iload_n 1, 1) := by decide +kernel
theorem dJ7_copyOf_6403c_7 : decode cJ7_copyOf_6403c 7 = .ok (.anewarray 2, 3) := by decide +kernel
theorem dJ7_copyOf_6403c_10 : decode cJ7_copyOf_6403c 10 = .ok (.goto 14, 3) := by decide +kernel
theorem dJ7_copyOf_6403c_13 : decode cJ7_copyOf_6403c 13 = .ok (.aload_n 2, 1) := by decide +kernel
theorem dJ7_copyOf_6403c_14 : decode cJ7_copyOf_6403c 14 = .ok (.invokevirtual 90, 3) := by decide +kernel
theorem dJ7_copyOf_6403c_17 : decode cJ7_copyOf_6403c 17 = .ok (.iload_n 1, 1) := by decide +kernel
theorem dJ7_copyOf_6403c_18 : decode cJ7_copyOf_6403c 18 = .ok (.invokestatic 95, 3) := by decide +kernel
theorem dJ7_copyOf_6403c_21 : decode cJ7_copyOf_6403c 21 = .ok (.checkcast 110, 3) := by decide +kernel
theorem dJ7_copyOf_6403c_24 : decode cJ7_copyOf_6403c 24 = .ok (.astore_n 3, 1) := by decide +kernel
theorem dJ7_copyOf_6403c_25 : decode cJ7_copyOf_6403c 25 = .ok (.aload_n 0, 1) := by decide +kernel
theorem dJ7_copyOf_6403c_26 : decode cJ7_copyOf_6403c 26 = .ok (.iconst 0, 1) := by decide +kernel
theorem dJ7_copyOf_6403c_27 : decode cJ7_copyOf_6403c 27 = .ok (.aload_n 3, 1) := by decide +kernel
theorem dJ7_copyOf_6403c_28 : decode cJ7_copyOf_6403c 28 = .ok (.iconst 0, 1) := by decide +kernel
theorem dJ7_copyOf_6403c_29 : decode cJ7_copyOf_6403c 29 = .ok (.aload_n 0, 1) := by decide +kernel
theorem dJ7_copyOf_6403c_30 : decode cJ7_copyOf_6403c 30 = .ok (.arraylength, 1) := by decide +kernel
theorem dJ7_copyOf_6403c_31 : decode cJ7_copyOf_6403c 31 = .ok (.iload_n 1, 1) := by decide +kernel
theorem dJ7_copyOf_6403c_32 : decode cJ7_copyOf_6403c 32 = .ok (.invokestatic 304, 3) := by decide +kernel
theorem dJ7_copyOf_6403c_35 : decode cJ7_copyOf_6403c 35 = .ok (.invokestatic 150, 3) := by decide +kernel
theorem dJ7_copyOf_6403c_38 : decode cJ7_copyOf_6403c 38 = .ok (.aload_n 3, 1) := by decide +kernel
theorem dJ7_copyOf_6403c_39 : decode cJ7_copyOf_6403c 39 = .ok (.areturn, 1) := by decide +kernel
theorem dJ15_checkIndex_7cf53_0 : decode cJ15_checkIndex_7cf53 0 = .ok (.iload_n 0, 1) := by decide +kernel
theorem dJ15_checkIndex_7cf53_1 : decode cJ15_checkIndex_7cf53 1 = .ok (.iload_n 1, 1) := by decide +kernel
theorem dJ15_checkIndex_7cf53_2 : decode cJ15_checkIndex_7cf53 2 = .ok (.aconst_null, 1) := by decide +kernel
theorem dJ15_checkIndex_7cf53_3 : decode cJ15_checkIndex_7cf53 3 = .ok (.invokestatic 105, 3) := by decide +kernel
theorem dJ15_checkIndex_7cf53_6 : decode cJ15_checkIndex_7cf53 6 = .ok (.ireturn, 1) := by decide +kernel
theorem dJ8_newLength_cabcc_0 : decode cJ8_newLength_cabcc 0 = .ok (.iload_n 0, 1) := by decide +kernel
theorem dJ8_newLength_cabcc_1 : decode cJ8_newLength_cabcc 1 = .ok (.iload_n 1, 1) := by decide +kernel
theorem dJ8_newLength_cabcc_2 : decode cJ8_newLength_cabcc 2 = .ok (.iload_n 2, 1) := by decide +kernel
theorem dJ8_newLength_cabcc_3 : decode cJ8_newLength_cabcc 3 = .ok (.invokestatic 194, 3) := by decide +kernel
theorem dJ8_newLength_cabcc_6 : decode cJ8_newLength_cabcc 6 = .ok (.iadd, 1) := by decide +kernel
theorem dJ8_newLength_cabcc_7 : decode cJ8_newLength_cabcc 7 = .ok (.istore_n 3, 1) := by decide +kernel
theorem dJ8_newLength_cabcc_8 : decode cJ8_newLength_cabcc 8 = .ok (.iconst 0, 1) := by decide +kernel
theorem dJ8_newLength_cabcc_9 : decode cJ8_newLength_cabcc 9 = .ok (.iload_n 3, 1) := by decide +kernel
theorem dJ8_newLength_cabcc_10 : decode cJ8_newLength_cabcc 10 = .ok (.if_icmp .ge 11, 3) := by decide +kernel
theorem dJ8_newLength_cabcc_13 : decode cJ8_newLength_cabcc 13 = .ok (.iload_n 3, 1) := by decide +kernel
theorem dJ8_newLength_cabcc_14 : decode cJ8_newLength_cabcc 14 = .ok (.ldc 200, 2) := by decide +kernel
theorem dJ8_newLength_cabcc_16 : decode cJ8_newLength_cabcc 16 = .ok (.if_icmp .gt 5, 3) := by decide +kernel
theorem dJ8_newLength_cabcc_19 : decode cJ8_newLength_cabcc 19 = .ok (.iload_n 3, 1) := by decide +kernel
theorem dJ8_newLength_cabcc_20 : decode cJ8_newLength_cabcc 20 = .ok (.ireturn, 1) := by decide +kernel
theorem dJ8_newLength_cabcc_21 : decode cJ8_newLength_cabcc 21 = .ok (.iload_n 0, 1) := by decide +kernel
theorem dJ8_newLength_cabcc_22 : decode cJ8_newLength_cabcc 22 = .ok (.iload_n 1, 1) := by decide +kernel
theorem dJ8_newLength_cabcc_23 : decode cJ8_newLength_cabcc 23 = .ok (.invokestatic 201, 3) := by decide +kernel
theorem dJ8_newLength_cabcc_26 : decode cJ8_newLength_cabcc 26 = .ok (.ireturn, 1) := by decide +kernel
theorem dJ8_hugeLength_7cf53_0 : decode cJ8_hugeLength_7cf53 0 = .ok (.iload_n 0, 1) := by decide +kernel
theorem dJ8_hugeLength_7cf53_1 : decode cJ8_hugeLength_7cf53 1 = .ok (.iload_n 1, 1) := by decide +kernel
theorem dJ8_hugeLength_7cf53_2 : decode cJ8_hugeLength_7cf53 2 = .ok (.iadd, 1) := by decide +kernel
theorem dJ8_hugeLength_7cf53_3 : decode cJ8_hugeLength_7cf53 3 = .ok (.istore_n 2, 1) := by decide +kernel
theorem dJ8_hugeLength_7cf53_4 : decode cJ8_hugeLength_7cf53 4 = .ok (.iload_n 2, 1) := by decide +kernel
theorem dJ8_hugeLength_7cf53_5 : decode cJ8_hugeLength_7cf53 5 = .ok (.ifCond .ge 44, 3) := by decide +kernel
theorem dJ8_hugeLength_7cf53_8 : decode cJ8_hugeLength_7cf53 8 = .ok (.new 204, 3) := by decide +kernel
theorem dJ8_hugeLength_7cf53_11 : decode cJ8_hugeLength_7cf53 11 = .ok (.dup, 1) := by decide +kernel
theorem dJ8_hugeLength_7cf53_12 : decode cJ8_hugeLength_7cf53 12 = .ok (.new 89, 3) := by decide +kernel
theorem dJ8_hugeLength_7cf53_15 : decode cJ8_hugeLength_7cf53 15 = .ok (.dup, 1) := by decide +kernel
theorem dJ8_hugeLength_7cf53_16 : decode cJ8_hugeLength_7cf53 16 = .ok (.invokespecial 91, 3) := by decide +kernel
theorem dJ8_hugeLength_7cf53_19 : decode cJ8_hugeLength_7cf53 19 = .ok (.ldc 206, 2) := by decide +kernel
theorem dJ8_hugeLength_7cf53_21 : decode cJ8_hugeLength_7cf53 21 = .ok (.invokevirtual 94, 3) := by decide +kernel
theorem dJ8_hugeLength_7cf53_24 : decode cJ8_hugeLength_7cf53 24 = .ok (.iload_n 0, 1) := by decide +kernel
theorem dJ8_hugeLength_7cf53_25 : decode cJ8_hugeLength_7cf53 25 = .ok (.invokevirtual 98, 3) := by decide +kernel
theorem dJ8_hugeLength_7cf53_28 : decode cJ8_hugeLength_7cf53 28 = .ok (.ldc 208, 2) := by decide +kernel
theorem dJ8_hugeLength_7cf53_30 : decode cJ8_hugeLength_7cf53 30 = .ok (.invokevirtual 94, 3) := by decide +kernel
theorem dJ8_hugeLength_7cf53_33 : decode cJ8_hugeLength_7cf53 33 = .ok (.iload_n 1, 1) := by decide +kernel
theorem dJ8_hugeLength_7cf53_34 : decode cJ8_hugeLength_7cf53 34 = .ok (.invokevirtual 98, 3) := by decide +kernel
theorem dJ8_hugeLength_7cf53_37 : decode cJ8_hugeLength_7cf53 37 = .ok (.ldc 210, 2) := by decide +kernel
theorem dJ8_hugeLength_7cf53_39 : decode cJ8_hugeLength_7cf53 39 = .ok (.invokevirtual 94, 3) := by decide +kernel
theorem dJ8_hugeLength_7cf53_42 : decode cJ8_hugeLength_7cf53 42 = .ok (.invokevirtual 101, 3) := by decide +kernel
theorem dJ8_hugeLength_7cf53_45 : decode cJ8_hugeLength_7cf53 45 = .ok (.invokespecial 212, 3) := by decide +kernel
theorem dJ8_hugeLength_7cf53_48 : decode cJ8_hugeLength_7cf53 48 = .ok (.athrow, 1) := by decide +kernel
theorem dJ8_hugeLength_7cf53_49 : decode cJ8_hugeLength_7cf53 49 = .ok (.iload_n 2, 1) := by decide +kernel
theorem dJ8_hugeLength_7cf53_50 : decode cJ8_hugeLength_7cf53 50 = .ok (.ldc 200, 2) := by decide +kernel
theorem dJ8_hugeLength_7cf53_52 : decode cJ8_hugeLength_7cf53 52 = .ok (.if_icmp .gt 6, 3) := by decide +kernel
theorem dJ8_hugeLength_7cf53_55 : decode cJ8_hugeLength_7cf53 55 = .ok (.ldc 200, 2) := by decide +kernel
theorem dJ8_hugeLength_7cf53_57 : decode cJ8_hugeLength_7cf53 57 = .ok (.ireturn, 1) := by decide +kernel
theorem dJ8_hugeLength_7cf53_58 : decode cJ8_hugeLength_7cf53 58 = .ok (.iload_n 2, 1) := by decide +kernel
theorem dJ8_hugeLength_7cf53_59 : decode cJ8_hugeLength_7cf53 59 = .ok (.ireturn, 1) := by decide +kernel
theorem dJ3_checkIndex_8e157_0 : decode cJ3_checkIndex_8e157 0 = .ok (.iload_n 0, 1) := by decide +kernel
theorem dJ3_checkIndex_8e157_1 : decode cJ3_checkIndex_8e157 1 = .ok (.ifCond .lt 8, 3) := by decide +kernel
theorem dJ3_checkIndex_8e157_4 : decode cJ3_checkIndex_8e157 4 = .ok (.iload_n 0, 1) := by decide +kernel
theorem dJ3_checkIndex_8e157_5 : decode cJ3_checkIndex_8e157 5 = .ok (.iload_n 1, 1) := by decide +kernel
theorem dJ3_checkIndex_8e157_6 : decode cJ3_checkIndex_8e157 6 = .ok (.if_icmp .lt 10, 3) := by decide +kernel
theorem dJ3_checkIndex_8e157_9 : decode cJ3_checkIndex_8e157 9 = .ok (.aload_n 2, 1) := by decide +kernel
theorem dJ3_checkIndex_8e157_10 : decode cJ3_checkIndex_8e157 10 = .ok (.iload_n 0, 1) := by decide +kernel
theorem dJ3_checkIndex_8e157_11 : decode cJ3_checkIndex_8e157 11 = .ok (.iload_n 1, 1) := by decide +kernel
theorem dJ3_checkIndex_8e157_12 : decode cJ3_checkIndex_8e157 12 = .ok (.invokestatic 95, 3) := by decide +kernel
theorem dJ3_checkIndex_8e157_15 : decode cJ3_checkIndex_8e157 15 = .ok (.athrow, 1) := by decide +kernel
theorem dJ3_checkIndex_8e157_16 : decode cJ3_checkIndex_8e157 16 = .ok (.iload_n 0, 1) := by decide +kernel
theorem dJ3_checkIndex_8e157_17 : decode cJ3_checkIndex_8e157 17 = .ok (.ireturn, 1) := by decide +kernel
theorem dL_law_0 : decode cL_law 0 = .ok (.new 7, 3) := by decide +kernel
theorem dL_law_3 : decode cL_law 3 = .ok (.dup, 1) := by decide +kernel
theorem dL_law_4 : decode cL_law 4 = .ok (.invokespecial 9, 3) := by decide +kernel
theorem dL_law_7 : decode cL_law 7 = .ok (.astore_n 1, 1) := by decide +kernel
theorem dL_law_8 : decode cL_law 8 = .ok (.new 10, 3) := by decide +kernel
theorem dL_law_11 : decode cL_law 11 = .ok (.dup, 1) := by decide +kernel
theorem dL_law_12 : decode cL_law 12 = .ok (.invokespecial 12, 3) := by decide +kernel
theorem dL_law_15 : decode cL_law 15 = .ok (.astore_n 2, 1) := by decide +kernel
theorem dL_law_16 : decode cL_law 16 = .ok (.iconst 0, 1) := by decide +kernel
theorem dL_law_17 : decode cL_law 17 = .ok (.istore_n 3, 1) := by decide +kernel
theorem dL_law_18 : decode cL_law 18 = .ok (.iload_n 3, 1) := by decide +kernel
theorem dL_law_19 : decode cL_law 19 = .ok (.aload_n 0, 1) := by decide +kernel
theorem dL_law_20 : decode cL_law 20 = .ok (.arraylength, 1) := by decide +kernel
theorem dL_law_21 : decode cL_law 21 = .ok (.bipush 6, 2) := by decide +kernel
theorem dL_law_23 : decode cL_law 23 = .ok (.isub, 1) := by decide +kernel
theorem dL_law_24 : decode cL_law 24 = .ok (.if_icmp .gt 861, 3) := by decide +kernel
theorem dL_law_27 : decode cL_law 27 = .ok (.aload_n 0, 1) := by decide +kernel
theorem dL_law_28 : decode cL_law 28 = .ok (.iload_n 3, 1) := by decide +kernel
theorem dL_law_29 : decode cL_law 29 = .ok (.iaload, 1) := by decide +kernel
theorem dL_law_30 : decode cL_law 30 = .ok (.bipush 31, 2) := by decide +kernel
theorem dL_law_32 : decode cL_law 32 = .ok (.iand, 1) := by decide +kernel
theorem dL_law_33 : decode cL_law 33 = .ok (.tableswitch 846 0 24 #[115, 138, 191, 244, 267, 290, 333, 396, 445, 488, 511, 534, 557, 570, 583, 606, 639, 662, 695, 728, 751, 764, 787, 810, 833], 115) := by decide +kernel
theorem dL_law_148 : decode cL_law 148 = .ok (.aload_n 1, 1) := by decide +kernel
theorem dL_law_149 : decode cL_law 149 = .ok (.aload_n 0, 1) := by decide +kernel
theorem dL_law_150 : decode cL_law 150 = .ok (.iload_n 3, 1) := by decide +kernel
theorem dL_law_151 : decode cL_law 151 = .ok (.iconst 1, 1) := by decide +kernel
theorem dL_law_152 : decode cL_law 152 = .ok (.iadd, 1) := by decide +kernel
theorem dL_law_153 : decode cL_law 153 = .ok (.iaload, 1) := by decide +kernel
theorem dL_law_154 : decode cL_law 154 = .ok (.invokevirtual 13, 3) := by decide +kernel
theorem dL_law_157 : decode cL_law 157 = .ok (.aload_n 2, 1) := by decide +kernel
theorem dL_law_158 : decode cL_law 158 = .ok (.aload_n 0, 1) := by decide +kernel
theorem dL_law_159 : decode cL_law 159 = .ok (.iload_n 3, 1) := by decide +kernel
theorem dL_law_160 : decode cL_law 160 = .ok (.iconst 1, 1) := by decide +kernel
theorem dL_law_161 : decode cL_law 161 = .ok (.iadd, 1) := by decide +kernel
theorem dL_law_162 : decode cL_law 162 = .ok (.iaload, 1) := by decide +kernel
theorem dL_law_163 : decode cL_law 163 = .ok (.invokevirtual 17, 3) := by decide +kernel
theorem dL_law_166 : decode cL_law 166 = .ok (.if_icmp .eq 713, 3) := by decide +kernel
theorem dL_law_169 : decode cL_law 169 = .ok (.iconst 0, 1) := by decide +kernel
theorem dL_law_170 : decode cL_law 170 = .ok (.ireturn, 1) := by decide +kernel
theorem dL_law_171 : decode cL_law 171 = .ok (.aload_n 1, 1) := by decide +kernel
theorem dL_law_172 : decode cL_law 172 = .ok (.aload_n 0, 1) := by decide +kernel
theorem dL_law_173 : decode cL_law 173 = .ok (.iload_n 3, 1) := by decide +kernel
theorem dL_law_174 : decode cL_law 174 = .ok (.iconst 1, 1) := by decide +kernel
theorem dL_law_175 : decode cL_law 175 = .ok (.iadd, 1) := by decide +kernel
theorem dL_law_176 : decode cL_law 176 = .ok (.iaload, 1) := by decide +kernel
theorem dL_law_177 : decode cL_law 177 = .ok (.aload_n 0, 1) := by decide +kernel
theorem dL_law_178 : decode cL_law 178 = .ok (.iload_n 3, 1) := by decide +kernel
theorem dL_law_179 : decode cL_law 179 = .ok (.iconst 2, 1) := by decide +kernel
theorem dL_law_180 : decode cL_law 180 = .ok (.iadd, 1) := by decide +kernel
theorem dL_law_181 : decode cL_law 181 = .ok (.iaload, 1) := by decide +kernel
theorem dL_law_182 : decode cL_law 182 = .ok (.aload_n 0, 1) := by decide +kernel
theorem dL_law_183 : decode cL_law 183 = .ok (.iload_n 3, 1) := by decide +kernel
theorem dL_law_184 : decode cL_law 184 = .ok (.iconst 3, 1) := by decide +kernel
theorem dL_law_185 : decode cL_law 185 = .ok (.iadd, 1) := by decide +kernel
theorem dL_law_186 : decode cL_law 186 = .ok (.iaload, 1) := by decide +kernel
theorem dL_law_187 : decode cL_law 187 = .ok (.aload_n 0, 1) := by decide +kernel
theorem dL_law_188 : decode cL_law 188 = .ok (.iload_n 3, 1) := by decide +kernel
theorem dL_law_189 : decode cL_law 189 = .ok (.iconst 4, 1) := by decide +kernel
theorem dL_law_190 : decode cL_law 190 = .ok (.iadd, 1) := by decide +kernel
theorem dL_law_191 : decode cL_law 191 = .ok (.iaload, 1) := by decide +kernel
theorem dL_law_192 : decode cL_law 192 = .ok (.invokevirtual 18, 3) := by decide +kernel
theorem dL_law_195 : decode cL_law 195 = .ok (.aload_n 2, 1) := by decide +kernel
theorem dL_law_196 : decode cL_law 196 = .ok (.aload_n 0, 1) := by decide +kernel
theorem dL_law_197 : decode cL_law 197 = .ok (.iload_n 3, 1) := by decide +kernel
theorem dL_law_198 : decode cL_law 198 = .ok (.iconst 1, 1) := by decide +kernel
theorem dL_law_199 : decode cL_law 199 = .ok (.iadd, 1) := by decide +kernel
theorem dL_law_200 : decode cL_law 200 = .ok (.iaload, 1) := by decide +kernel
theorem dL_law_201 : decode cL_law 201 = .ok (.aload_n 0, 1) := by decide +kernel
theorem dL_law_202 : decode cL_law 202 = .ok (.iload_n 3, 1) := by decide +kernel
theorem dL_law_203 : decode cL_law 203 = .ok (.iconst 2, 1) := by decide +kernel
theorem dL_law_204 : decode cL_law 204 = .ok (.iadd, 1) := by decide +kernel
theorem dL_law_205 : decode cL_law 205 = .ok (.iaload, 1) := by decide +kernel
theorem dL_law_206 : decode cL_law 206 = .ok (.aload_n 0, 1) := by decide +kernel
theorem dL_law_207 : decode cL_law 207 = .ok (.iload_n 3, 1) := by decide +kernel
theorem dL_law_208 : decode cL_law 208 = .ok (.iconst 3, 1) := by decide +kernel
theorem dL_law_209 : decode cL_law 209 = .ok (.iadd, 1) := by decide +kernel
theorem dL_law_210 : decode cL_law 210 = .ok (.iaload, 1) := by decide +kernel
theorem dL_law_211 : decode cL_law 211 = .ok (.aload_n 0, 1) := by decide +kernel
theorem dL_law_212 : decode cL_law 212 = .ok (.iload_n 3, 1) := by decide +kernel
theorem dL_law_213 : decode cL_law 213 = .ok (.iconst 4, 1) := by decide +kernel
theorem dL_law_214 : decode cL_law 214 = .ok (.iadd, 1) := by decide +kernel
theorem dL_law_215 : decode cL_law 215 = .ok (.iaload, 1) := by decide +kernel
theorem dL_law_216 : decode cL_law 216 = .ok (.invokevirtual 22, 3) := by decide +kernel
theorem dL_law_219 : decode cL_law 219 = .ok (.if_icmp .eq 660, 3) := by decide +kernel
theorem dL_law_222 : decode cL_law 222 = .ok (.iconst 0, 1) := by decide +kernel
theorem dL_law_223 : decode cL_law 223 = .ok (.ireturn, 1) := by decide +kernel
theorem dL_law_224 : decode cL_law 224 = .ok (.aload_n 1, 1) := by decide +kernel
theorem dL_law_225 : decode cL_law 225 = .ok (.aload_n 0, 1) := by decide +kernel
theorem dL_law_226 : decode cL_law 226 = .ok (.iload_n 3, 1) := by decide +kernel
theorem dL_law_227 : decode cL_law 227 = .ok (.iconst 1, 1) := by decide +kernel
theorem dL_law_228 : decode cL_law 228 = .ok (.iadd, 1) := by decide +kernel
theorem dL_law_229 : decode cL_law 229 = .ok (.iaload, 1) := by decide +kernel
theorem dL_law_230 : decode cL_law 230 = .ok (.aload_n 0, 1) := by decide +kernel
theorem dL_law_231 : decode cL_law 231 = .ok (.iload_n 3, 1) := by decide +kernel
theorem dL_law_232 : decode cL_law 232 = .ok (.iconst 2, 1) := by decide +kernel
theorem dL_law_233 : decode cL_law 233 = .ok (.iadd, 1) := by decide +kernel
theorem dL_law_234 : decode cL_law 234 = .ok (.iaload, 1) := by decide +kernel
theorem dL_law_235 : decode cL_law 235 = .ok (.aload_n 0, 1) := by decide +kernel
theorem dL_law_236 : decode cL_law 236 = .ok (.iload_n 3, 1) := by decide +kernel
theorem dL_law_237 : decode cL_law 237 = .ok (.iconst 3, 1) := by decide +kernel
theorem dL_law_238 : decode cL_law 238 = .ok (.iadd, 1) := by decide +kernel
theorem dL_law_239 : decode cL_law 239 = .ok (.iaload, 1) := by decide +kernel
theorem dL_law_240 : decode cL_law 240 = .ok (.aload_n 0, 1) := by decide +kernel
theorem dL_law_241 : decode cL_law 241 = .ok (.iload_n 3, 1) := by decide +kernel
theorem dL_law_242 : decode cL_law 242 = .ok (.iconst 4, 1) := by decide +kernel
theorem dL_law_243 : decode cL_law 243 = .ok (.iadd, 1) := by decide +kernel
theorem dL_law_244 : decode cL_law 244 = .ok (.iaload, 1) := by decide +kernel
theorem dL_law_245 : decode cL_law 245 = .ok (.invokevirtual 23, 3) := by decide +kernel
theorem dL_law_248 : decode cL_law 248 = .ok (.aload_n 2, 1) := by decide +kernel
theorem dL_law_249 : decode cL_law 249 = .ok (.aload_n 0, 1) := by decide +kernel
theorem dL_law_250 : decode cL_law 250 = .ok (.iload_n 3, 1) := by decide +kernel
theorem dL_law_251 : decode cL_law 251 = .ok (.iconst 1, 1) := by decide +kernel
theorem dL_law_252 : decode cL_law 252 = .ok (.iadd, 1) := by decide +kernel
theorem dL_law_253 : decode cL_law 253 = .ok (.iaload, 1) := by decide +kernel
theorem dL_law_254 : decode cL_law 254 = .ok (.aload_n 0, 1) := by decide +kernel
theorem dL_law_255 : decode cL_law 255 = .ok (.iload_n 3, 1) := by decide +kernel
theorem dL_law_256 : decode cL_law 256 = .ok (.iconst 2, 1) := by decide +kernel
theorem dL_law_257 : decode cL_law 257 = .ok (.iadd, 1) := by decide +kernel
theorem dL_law_258 : decode cL_law 258 = .ok (.iaload, 1) := by decide +kernel
theorem dL_law_259 : decode cL_law 259 = .ok (.aload_n 0, 1) := by decide +kernel
theorem dL_law_260 : decode cL_law 260 = .ok (.iload_n 3, 1) := by decide +kernel
theorem dL_law_261 : decode cL_law 261 = .ok (.iconst 3, 1) := by decide +kernel
theorem dL_law_262 : decode cL_law 262 = .ok (.iadd, 1) := by decide +kernel
theorem dL_law_263 : decode cL_law 263 = .ok (.iaload, 1) := by decide +kernel
theorem dL_law_264 : decode cL_law 264 = .ok (.aload_n 0, 1) := by decide +kernel
theorem dL_law_265 : decode cL_law 265 = .ok (.iload_n 3, 1) := by decide +kernel
theorem dL_law_266 : decode cL_law 266 = .ok (.iconst 4, 1) := by decide +kernel
theorem dL_law_267 : decode cL_law 267 = .ok (.iadd, 1) := by decide +kernel
theorem dL_law_268 : decode cL_law 268 = .ok (.iaload, 1) := by decide +kernel
theorem dL_law_269 : decode cL_law 269 = .ok (.invokevirtual 26, 3) := by decide +kernel
theorem dL_law_272 : decode cL_law 272 = .ok (.if_icmp .eq 607, 3) := by decide +kernel
theorem dL_law_275 : decode cL_law 275 = .ok (.iconst 0, 1) := by decide +kernel
theorem dL_law_276 : decode cL_law 276 = .ok (.ireturn, 1) := by decide +kernel
theorem dL_law_277 : decode cL_law 277 = .ok (.aload_n 1, 1) := by decide +kernel
theorem dL_law_278 : decode cL_law 278 = .ok (.aload_n 0, 1) := by decide +kernel
theorem dL_law_279 : decode cL_law 279 = .ok (.iload_n 3, 1) := by decide +kernel
theorem dL_law_280 : decode cL_law 280 = .ok (.iconst 1, 1) := by decide +kernel
theorem dL_law_281 : decode cL_law 281 = .ok (.iadd, 1) := by decide +kernel
theorem dL_law_282 : decode cL_law 282 = .ok (.iaload, 1) := by decide +kernel
theorem dL_law_283 : decode cL_law 283 = .ok (.invokevirtual 27, 3) := by decide +kernel
theorem dL_law_286 : decode cL_law 286 = .ok (.aload_n 2, 1) := by decide +kernel
theorem dL_law_287 : decode cL_law 287 = .ok (.aload_n 0, 1) := by decide +kernel
theorem dL_law_288 : decode cL_law 288 = .ok (.iload_n 3, 1) := by decide +kernel
theorem dL_law_289 : decode cL_law 289 = .ok (.iconst 1, 1) := by decide +kernel
theorem dL_law_290 : decode cL_law 290 = .ok (.iadd, 1) := by decide +kernel
theorem dL_law_291 : decode cL_law 291 = .ok (.iaload, 1) := by decide +kernel
theorem dL_law_292 : decode cL_law 292 = .ok (.invokevirtual 30, 3) := by decide +kernel
theorem dL_law_295 : decode cL_law 295 = .ok (.if_icmp .eq 584, 3) := by decide +kernel
theorem dL_law_298 : decode cL_law 298 = .ok (.iconst 0, 1) := by decide +kernel
theorem dL_law_299 : decode cL_law 299 = .ok (.ireturn, 1) := by decide +kernel
theorem dL_law_300 : decode cL_law 300 = .ok (.aload_n 1, 1) := by decide +kernel
theorem dL_law_301 : decode cL_law 301 = .ok (.aload_n 0, 1) := by decide +kernel
theorem dL_law_302 : decode cL_law 302 = .ok (.iload_n 3, 1) := by decide +kernel
theorem dL_law_303 : decode cL_law 303 = .ok (.iconst 1, 1) := by decide +kernel
theorem dL_law_304 : decode cL_law 304 = .ok (.iadd, 1) := by decide +kernel
theorem dL_law_305 : decode cL_law 305 = .ok (.iaload, 1) := by decide +kernel
theorem dL_law_306 : decode cL_law 306 = .ok (.invokevirtual 31, 3) := by decide +kernel
theorem dL_law_309 : decode cL_law 309 = .ok (.aload_n 2, 1) := by decide +kernel
theorem dL_law_310 : decode cL_law 310 = .ok (.aload_n 0, 1) := by decide +kernel
theorem dL_law_311 : decode cL_law 311 = .ok (.iload_n 3, 1) := by decide +kernel
theorem dL_law_312 : decode cL_law 312 = .ok (.iconst 1, 1) := by decide +kernel
theorem dL_law_313 : decode cL_law 313 = .ok (.iadd, 1) := by decide +kernel
theorem dL_law_314 : decode cL_law 314 = .ok (.iaload, 1) := by decide +kernel
theorem dL_law_315 : decode cL_law 315 = .ok (.invokevirtual 34, 3) := by decide +kernel
theorem dL_law_318 : decode cL_law 318 = .ok (.if_icmp .eq 561, 3) := by decide +kernel
theorem dL_law_321 : decode cL_law 321 = .ok (.iconst 0, 1) := by decide +kernel
theorem dL_law_322 : decode cL_law 322 = .ok (.ireturn, 1) := by decide +kernel
theorem dL_law_323 : decode cL_law 323 = .ok (.aload_n 1, 1) := by decide +kernel
theorem dL_law_324 : decode cL_law 324 = .ok (.aload_n 0, 1) := by decide +kernel
theorem dL_law_325 : decode cL_law 325 = .ok (.iload_n 3, 1) := by decide +kernel
theorem dL_law_326 : decode cL_law 326 = .ok (.iconst 1, 1) := by decide +kernel
theorem dL_law_327 : decode cL_law 327 = .ok (.iadd, 1) := by decide +kernel
theorem dL_law_328 : decode cL_law 328 = .ok (.iaload, 1) := by decide +kernel
theorem dL_law_329 : decode cL_law 329 = .ok (.aload_n 0, 1) := by decide +kernel
theorem dL_law_330 : decode cL_law 330 = .ok (.iload_n 3, 1) := by decide +kernel
theorem dL_law_331 : decode cL_law 331 = .ok (.iconst 2, 1) := by decide +kernel
theorem dL_law_332 : decode cL_law 332 = .ok (.iadd, 1) := by decide +kernel
theorem dL_law_333 : decode cL_law 333 = .ok (.iaload, 1) := by decide +kernel
theorem dL_law_334 : decode cL_law 334 = .ok (.aload_n 0, 1) := by decide +kernel
theorem dL_law_335 : decode cL_law 335 = .ok (.iload_n 3, 1) := by decide +kernel
theorem dL_law_336 : decode cL_law 336 = .ok (.iconst 3, 1) := by decide +kernel
theorem dL_law_337 : decode cL_law 337 = .ok (.iadd, 1) := by decide +kernel
theorem dL_law_338 : decode cL_law 338 = .ok (.iaload, 1) := by decide +kernel
theorem dL_law_339 : decode cL_law 339 = .ok (.invokevirtual 35, 3) := by decide +kernel
theorem dL_law_342 : decode cL_law 342 = .ok (.aload_n 2, 1) := by decide +kernel
theorem dL_law_343 : decode cL_law 343 = .ok (.aload_n 0, 1) := by decide +kernel
theorem dL_law_344 : decode cL_law 344 = .ok (.iload_n 3, 1) := by decide +kernel
theorem dL_law_345 : decode cL_law 345 = .ok (.iconst 1, 1) := by decide +kernel
theorem dL_law_346 : decode cL_law 346 = .ok (.iadd, 1) := by decide +kernel
theorem dL_law_347 : decode cL_law 347 = .ok (.iaload, 1) := by decide +kernel
theorem dL_law_348 : decode cL_law 348 = .ok (.aload_n 0, 1) := by decide +kernel
theorem dL_law_349 : decode cL_law 349 = .ok (.iload_n 3, 1) := by decide +kernel
theorem dL_law_350 : decode cL_law 350 = .ok (.iconst 2, 1) := by decide +kernel
theorem dL_law_351 : decode cL_law 351 = .ok (.iadd, 1) := by decide +kernel
theorem dL_law_352 : decode cL_law 352 = .ok (.iaload, 1) := by decide +kernel
theorem dL_law_353 : decode cL_law 353 = .ok (.aload_n 0, 1) := by decide +kernel
theorem dL_law_354 : decode cL_law 354 = .ok (.iload_n 3, 1) := by decide +kernel
theorem dL_law_355 : decode cL_law 355 = .ok (.iconst 3, 1) := by decide +kernel
theorem dL_law_356 : decode cL_law 356 = .ok (.iadd, 1) := by decide +kernel
theorem dL_law_357 : decode cL_law 357 = .ok (.iaload, 1) := by decide +kernel
theorem dL_law_358 : decode cL_law 358 = .ok (.invokevirtual 39, 3) := by decide +kernel
theorem dL_law_361 : decode cL_law 361 = .ok (.if_icmp .eq 518, 3) := by decide +kernel
theorem dL_law_364 : decode cL_law 364 = .ok (.iconst 0, 1) := by decide +kernel
theorem dL_law_365 : decode cL_law 365 = .ok (.ireturn, 1) := by decide +kernel
theorem dL_law_366 : decode cL_law 366 = .ok (.aload_n 1, 1) := by decide +kernel
theorem dL_law_367 : decode cL_law 367 = .ok (.aload_n 0, 1) := by decide +kernel
theorem dL_law_368 : decode cL_law 368 = .ok (.iload_n 3, 1) := by decide +kernel
theorem dL_law_369 : decode cL_law 369 = .ok (.iconst 1, 1) := by decide +kernel
theorem dL_law_370 : decode cL_law 370 = .ok (.iadd, 1) := by decide +kernel
theorem dL_law_371 : decode cL_law 371 = .ok (.iaload, 1) := by decide +kernel
theorem dL_law_372 : decode cL_law 372 = .ok (.aload_n 0, 1) := by decide +kernel
theorem dL_law_373 : decode cL_law 373 = .ok (.iload_n 3, 1) := by decide +kernel
theorem dL_law_374 : decode cL_law 374 = .ok (.iconst 2, 1) := by decide +kernel
theorem dL_law_375 : decode cL_law 375 = .ok (.iadd, 1) := by decide +kernel
theorem dL_law_376 : decode cL_law 376 = .ok (.iaload, 1) := by decide +kernel
theorem dL_law_377 : decode cL_law 377 = .ok (.aload_n 0, 1) := by decide +kernel
theorem dL_law_378 : decode cL_law 378 = .ok (.iload_n 3, 1) := by decide +kernel
theorem dL_law_379 : decode cL_law 379 = .ok (.iconst 3, 1) := by decide +kernel
theorem dL_law_380 : decode cL_law 380 = .ok (.iadd, 1) := by decide +kernel
theorem dL_law_381 : decode cL_law 381 = .ok (.iaload, 1) := by decide +kernel
theorem dL_law_382 : decode cL_law 382 = .ok (.aload_n 0, 1) := by decide +kernel
theorem dL_law_383 : decode cL_law 383 = .ok (.iload_n 3, 1) := by decide +kernel
theorem dL_law_384 : decode cL_law 384 = .ok (.iconst 4, 1) := by decide +kernel
theorem dL_law_385 : decode cL_law 385 = .ok (.iadd, 1) := by decide +kernel
theorem dL_law_386 : decode cL_law 386 = .ok (.iaload, 1) := by decide +kernel
theorem dL_law_387 : decode cL_law 387 = .ok (.aload_n 0, 1) := by decide +kernel
theorem dL_law_388 : decode cL_law 388 = .ok (.iload_n 3, 1) := by decide +kernel
theorem dL_law_389 : decode cL_law 389 = .ok (.iconst 5, 1) := by decide +kernel
theorem dL_law_390 : decode cL_law 390 = .ok (.iadd, 1) := by decide +kernel
theorem dL_law_391 : decode cL_law 391 = .ok (.iaload, 1) := by decide +kernel
theorem dL_law_392 : decode cL_law 392 = .ok (.invokevirtual 40, 3) := by decide +kernel
theorem dL_law_395 : decode cL_law 395 = .ok (.aload_n 2, 1) := by decide +kernel
theorem dL_law_396 : decode cL_law 396 = .ok (.aload_n 0, 1) := by decide +kernel
theorem dL_law_397 : decode cL_law 397 = .ok (.iload_n 3, 1) := by decide +kernel
theorem dL_law_398 : decode cL_law 398 = .ok (.iconst 1, 1) := by decide +kernel
theorem dL_law_399 : decode cL_law 399 = .ok (.iadd, 1) := by decide +kernel
theorem dL_law_400 : decode cL_law 400 = .ok (.iaload, 1) := by decide +kernel
theorem dL_law_401 : decode cL_law 401 = .ok (.aload_n 0, 1) := by decide +kernel
theorem dL_law_402 : decode cL_law 402 = .ok (.iload_n 3, 1) := by decide +kernel
theorem dL_law_403 : decode cL_law 403 = .ok (.iconst 2, 1) := by decide +kernel
theorem dL_law_404 : decode cL_law 404 = .ok (.iadd, 1) := by decide +kernel
theorem dL_law_405 : decode cL_law 405 = .ok (.iaload, 1) := by decide +kernel
theorem dL_law_406 : decode cL_law 406 = .ok (.aload_n 0, 1) := by decide +kernel
theorem dL_law_407 : decode cL_law 407 = .ok (.iload_n 3, 1) := by decide +kernel
theorem dL_law_408 : decode cL_law 408 = .ok (.iconst 3, 1) := by decide +kernel
theorem dL_law_409 : decode cL_law 409 = .ok (.iadd, 1) := by decide +kernel
theorem dL_law_410 : decode cL_law 410 = .ok (.iaload, 1) := by decide +kernel
theorem dL_law_411 : decode cL_law 411 = .ok (.aload_n 0, 1) := by decide +kernel
theorem dL_law_412 : decode cL_law 412 = .ok (.iload_n 3, 1) := by decide +kernel
theorem dL_law_413 : decode cL_law 413 = .ok (.iconst 4, 1) := by decide +kernel
theorem dL_law_414 : decode cL_law 414 = .ok (.iadd, 1) := by decide +kernel
theorem dL_law_415 : decode cL_law 415 = .ok (.iaload, 1) := by decide +kernel
theorem dL_law_416 : decode cL_law 416 = .ok (.aload_n 0, 1) := by decide +kernel
theorem dL_law_417 : decode cL_law 417 = .ok (.iload_n 3, 1) := by decide +kernel
theorem dL_law_418 : decode cL_law 418 = .ok (.iconst 5, 1) := by decide +kernel
theorem dL_law_419 : decode cL_law 419 = .ok (.iadd, 1) := by decide +kernel
theorem dL_law_420 : decode cL_law 420 = .ok (.iaload, 1) := by decide +kernel
theorem dL_law_421 : decode cL_law 421 = .ok (.invokevirtual 44, 3) := by decide +kernel
theorem dL_law_424 : decode cL_law 424 = .ok (.if_icmp .eq 455, 3) := by decide +kernel
theorem dL_law_427 : decode cL_law 427 = .ok (.iconst 0, 1) := by decide +kernel
theorem dL_law_428 : decode cL_law 428 = .ok (.ireturn, 1) := by decide +kernel
theorem dL_law_429 : decode cL_law 429 = .ok (.aload_n 1, 1) := by decide +kernel
theorem dL_law_430 : decode cL_law 430 = .ok (.aload_n 0, 1) := by decide +kernel
theorem dL_law_431 : decode cL_law 431 = .ok (.iload_n 3, 1) := by decide +kernel
theorem dL_law_432 : decode cL_law 432 = .ok (.iconst 1, 1) := by decide +kernel
theorem dL_law_433 : decode cL_law 433 = .ok (.iadd, 1) := by decide +kernel
theorem dL_law_434 : decode cL_law 434 = .ok (.iaload, 1) := by decide +kernel
theorem dL_law_435 : decode cL_law 435 = .ok (.aload_n 0, 1) := by decide +kernel
theorem dL_law_436 : decode cL_law 436 = .ok (.iload_n 3, 1) := by decide +kernel
theorem dL_law_437 : decode cL_law 437 = .ok (.iconst 2, 1) := by decide +kernel
theorem dL_law_438 : decode cL_law 438 = .ok (.iadd, 1) := by decide +kernel
theorem dL_law_439 : decode cL_law 439 = .ok (.iaload, 1) := by decide +kernel
theorem dL_law_440 : decode cL_law 440 = .ok (.ifCond .eq 7, 3) := by decide +kernel
theorem dL_law_443 : decode cL_law 443 = .ok (.iconst 1, 1) := by decide +kernel
theorem dL_law_444 : decode cL_law 444 = .ok (.goto 4, 3) := by decide +kernel
theorem dL_law_447 : decode cL_law 447 = .ok (.iconst 0, 1) := by decide +kernel
theorem dL_law_448 : decode cL_law 448 = .ok (.invokevirtual 45, 3) := by decide +kernel
theorem dL_law_451 : decode cL_law 451 = .ok (.aload_n 2, 1) := by decide +kernel
theorem dL_law_452 : decode cL_law 452 = .ok (.aload_n 0, 1) := by decide +kernel
theorem dL_law_453 : decode cL_law 453 = .ok (.iload_n 3, 1) := by decide +kernel
theorem dL_law_454 : decode cL_law 454 = .ok (.iconst 1, 1) := by decide +kernel
theorem dL_law_455 : decode cL_law 455 = .ok (.iadd, 1) := by decide +kernel
theorem dL_law_456 : decode cL_law 456 = .ok (.iaload, 1) := by decide +kernel
theorem dL_law_457 : decode cL_law 457 = .ok (.aload_n 0, 1) := by decide +kernel
theorem dL_law_458 : decode cL_law 458 = .ok (.iload_n 3, 1) := by decide +kernel
theorem dL_law_459 : decode cL_law 459 = .ok (.iconst 2, 1) := by decide +kernel
theorem dL_law_460 : decode cL_law 460 = .ok (.iadd, 1) := by decide +kernel
theorem dL_law_461 : decode cL_law 461 = .ok (.iaload, 1) := by decide +kernel
theorem dL_law_462 : decode cL_law 462 = .ok (.ifCond .eq 7, 3) := by decide +kernel
theorem dL_law_465 : decode cL_law 465 = .ok (.iconst 1, 1) := by decide +kernel
theorem dL_law_466 : decode cL_law 466 = .ok (.goto 4, 3) := by decide +kernel
theorem dL_law_469 : decode cL_law 469 = .ok (.iconst 0, 1) := by decide +kernel
theorem dL_law_470 : decode cL_law 470 = .ok (.invokevirtual 49, 3) := by decide +kernel
theorem dL_law_473 : decode cL_law 473 = .ok (.if_icmp .eq 406, 3) := by decide +kernel
theorem dL_law_476 : decode cL_law 476 = .ok (.iconst 0, 1) := by decide +kernel
theorem dL_law_477 : decode cL_law 477 = .ok (.ireturn, 1) := by decide +kernel
theorem dL_law_478 : decode cL_law 478 = .ok (.aload_n 1, 1) := by decide +kernel
theorem dL_law_479 : decode cL_law 479 = .ok (.aload_n 0, 1) := by decide +kernel
theorem dL_law_480 : decode cL_law 480 = .ok (.iload_n 3, 1) := by decide +kernel
theorem dL_law_481 : decode cL_law 481 = .ok (.iconst 1, 1) := by decide +kernel
theorem dL_law_482 : decode cL_law 482 = .ok (.iadd, 1) := by decide +kernel
theorem dL_law_483 : decode cL_law 483 = .ok (.iaload, 1) := by decide +kernel
theorem dL_law_484 : decode cL_law 484 = .ok (.aload_n 0, 1) := by decide +kernel
theorem dL_law_485 : decode cL_law 485 = .ok (.iload_n 3, 1) := by decide +kernel
theorem dL_law_486 : decode cL_law 486 = .ok (.iconst 2, 1) := by decide +kernel
theorem dL_law_487 : decode cL_law 487 = .ok (.iadd, 1) := by decide +kernel
theorem dL_law_488 : decode cL_law 488 = .ok (.iaload, 1) := by decide +kernel
theorem dL_law_489 : decode cL_law 489 = .ok (.aload_n 0, 1) := by decide +kernel
theorem dL_law_490 : decode cL_law 490 = .ok (.iload_n 3, 1) := by decide +kernel
theorem dL_law_491 : decode cL_law 491 = .ok (.iconst 3, 1) := by decide +kernel
theorem dL_law_492 : decode cL_law 492 = .ok (.iadd, 1) := by decide +kernel
theorem dL_law_493 : decode cL_law 493 = .ok (.iaload, 1) := by decide +kernel
theorem dL_law_494 : decode cL_law 494 = .ok (.invokevirtual 50, 3) := by decide +kernel
theorem dL_law_497 : decode cL_law 497 = .ok (.aload_n 2, 1) := by decide +kernel
theorem dL_law_498 : decode cL_law 498 = .ok (.aload_n 0, 1) := by decide +kernel
theorem dL_law_499 : decode cL_law 499 = .ok (.iload_n 3, 1) := by decide +kernel
theorem dL_law_500 : decode cL_law 500 = .ok (.iconst 1, 1) := by decide +kernel
theorem dL_law_501 : decode cL_law 501 = .ok (.iadd, 1) := by decide +kernel
theorem dL_law_502 : decode cL_law 502 = .ok (.iaload, 1) := by decide +kernel
theorem dL_law_503 : decode cL_law 503 = .ok (.aload_n 0, 1) := by decide +kernel
theorem dL_law_504 : decode cL_law 504 = .ok (.iload_n 3, 1) := by decide +kernel
theorem dL_law_505 : decode cL_law 505 = .ok (.iconst 2, 1) := by decide +kernel
theorem dL_law_506 : decode cL_law 506 = .ok (.iadd, 1) := by decide +kernel
theorem dL_law_507 : decode cL_law 507 = .ok (.iaload, 1) := by decide +kernel
theorem dL_law_508 : decode cL_law 508 = .ok (.aload_n 0, 1) := by decide +kernel
theorem dL_law_509 : decode cL_law 509 = .ok (.iload_n 3, 1) := by decide +kernel
theorem dL_law_510 : decode cL_law 510 = .ok (.iconst 3, 1) := by decide +kernel
theorem dL_law_511 : decode cL_law 511 = .ok (.iadd, 1) := by decide +kernel
theorem dL_law_512 : decode cL_law 512 = .ok (.iaload, 1) := by decide +kernel
theorem dL_law_513 : decode cL_law 513 = .ok (.invokevirtual 53, 3) := by decide +kernel
theorem dL_law_516 : decode cL_law 516 = .ok (.if_icmp .eq 363, 3) := by decide +kernel
theorem dL_law_519 : decode cL_law 519 = .ok (.iconst 0, 1) := by decide +kernel
theorem dL_law_520 : decode cL_law 520 = .ok (.ireturn, 1) := by decide +kernel
theorem dL_law_521 : decode cL_law 521 = .ok (.aload_n 1, 1) := by decide +kernel
theorem dL_law_522 : decode cL_law 522 = .ok (.aload_n 0, 1) := by decide +kernel
theorem dL_law_523 : decode cL_law 523 = .ok (.iload_n 3, 1) := by decide +kernel
theorem dL_law_524 : decode cL_law 524 = .ok (.iconst 1, 1) := by decide +kernel
theorem dL_law_525 : decode cL_law 525 = .ok (.iadd, 1) := by decide +kernel
theorem dL_law_526 : decode cL_law 526 = .ok (.iaload, 1) := by decide +kernel
theorem dL_law_527 : decode cL_law 527 = .ok (.invokevirtual 54, 3) := by decide +kernel
theorem dL_law_530 : decode cL_law 530 = .ok (.aload_n 2, 1) := by decide +kernel
theorem dL_law_531 : decode cL_law 531 = .ok (.aload_n 0, 1) := by decide +kernel
theorem dL_law_532 : decode cL_law 532 = .ok (.iload_n 3, 1) := by decide +kernel
theorem dL_law_533 : decode cL_law 533 = .ok (.iconst 1, 1) := by decide +kernel
theorem dL_law_534 : decode cL_law 534 = .ok (.iadd, 1) := by decide +kernel
theorem dL_law_535 : decode cL_law 535 = .ok (.iaload, 1) := by decide +kernel
theorem dL_law_536 : decode cL_law 536 = .ok (.invokevirtual 57, 3) := by decide +kernel
theorem dL_law_539 : decode cL_law 539 = .ok (.if_icmp .eq 340, 3) := by decide +kernel
theorem dL_law_542 : decode cL_law 542 = .ok (.iconst 0, 1) := by decide +kernel
theorem dL_law_543 : decode cL_law 543 = .ok (.ireturn, 1) := by decide +kernel
theorem dL_law_544 : decode cL_law 544 = .ok (.aload_n 1, 1) := by decide +kernel
theorem dL_law_545 : decode cL_law 545 = .ok (.aload_n 0, 1) := by decide +kernel
theorem dL_law_546 : decode cL_law 546 = .ok (.iload_n 3, 1) := by decide +kernel
theorem dL_law_547 : decode cL_law 547 = .ok (.iconst 1, 1) := by decide +kernel
theorem dL_law_548 : decode cL_law 548 = .ok (.iadd, 1) := by decide +kernel
theorem dL_law_549 : decode cL_law 549 = .ok (.iaload, 1) := by decide +kernel
theorem dL_law_550 : decode cL_law 550 = .ok (.invokevirtual 58, 3) := by decide +kernel
theorem dL_law_553 : decode cL_law 553 = .ok (.aload_n 2, 1) := by decide +kernel
theorem dL_law_554 : decode cL_law 554 = .ok (.aload_n 0, 1) := by decide +kernel
theorem dL_law_555 : decode cL_law 555 = .ok (.iload_n 3, 1) := by decide +kernel
theorem dL_law_556 : decode cL_law 556 = .ok (.iconst 1, 1) := by decide +kernel
theorem dL_law_557 : decode cL_law 557 = .ok (.iadd, 1) := by decide +kernel
theorem dL_law_558 : decode cL_law 558 = .ok (.iaload, 1) := by decide +kernel
theorem dL_law_559 : decode cL_law 559 = .ok (.invokevirtual 61, 3) := by decide +kernel
theorem dL_law_562 : decode cL_law 562 = .ok (.if_icmp .eq 317, 3) := by decide +kernel
theorem dL_law_565 : decode cL_law 565 = .ok (.iconst 0, 1) := by decide +kernel
theorem dL_law_566 : decode cL_law 566 = .ok (.ireturn, 1) := by decide +kernel
theorem dL_law_567 : decode cL_law 567 = .ok (.aload_n 1, 1) := by decide +kernel
theorem dL_law_568 : decode cL_law 568 = .ok (.aload_n 0, 1) := by decide +kernel
theorem dL_law_569 : decode cL_law 569 = .ok (.iload_n 3, 1) := by decide +kernel
theorem dL_law_570 : decode cL_law 570 = .ok (.iconst 1, 1) := by decide +kernel
theorem dL_law_571 : decode cL_law 571 = .ok (.iadd, 1) := by decide +kernel
theorem dL_law_572 : decode cL_law 572 = .ok (.iaload, 1) := by decide +kernel
theorem dL_law_573 : decode cL_law 573 = .ok (.invokevirtual 62, 3) := by decide +kernel
theorem dL_law_576 : decode cL_law 576 = .ok (.aload_n 2, 1) := by decide +kernel
theorem dL_law_577 : decode cL_law 577 = .ok (.aload_n 0, 1) := by decide +kernel
theorem dL_law_578 : decode cL_law 578 = .ok (.iload_n 3, 1) := by decide +kernel
theorem dL_law_579 : decode cL_law 579 = .ok (.iconst 1, 1) := by decide +kernel
theorem dL_law_580 : decode cL_law 580 = .ok (.iadd, 1) := by decide +kernel
theorem dL_law_581 : decode cL_law 581 = .ok (.iaload, 1) := by decide +kernel
theorem dL_law_582 : decode cL_law 582 = .ok (.invokevirtual 65, 3) := by decide +kernel
theorem dL_law_585 : decode cL_law 585 = .ok (.if_icmp .eq 294, 3) := by decide +kernel
theorem dL_law_588 : decode cL_law 588 = .ok (.iconst 0, 1) := by decide +kernel
theorem dL_law_589 : decode cL_law 589 = .ok (.ireturn, 1) := by decide +kernel
theorem dL_law_590 : decode cL_law 590 = .ok (.aload_n 1, 1) := by decide +kernel
theorem dL_law_591 : decode cL_law 591 = .ok (.invokevirtual 66, 3) := by decide +kernel
theorem dL_law_594 : decode cL_law 594 = .ok (.aload_n 2, 1) := by decide +kernel
theorem dL_law_595 : decode cL_law 595 = .ok (.invokevirtual 70, 3) := by decide +kernel
theorem dL_law_598 : decode cL_law 598 = .ok (.if_icmp .eq 281, 3) := by decide +kernel
theorem dL_law_601 : decode cL_law 601 = .ok (.iconst 0, 1) := by decide +kernel
theorem dL_law_602 : decode cL_law 602 = .ok (.ireturn, 1) := by decide +kernel
theorem dL_law_603 : decode cL_law 603 = .ok (.aload_n 1, 1) := by decide +kernel
theorem dL_law_604 : decode cL_law 604 = .ok (.invokevirtual 71, 3) := by decide +kernel
theorem dL_law_607 : decode cL_law 607 = .ok (.aload_n 2, 1) := by decide +kernel
theorem dL_law_608 : decode cL_law 608 = .ok (.invokevirtual 74, 3) := by decide +kernel
theorem dL_law_611 : decode cL_law 611 = .ok (.if_icmp .eq 268, 3) := by decide +kernel
theorem dL_law_614 : decode cL_law 614 = .ok (.iconst 0, 1) := by decide +kernel
theorem dL_law_615 : decode cL_law 615 = .ok (.ireturn, 1) := by decide +kernel
theorem dL_law_616 : decode cL_law 616 = .ok (.aload_n 1, 1) := by decide +kernel
theorem dL_law_617 : decode cL_law 617 = .ok (.aload_n 0, 1) := by decide +kernel
theorem dL_law_618 : decode cL_law 618 = .ok (.iload_n 3, 1) := by decide +kernel
theorem dL_law_619 : decode cL_law 619 = .ok (.iconst 1, 1) := by decide +kernel
theorem dL_law_620 : decode cL_law 620 = .ok (.iadd, 1) := by decide +kernel
theorem dL_law_621 : decode cL_law 621 = .ok (.iaload, 1) := by decide +kernel
theorem dL_law_622 : decode cL_law 622 = .ok (.invokevirtual 75, 3) := by decide +kernel
theorem dL_law_625 : decode cL_law 625 = .ok (.aload_n 2, 1) := by decide +kernel
theorem dL_law_626 : decode cL_law 626 = .ok (.aload_n 0, 1) := by decide +kernel
theorem dL_law_627 : decode cL_law 627 = .ok (.iload_n 3, 1) := by decide +kernel
theorem dL_law_628 : decode cL_law 628 = .ok (.iconst 1, 1) := by decide +kernel
theorem dL_law_629 : decode cL_law 629 = .ok (.iadd, 1) := by decide +kernel
theorem dL_law_630 : decode cL_law 630 = .ok (.iaload, 1) := by decide +kernel
theorem dL_law_631 : decode cL_law 631 = .ok (.invokevirtual 78, 3) := by decide +kernel
theorem dL_law_634 : decode cL_law 634 = .ok (.if_icmp .eq 245, 3) := by decide +kernel
theorem dL_law_637 : decode cL_law 637 = .ok (.iconst 0, 1) := by decide +kernel
theorem dL_law_638 : decode cL_law 638 = .ok (.ireturn, 1) := by decide +kernel
theorem dL_law_639 : decode cL_law 639 = .ok (.aload_n 1, 1) := by decide +kernel
theorem dL_law_640 : decode cL_law 640 = .ok (.aload_n 0, 1) := by decide +kernel
theorem dL_law_641 : decode cL_law 641 = .ok (.iload_n 3, 1) := by decide +kernel
theorem dL_law_642 : decode cL_law 642 = .ok (.iconst 1, 1) := by decide +kernel
theorem dL_law_643 : decode cL_law 643 = .ok (.iadd, 1) := by decide +kernel
theorem dL_law_644 : decode cL_law 644 = .ok (.iaload, 1) := by decide +kernel
theorem dL_law_645 : decode cL_law 645 = .ok (.aload_n 0, 1) := by decide +kernel
theorem dL_law_646 : decode cL_law 646 = .ok (.iload_n 3, 1) := by decide +kernel
theorem dL_law_647 : decode cL_law 647 = .ok (.iconst 2, 1) := by decide +kernel
theorem dL_law_648 : decode cL_law 648 = .ok (.iadd, 1) := by decide +kernel
theorem dL_law_649 : decode cL_law 649 = .ok (.iaload, 1) := by decide +kernel
theorem dL_law_650 : decode cL_law 650 = .ok (.invokevirtual 79, 3) := by decide +kernel
theorem dL_law_653 : decode cL_law 653 = .ok (.aload_n 2, 1) := by decide +kernel
theorem dL_law_654 : decode cL_law 654 = .ok (.aload_n 0, 1) := by decide +kernel
theorem dL_law_655 : decode cL_law 655 = .ok (.iload_n 3, 1) := by decide +kernel
theorem dL_law_656 : decode cL_law 656 = .ok (.iconst 1, 1) := by decide +kernel
theorem dL_law_657 : decode cL_law 657 = .ok (.iadd, 1) := by decide +kernel
theorem dL_law_658 : decode cL_law 658 = .ok (.iaload, 1) := by decide +kernel
theorem dL_law_659 : decode cL_law 659 = .ok (.aload_n 0, 1) := by decide +kernel
theorem dL_law_660 : decode cL_law 660 = .ok (.iload_n 3, 1) := by decide +kernel
theorem dL_law_661 : decode cL_law 661 = .ok (.iconst 2, 1) := by decide +kernel
theorem dL_law_662 : decode cL_law 662 = .ok (.iadd, 1) := by decide +kernel
theorem dL_law_663 : decode cL_law 663 = .ok (.iaload, 1) := by decide +kernel
theorem dL_law_664 : decode cL_law 664 = .ok (.invokevirtual 83, 3) := by decide +kernel
theorem dL_law_667 : decode cL_law 667 = .ok (.if_icmp .eq 212, 3) := by decide +kernel
theorem dL_law_670 : decode cL_law 670 = .ok (.iconst 0, 1) := by decide +kernel
theorem dL_law_671 : decode cL_law 671 = .ok (.ireturn, 1) := by decide +kernel
theorem dL_law_672 : decode cL_law 672 = .ok (.aload_n 1, 1) := by decide +kernel
theorem dL_law_673 : decode cL_law 673 = .ok (.aload_n 0, 1) := by decide +kernel
theorem dL_law_674 : decode cL_law 674 = .ok (.iload_n 3, 1) := by decide +kernel
theorem dL_law_675 : decode cL_law 675 = .ok (.iconst 1, 1) := by decide +kernel
theorem dL_law_676 : decode cL_law 676 = .ok (.iadd, 1) := by decide +kernel
theorem dL_law_677 : decode cL_law 677 = .ok (.iaload, 1) := by decide +kernel
theorem dL_law_678 : decode cL_law 678 = .ok (.invokevirtual 84, 3) := by decide +kernel
theorem dL_law_681 : decode cL_law 681 = .ok (.aload_n 2, 1) := by decide +kernel
theorem dL_law_682 : decode cL_law 682 = .ok (.aload_n 0, 1) := by decide +kernel
theorem dL_law_683 : decode cL_law 683 = .ok (.iload_n 3, 1) := by decide +kernel
theorem dL_law_684 : decode cL_law 684 = .ok (.iconst 1, 1) := by decide +kernel
theorem dL_law_685 : decode cL_law 685 = .ok (.iadd, 1) := by decide +kernel
theorem dL_law_686 : decode cL_law 686 = .ok (.iaload, 1) := by decide +kernel
theorem dL_law_687 : decode cL_law 687 = .ok (.invokevirtual 87, 3) := by decide +kernel
theorem dL_law_690 : decode cL_law 690 = .ok (.if_icmp .eq 189, 3) := by decide +kernel
theorem dL_law_693 : decode cL_law 693 = .ok (.iconst 0, 1) := by decide +kernel
theorem dL_law_694 : decode cL_law 694 = .ok (.ireturn, 1) := by decide +kernel
theorem dL_law_695 : decode cL_law 695 = .ok (.aload_n 1, 1) := by decide +kernel
theorem dL_law_696 : decode cL_law 696 = .ok (.aload_n 0, 1) := by decide +kernel
theorem dL_law_697 : decode cL_law 697 = .ok (.iload_n 3, 1) := by decide +kernel
theorem dL_law_698 : decode cL_law 698 = .ok (.iconst 1, 1) := by decide +kernel
theorem dL_law_699 : decode cL_law 699 = .ok (.iadd, 1) := by decide +kernel
theorem dL_law_700 : decode cL_law 700 = .ok (.iaload, 1) := by decide +kernel
theorem dL_law_701 : decode cL_law 701 = .ok (.aload_n 0, 1) := by decide +kernel
theorem dL_law_702 : decode cL_law 702 = .ok (.iload_n 3, 1) := by decide +kernel
theorem dL_law_703 : decode cL_law 703 = .ok (.iconst 2, 1) := by decide +kernel
theorem dL_law_704 : decode cL_law 704 = .ok (.iadd, 1) := by decide +kernel
theorem dL_law_705 : decode cL_law 705 = .ok (.iaload, 1) := by decide +kernel
theorem dL_law_706 : decode cL_law 706 = .ok (.invokevirtual 88, 3) := by decide +kernel
theorem dL_law_709 : decode cL_law 709 = .ok (.aload_n 2, 1) := by decide +kernel
theorem dL_law_710 : decode cL_law 710 = .ok (.aload_n 0, 1) := by decide +kernel
theorem dL_law_711 : decode cL_law 711 = .ok (.iload_n 3, 1) := by decide +kernel
theorem dL_law_712 : decode cL_law 712 = .ok (.iconst 1, 1) := by decide +kernel
theorem dL_law_713 : decode cL_law 713 = .ok (.iadd, 1) := by decide +kernel
theorem dL_law_714 : decode cL_law 714 = .ok (.iaload, 1) := by decide +kernel
theorem dL_law_715 : decode cL_law 715 = .ok (.aload_n 0, 1) := by decide +kernel
theorem dL_law_716 : decode cL_law 716 = .ok (.iload_n 3, 1) := by decide +kernel
theorem dL_law_717 : decode cL_law 717 = .ok (.iconst 2, 1) := by decide +kernel
theorem dL_law_718 : decode cL_law 718 = .ok (.iadd, 1) := by decide +kernel
theorem dL_law_719 : decode cL_law 719 = .ok (.iaload, 1) := by decide +kernel
theorem dL_law_720 : decode cL_law 720 = .ok (.invokevirtual 91, 3) := by decide +kernel
theorem dL_law_723 : decode cL_law 723 = .ok (.if_icmp .eq 156, 3) := by decide +kernel
theorem dL_law_726 : decode cL_law 726 = .ok (.iconst 0, 1) := by decide +kernel
theorem dL_law_727 : decode cL_law 727 = .ok (.ireturn, 1) := by decide +kernel
theorem dL_law_728 : decode cL_law 728 = .ok (.aload_n 1, 1) := by decide +kernel
theorem dL_law_729 : decode cL_law 729 = .ok (.aload_n 0, 1) := by decide +kernel
theorem dL_law_730 : decode cL_law 730 = .ok (.iload_n 3, 1) := by decide +kernel
theorem dL_law_731 : decode cL_law 731 = .ok (.iconst 1, 1) := by decide +kernel
theorem dL_law_732 : decode cL_law 732 = .ok (.iadd, 1) := by decide +kernel
theorem dL_law_733 : decode cL_law 733 = .ok (.iaload, 1) := by decide +kernel
theorem dL_law_734 : decode cL_law 734 = .ok (.aload_n 0, 1) := by decide +kernel
theorem dL_law_735 : decode cL_law 735 = .ok (.iload_n 3, 1) := by decide +kernel
theorem dL_law_736 : decode cL_law 736 = .ok (.iconst 2, 1) := by decide +kernel
theorem dL_law_737 : decode cL_law 737 = .ok (.iadd, 1) := by decide +kernel
theorem dL_law_738 : decode cL_law 738 = .ok (.iaload, 1) := by decide +kernel
theorem dL_law_739 : decode cL_law 739 = .ok (.invokevirtual 92, 3) := by decide +kernel
theorem dL_law_742 : decode cL_law 742 = .ok (.aload_n 2, 1) := by decide +kernel
theorem dL_law_743 : decode cL_law 743 = .ok (.aload_n 0, 1) := by decide +kernel
theorem dL_law_744 : decode cL_law 744 = .ok (.iload_n 3, 1) := by decide +kernel
theorem dL_law_745 : decode cL_law 745 = .ok (.iconst 1, 1) := by decide +kernel
theorem dL_law_746 : decode cL_law 746 = .ok (.iadd, 1) := by decide +kernel
theorem dL_law_747 : decode cL_law 747 = .ok (.iaload, 1) := by decide +kernel
theorem dL_law_748 : decode cL_law 748 = .ok (.aload_n 0, 1) := by decide +kernel
theorem dL_law_749 : decode cL_law 749 = .ok (.iload_n 3, 1) := by decide +kernel
theorem dL_law_750 : decode cL_law 750 = .ok (.iconst 2, 1) := by decide +kernel
theorem dL_law_751 : decode cL_law 751 = .ok (.iadd, 1) := by decide +kernel
theorem dL_law_752 : decode cL_law 752 = .ok (.iaload, 1) := by decide +kernel
theorem dL_law_753 : decode cL_law 753 = .ok (.invokevirtual 95, 3) := by decide +kernel
theorem dL_law_756 : decode cL_law 756 = .ok (.if_icmp .eq 123, 3) := by decide +kernel
theorem dL_law_759 : decode cL_law 759 = .ok (.iconst 0, 1) := by decide +kernel
theorem dL_law_760 : decode cL_law 760 = .ok (.ireturn, 1) := by decide +kernel
theorem dL_law_761 : decode cL_law 761 = .ok (.aload_n 1, 1) := by decide +kernel
theorem dL_law_762 : decode cL_law 762 = .ok (.aload_n 0, 1) := by decide +kernel
theorem dL_law_763 : decode cL_law 763 = .ok (.iload_n 3, 1) := by decide +kernel
theorem dL_law_764 : decode cL_law 764 = .ok (.iconst 1, 1) := by decide +kernel
theorem dL_law_765 : decode cL_law 765 = .ok (.iadd, 1) := by decide +kernel
theorem dL_law_766 : decode cL_law 766 = .ok (.iaload, 1) := by decide +kernel
theorem dL_law_767 : decode cL_law 767 = .ok (.invokevirtual 96, 3) := by decide +kernel
theorem dL_law_770 : decode cL_law 770 = .ok (.aload_n 2, 1) := by decide +kernel
theorem dL_law_771 : decode cL_law 771 = .ok (.aload_n 0, 1) := by decide +kernel
theorem dL_law_772 : decode cL_law 772 = .ok (.iload_n 3, 1) := by decide +kernel
theorem dL_law_773 : decode cL_law 773 = .ok (.iconst 1, 1) := by decide +kernel
theorem dL_law_774 : decode cL_law 774 = .ok (.iadd, 1) := by decide +kernel
theorem dL_law_775 : decode cL_law 775 = .ok (.iaload, 1) := by decide +kernel
theorem dL_law_776 : decode cL_law 776 = .ok (.invokevirtual 99, 3) := by decide +kernel
theorem dL_law_779 : decode cL_law 779 = .ok (.if_icmp .eq 100, 3) := by decide +kernel
theorem dL_law_782 : decode cL_law 782 = .ok (.iconst 0, 1) := by decide +kernel
theorem dL_law_783 : decode cL_law 783 = .ok (.ireturn, 1) := by decide +kernel
theorem dL_law_784 : decode cL_law 784 = .ok (.aload_n 1, 1) := by decide +kernel
theorem dL_law_785 : decode cL_law 785 = .ok (.invokevirtual 100, 3) := by decide +kernel
theorem dL_law_788 : decode cL_law 788 = .ok (.aload_n 2, 1) := by decide +kernel
theorem dL_law_789 : decode cL_law 789 = .ok (.invokevirtual 103, 3) := by decide +kernel
theorem dL_law_792 : decode cL_law 792 = .ok (.if_icmp .eq 87, 3) := by decide +kernel
theorem dL_law_795 : decode cL_law 795 = .ok (.iconst 0, 1) := by decide +kernel
theorem dL_law_796 : decode cL_law 796 = .ok (.ireturn, 1) := by decide +kernel
theorem dL_law_797 : decode cL_law 797 = .ok (.aload_n 1, 1) := by decide +kernel
theorem dL_law_798 : decode cL_law 798 = .ok (.aload_n 0, 1) := by decide +kernel
theorem dL_law_799 : decode cL_law 799 = .ok (.iload_n 3, 1) := by decide +kernel
theorem dL_law_800 : decode cL_law 800 = .ok (.iconst 1, 1) := by decide +kernel
theorem dL_law_801 : decode cL_law 801 = .ok (.iadd, 1) := by decide +kernel
theorem dL_law_802 : decode cL_law 802 = .ok (.iaload, 1) := by decide +kernel
theorem dL_law_803 : decode cL_law 803 = .ok (.invokevirtual 104, 3) := by decide +kernel
theorem dL_law_806 : decode cL_law 806 = .ok (.aload_n 2, 1) := by decide +kernel
theorem dL_law_807 : decode cL_law 807 = .ok (.aload_n 0, 1) := by decide +kernel
theorem dL_law_808 : decode cL_law 808 = .ok (.iload_n 3, 1) := by decide +kernel
theorem dL_law_809 : decode cL_law 809 = .ok (.iconst 1, 1) := by decide +kernel
theorem dL_law_810 : decode cL_law 810 = .ok (.iadd, 1) := by decide +kernel
theorem dL_law_811 : decode cL_law 811 = .ok (.iaload, 1) := by decide +kernel
theorem dL_law_812 : decode cL_law 812 = .ok (.invokevirtual 107, 3) := by decide +kernel
theorem dL_law_815 : decode cL_law 815 = .ok (.if_icmp .eq 64, 3) := by decide +kernel
theorem dL_law_818 : decode cL_law 818 = .ok (.iconst 0, 1) := by decide +kernel
theorem dL_law_819 : decode cL_law 819 = .ok (.ireturn, 1) := by decide +kernel
theorem dL_law_820 : decode cL_law 820 = .ok (.aload_n 1, 1) := by decide +kernel
theorem dL_law_821 : decode cL_law 821 = .ok (.aload_n 0, 1) := by decide +kernel
theorem dL_law_822 : decode cL_law 822 = .ok (.iload_n 3, 1) := by decide +kernel
theorem dL_law_823 : decode cL_law 823 = .ok (.iconst 1, 1) := by decide +kernel
theorem dL_law_824 : decode cL_law 824 = .ok (.iadd, 1) := by decide +kernel
theorem dL_law_825 : decode cL_law 825 = .ok (.iaload, 1) := by decide +kernel
theorem dL_law_826 : decode cL_law 826 = .ok (.invokevirtual 108, 3) := by decide +kernel
theorem dL_law_829 : decode cL_law 829 = .ok (.aload_n 2, 1) := by decide +kernel
theorem dL_law_830 : decode cL_law 830 = .ok (.aload_n 0, 1) := by decide +kernel
theorem dL_law_831 : decode cL_law 831 = .ok (.iload_n 3, 1) := by decide +kernel
theorem dL_law_832 : decode cL_law 832 = .ok (.iconst 1, 1) := by decide +kernel
theorem dL_law_833 : decode cL_law 833 = .ok (.iadd, 1) := by decide +kernel
theorem dL_law_834 : decode cL_law 834 = .ok (.iaload, 1) := by decide +kernel
theorem dL_law_835 : decode cL_law 835 = .ok (.invokevirtual 111, 3) := by decide +kernel
theorem dL_law_838 : decode cL_law 838 = .ok (.if_icmp .eq 41, 3) := by decide +kernel
theorem dL_law_841 : decode cL_law 841 = .ok (.iconst 0, 1) := by decide +kernel
theorem dL_law_842 : decode cL_law 842 = .ok (.ireturn, 1) := by decide +kernel
theorem dL_law_843 : decode cL_law 843 = .ok (.aload_n 1, 1) := by decide +kernel
theorem dL_law_844 : decode cL_law 844 = .ok (.aload_n 0, 1) := by decide +kernel
theorem dL_law_845 : decode cL_law 845 = .ok (.iload_n 3, 1) := by decide +kernel
theorem dL_law_846 : decode cL_law 846 = .ok (.iconst 1, 1) := by decide +kernel
theorem dL_law_847 : decode cL_law 847 = .ok (.iadd, 1) := by decide +kernel
theorem dL_law_848 : decode cL_law 848 = .ok (.iaload, 1) := by decide +kernel
theorem dL_law_849 : decode cL_law 849 = .ok (.invokevirtual 112, 3) := by decide +kernel
theorem dL_law_852 : decode cL_law 852 = .ok (.aload_n 2, 1) := by decide +kernel
theorem dL_law_853 : decode cL_law 853 = .ok (.aload_n 0, 1) := by decide +kernel
theorem dL_law_854 : decode cL_law 854 = .ok (.iload_n 3, 1) := by decide +kernel
theorem dL_law_855 : decode cL_law 855 = .ok (.iconst 1, 1) := by decide +kernel
theorem dL_law_856 : decode cL_law 856 = .ok (.iadd, 1) := by decide +kernel
theorem dL_law_857 : decode cL_law 857 = .ok (.iaload, 1) := by decide +kernel
theorem dL_law_858 : decode cL_law 858 = .ok (.invokevirtual 115, 3) := by decide +kernel
theorem dL_law_861 : decode cL_law 861 = .ok (.if_icmp .eq 18, 3) := by decide +kernel
theorem dL_law_864 : decode cL_law 864 = .ok (.iconst 0, 1) := by decide +kernel
theorem dL_law_865 : decode cL_law 865 = .ok (.ireturn, 1) := by decide +kernel
theorem dL_law_866 : decode cL_law 866 = .ok (.aload_n 1, 1) := by decide +kernel
theorem dL_law_867 : decode cL_law 867 = .ok (.invokevirtual 116, 3) := by decide +kernel
theorem dL_law_870 : decode cL_law 870 = .ok (.aload_n 2, 1) := by decide +kernel
theorem dL_law_871 : decode cL_law 871 = .ok (.invokevirtual 119, 3) := by decide +kernel
theorem dL_law_874 : decode cL_law 874 = .ok (.if_icmp .eq 5, 3) := by decide +kernel
theorem dL_law_877 : decode cL_law 877 = .ok (.iconst 0, 1) := by decide +kernel
theorem dL_law_878 : decode cL_law 878 = .ok (.ireturn, 1) := by decide +kernel
theorem dL_law_879 : decode cL_law 879 = .ok (.iinc 3 6, 3) := by decide +kernel
theorem dL_law_882 : decode cL_law 882 = .ok (.goto (-864), 3) := by decide +kernel
theorem dL_law_885 : decode cL_law 885 = .ok (.iconst 1, 1) := by decide +kernel
theorem dL_law_886 : decode cL_law 886 = .ok (.ireturn, 1) := by decide +kernel
end
section
/-! a layer of my own over the kit: the world is a partial map of cells, the locals are an explicit list -/
abbrev yH : Type := Nat → Option va_E
def yd_at (D : va_G) (h : yH) (A : Nat → Prop) (H : Heap) : Prop :=
  ∃ (L : List Nat) (g : Nat → va_E), (∀ (a : Nat) (e : va_E), h a = some e ↔ (a ∈ L ∧ g a = e)) ∧ va_P D vwCl (va_pl L g) H ∧ va_D A (va_pl L g)
theorem yd_pos {D : va_G} {h : yH} {A : Nat → Prop} {H : Heap} {a : Nat} {e : va_E} (hw : yd_at D h A H) (ha : h a = some e) :
    ∃ (ws : va_W) (k : Nat), va_P D vwCl ws H ∧ va_D A ws ∧ ws[k]? = some (a, e) ∧ (∀ (e' : va_E) (H1 : Heap), va_P D vwCl (ws.set k (a, e')) H1 → va_D A (ws.set k (a, e')) → yd_at D (va_up h a (some e')) A H1) ∧ (∀ (b : Nat) (e' : va_E), h b = some e' → ∃ j : Nat, ws[j]? = some (b, e')) := by
  obtain ⟨L, g, hg, hP, hD⟩ := hw
  obtain ⟨hL, he⟩ := (hg a e).mp ha
  obtain ⟨k, hk⟩ := va_pl_get (X := []) (f := g) hL
  rw [List.nil_append] at hk
  refine ⟨va_pl L g, k, hP, hD, by rw [hk, he], fun e' H1 hP1 hD1 => ?_, fun b e' hb => ?_⟩
  · have hs : (va_pl L g).set k (a, e') = va_pl L (va_up g a e') := by
      have q := va_pl_set (X := []) (f := g) (e := e') (k := k) (a := a) (A := A) (by rw [List.nil_append]; exact hD) hL (by rw [List.nil_append]; exact hk)
      rwa [List.nil_append, List.nil_append] at q
    rw [hs] at hP1 hD1
    refine ⟨L, va_up g a e', fun b x => ?_, hP1, hD1⟩
    by_cases hb : b = a
    · subst hb
      simp [va_up, hL]
    · simp only [va_up, if_neg hb]
      exact hg b x
  · obtain ⟨hbL, hbe⟩ := (hg b e').mp hb
    obtain ⟨j, hj⟩ := va_pl_get (X := []) (f := g) hbL
    rw [List.nil_append] at hj
    exact ⟨j, by rw [hj, hbe]⟩
theorem yd_list {D : va_G} {h : yH} {A : Nat → Prop} {H : Heap} (hw : yd_at D h A H) :
    ∃ ws : va_W, va_P D vwCl ws H ∧ va_D A ws ∧ ∀ (q : Nat) (e : va_E) (H1 : Heap), va_P D vwCl (ws ++ [(q, e)]) H1 → va_D A (ws ++ [(q, e)]) → h q = none ∧ yd_at D (va_up h q (some e)) A H1 := by
  obtain ⟨L, g, hg, hP, hD⟩ := hw
  refine ⟨va_pl L g, hP, hD, fun q e H1 hP1 hD1 => ?_⟩
  have hq : q ∉ L := va_pl_fresh2 (X := []) (f := g) (e := e) (A := A) (by rw [List.nil_append]; exact hD1)
  rw [va_pl_push hq] at hP1 hD1
  refine ⟨?_, L ++ [q], va_up g q e, fun b x => ?_, hP1, hD1⟩
  · cases hh : h q with
    | none => rfl
    | some x => exact absurd ((hg q x).mp hh).1 hq
  · by_cases hb : b = q
    · subst hb
      simp [va_up]
    · simp only [va_up, if_neg hb, List.mem_append, List.mem_singleton, hb, or_false]
      exact hg b x
theorem yd_pl {L : List Nat} {g : Nat → va_E} {k : Nat} {q : Nat × va_E} (h : (va_pl L g)[k]? = some q) : q.1 ∈ L ∧ q.2 = g q.1 := by
  unfold va_pl at h
  rw [List.getElem?_map] at h
  cases hx : L[k]? with
  | none => rw [hx] at h; cases h
  | some a =>
    rw [hx] at h
    simp only [Option.map_some, Option.some.injEq] at h
    subst h
    exact ⟨List.mem_of_getElem? hx, rfl⟩
theorem yd_weak {D : va_G} {h : yH} {A B : Nat → Prop} {H : Heap} (hw : yd_at D h A H) (hAB : ∀ (a : Nat) (e : va_E), h a = some e → A a → B a) : yd_at D h B H := by
  obtain ⟨L, g, hg, hP, hD⟩ := hw
  exact ⟨L, g, hg, hP, hD.weaken (fun k q hk hA => hAB q.1 (g q.1) ((hg _ _).mpr ⟨(yd_pl hk).1, rfl⟩) hA)⟩
theorem yd_kept {D : va_G} {h : yH} {A : Nat → Prop} {H H1 : Heap} (hw : yd_at D h A H) (hk : ∀ (a : Nat) (e : va_E), h a = some e → H1[a]? = H[a]?) : yd_at D h A H1 := by
  obtain ⟨L, g, hg, hP, hD⟩ := hw
  exact ⟨L, g, hg, hP.kept (fun k q hq => hk q.1 (g q.1) ((hg _ _).mpr ⟨(yd_pl hq).1, rfl⟩)), hD⟩
theorem yd_in {D : va_G} {h : yH} {A : Nat → Prop} {H : Heap} (hw : yd_at D h A H) {a : Nat} {e : va_E} (ha : h a = some e) : A a ∧ a < H.size := by
  obtain ⟨ws, k, hP, hD, hk, -⟩ := yd_pos hw ha
  exact ⟨hD.2 k _ hk, va_at.lt (hP k _ hk)⟩
/-- two worlds side by side -/
theorem yd_join {D : va_G} {h1 h2 : yH} {A : Nat → Prop} {H : Heap} (w1 : yd_at D h1 A H) (w2 : yd_at D h2 A H) (hd : ∀ (a : Nat) (e e' : va_E), h1 a = some e → h2 a = some e' → False) : yd_at D (fun a => (h1 a).or (h2 a)) A H := by
  obtain ⟨L1, g1, hg1, hP1, hD1⟩ := w1
  obtain ⟨L2, g2, hg2, hP2, hD2⟩ := w2
  have hx : ∀ a, a ∈ L1 → a ∈ L2 → False := fun a p q => hd a _ _ ((hg1 a _).mpr ⟨p, rfl⟩) ((hg2 a _).mpr ⟨q, rfl⟩)
  have e1 : va_pl L1 (fun a => if a ∈ L1 then g1 a else g2 a) = va_pl L1 g1 := by
    unfold va_pl
    exact List.map_congr_left (fun a ha => by show (a, if a ∈ L1 then g1 a else g2 a) = _; rw [if_pos ha])
  have e2 : va_pl L2 (fun a => if a ∈ L1 then g1 a else g2 a) = va_pl L2 g2 := by
    unfold va_pl
    exact List.map_congr_left (fun a ha => by show (a, if a ∈ L1 then g1 a else g2 a) = _; rw [if_neg (fun q => hx a q ha)])
  have e3 : va_pl (L1 ++ L2) (fun a => if a ∈ L1 then g1 a else g2 a) = va_pl L1 g1 ++ va_pl L2 g2 := by
    rw [← e1, ← e2]
    unfold va_pl
    exact List.map_append
  refine ⟨L1 ++ L2, fun a => if a ∈ L1 then g1 a else g2 a, fun a e => ?_, ?_, ?_⟩
  · by_cases ha : a ∈ L1
    · have q1 : h1 a = some (g1 a) := (hg1 a _).mpr ⟨ha, rfl⟩
      simp [q1, ha]
    · have q1 : h1 a = none := by
        cases hh : h1 a with
        | none => rfl
        | some x => exact absurd ((hg1 a x).mp hh).1 ha
      simp only [q1, Option.none_or, if_neg ha, List.mem_append, ha, false_or]
      exact hg2 a e
  · rw [e3]
    exact hP1.app hP2
  · rw [e3]
    exact hD1.app hD2 (fun i j p q hp hq hpq => hx p.1 (yd_pl hp).1 (by rw [hpq]; exact (yd_pl hq).1))
/-- a part of a world -/
theorem yd_sub {D : va_G} {h h1 : yH} {A : Nat → Prop} {H : Heap} (w : yd_at D h A H) (hs : ∀ (a : Nat) (e : va_E), h1 a = some e → h a = some e) : yd_at D h1 A H := by
  obtain ⟨L, g, hg, hP, hD⟩ := w
  have sub : ∀ (M : List Nat), (∀ a, a ∈ M → a ∈ L) → va_P D vwCl (va_pl M g) H := fun M hM k q hk => by
    obtain ⟨p1, p2⟩ := yd_pl hk
    obtain ⟨j, hj⟩ := va_pl_get (X := []) (f := g) (hM _ p1)
    rw [List.nil_append] at hj
    have := hP j _ hj
    rwa [← p2] at this
  have subD : ∀ (f : Nat → Bool), va_D A (va_pl (L.filter f) g) := fun f => by
    have hsl : List.Sublist (va_pl (L.filter f) g) (va_pl L g) := by
      unfold va_pl
      exact List.Sublist.map _ List.filter_sublist
    have hnd : L.Pairwise (fun a b => a ≠ b) := by
      rw [List.pairwise_iff_getElem]
      intro i j hi hj hij e
      have q1 : (va_pl L g)[i]? = some (L[i], g L[i]) := by unfold va_pl; rw [List.getElem?_map, List.getElem?_eq_getElem hi]; rfl
      have q2 : (va_pl L g)[j]? = some (L[i], g L[i]) := by unfold va_pl; rw [List.getElem?_map, List.getElem?_eq_getElem hj, ← e]; rfl
      have := hD.1 i j _ _ q1 q2 rfl
      omega
    have hnd2 : (L.filter f).Pairwise (fun a b => a ≠ b) := List.Pairwise.filter _ hnd
    refine ⟨fun i j p q hp hq hpq => ?_, fun k q hk => ?_⟩
    · have g1 : (L.filter f)[i]? = some p.1 := by
        unfold va_pl at hp
        rw [List.getElem?_map] at hp
        cases hx : (L.filter f)[i]? with
        | none => rw [hx] at hp; cases hp
        | some a => rw [hx] at hp; simp only [Option.map_some, Option.some.injEq] at hp; rw [← hp]
      have g2 : (L.filter f)[j]? = some q.1 := by
        unfold va_pl at hq
        rw [List.getElem?_map] at hq
        cases hx : (L.filter f)[j]? with
        | none => rw [hx] at hq; cases hq
        | some a => rw [hx] at hq; simp only [Option.map_some, Option.some.injEq] at hq; rw [← hq]
      by_cases hij : i = j
      · exact hij
      · exfalso
        rw [List.pairwise_iff_getElem] at hnd2
        obtain ⟨l1, m1⟩ := List.getElem?_eq_some_iff.mp g1
        obtain ⟨l2, m2⟩ := List.getElem?_eq_some_iff.mp g2
        rcases Nat.lt_or_ge i j with c | c
        · exact hnd2 i j l1 l2 c (by rw [m1, m2, hpq])
        · exact hnd2 j i l2 l1 (by omega) (by rw [m1, m2, hpq])
    · obtain ⟨j, hj⟩ := List.getElem?_of_mem (hsl.subset (List.mem_of_getElem? hk))
      exact hD.2 j q hj
  refine ⟨L.filter (fun a => (h1 a).isSome), g, fun a e => ?_, sub _ (fun a ha => (List.mem_filter.mp ha).1), subD _⟩
  rw [List.mem_filter]
  constructor
  · intro ha
    obtain ⟨p1, p2⟩ := (hg a e).mp (hs a e ha)
    exact ⟨⟨p1, by simp [ha]⟩, p2⟩
  · rintro ⟨⟨p1, p2⟩, p3⟩
    cases hh : h1 a with
    | none => simp [hh] at p2
    | some x =>
      have := ((hg a x).mp (hs a x hh)).2
      rw [← p3, this]

/-- the locals: their size, and what stands at the places that are told; only values of one word -/
def yd_lv (ls : Array Slot) (nL : Nat) (lv : List (Option Value)) : Prop := ∃ lw : List (Nat × Value), lv_has ls nL lw ∧ ∀ (i : Nat) (v : Value), lv[i]? = some (some v) → (i, v) ∈ lw ∧ v.category = 1
theorem yd_lvat {ls : Array Slot} {nL : Nat} {lv : List (Option Value)} (h : yd_lv ls nL lv) {i : Nat} {v : Value} (hi : lv[i]? = some (some v)) : ls[i]? = some (.val v) := by
  obtain ⟨lw, h1, h2⟩ := h
  exact h1.2.2 (i, v) (h2 i v hi).1
theorem yd_lvset {ls : Array Slot} {nL : Nat} {lv : List (Option Value)} {lw : List (Nat × Value)} {i : Nat} {v : Value} (hc : v.category = 1) (h2 : ∀ (i : Nat) (v : Value), lv[i]? = some (some v) → (i, v) ∈ lw ∧ v.category = 1)
    (h1 : lv_has ls nL ((i, v) :: lw.filter (fun q => !(q.1 == i) && !(q.1 + 1 == i && q.2.category == 2)))) : yd_lv ls nL (lv.set i (some v)) := by
  refine ⟨_, h1, fun j u hj => ?_⟩
  by_cases e : i = j
  · subst e
    by_cases hl : i < lv.length
    · rw [List.getElem?_set_self hl] at hj
      cases hj
      exact ⟨List.mem_cons_self, hc⟩
    · rw [List.set_eq_of_length_le (by omega)] at hj
      rw [List.getElem?_eq_none (by omega)] at hj
      cases hj
  · rw [List.getElem?_set_ne e] at hj
    obtain ⟨p1, p2⟩ := h2 j u hj
    refine ⟨List.mem_cons_of_mem _ (List.mem_filter.mpr ⟨p1, ?_⟩), p2⟩
    have e' : (j == i) = false := by simp; exact fun q => e q.symm
    simp [e', p2]
def yd_isref : Value → Bool
  | .ref _ => true
  | .null => true
  | _ => false
theorem yd_isref_or {v : Value} (h : yd_isref v = true) : v = .null ∨ ∃ a, v = .ref a := by
  cases v with
  | ref a => exact Or.inr ⟨a, rfl⟩
  | null => exact Or.inl rfl
  | _ => cases h
theorem yd_isref_rf (r : Option Nat) : yd_isref (va_rf r) = true := by cases r <;> rfl
/-- the room of a method of depth k that makes at most mc cells of ms slots -/
abbrev yR (k mc ms : Nat) : Room := { frames := k, cells := mc, slots := ms, locals := 40 * k }
abbrev yT (dA : Nat → ClassId) : List (ClassId × FieldType) := [(dA 0, .int), (dA 1, .byte), (dA 2, .short), (dA 3, .boolean), (dA 4, .object "CrossingKeeper$Phase"), (dA 5, .object "java/lang/Object")]
/-- what a method may write: the cells of its world, and what is new -/
def yA (h : yH) (sz : Nat) : Nat → Prop := fun q => (∃ e, h q = some e) ∨ sz ≤ q
/-- what else holds of the start (Z), and that it goes on to hold -/
def yZok (D : va_G) (dA : Nat → ClassId) (Z : (Nat → Prop) → State → Prop) : Prop :=
  (∀ (A : Nat → Prop) (U : State), Z A U → va_K D vwCl (yT dA) U) ∧
  (∀ (A : Nat → Prop) (u U : State), u.vm = U.vm → u.heap = U.heap → Z A u → Z A U) ∧
  (∀ (A B : Nat → Prop) (u U : State), u.WarmedH U.vm → (∀ q : Nat, q < u.heap.size → ¬ A q → U.heap[q]? = u.heap[q]?) → (∀ q : Nat, q < u.heap.size → B q → A q) → Z A u → Z B U)
/-- what holds all along a method's body -/
def yC (Z : (Nat → Prop) → State → Prop) (D : va_G) (dA : Nat → ClassId) (p : Program) (s : State) (m : MethodId) (args : Array Value) (meth : Method) (c : Code) (cc : ByteArray) (nL : Nat) (own : String) (A : Nat → Prop) : Prop :=
  p.tables.exec = Jvm.exec ∧ c.code = cc ∧ c.maxLocals = nL ∧ s.vm.findClass own = some m.cls ∧ (∀ w ∈ yTs, w.before args s = true) ∧ va_K D vwCl (yT dA) s ∧ meth.locks = false ∧ (∀ q, s.heap.size ≤ q → A q) ∧ Z A s ∧ yZok D dA Z
/-- the walk: from here, with these locals, this stack and this world, the machine comes to Q -/
def yW (p : Program) (l : Launch) (e : Env) (R : Room) (s : State) (m : MethodId) (args : Array Value) (below : List Frame) (meth : Method) (c : Code) (nL : Nat) (D : va_G) (A : Nat → Prop) (cells slots : Nat) (Q : State → Prop) (pc : Nat) (lv : List (Option Value)) (st : List Value) (h : yH) : Prop :=
  ∀ (H : Heap) (locs : List Loc) (ls : Array Slot), yd_lv ls nL lv → yd_at D h A H → va_S A s.heap H locs → W p l e R s m args below meth c H locs cells slots Q (F0 m pc ls st)
def yQc (D : va_G) (A : Nat → Prop) (Q : Option Value → yH → Prop) : Array Value → State → Outcome → State → Prop := fun _ s0 oc t => (∃ (r : Option Value) (h' : yH), oc = .returned r ∧ Q r h' ∧ yd_at D h' A t.heap) ∧ va_F A s0 t
/-- the end of a method's body -/
abbrev yF (D : va_G) (A : Nat → Prop) (Q : Option Value → yH → Prop) (below : List Frame) (args : Array Value) (s : State) (mc ms : Nat) : State → Prop := MQ below (yQc D A Q) args s mc ms A
/-- a contract -/
def yM (Z : (Nat → Prop) → State → Prop) (D : va_G) (y : MethodName) (cc : ByteArray) (nL : Nat) (ret : Option FieldType) (k mc ms : Nat) (As : List Value) (h : yH) (Q : Option Value → yH → Prop) : Prop :=
  ∀ (l : Launch) (sz : Nat), Met l y (Cond.code y cc nL ret :: yTs) (yR k mc ms) (va_Pc As (fun U => U.heap.size = sz ∧ yd_at D h (fun _ => True) U.heap ∧ Z (yA h sz) U)) (yQc D (yA h sz) Q) mc ms (yA h sz)
theorem yM_mono {Z : (Nat → Prop) → State → Prop} {D : va_G} {y : MethodName} {cc : ByteArray} {nL : Nat} {ret : Option FieldType} {k mc ms : Nat} {As : List Value} {h : yH} {Q Q' : Option Value → yH → Prop} (hM : yM Z D y cc nL ret k mc ms As h Q) (hq : ∀ r h', Q r h' → Q' r h') : yM Z D y cc nL ret k mc ms As h Q' := by
  intro l sz p e a1 a2 a3 s m args below hf happ hP hK
  obtain ⟨k, o, b1, b2, b3, ⟨⟨r, h', c1, c2, c3⟩, c4⟩, c5⟩ := hM l sz p e a1 a2 a3 s m args below hf happ hP hK
  exact ⟨k, o, b1, b2, b3, ⟨⟨r, h', c1, hq r h' c2, c3⟩, c4⟩, c5⟩
theorem yM_of {Z : (Nat → Prop) → State → Prop} {D : va_G} {dA : Nat → ClassId} (hZ : yZok D dA Z) {y : MethodName} {cc : ByteArray} {nL : Nat} {ret : Option FieldType} {k mc ms : Nat} {As : List Value} {h : yH} {Q : Option Value → yH → Prop} (hy : plainName y.cls = true) (hA : As.all (fun v => v.category == 1) = true) (hn : As.length ≤ nL)
    (body : ∀ (p : Program) (l : Launch) (e : Env) (s : State) (m : MethodId) (args : Array Value) (below : List Frame) (meth : Method) (c : Code) (A : Nat → Prop), yC Z D dA p s m args meth c cc nL y.cls A → meth.sig.returnType = ret → meth.name = y.name →
      yW p l e (yR k mc ms) s m args below meth c nL D A 0 0 (yF D A Q below args s mc ms) 0 (As.map some ++ List.replicate (nL - As.length) none) [] h) : yM Z D y cc nL ret k mc ms As h Q := by
  intro l sz
  refine Met.ofW (cc := cc) (maxL := nL) (ret := ret) hy rfl ?_
  intro p e s m args below meth c s₁ B hml hv
  obtain ⟨rfl, hsz, hw, hz⟩ := hv
  subst hsz
  have hts := atoms_spec (ws := Cond.code y cc nL ret :: yTs) B.pre
  have C : yC Z D dA p s m As.toArray meth c cc nL y.cls (yA h s.heap.size) := ⟨B.exec, B.bytes, hml, findClass_of_methodNamed B.named, fun w hw => hts w (List.mem_cons_of_mem _ hw), hZ.1 _ _ hz, B.notSynchronized, fun q hq => Or.inr hq, hz, hZ⟩
  have hsl : ∀ (vs : List Value), vs.all (fun v => v.category == 1) = true → (lg_sl vs).length = vs.length := by
    intro vs
    induction vs with
    | nil => intro _; rfl
    | cons v vs ih =>
      intro hv
      simp only [List.all_cons, Bool.and_eq_true, beq_iff_eq] at hv
      have q := ih hv.2
      have e : lg_sl (v :: vs) = Slot.val v :: lg_sl vs := by simp [lg_sl, hv.1]
      rw [e, List.length_cons, q, List.length_cons]
  have hargs : ∀ (vs : List Value) (i : Nat), vs.all (fun v => v.category == 1) = true → ∀ (j : Nat) (v : Value), vs[j]? = some v → (i + j, v) ∈ lv_args i vs ∧ v.category = 1 := by
    intro vs
    induction vs with
    | nil => intro i _ j v hj; cases hj
    | cons u vs ih =>
      intro i hv j v hj
      simp only [List.all_cons, Bool.and_eq_true, beq_iff_eq] at hv
      cases j with
      | zero =>
        rw [List.getElem?_cons_zero] at hj
        cases hj
        exact ⟨by unfold lv_args; exact List.mem_cons_self, hv.1⟩
      | succ j =>
        rw [List.getElem?_cons_succ] at hj
        obtain ⟨q1, q2⟩ := ih (i + 1) hv.2 j v hj
        refine ⟨?_, q2⟩
        unfold lv_args
        rw [if_neg (by rw [hv.1]; decide)]
        have e : i + (j + 1) = i + 1 + j := by omega
        rw [e]
        exact List.mem_cons_of_mem _ q1
  have hl := lv_entry As (n := nL) (by rw [hsl As hA]; exact hn)
  rw [lg_entry_eq]
  refine body p l e s m As.toArray below meth c (yA h s.heap.size) C B.returns (name_of_methodNamed B.named B.method).1 s.heap [] _ ⟨_, hl, fun i v hi => ?_⟩ (yd_weak hw (fun a e he _ => Or.inl ⟨e, he⟩)) va_S.rf
  by_cases hi2 : i < (As.map some).length
  · rw [List.getElem?_append_left hi2, List.getElem?_map] at hi
    cases hx : As[i]? with
    | none => rw [hx] at hi; cases hi
    | some u =>
      rw [hx] at hi
      simp only [Option.map_some, Option.some.injEq] at hi
      subst hi
      have := hargs As 0 hA i u hx
      rwa [Nat.zero_add] at this
  · rw [List.getElem?_append_right (by omega)] at hi
    have := List.mem_of_getElem? hi
    simp at this

section Rows1
variable {Z : (Nat → Prop) → State → Prop} {D : va_G} {dA : Nat → ClassId} {p : Program} {l : Launch} {e : Env} {R : Room} {s : State} {m : MethodId} {args : Array Value} {below : List Frame} {meth : Method} {c : Code} {cc : ByteArray} {nL : Nat} {own : String} {A : Nat → Prop} {cells slots : Nat} {Q : State → Prop} {pc : Nat} {lv : List (Option Value)} {st : List Value} {h : yH}
theorem yr_iconst (pc2 : Nat) (C : yC Z D dA p s m args meth c cc nL own A) {n : Int} (v : Int32) (d : decode cc pc = .ok (.iconst n, 1)) (hv : Int32.ofInt n = v) (hp : pc + 1 = pc2) (k : yW p l e R s m args below meth c nL D A cells slots Q pc2 lv (.int v :: st) (h)) : yW p l e R s m args below meth c nL D A cells slots Q pc lv (st) (h) := fun H locs ls a b w => by
  subst hp
  exact lv_iconst C.1 C.2.1 d hv (k H locs ls a b w)
theorem yr_bipush (pc2 : Nat) (C : yC Z D dA p s m args meth c cc nL own A) {n : Int} (v : Int32) (d : decode cc pc = .ok (.bipush n, 2)) (hv : (Int8.ofInt n).toInt32 = v) (hp : pc + 2 = pc2) (k : yW p l e R s m args below meth c nL D A cells slots Q pc2 lv (.int v :: st) (h)) : yW p l e R s m args below meth c nL D A cells slots Q pc lv (st) (h) := fun H locs ls a b w => by
  subst hp
  exact lv_bipush C.1 C.2.1 d hv (k H locs ls a b w)
theorem yr_sipush (pc2 : Nat) (C : yC Z D dA p s m args meth c cc nL own A) {n : Int} (v : Int32) (d : decode cc pc = .ok (.sipush n, 3)) (hv : (Int16.ofInt n).toInt32 = v) (hp : pc + 3 = pc2) (k : yW p l e R s m args below meth c nL D A cells slots Q pc2 lv (.int v :: st) (h)) : yW p l e R s m args below meth c nL D A cells slots Q pc lv (st) (h) := fun H locs ls a b w => by
  subst hp
  exact lv_sipush C.1 C.2.1 d hv (k H locs ls a b w)
theorem yr_null (pc2 : Nat) (C : yC Z D dA p s m args meth c cc nL own A)  (d : decode cc pc = .ok (.aconst_null, 1)) (hp : pc + 1 = pc2) (k : yW p l e R s m args below meth c nL D A cells slots Q pc2 lv (.null :: st) (h)) : yW p l e R s m args below meth c nL D A cells slots Q pc lv (st) (h) := fun H locs ls a b w => by
  subst hp
  exact lv_null C.1 C.2.1 d (k H locs ls a b w)
theorem yr_iload_n (pc2 : Nat) (C : yC Z D dA p s m args meth c cc nL own A) {i : Fin 4} {x : Int32} (d : decode cc pc = .ok (.iload_n i, 1)) (hl : lv[(i : Nat)]? = some (some (.int x))) (hp : pc + 1 = pc2) (k : yW p l e R s m args below meth c nL D A cells slots Q pc2 lv (.int x :: st) (h)) : yW p l e R s m args below meth c nL D A cells slots Q pc lv (st) (h) := fun H locs ls a b w => by
  subst hp
  exact lv_iload_n C.1 C.2.1 d rfl (yd_lvat a hl) (k H locs ls a b w)
theorem yr_iload (pc2 : Nat) (C : yC Z D dA p s m args meth c cc nL own A) {i : Nat} {x : Int32} (d : decode cc pc = .ok (.iload i, 2)) (hl : lv[i]? = some (some (.int x))) (hp : pc + 2 = pc2) (k : yW p l e R s m args below meth c nL D A cells slots Q pc2 lv (.int x :: st) (h)) : yW p l e R s m args below meth c nL D A cells slots Q pc lv (st) (h) := fun H locs ls a b w => by
  subst hp
  exact lv_iload C.1 C.2.1 d (yd_lvat a hl) (k H locs ls a b w)
theorem yr_aload_n (pc2 : Nat) (C : yC Z D dA p s m args meth c cc nL own A) {i : Fin 4} {v : Value} (d : decode cc pc = .ok (.aload_n i, 1)) (hl : lv[(i : Nat)]? = some (some v)) (hv : yd_isref v = true) (hp : pc + 1 = pc2) (k : yW p l e R s m args below meth c nL D A cells slots Q pc2 lv (v :: st) (h)) : yW p l e R s m args below meth c nL D A cells slots Q pc lv (st) (h) := fun H locs ls a b w => by
  subst hp
  rcases yd_isref_or hv with rfl | ⟨x, rfl⟩
  · exact lv_aload_nN C.1 C.2.1 d rfl (yd_lvat a hl) (k H locs ls a b w)
  · exact lv_aload_n C.1 C.2.1 d rfl (yd_lvat a hl) (k H locs ls a b w)
theorem yr_aload (pc2 : Nat) (C : yC Z D dA p s m args meth c cc nL own A) {i : Nat} {v : Value} (d : decode cc pc = .ok (.aload i, 2)) (hl : lv[i]? = some (some v)) (hv : yd_isref v = true) (hp : pc + 2 = pc2) (k : yW p l e R s m args below meth c nL D A cells slots Q pc2 lv (v :: st) (h)) : yW p l e R s m args below meth c nL D A cells slots Q pc lv (st) (h) := fun H locs ls a b w => by
  subst hp
  rcases yd_isref_or hv with rfl | ⟨x, rfl⟩
  · exact lv_aloadN C.1 C.2.1 d (yd_lvat a hl) (k H locs ls a b w)
  · exact lv_aload C.1 C.2.1 d (yd_lvat a hl) (k H locs ls a b w)
theorem yr_istore0 (pc2 : Nat) (C : yC Z D dA p s m args meth c cc nL own A) {x : Int32} {b0 : Option Value} {r : List (Option Value)} (d : decode cc pc = .ok (.istore_n 0, 1)) (hn : 0 < nL) (hp : pc + 1 = pc2) (k : yW p l e R s m args below meth c nL D A cells slots Q pc2 (some (.int x) :: r) (st) (h)) : yW p l e R s m args below meth c nL D A cells slots Q pc (b0 :: r) (.int x :: st) (h) := fun H locs ls a b w => by
  subst hp
  obtain ⟨lw, a1, a2⟩ := a
  exact lv_istore_n C.1 C.2.1 d rfl a1 hn rfl (fun ls' hl' => k H locs ls' (yd_lvset (lv := b0 :: r) (i := 0) rfl a2 hl') b w)
theorem yr_astore0 (pc2 : Nat) (C : yC Z D dA p s m args meth c cc nL own A) {v : Value} {b0 : Option Value} {r : List (Option Value)} (d : decode cc pc = .ok (.astore_n 0, 1)) (hv : yd_isref v = true) (hn : 0 < nL) (hp : pc + 1 = pc2) (k : yW p l e R s m args below meth c nL D A cells slots Q pc2 (some v :: r) (st) (h)) : yW p l e R s m args below meth c nL D A cells slots Q pc (b0 :: r) (v :: st) (h) := fun H locs ls a b w => by
  subst hp
  obtain ⟨lw, a1, a2⟩ := a
  rcases yd_isref_or hv with rfl | ⟨x, rfl⟩
  · exact lv_astore_nN C.1 C.2.1 d rfl a1 hn rfl (fun ls' hl' => k H locs ls' (yd_lvset (lv := b0 :: r) (i := 0) rfl a2 hl') b w)
  · exact lv_astore_n C.1 C.2.1 d rfl a1 hn rfl (fun ls' hl' => k H locs ls' (yd_lvset (lv := b0 :: r) (i := 0) rfl a2 hl') b w)
theorem yr_iinc0 (pc2 : Nat) (C : yC Z D dA p s m args meth c cc nL own A) {x : Int32} (z : Int32) {n : Int} {q0 : Unit} {r : List (Option Value)} (d : decode cc pc = .ok (.iinc 0 n, 3)) (hz : Int32.ofInt n = z) (hn : 0 < nL) (hp : pc + 3 = pc2) (k : yW p l e R s m args below meth c nL D A cells slots Q pc2 (some (.int (x + z)) :: r) (st) (h)) : yW p l e R s m args below meth c nL D A cells slots Q pc (some (.int x) :: r) (st) (h) := fun H locs ls a b w => by
  subst hp hz
  obtain ⟨lw, a1, a2⟩ := a
  obtain ⟨j, hj⟩ := List.getElem?_of_mem (a2 0 (.int x) rfl).1
  exact lv_iinc C.1 C.2.1 d a1 hj rfl hn rfl (fun ls' hl' => k H locs ls' (yd_lvset (lv := some (.int x) :: r) (i := 0) rfl a2 hl') b w)
theorem yr_istore1 (pc2 : Nat) (C : yC Z D dA p s m args meth c cc nL own A) {x : Int32} {b0 b1 : Option Value} {r : List (Option Value)} (d : decode cc pc = .ok (.istore_n 1, 1)) (hn : 1 < nL) (hp : pc + 1 = pc2) (k : yW p l e R s m args below meth c nL D A cells slots Q pc2 (b0 :: some (.int x) :: r) (st) (h)) : yW p l e R s m args below meth c nL D A cells slots Q pc (b0 :: b1 :: r) (.int x :: st) (h) := fun H locs ls a b w => by
  subst hp
  obtain ⟨lw, a1, a2⟩ := a
  exact lv_istore_n C.1 C.2.1 d rfl a1 hn rfl (fun ls' hl' => k H locs ls' (yd_lvset (lv := b0 :: b1 :: r) (i := 1) rfl a2 hl') b w)
theorem yr_astore1 (pc2 : Nat) (C : yC Z D dA p s m args meth c cc nL own A) {v : Value} {b0 b1 : Option Value} {r : List (Option Value)} (d : decode cc pc = .ok (.astore_n 1, 1)) (hv : yd_isref v = true) (hn : 1 < nL) (hp : pc + 1 = pc2) (k : yW p l e R s m args below meth c nL D A cells slots Q pc2 (b0 :: some v :: r) (st) (h)) : yW p l e R s m args below meth c nL D A cells slots Q pc (b0 :: b1 :: r) (v :: st) (h) := fun H locs ls a b w => by
  subst hp
  obtain ⟨lw, a1, a2⟩ := a
  rcases yd_isref_or hv with rfl | ⟨x, rfl⟩
  · exact lv_astore_nN C.1 C.2.1 d rfl a1 hn rfl (fun ls' hl' => k H locs ls' (yd_lvset (lv := b0 :: b1 :: r) (i := 1) rfl a2 hl') b w)
  · exact lv_astore_n C.1 C.2.1 d rfl a1 hn rfl (fun ls' hl' => k H locs ls' (yd_lvset (lv := b0 :: b1 :: r) (i := 1) rfl a2 hl') b w)
theorem yr_iinc1 (pc2 : Nat) (C : yC Z D dA p s m args meth c cc nL own A) {x : Int32} (z : Int32) {n : Int} {b0 : Option Value} {r : List (Option Value)} (d : decode cc pc = .ok (.iinc 1 n, 3)) (hz : Int32.ofInt n = z) (hn : 1 < nL) (hp : pc + 3 = pc2) (k : yW p l e R s m args below meth c nL D A cells slots Q pc2 (b0 :: some (.int (x + z)) :: r) (st) (h)) : yW p l e R s m args below meth c nL D A cells slots Q pc (b0 :: some (.int x) :: r) (st) (h) := fun H locs ls a b w => by
  subst hp hz
  obtain ⟨lw, a1, a2⟩ := a
  obtain ⟨j, hj⟩ := List.getElem?_of_mem (a2 1 (.int x) rfl).1
  exact lv_iinc C.1 C.2.1 d a1 hj rfl hn rfl (fun ls' hl' => k H locs ls' (yd_lvset (lv := b0 :: some (.int x) :: r) (i := 1) rfl a2 hl') b w)
theorem yr_istore2 (pc2 : Nat) (C : yC Z D dA p s m args meth c cc nL own A) {x : Int32} {b0 b1 b2 : Option Value} {r : List (Option Value)} (d : decode cc pc = .ok (.istore_n 2, 1)) (hn : 2 < nL) (hp : pc + 1 = pc2) (k : yW p l e R s m args below meth c nL D A cells slots Q pc2 (b0 :: b1 :: some (.int x) :: r) (st) (h)) : yW p l e R s m args below meth c nL D A cells slots Q pc (b0 :: b1 :: b2 :: r) (.int x :: st) (h) := fun H locs ls a b w => by
  subst hp
  obtain ⟨lw, a1, a2⟩ := a
  exact lv_istore_n C.1 C.2.1 d rfl a1 hn rfl (fun ls' hl' => k H locs ls' (yd_lvset (lv := b0 :: b1 :: b2 :: r) (i := 2) rfl a2 hl') b w)
theorem yr_astore2 (pc2 : Nat) (C : yC Z D dA p s m args meth c cc nL own A) {v : Value} {b0 b1 b2 : Option Value} {r : List (Option Value)} (d : decode cc pc = .ok (.astore_n 2, 1)) (hv : yd_isref v = true) (hn : 2 < nL) (hp : pc + 1 = pc2) (k : yW p l e R s m args below meth c nL D A cells slots Q pc2 (b0 :: b1 :: some v :: r) (st) (h)) : yW p l e R s m args below meth c nL D A cells slots Q pc (b0 :: b1 :: b2 :: r) (v :: st) (h) := fun H locs ls a b w => by
  subst hp
  obtain ⟨lw, a1, a2⟩ := a
  rcases yd_isref_or hv with rfl | ⟨x, rfl⟩
  · exact lv_astore_nN C.1 C.2.1 d rfl a1 hn rfl (fun ls' hl' => k H locs ls' (yd_lvset (lv := b0 :: b1 :: b2 :: r) (i := 2) rfl a2 hl') b w)
  · exact lv_astore_n C.1 C.2.1 d rfl a1 hn rfl (fun ls' hl' => k H locs ls' (yd_lvset (lv := b0 :: b1 :: b2 :: r) (i := 2) rfl a2 hl') b w)
theorem yr_iinc2 (pc2 : Nat) (C : yC Z D dA p s m args meth c cc nL own A) {x : Int32} (z : Int32) {n : Int} {b0 b1 : Option Value} {r : List (Option Value)} (d : decode cc pc = .ok (.iinc 2 n, 3)) (hz : Int32.ofInt n = z) (hn : 2 < nL) (hp : pc + 3 = pc2) (k : yW p l e R s m args below meth c nL D A cells slots Q pc2 (b0 :: b1 :: some (.int (x + z)) :: r) (st) (h)) : yW p l e R s m args below meth c nL D A cells slots Q pc (b0 :: b1 :: some (.int x) :: r) (st) (h) := fun H locs ls a b w => by
  subst hp hz
  obtain ⟨lw, a1, a2⟩ := a
  obtain ⟨j, hj⟩ := List.getElem?_of_mem (a2 2 (.int x) rfl).1
  exact lv_iinc C.1 C.2.1 d a1 hj rfl hn rfl (fun ls' hl' => k H locs ls' (yd_lvset (lv := b0 :: b1 :: some (.int x) :: r) (i := 2) rfl a2 hl') b w)
theorem yr_istore3 (pc2 : Nat) (C : yC Z D dA p s m args meth c cc nL own A) {x : Int32} {b0 b1 b2 b3 : Option Value} {r : List (Option Value)} (d : decode cc pc = .ok (.istore_n 3, 1)) (hn : 3 < nL) (hp : pc + 1 = pc2) (k : yW p l e R s m args below meth c nL D A cells slots Q pc2 (b0 :: b1 :: b2 :: some (.int x) :: r) (st) (h)) : yW p l e R s m args below meth c nL D A cells slots Q pc (b0 :: b1 :: b2 :: b3 :: r) (.int x :: st) (h) := fun H locs ls a b w => by
  subst hp
  obtain ⟨lw, a1, a2⟩ := a
  exact lv_istore_n C.1 C.2.1 d rfl a1 hn rfl (fun ls' hl' => k H locs ls' (yd_lvset (lv := b0 :: b1 :: b2 :: b3 :: r) (i := 3) rfl a2 hl') b w)
theorem yr_astore3 (pc2 : Nat) (C : yC Z D dA p s m args meth c cc nL own A) {v : Value} {b0 b1 b2 b3 : Option Value} {r : List (Option Value)} (d : decode cc pc = .ok (.astore_n 3, 1)) (hv : yd_isref v = true) (hn : 3 < nL) (hp : pc + 1 = pc2) (k : yW p l e R s m args below meth c nL D A cells slots Q pc2 (b0 :: b1 :: b2 :: some v :: r) (st) (h)) : yW p l e R s m args below meth c nL D A cells slots Q pc (b0 :: b1 :: b2 :: b3 :: r) (v :: st) (h) := fun H locs ls a b w => by
  subst hp
  obtain ⟨lw, a1, a2⟩ := a
  rcases yd_isref_or hv with rfl | ⟨x, rfl⟩
  · exact lv_astore_nN C.1 C.2.1 d rfl a1 hn rfl (fun ls' hl' => k H locs ls' (yd_lvset (lv := b0 :: b1 :: b2 :: b3 :: r) (i := 3) rfl a2 hl') b w)
  · exact lv_astore_n C.1 C.2.1 d rfl a1 hn rfl (fun ls' hl' => k H locs ls' (yd_lvset (lv := b0 :: b1 :: b2 :: b3 :: r) (i := 3) rfl a2 hl') b w)
theorem yr_iinc3 (pc2 : Nat) (C : yC Z D dA p s m args meth c cc nL own A) {x : Int32} (z : Int32) {n : Int} {b0 b1 b2 : Option Value} {r : List (Option Value)} (d : decode cc pc = .ok (.iinc 3 n, 3)) (hz : Int32.ofInt n = z) (hn : 3 < nL) (hp : pc + 3 = pc2) (k : yW p l e R s m args below meth c nL D A cells slots Q pc2 (b0 :: b1 :: b2 :: some (.int (x + z)) :: r) (st) (h)) : yW p l e R s m args below meth c nL D A cells slots Q pc (b0 :: b1 :: b2 :: some (.int x) :: r) (st) (h) := fun H locs ls a b w => by
  subst hp hz
  obtain ⟨lw, a1, a2⟩ := a
  obtain ⟨j, hj⟩ := List.getElem?_of_mem (a2 3 (.int x) rfl).1
  exact lv_iinc C.1 C.2.1 d a1 hj rfl hn rfl (fun ls' hl' => k H locs ls' (yd_lvset (lv := b0 :: b1 :: b2 :: some (.int x) :: r) (i := 3) rfl a2 hl') b w)
theorem yr_istore4 (pc2 : Nat) (C : yC Z D dA p s m args meth c cc nL own A) {x : Int32} {b0 b1 b2 b3 b4 : Option Value} {r : List (Option Value)} (d : decode cc pc = .ok (.istore 4, 2)) (hn : 4 < nL) (hp : pc + 2 = pc2) (k : yW p l e R s m args below meth c nL D A cells slots Q pc2 (b0 :: b1 :: b2 :: b3 :: some (.int x) :: r) (st) (h)) : yW p l e R s m args below meth c nL D A cells slots Q pc (b0 :: b1 :: b2 :: b3 :: b4 :: r) (.int x :: st) (h) := fun H locs ls a b w => by
  subst hp
  obtain ⟨lw, a1, a2⟩ := a
  exact lv_istore C.1 C.2.1 d a1 hn rfl (fun ls' hl' => k H locs ls' (yd_lvset (lv := b0 :: b1 :: b2 :: b3 :: b4 :: r) (i := 4) rfl a2 hl') b w)
theorem yr_astore4 (pc2 : Nat) (C : yC Z D dA p s m args meth c cc nL own A) {v : Value} {b0 b1 b2 b3 b4 : Option Value} {r : List (Option Value)} (d : decode cc pc = .ok (.astore 4, 2)) (hv : yd_isref v = true) (hn : 4 < nL) (hp : pc + 2 = pc2) (k : yW p l e R s m args below meth c nL D A cells slots Q pc2 (b0 :: b1 :: b2 :: b3 :: some v :: r) (st) (h)) : yW p l e R s m args below meth c nL D A cells slots Q pc (b0 :: b1 :: b2 :: b3 :: b4 :: r) (v :: st) (h) := fun H locs ls a b w => by
  subst hp
  obtain ⟨lw, a1, a2⟩ := a
  rcases yd_isref_or hv with rfl | ⟨x, rfl⟩
  · exact lv_astoreN C.1 C.2.1 d a1 hn rfl (fun ls' hl' => k H locs ls' (yd_lvset (lv := b0 :: b1 :: b2 :: b3 :: b4 :: r) (i := 4) rfl a2 hl') b w)
  · exact lv_astore C.1 C.2.1 d a1 hn rfl (fun ls' hl' => k H locs ls' (yd_lvset (lv := b0 :: b1 :: b2 :: b3 :: b4 :: r) (i := 4) rfl a2 hl') b w)
theorem yr_iinc4 (pc2 : Nat) (C : yC Z D dA p s m args meth c cc nL own A) {x : Int32} (z : Int32) {n : Int} {b0 b1 b2 b3 : Option Value} {r : List (Option Value)} (d : decode cc pc = .ok (.iinc 4 n, 3)) (hz : Int32.ofInt n = z) (hn : 4 < nL) (hp : pc + 3 = pc2) (k : yW p l e R s m args below meth c nL D A cells slots Q pc2 (b0 :: b1 :: b2 :: b3 :: some (.int (x + z)) :: r) (st) (h)) : yW p l e R s m args below meth c nL D A cells slots Q pc (b0 :: b1 :: b2 :: b3 :: some (.int x) :: r) (st) (h) := fun H locs ls a b w => by
  subst hp hz
  obtain ⟨lw, a1, a2⟩ := a
  obtain ⟨j, hj⟩ := List.getElem?_of_mem (a2 4 (.int x) rfl).1
  exact lv_iinc C.1 C.2.1 d a1 hj rfl hn rfl (fun ls' hl' => k H locs ls' (yd_lvset (lv := b0 :: b1 :: b2 :: b3 :: some (.int x) :: r) (i := 4) rfl a2 hl') b w)
theorem yr_istore5 (pc2 : Nat) (C : yC Z D dA p s m args meth c cc nL own A) {x : Int32} {b0 b1 b2 b3 b4 b5 : Option Value} {r : List (Option Value)} (d : decode cc pc = .ok (.istore 5, 2)) (hn : 5 < nL) (hp : pc + 2 = pc2) (k : yW p l e R s m args below meth c nL D A cells slots Q pc2 (b0 :: b1 :: b2 :: b3 :: b4 :: some (.int x) :: r) (st) (h)) : yW p l e R s m args below meth c nL D A cells slots Q pc (b0 :: b1 :: b2 :: b3 :: b4 :: b5 :: r) (.int x :: st) (h) := fun H locs ls a b w => by
  subst hp
  obtain ⟨lw, a1, a2⟩ := a
  exact lv_istore C.1 C.2.1 d a1 hn rfl (fun ls' hl' => k H locs ls' (yd_lvset (lv := b0 :: b1 :: b2 :: b3 :: b4 :: b5 :: r) (i := 5) rfl a2 hl') b w)
theorem yr_astore5 (pc2 : Nat) (C : yC Z D dA p s m args meth c cc nL own A) {v : Value} {b0 b1 b2 b3 b4 b5 : Option Value} {r : List (Option Value)} (d : decode cc pc = .ok (.astore 5, 2)) (hv : yd_isref v = true) (hn : 5 < nL) (hp : pc + 2 = pc2) (k : yW p l e R s m args below meth c nL D A cells slots Q pc2 (b0 :: b1 :: b2 :: b3 :: b4 :: some v :: r) (st) (h)) : yW p l e R s m args below meth c nL D A cells slots Q pc (b0 :: b1 :: b2 :: b3 :: b4 :: b5 :: r) (v :: st) (h) := fun H locs ls a b w => by
  subst hp
  obtain ⟨lw, a1, a2⟩ := a
  rcases yd_isref_or hv with rfl | ⟨x, rfl⟩
  · exact lv_astoreN C.1 C.2.1 d a1 hn rfl (fun ls' hl' => k H locs ls' (yd_lvset (lv := b0 :: b1 :: b2 :: b3 :: b4 :: b5 :: r) (i := 5) rfl a2 hl') b w)
  · exact lv_astore C.1 C.2.1 d a1 hn rfl (fun ls' hl' => k H locs ls' (yd_lvset (lv := b0 :: b1 :: b2 :: b3 :: b4 :: b5 :: r) (i := 5) rfl a2 hl') b w)
theorem yr_iinc5 (pc2 : Nat) (C : yC Z D dA p s m args meth c cc nL own A) {x : Int32} (z : Int32) {n : Int} {b0 b1 b2 b3 b4 : Option Value} {r : List (Option Value)} (d : decode cc pc = .ok (.iinc 5 n, 3)) (hz : Int32.ofInt n = z) (hn : 5 < nL) (hp : pc + 3 = pc2) (k : yW p l e R s m args below meth c nL D A cells slots Q pc2 (b0 :: b1 :: b2 :: b3 :: b4 :: some (.int (x + z)) :: r) (st) (h)) : yW p l e R s m args below meth c nL D A cells slots Q pc (b0 :: b1 :: b2 :: b3 :: b4 :: some (.int x) :: r) (st) (h) := fun H locs ls a b w => by
  subst hp hz
  obtain ⟨lw, a1, a2⟩ := a
  obtain ⟨j, hj⟩ := List.getElem?_of_mem (a2 5 (.int x) rfl).1
  exact lv_iinc C.1 C.2.1 d a1 hj rfl hn rfl (fun ls' hl' => k H locs ls' (yd_lvset (lv := b0 :: b1 :: b2 :: b3 :: b4 :: some (.int x) :: r) (i := 5) rfl a2 hl') b w)
theorem yr_istore6 (pc2 : Nat) (C : yC Z D dA p s m args meth c cc nL own A) {x : Int32} {b0 b1 b2 b3 b4 b5 b6 : Option Value} {r : List (Option Value)} (d : decode cc pc = .ok (.istore 6, 2)) (hn : 6 < nL) (hp : pc + 2 = pc2) (k : yW p l e R s m args below meth c nL D A cells slots Q pc2 (b0 :: b1 :: b2 :: b3 :: b4 :: b5 :: some (.int x) :: r) (st) (h)) : yW p l e R s m args below meth c nL D A cells slots Q pc (b0 :: b1 :: b2 :: b3 :: b4 :: b5 :: b6 :: r) (.int x :: st) (h) := fun H locs ls a b w => by
  subst hp
  obtain ⟨lw, a1, a2⟩ := a
  exact lv_istore C.1 C.2.1 d a1 hn rfl (fun ls' hl' => k H locs ls' (yd_lvset (lv := b0 :: b1 :: b2 :: b3 :: b4 :: b5 :: b6 :: r) (i := 6) rfl a2 hl') b w)
theorem yr_astore6 (pc2 : Nat) (C : yC Z D dA p s m args meth c cc nL own A) {v : Value} {b0 b1 b2 b3 b4 b5 b6 : Option Value} {r : List (Option Value)} (d : decode cc pc = .ok (.astore 6, 2)) (hv : yd_isref v = true) (hn : 6 < nL) (hp : pc + 2 = pc2) (k : yW p l e R s m args below meth c nL D A cells slots Q pc2 (b0 :: b1 :: b2 :: b3 :: b4 :: b5 :: some v :: r) (st) (h)) : yW p l e R s m args below meth c nL D A cells slots Q pc (b0 :: b1 :: b2 :: b3 :: b4 :: b5 :: b6 :: r) (v :: st) (h) := fun H locs ls a b w => by
  subst hp
  obtain ⟨lw, a1, a2⟩ := a
  rcases yd_isref_or hv with rfl | ⟨x, rfl⟩
  · exact lv_astoreN C.1 C.2.1 d a1 hn rfl (fun ls' hl' => k H locs ls' (yd_lvset (lv := b0 :: b1 :: b2 :: b3 :: b4 :: b5 :: b6 :: r) (i := 6) rfl a2 hl') b w)
  · exact lv_astore C.1 C.2.1 d a1 hn rfl (fun ls' hl' => k H locs ls' (yd_lvset (lv := b0 :: b1 :: b2 :: b3 :: b4 :: b5 :: b6 :: r) (i := 6) rfl a2 hl') b w)
theorem yr_iinc6 (pc2 : Nat) (C : yC Z D dA p s m args meth c cc nL own A) {x : Int32} (z : Int32) {n : Int} {b0 b1 b2 b3 b4 b5 : Option Value} {r : List (Option Value)} (d : decode cc pc = .ok (.iinc 6 n, 3)) (hz : Int32.ofInt n = z) (hn : 6 < nL) (hp : pc + 3 = pc2) (k : yW p l e R s m args below meth c nL D A cells slots Q pc2 (b0 :: b1 :: b2 :: b3 :: b4 :: b5 :: some (.int (x + z)) :: r) (st) (h)) : yW p l e R s m args below meth c nL D A cells slots Q pc (b0 :: b1 :: b2 :: b3 :: b4 :: b5 :: some (.int x) :: r) (st) (h) := fun H locs ls a b w => by
  subst hp hz
  obtain ⟨lw, a1, a2⟩ := a
  obtain ⟨j, hj⟩ := List.getElem?_of_mem (a2 6 (.int x) rfl).1
  exact lv_iinc C.1 C.2.1 d a1 hj rfl hn rfl (fun ls' hl' => k H locs ls' (yd_lvset (lv := b0 :: b1 :: b2 :: b3 :: b4 :: b5 :: some (.int x) :: r) (i := 6) rfl a2 hl') b w)
theorem yr_istore7 (pc2 : Nat) (C : yC Z D dA p s m args meth c cc nL own A) {x : Int32} {b0 b1 b2 b3 b4 b5 b6 b7 : Option Value} {r : List (Option Value)} (d : decode cc pc = .ok (.istore 7, 2)) (hn : 7 < nL) (hp : pc + 2 = pc2) (k : yW p l e R s m args below meth c nL D A cells slots Q pc2 (b0 :: b1 :: b2 :: b3 :: b4 :: b5 :: b6 :: some (.int x) :: r) (st) (h)) : yW p l e R s m args below meth c nL D A cells slots Q pc (b0 :: b1 :: b2 :: b3 :: b4 :: b5 :: b6 :: b7 :: r) (.int x :: st) (h) := fun H locs ls a b w => by
  subst hp
  obtain ⟨lw, a1, a2⟩ := a
  exact lv_istore C.1 C.2.1 d a1 hn rfl (fun ls' hl' => k H locs ls' (yd_lvset (lv := b0 :: b1 :: b2 :: b3 :: b4 :: b5 :: b6 :: b7 :: r) (i := 7) rfl a2 hl') b w)
theorem yr_astore7 (pc2 : Nat) (C : yC Z D dA p s m args meth c cc nL own A) {v : Value} {b0 b1 b2 b3 b4 b5 b6 b7 : Option Value} {r : List (Option Value)} (d : decode cc pc = .ok (.astore 7, 2)) (hv : yd_isref v = true) (hn : 7 < nL) (hp : pc + 2 = pc2) (k : yW p l e R s m args below meth c nL D A cells slots Q pc2 (b0 :: b1 :: b2 :: b3 :: b4 :: b5 :: b6 :: some v :: r) (st) (h)) : yW p l e R s m args below meth c nL D A cells slots Q pc (b0 :: b1 :: b2 :: b3 :: b4 :: b5 :: b6 :: b7 :: r) (v :: st) (h) := fun H locs ls a b w => by
  subst hp
  obtain ⟨lw, a1, a2⟩ := a
  rcases yd_isref_or hv with rfl | ⟨x, rfl⟩
  · exact lv_astoreN C.1 C.2.1 d a1 hn rfl (fun ls' hl' => k H locs ls' (yd_lvset (lv := b0 :: b1 :: b2 :: b3 :: b4 :: b5 :: b6 :: b7 :: r) (i := 7) rfl a2 hl') b w)
  · exact lv_astore C.1 C.2.1 d a1 hn rfl (fun ls' hl' => k H locs ls' (yd_lvset (lv := b0 :: b1 :: b2 :: b3 :: b4 :: b5 :: b6 :: b7 :: r) (i := 7) rfl a2 hl') b w)
theorem yr_iinc7 (pc2 : Nat) (C : yC Z D dA p s m args meth c cc nL own A) {x : Int32} (z : Int32) {n : Int} {b0 b1 b2 b3 b4 b5 b6 : Option Value} {r : List (Option Value)} (d : decode cc pc = .ok (.iinc 7 n, 3)) (hz : Int32.ofInt n = z) (hn : 7 < nL) (hp : pc + 3 = pc2) (k : yW p l e R s m args below meth c nL D A cells slots Q pc2 (b0 :: b1 :: b2 :: b3 :: b4 :: b5 :: b6 :: some (.int (x + z)) :: r) (st) (h)) : yW p l e R s m args below meth c nL D A cells slots Q pc (b0 :: b1 :: b2 :: b3 :: b4 :: b5 :: b6 :: some (.int x) :: r) (st) (h) := fun H locs ls a b w => by
  subst hp hz
  obtain ⟨lw, a1, a2⟩ := a
  obtain ⟨j, hj⟩ := List.getElem?_of_mem (a2 7 (.int x) rfl).1
  exact lv_iinc C.1 C.2.1 d a1 hj rfl hn rfl (fun ls' hl' => k H locs ls' (yd_lvset (lv := b0 :: b1 :: b2 :: b3 :: b4 :: b5 :: b6 :: some (.int x) :: r) (i := 7) rfl a2 hl') b w)
theorem yr_istore8 (pc2 : Nat) (C : yC Z D dA p s m args meth c cc nL own A) {x : Int32} {b0 b1 b2 b3 b4 b5 b6 b7 b8 : Option Value} {r : List (Option Value)} (d : decode cc pc = .ok (.istore 8, 2)) (hn : 8 < nL) (hp : pc + 2 = pc2) (k : yW p l e R s m args below meth c nL D A cells slots Q pc2 (b0 :: b1 :: b2 :: b3 :: b4 :: b5 :: b6 :: b7 :: some (.int x) :: r) (st) (h)) : yW p l e R s m args below meth c nL D A cells slots Q pc (b0 :: b1 :: b2 :: b3 :: b4 :: b5 :: b6 :: b7 :: b8 :: r) (.int x :: st) (h) := fun H locs ls a b w => by
  subst hp
  obtain ⟨lw, a1, a2⟩ := a
  exact lv_istore C.1 C.2.1 d a1 hn rfl (fun ls' hl' => k H locs ls' (yd_lvset (lv := b0 :: b1 :: b2 :: b3 :: b4 :: b5 :: b6 :: b7 :: b8 :: r) (i := 8) rfl a2 hl') b w)
theorem yr_astore8 (pc2 : Nat) (C : yC Z D dA p s m args meth c cc nL own A) {v : Value} {b0 b1 b2 b3 b4 b5 b6 b7 b8 : Option Value} {r : List (Option Value)} (d : decode cc pc = .ok (.astore 8, 2)) (hv : yd_isref v = true) (hn : 8 < nL) (hp : pc + 2 = pc2) (k : yW p l e R s m args below meth c nL D A cells slots Q pc2 (b0 :: b1 :: b2 :: b3 :: b4 :: b5 :: b6 :: b7 :: some v :: r) (st) (h)) : yW p l e R s m args below meth c nL D A cells slots Q pc (b0 :: b1 :: b2 :: b3 :: b4 :: b5 :: b6 :: b7 :: b8 :: r) (v :: st) (h) := fun H locs ls a b w => by
  subst hp
  obtain ⟨lw, a1, a2⟩ := a
  rcases yd_isref_or hv with rfl | ⟨x, rfl⟩
  · exact lv_astoreN C.1 C.2.1 d a1 hn rfl (fun ls' hl' => k H locs ls' (yd_lvset (lv := b0 :: b1 :: b2 :: b3 :: b4 :: b5 :: b6 :: b7 :: b8 :: r) (i := 8) rfl a2 hl') b w)
  · exact lv_astore C.1 C.2.1 d a1 hn rfl (fun ls' hl' => k H locs ls' (yd_lvset (lv := b0 :: b1 :: b2 :: b3 :: b4 :: b5 :: b6 :: b7 :: b8 :: r) (i := 8) rfl a2 hl') b w)
theorem yr_iinc8 (pc2 : Nat) (C : yC Z D dA p s m args meth c cc nL own A) {x : Int32} (z : Int32) {n : Int} {b0 b1 b2 b3 b4 b5 b6 b7 : Option Value} {r : List (Option Value)} (d : decode cc pc = .ok (.iinc 8 n, 3)) (hz : Int32.ofInt n = z) (hn : 8 < nL) (hp : pc + 3 = pc2) (k : yW p l e R s m args below meth c nL D A cells slots Q pc2 (b0 :: b1 :: b2 :: b3 :: b4 :: b5 :: b6 :: b7 :: some (.int (x + z)) :: r) (st) (h)) : yW p l e R s m args below meth c nL D A cells slots Q pc (b0 :: b1 :: b2 :: b3 :: b4 :: b5 :: b6 :: b7 :: some (.int x) :: r) (st) (h) := fun H locs ls a b w => by
  subst hp hz
  obtain ⟨lw, a1, a2⟩ := a
  obtain ⟨j, hj⟩ := List.getElem?_of_mem (a2 8 (.int x) rfl).1
  exact lv_iinc C.1 C.2.1 d a1 hj rfl hn rfl (fun ls' hl' => k H locs ls' (yd_lvset (lv := b0 :: b1 :: b2 :: b3 :: b4 :: b5 :: b6 :: b7 :: some (.int x) :: r) (i := 8) rfl a2 hl') b w)
theorem yr_istore9 (pc2 : Nat) (C : yC Z D dA p s m args meth c cc nL own A) {x : Int32} {b0 b1 b2 b3 b4 b5 b6 b7 b8 b9 : Option Value} {r : List (Option Value)} (d : decode cc pc = .ok (.istore 9, 2)) (hn : 9 < nL) (hp : pc + 2 = pc2) (k : yW p l e R s m args below meth c nL D A cells slots Q pc2 (b0 :: b1 :: b2 :: b3 :: b4 :: b5 :: b6 :: b7 :: b8 :: some (.int x) :: r) (st) (h)) : yW p l e R s m args below meth c nL D A cells slots Q pc (b0 :: b1 :: b2 :: b3 :: b4 :: b5 :: b6 :: b7 :: b8 :: b9 :: r) (.int x :: st) (h) := fun H locs ls a b w => by
  subst hp
  obtain ⟨lw, a1, a2⟩ := a
  exact lv_istore C.1 C.2.1 d a1 hn rfl (fun ls' hl' => k H locs ls' (yd_lvset (lv := b0 :: b1 :: b2 :: b3 :: b4 :: b5 :: b6 :: b7 :: b8 :: b9 :: r) (i := 9) rfl a2 hl') b w)
theorem yr_astore9 (pc2 : Nat) (C : yC Z D dA p s m args meth c cc nL own A) {v : Value} {b0 b1 b2 b3 b4 b5 b6 b7 b8 b9 : Option Value} {r : List (Option Value)} (d : decode cc pc = .ok (.astore 9, 2)) (hv : yd_isref v = true) (hn : 9 < nL) (hp : pc + 2 = pc2) (k : yW p l e R s m args below meth c nL D A cells slots Q pc2 (b0 :: b1 :: b2 :: b3 :: b4 :: b5 :: b6 :: b7 :: b8 :: some v :: r) (st) (h)) : yW p l e R s m args below meth c nL D A cells slots Q pc (b0 :: b1 :: b2 :: b3 :: b4 :: b5 :: b6 :: b7 :: b8 :: b9 :: r) (v :: st) (h) := fun H locs ls a b w => by
  subst hp
  obtain ⟨lw, a1, a2⟩ := a
  rcases yd_isref_or hv with rfl | ⟨x, rfl⟩
  · exact lv_astoreN C.1 C.2.1 d a1 hn rfl (fun ls' hl' => k H locs ls' (yd_lvset (lv := b0 :: b1 :: b2 :: b3 :: b4 :: b5 :: b6 :: b7 :: b8 :: b9 :: r) (i := 9) rfl a2 hl') b w)
  · exact lv_astore C.1 C.2.1 d a1 hn rfl (fun ls' hl' => k H locs ls' (yd_lvset (lv := b0 :: b1 :: b2 :: b3 :: b4 :: b5 :: b6 :: b7 :: b8 :: b9 :: r) (i := 9) rfl a2 hl') b w)
theorem yr_iinc9 (pc2 : Nat) (C : yC Z D dA p s m args meth c cc nL own A) {x : Int32} (z : Int32) {n : Int} {b0 b1 b2 b3 b4 b5 b6 b7 b8 : Option Value} {r : List (Option Value)} (d : decode cc pc = .ok (.iinc 9 n, 3)) (hz : Int32.ofInt n = z) (hn : 9 < nL) (hp : pc + 3 = pc2) (k : yW p l e R s m args below meth c nL D A cells slots Q pc2 (b0 :: b1 :: b2 :: b3 :: b4 :: b5 :: b6 :: b7 :: b8 :: some (.int (x + z)) :: r) (st) (h)) : yW p l e R s m args below meth c nL D A cells slots Q pc (b0 :: b1 :: b2 :: b3 :: b4 :: b5 :: b6 :: b7 :: b8 :: some (.int x) :: r) (st) (h) := fun H locs ls a b w => by
  subst hp hz
  obtain ⟨lw, a1, a2⟩ := a
  obtain ⟨j, hj⟩ := List.getElem?_of_mem (a2 9 (.int x) rfl).1
  exact lv_iinc C.1 C.2.1 d a1 hj rfl hn rfl (fun ls' hl' => k H locs ls' (yd_lvset (lv := b0 :: b1 :: b2 :: b3 :: b4 :: b5 :: b6 :: b7 :: b8 :: some (.int x) :: r) (i := 9) rfl a2 hl') b w)
end Rows1
end
section
theorem yd_narZ {v : Int32} (h : v = 0 ∨ v = 1) : narrow .boolean (.int v) = .int v := by rcases h with rfl | rfl <;> rfl
section Rows2
variable {Z : (Nat → Prop) → State → Prop} {D : va_G} {dA : Nat → ClassId} {p : Program} {l : Launch} {e : Env} {R : Room} {s : State} {m : MethodId} {args : Array Value} {below : List Frame} {meth : Method} {c : Code} {cc : ByteArray} {nL : Nat} {own : String} {A : Nat → Prop} {cells slots : Nat} {Q : State → Prop} {pc : Nat} {lv : List (Option Value)} {st : List Value} {h : yH}
theorem yr_iadd (pc2 : Nat) (C : yC Z D dA p s m args meth c cc nL own A) {x y : Int32} (d : decode cc pc = .ok (.iadd, 1)) (hp : pc + 1 = pc2) (k : yW p l e R s m args below meth c nL D A cells slots Q pc2 lv (.int (x + y) :: st) (h)) : yW p l e R s m args below meth c nL D A cells slots Q pc lv (.int y :: .int x :: st) (h) := fun H locs ls a b w => by
  subst hp
  exact lv_iadd C.1 C.2.1 d (k H locs ls a b w)
theorem yr_isub (pc2 : Nat) (C : yC Z D dA p s m args meth c cc nL own A) {x y : Int32} (d : decode cc pc = .ok (.isub, 1)) (hp : pc + 1 = pc2) (k : yW p l e R s m args below meth c nL D A cells slots Q pc2 lv (.int (x - y) :: st) (h)) : yW p l e R s m args below meth c nL D A cells slots Q pc lv (.int y :: .int x :: st) (h) := fun H locs ls a b w => by
  subst hp
  exact lv_isub C.1 C.2.1 d (k H locs ls a b w)
theorem yr_imul (pc2 : Nat) (C : yC Z D dA p s m args meth c cc nL own A) {x y : Int32} (d : decode cc pc = .ok (.imul, 1)) (hp : pc + 1 = pc2) (k : yW p l e R s m args below meth c nL D A cells slots Q pc2 lv (.int (x * y) :: st) (h)) : yW p l e R s m args below meth c nL D A cells slots Q pc lv (.int y :: .int x :: st) (h) := fun H locs ls a b w => by
  subst hp
  exact lv_imul C.1 C.2.1 d (k H locs ls a b w)
theorem yr_iand (pc2 : Nat) (C : yC Z D dA p s m args meth c cc nL own A) {x y : Int32} (d : decode cc pc = .ok (.iand, 1)) (hp : pc + 1 = pc2) (k : yW p l e R s m args below meth c nL D A cells slots Q pc2 lv (.int (x &&& y) :: st) (h)) : yW p l e R s m args below meth c nL D A cells slots Q pc lv (.int y :: .int x :: st) (h) := fun H locs ls a b w => by
  subst hp
  exact lv_iand C.1 C.2.1 d (k H locs ls a b w)
theorem yr_ior (pc2 : Nat) (C : yC Z D dA p s m args meth c cc nL own A) {x y : Int32} (d : decode cc pc = .ok (.ior, 1)) (hp : pc + 1 = pc2) (k : yW p l e R s m args below meth c nL D A cells slots Q pc2 lv (.int (x ||| y) :: st) (h)) : yW p l e R s m args below meth c nL D A cells slots Q pc lv (.int y :: .int x :: st) (h) := fun H locs ls a b w => by
  subst hp
  exact lv_ior C.1 C.2.1 d (k H locs ls a b w)
theorem yr_ixor (pc2 : Nat) (C : yC Z D dA p s m args meth c cc nL own A) {x y : Int32} (d : decode cc pc = .ok (.ixor, 1)) (hp : pc + 1 = pc2) (k : yW p l e R s m args below meth c nL D A cells slots Q pc2 lv (.int (x ^^^ y) :: st) (h)) : yW p l e R s m args below meth c nL D A cells slots Q pc lv (.int y :: .int x :: st) (h) := fun H locs ls a b w => by
  subst hp
  exact lv_ixor C.1 C.2.1 d (k H locs ls a b w)
theorem yr_ishr (pc2 : Nat) (C : yC Z D dA p s m args meth c cc nL own A) {x y : Int32} (d : decode cc pc = .ok (.ishr, 1)) (hp : pc + 1 = pc2) (k : yW p l e R s m args below meth c nL D A cells slots Q pc2 lv (.int (x >>> (y &&& 31)) :: st) (h)) : yW p l e R s m args below meth c nL D A cells slots Q pc lv (.int y :: .int x :: st) (h) := fun H locs ls a b w => by
  subst hp
  exact lv_ishr C.1 C.2.1 d (k H locs ls a b w)
theorem yr_idiv (pc2 : Nat) (C : yC Z D dA p s m args meth c cc nL own A) {x y : Int32} (d : decode cc pc = .ok (.idiv, 1)) (hne : ¬ y = 0) (hp : pc + 1 = pc2) (k : yW p l e R s m args below meth c nL D A cells slots Q pc2 lv (.int (x / y) :: st) (h)) : yW p l e R s m args below meth c nL D A cells slots Q pc lv (.int y :: .int x :: st) (h) := fun H locs ls a b w => by
  subst hp
  exact lv_idiv C.1 C.2.1 d hne (k H locs ls a b w)
theorem yr_irem (pc2 : Nat) (C : yC Z D dA p s m args meth c cc nL own A) {x y : Int32} (d : decode cc pc = .ok (.irem, 1)) (hne : ¬ y = 0) (hp : pc + 1 = pc2) (k : yW p l e R s m args below meth c nL D A cells slots Q pc2 lv (.int (x - x / y * y) :: st) (h)) : yW p l e R s m args below meth c nL D A cells slots Q pc lv (.int y :: .int x :: st) (h) := fun H locs ls a b w => by
  subst hp
  exact lv_irem C.1 C.2.1 d hne (k H locs ls a b w)
theorem yr_i2b (pc2 : Nat) (C : yC Z D dA p s m args meth c cc nL own A) {x : Int32} (d : decode cc pc = .ok (.i2b, 1)) (hp : pc + 1 = pc2) (k : yW p l e R s m args below meth c nL D A cells slots Q pc2 lv (.int x.toInt8.toInt32 :: st) (h)) : yW p l e R s m args below meth c nL D A cells slots Q pc lv (.int x :: st) (h) := fun H locs ls a b w => by
  subst hp
  exact lv_i2b C.1 C.2.1 d rfl (k H locs ls a b w)
theorem yr_i2s (pc2 : Nat) (C : yC Z D dA p s m args meth c cc nL own A) {x : Int32} (d : decode cc pc = .ok (.i2s, 1)) (hp : pc + 1 = pc2) (k : yW p l e R s m args below meth c nL D A cells slots Q pc2 lv (.int x.toInt16.toInt32 :: st) (h)) : yW p l e R s m args below meth c nL D A cells slots Q pc lv (.int x :: st) (h) := fun H locs ls a b w => by
  subst hp
  exact lv_i2s C.1 C.2.1 d rfl (k H locs ls a b w)
theorem yr_dup (pc2 : Nat) (C : yC Z D dA p s m args meth c cc nL own A) {v : Value} (d : decode cc pc = .ok (.dup, 1)) (hc : v.category = 1) (hp : pc + 1 = pc2) (k : yW p l e R s m args below meth c nL D A cells slots Q pc2 lv (v :: v :: st) (h)) : yW p l e R s m args below meth c nL D A cells slots Q pc lv (v :: st) (h) := fun H locs ls a b w => by
  subst hp
  exact lv_dup C.1 C.2.1 d hc (k H locs ls a b w)
theorem yr_pop (pc2 : Nat) (C : yC Z D dA p s m args meth c cc nL own A) {v : Value} (d : decode cc pc = .ok (.pop, 1)) (hc : v.category = 1) (hp : pc + 1 = pc2) (k : yW p l e R s m args below meth c nL D A cells slots Q pc2 lv (st) (h)) : yW p l e R s m args below meth c nL D A cells slots Q pc lv (v :: st) (h) := fun H locs ls a b w => by
  subst hp
  exact lv_pop C.1 C.2.1 d hc (k H locs ls a b w)
theorem yr_dup_x1 (pc2 : Nat) (C : yC Z D dA p s m args meth c cc nL own A) {v u : Value} (d : decode cc pc = .ok (.dup_x1, 1)) (hc : v.category = 1) (hd : u.category = 1) (hp : pc + 1 = pc2) (k : yW p l e R s m args below meth c nL D A cells slots Q pc2 lv (v :: u :: v :: st) (h)) : yW p l e R s m args below meth c nL D A cells slots Q pc lv (v :: u :: st) (h) := fun H locs ls a b w => by
  subst hp
  exact lv_dup_x1 C.1 C.2.1 d hc hd (k H locs ls a b w)
theorem yr_dup2 (pc2 : Nat) (C : yC Z D dA p s m args meth c cc nL own A) {v u : Value} (d : decode cc pc = .ok (.dup2, 1)) (hc : v.category = 1) (hd : u.category = 1) (hp : pc + 1 = pc2) (k : yW p l e R s m args below meth c nL D A cells slots Q pc2 lv (v :: u :: v :: u :: st) (h)) : yW p l e R s m args below meth c nL D A cells slots Q pc lv (v :: u :: st) (h) := fun H locs ls a b w => by
  subst hp
  exact lv_dup2_11 C.1 C.2.1 d hc hd (k H locs ls a b w)
theorem yr_if_eq (tgt pc2 : Nat) (C : yC Z D dA p s m args meth c cc nL own A) {x : Int32} {off : Int} (d : decode cc pc = .ok (.ifCond .eq off, 3)) (ht : (pc : Int) + off = (tgt : Int)) (hp : pc + 3 = pc2) (kt : x = 0 → yW p l e R s m args below meth c nL D A cells slots Q tgt lv (st) (h)) (kf : ¬ x = 0 → yW p l e R s m args below meth c nL D A cells slots Q pc2 lv (st) (h)) : yW p l e R s m args below meth c nL D A cells slots Q pc lv (.int x :: st) (h) := fun H locs ls a b w => by
  subst hp
  exact lv_if_eq C.1 C.2.1 d ht (fun q => kt q H locs ls a b w) (fun q => kf q H locs ls a b w)
theorem yr_icmp_eq (tgt pc2 : Nat) (C : yC Z D dA p s m args meth c cc nL own A) {x y : Int32} {off : Int} (d : decode cc pc = .ok (.if_icmp .eq off, 3)) (ht : (pc : Int) + off = (tgt : Int)) (hp : pc + 3 = pc2) (kt : x = y → yW p l e R s m args below meth c nL D A cells slots Q tgt lv (st) (h)) (kf : ¬ x = y → yW p l e R s m args below meth c nL D A cells slots Q pc2 lv (st) (h)) : yW p l e R s m args below meth c nL D A cells slots Q pc lv (.int y :: .int x :: st) (h) := fun H locs ls a b w => by
  subst hp
  exact lv_icmp_eq C.1 C.2.1 d ht (fun q => kt q H locs ls a b w) (fun q => kf q H locs ls a b w)
theorem yr_if_ne (tgt pc2 : Nat) (C : yC Z D dA p s m args meth c cc nL own A) {x : Int32} {off : Int} (d : decode cc pc = .ok (.ifCond .ne off, 3)) (ht : (pc : Int) + off = (tgt : Int)) (hp : pc + 3 = pc2) (kt : ¬ x = 0 → yW p l e R s m args below meth c nL D A cells slots Q tgt lv (st) (h)) (kf : x = 0 → yW p l e R s m args below meth c nL D A cells slots Q pc2 lv (st) (h)) : yW p l e R s m args below meth c nL D A cells slots Q pc lv (.int x :: st) (h) := fun H locs ls a b w => by
  subst hp
  exact lv_if_ne C.1 C.2.1 d ht (fun q => kt q H locs ls a b w) (fun q => kf q H locs ls a b w)
theorem yr_icmp_ne (tgt pc2 : Nat) (C : yC Z D dA p s m args meth c cc nL own A) {x y : Int32} {off : Int} (d : decode cc pc = .ok (.if_icmp .ne off, 3)) (ht : (pc : Int) + off = (tgt : Int)) (hp : pc + 3 = pc2) (kt : ¬ x = y → yW p l e R s m args below meth c nL D A cells slots Q tgt lv (st) (h)) (kf : x = y → yW p l e R s m args below meth c nL D A cells slots Q pc2 lv (st) (h)) : yW p l e R s m args below meth c nL D A cells slots Q pc lv (.int y :: .int x :: st) (h) := fun H locs ls a b w => by
  subst hp
  exact lv_icmp_ne C.1 C.2.1 d ht (fun q => kt q H locs ls a b w) (fun q => kf q H locs ls a b w)
theorem yr_if_lt (tgt pc2 : Nat) (C : yC Z D dA p s m args meth c cc nL own A) {x : Int32} {off : Int} (d : decode cc pc = .ok (.ifCond .lt off, 3)) (ht : (pc : Int) + off = (tgt : Int)) (hp : pc + 3 = pc2) (kt : x < 0 → yW p l e R s m args below meth c nL D A cells slots Q tgt lv (st) (h)) (kf : ¬ x < 0 → yW p l e R s m args below meth c nL D A cells slots Q pc2 lv (st) (h)) : yW p l e R s m args below meth c nL D A cells slots Q pc lv (.int x :: st) (h) := fun H locs ls a b w => by
  subst hp
  exact lv_if_lt C.1 C.2.1 d ht (fun q => kt q H locs ls a b w) (fun q => kf q H locs ls a b w)
theorem yr_icmp_lt (tgt pc2 : Nat) (C : yC Z D dA p s m args meth c cc nL own A) {x y : Int32} {off : Int} (d : decode cc pc = .ok (.if_icmp .lt off, 3)) (ht : (pc : Int) + off = (tgt : Int)) (hp : pc + 3 = pc2) (kt : x < y → yW p l e R s m args below meth c nL D A cells slots Q tgt lv (st) (h)) (kf : ¬ x < y → yW p l e R s m args below meth c nL D A cells slots Q pc2 lv (st) (h)) : yW p l e R s m args below meth c nL D A cells slots Q pc lv (.int y :: .int x :: st) (h) := fun H locs ls a b w => by
  subst hp
  exact lv_icmp_lt C.1 C.2.1 d ht (fun q => kt q H locs ls a b w) (fun q => kf q H locs ls a b w)
theorem yr_if_ge (tgt pc2 : Nat) (C : yC Z D dA p s m args meth c cc nL own A) {x : Int32} {off : Int} (d : decode cc pc = .ok (.ifCond .ge off, 3)) (ht : (pc : Int) + off = (tgt : Int)) (hp : pc + 3 = pc2) (kt : 0 ≤ x → yW p l e R s m args below meth c nL D A cells slots Q tgt lv (st) (h)) (kf : ¬ 0 ≤ x → yW p l e R s m args below meth c nL D A cells slots Q pc2 lv (st) (h)) : yW p l e R s m args below meth c nL D A cells slots Q pc lv (.int x :: st) (h) := fun H locs ls a b w => by
  subst hp
  exact lv_if_ge C.1 C.2.1 d ht (fun q => kt q H locs ls a b w) (fun q => kf q H locs ls a b w)
theorem yr_icmp_ge (tgt pc2 : Nat) (C : yC Z D dA p s m args meth c cc nL own A) {x y : Int32} {off : Int} (d : decode cc pc = .ok (.if_icmp .ge off, 3)) (ht : (pc : Int) + off = (tgt : Int)) (hp : pc + 3 = pc2) (kt : y ≤ x → yW p l e R s m args below meth c nL D A cells slots Q tgt lv (st) (h)) (kf : ¬ y ≤ x → yW p l e R s m args below meth c nL D A cells slots Q pc2 lv (st) (h)) : yW p l e R s m args below meth c nL D A cells slots Q pc lv (.int y :: .int x :: st) (h) := fun H locs ls a b w => by
  subst hp
  exact lv_icmp_ge C.1 C.2.1 d ht (fun q => kt q H locs ls a b w) (fun q => kf q H locs ls a b w)
theorem yr_if_gt (tgt pc2 : Nat) (C : yC Z D dA p s m args meth c cc nL own A) {x : Int32} {off : Int} (d : decode cc pc = .ok (.ifCond .gt off, 3)) (ht : (pc : Int) + off = (tgt : Int)) (hp : pc + 3 = pc2) (kt : 0 < x → yW p l e R s m args below meth c nL D A cells slots Q tgt lv (st) (h)) (kf : ¬ 0 < x → yW p l e R s m args below meth c nL D A cells slots Q pc2 lv (st) (h)) : yW p l e R s m args below meth c nL D A cells slots Q pc lv (.int x :: st) (h) := fun H locs ls a b w => by
  subst hp
  exact lv_if_gt C.1 C.2.1 d ht (fun q => kt q H locs ls a b w) (fun q => kf q H locs ls a b w)
theorem yr_icmp_gt (tgt pc2 : Nat) (C : yC Z D dA p s m args meth c cc nL own A) {x y : Int32} {off : Int} (d : decode cc pc = .ok (.if_icmp .gt off, 3)) (ht : (pc : Int) + off = (tgt : Int)) (hp : pc + 3 = pc2) (kt : y < x → yW p l e R s m args below meth c nL D A cells slots Q tgt lv (st) (h)) (kf : ¬ y < x → yW p l e R s m args below meth c nL D A cells slots Q pc2 lv (st) (h)) : yW p l e R s m args below meth c nL D A cells slots Q pc lv (.int y :: .int x :: st) (h) := fun H locs ls a b w => by
  subst hp
  exact lv_icmp_gt C.1 C.2.1 d ht (fun q => kt q H locs ls a b w) (fun q => kf q H locs ls a b w)
theorem yr_if_le (tgt pc2 : Nat) (C : yC Z D dA p s m args meth c cc nL own A) {x : Int32} {off : Int} (d : decode cc pc = .ok (.ifCond .le off, 3)) (ht : (pc : Int) + off = (tgt : Int)) (hp : pc + 3 = pc2) (kt : x ≤ 0 → yW p l e R s m args below meth c nL D A cells slots Q tgt lv (st) (h)) (kf : ¬ x ≤ 0 → yW p l e R s m args below meth c nL D A cells slots Q pc2 lv (st) (h)) : yW p l e R s m args below meth c nL D A cells slots Q pc lv (.int x :: st) (h) := fun H locs ls a b w => by
  subst hp
  exact lv_if_le C.1 C.2.1 d ht (fun q => kt q H locs ls a b w) (fun q => kf q H locs ls a b w)
theorem yr_icmp_le (tgt pc2 : Nat) (C : yC Z D dA p s m args meth c cc nL own A) {x y : Int32} {off : Int} (d : decode cc pc = .ok (.if_icmp .le off, 3)) (ht : (pc : Int) + off = (tgt : Int)) (hp : pc + 3 = pc2) (kt : x ≤ y → yW p l e R s m args below meth c nL D A cells slots Q tgt lv (st) (h)) (kf : ¬ x ≤ y → yW p l e R s m args below meth c nL D A cells slots Q pc2 lv (st) (h)) : yW p l e R s m args below meth c nL D A cells slots Q pc lv (.int y :: .int x :: st) (h) := fun H locs ls a b w => by
  subst hp
  exact lv_icmp_le C.1 C.2.1 d ht (fun q => kt q H locs ls a b w) (fun q => kf q H locs ls a b w)
theorem yr_goto (tgt : Nat) (C : yC Z D dA p s m args meth c cc nL own A) {off : Int} (d : decode cc pc = .ok (.goto off, 3)) (ht : (pc : Int) + off = (tgt : Int)) (k : yW p l e R s m args below meth c nL D A cells slots Q tgt lv (st) (h)) : yW p l e R s m args below meth c nL D A cells slots Q pc lv (st) (h) := fun H locs ls a b w => lv_goto C.1 C.2.1 d ht (k H locs ls a b w)
theorem yr_acmp_eq (tgt pc2 : Nat) (C : yC Z D dA p s m args meth c cc nL own A) {x y : Option Nat} {off : Int} (d : decode cc pc = .ok (.if_acmp .eq off, 3)) (ht : (pc : Int) + off = (tgt : Int)) (hp : pc + 3 = pc2) (kt : x = y → yW p l e R s m args below meth c nL D A cells slots Q tgt lv (st) (h)) (kf : ¬ x = y → yW p l e R s m args below meth c nL D A cells slots Q pc2 lv (st) (h)) : yW p l e R s m args below meth c nL D A cells slots Q pc lv (va_rf y :: va_rf x :: st) (h) := fun H locs ls a b w => by
  subst hp
  exact lv_acmp_eq C.1 C.2.1 d ht (fun q => kt q H locs ls a b w) (fun q => kf q H locs ls a b w)
theorem yr_acmp_ne (tgt pc2 : Nat) (C : yC Z D dA p s m args meth c cc nL own A) {x y : Option Nat} {off : Int} (d : decode cc pc = .ok (.if_acmp .ne off, 3)) (ht : (pc : Int) + off = (tgt : Int)) (hp : pc + 3 = pc2) (kt : ¬ x = y → yW p l e R s m args below meth c nL D A cells slots Q tgt lv (st) (h)) (kf : x = y → yW p l e R s m args below meth c nL D A cells slots Q pc2 lv (st) (h)) : yW p l e R s m args below meth c nL D A cells slots Q pc lv (va_rf y :: va_rf x :: st) (h) := fun H locs ls a b w => by
  subst hp
  exact lv_acmp_ne C.1 C.2.1 d ht (fun q => kt q H locs ls a b w) (fun q => kf q H locs ls a b w)
theorem yr_ifnull_r (pc2 : Nat) (C : yC Z D dA p s m args meth c cc nL own A) {x : Nat} {off : Int} (d : decode cc pc = .ok (.ifnull off, 3)) (hp : pc + 3 = pc2) (k : yW p l e R s m args below meth c nL D A cells slots Q pc2 lv (st) (h)) : yW p l e R s m args below meth c nL D A cells slots Q pc lv (.ref x :: st) (h) := fun H locs ls a b w => by
  subst hp
  exact lv_ifnull C.1 C.2.1 d (k H locs ls a b w)
theorem yr_ifnull_n (tgt : Nat) (C : yC Z D dA p s m args meth c cc nL own A) {off : Int} (d : decode cc pc = .ok (.ifnull off, 3)) (ht : (pc : Int) + off = (tgt : Int)) (k : yW p l e R s m args below meth c nL D A cells slots Q tgt lv (st) (h)) : yW p l e R s m args below meth c nL D A cells slots Q pc lv (.null :: st) (h) := fun H locs ls a b w => lv_ifnullN C.1 C.2.1 d ht (k H locs ls a b w)
theorem yr_ifnonnull_r (tgt : Nat) (C : yC Z D dA p s m args meth c cc nL own A) {x : Nat} {off : Int} (d : decode cc pc = .ok (.ifnonnull off, 3)) (ht : (pc : Int) + off = (tgt : Int)) (k : yW p l e R s m args below meth c nL D A cells slots Q tgt lv (st) (h)) : yW p l e R s m args below meth c nL D A cells slots Q pc lv (.ref x :: st) (h) := fun H locs ls a b w => lv_ifnonnull C.1 C.2.1 d ht (k H locs ls a b w)
theorem yr_ifnonnull_n (pc2 : Nat) (C : yC Z D dA p s m args meth c cc nL own A) {off : Int} (d : decode cc pc = .ok (.ifnonnull off, 3)) (hp : pc + 3 = pc2) (k : yW p l e R s m args below meth c nL D A cells slots Q pc2 lv (st) (h)) : yW p l e R s m args below meth c nL D A cells slots Q pc lv (.null :: st) (h) := fun H locs ls a b w => by
  subst hp
  exact lv_ifnonnullN C.1 C.2.1 d (k H locs ls a b w)
theorem yr_tabIn (tgt : Nat) (C : yC Z D dA p s m args meth c cc nL own A) {dflt lo hi : Int} {offs : Array Int} {len : Nat} {x : Int32} {off : Int} (d : decode cc pc = .ok (.tableswitch dflt lo hi offs, len)) (h1 : ¬ x.toInt < lo) (h2 : ¬ hi < x.toInt) (ho : offs[(x.toInt - lo).toNat]? = some off) (ht : (pc : Int) + off = (tgt : Int)) (k : yW p l e R s m args below meth c nL D A cells slots Q tgt lv (st) (h)) : yW p l e R s m args below meth c nL D A cells slots Q pc lv (.int x :: st) (h) := fun H locs ls a b w => lv_tableIn C.1 C.2.1 d h1 h2 ho ht (k H locs ls a b w)
theorem yr_tabOut (tgt : Nat) (C : yC Z D dA p s m args meth c cc nL own A) {dflt lo hi : Int} {offs : Array Int} {len : Nat} {x : Int32} (d : decode cc pc = .ok (.tableswitch dflt lo hi offs, len)) (h1 : x.toInt < lo ∨ hi < x.toInt) (ht : (pc : Int) + dflt = (tgt : Int)) (k : yW p l e R s m args below meth c nL D A cells slots Q tgt lv (st) (h)) : yW p l e R s m args below meth c nL D A cells slots Q pc lv (.int x :: st) (h) := fun H locs ls a b w => lv_tableOut C.1 C.2.1 d h1 ht (k H locs ls a b w)
theorem yr_look (tgt : Nat) (C : yC Z D dA p s m args meth c cc nL own A) {dflt : Int} {ps : Array (Int × Int)} {len : Nat} {x : Int32} {off : Int} (d : decode cc pc = .ok (.lookupswitch dflt ps, len)) (hs : (ps.toList.zip (ps.toList.drop 1)).all (fun (a, next) => a.1 < next.1) = true) (ho : Op.lookupswitch.offset ps.toList dflt x.toInt = off) (ht : (pc : Int) + off = (tgt : Int)) (k : yW p l e R s m args below meth c nL D A cells slots Q tgt lv (st) (h)) : yW p l e R s m args below meth c nL D A cells slots Q pc lv (.int x :: st) (h) := fun H locs ls a b w => lv_lookup C.1 C.2.1 d hs ho ht (k H locs ls a b w)
theorem yr_widen {k1 n1 : Nat} (h1 : cells ≤ k1) (h2 : slots ≤ n1) (k : yW p l e R s m args below meth c nL D A k1 n1 Q pc lv (st) (h)) : yW p l e R s m args below meth c nL D A cells slots Q pc lv (st) (h) := fun H locs ls a b w => W.widen h1 h2 (k H locs ls a b w)
theorem yr_iret (C : yC Z D dA p s m args meth c cc nL own A) {QQ : Option Value → yH → Prop} {mc ms : Nat} {v : Int32} (d : decode cc pc = .ok (.ireturn, 1)) (hr : meth.sig.returnType = some .int) (h1 : cells ≤ mc) (h2 : slots ≤ ms) (hq : QQ (some (.int v)) h) : yW p l e R s m args below meth c nL D A cells slots (yF D A QQ below args s mc ms) pc lv ([.int v]) (h) := fun H locs ls a b w => by
  refine W.widen h1 h2 ?_
  exact W.iret C.1 C.2.1 hr (fun t ht hW => ⟨⟨_, h, rfl, hq, by rw [ht]; exact b⟩, w.F ht⟩) w.2.2 d C.2.2.2.2.2.2.1
theorem yr_zret (C : yC Z D dA p s m args meth c cc nL own A) {QQ : Option Value → yH → Prop} {mc ms : Nat} {v : Int32} (d : decode cc pc = .ok (.ireturn, 1)) (hr : meth.sig.returnType = some .boolean) (hv : v = 0 ∨ v = 1) (h1 : cells ≤ mc) (h2 : slots ≤ ms) (hq : QQ (some (.int v)) h) : yW p l e R s m args below meth c nL D A cells slots (yF D A QQ below args s mc ms) pc lv ([.int v]) (h) := fun H locs ls a b w => by
  refine W.widen h1 h2 ?_
  exact W.zret C.1 C.2.1 hr (yd_narZ hv) (fun t ht hW => ⟨⟨_, h, rfl, hq, by rw [ht]; exact b⟩, w.F ht⟩) w.2.2 d C.2.2.2.2.2.2.1
theorem yr_vret (C : yC Z D dA p s m args meth c cc nL own A) {QQ : Option Value → yH → Prop} {mc ms : Nat} (d : decode cc pc = .ok (.return_, 1)) (hr : meth.sig.returnType = none) (h1 : cells ≤ mc) (h2 : slots ≤ ms) (hq : QQ none h) : yW p l e R s m args below meth c nL D A cells slots (yF D A QQ below args s mc ms) pc lv ([]) (h) := fun H locs ls a b w => by
  refine W.widen h1 h2 ?_
  exact W.vret C.1 C.2.1 hr (fun t ht hW => ⟨⟨_, h, rfl, hq, by rw [ht]; exact b⟩, w.F ht⟩) w.2.2 d C.2.2.2.2.2.2.1
theorem yr_aret (C : yC Z D dA p s m args meth c cc nL own A) {QQ : Option Value → yH → Prop} {mc ms : Nat} {v : Value} {rt : FieldType} (d : decode cc pc = .ok (.areturn, 1)) (hr : meth.sig.returnType = some rt) (hrt : (∃ n, rt = .object n) ∨ ∃ t, rt = .array t) (hv : yd_isref v = true) (h1 : cells ≤ mc) (h2 : slots ≤ ms) (hq : QQ (some v) h) : yW p l e R s m args below meth c nL D A cells slots (yF D A QQ below args s mc ms) pc lv ([v]) (h) := fun H locs ls a b w => by
  refine W.widen h1 h2 ?_
  exact W.aret C.1 C.2.1 hr hrt (yd_isref_or hv) (fun t ht hW => ⟨⟨_, h, rfl, hq, by rw [ht]; exact b⟩, w.F ht⟩) w.2.2 d C.2.2.2.2.2.2.1
/-- a link to a field: of the class number ci of vwCl the field k -/
def yFl (own : String) (idx ci k : Nat) : Prop := ∃ (R : String) (T : u_T) (N : Nat), vwCl[ci]? = some (R, T, N) ∧ k < N ∧ (∀ w ∈ u_ws R T N, w ∈ yTs) ∧ Cond.fieldLink own idx (T k).1 (T k).2.1 (T k).2.2.1 ∈ yTs
/-- the same, of a field that may be written, of type ty -/
def yFp (own : String) (idx ci k : Nat) (ty : FieldType) (fin : Bool) : Prop := ∃ (R : String) (T : u_T) (N : Nat) (tt : Nat → FieldType), vwCl[ci]? = some (R, T, N) ∧ k < N ∧ (∀ w ∈ u_ws R T N, w ∈ yTs) ∧ Cond.fieldLink own idx (T k).1 (T k).2.1 (T k).2.2.1 ∈ yTs ∧ (∀ j, j < N → parseFieldDescriptor (T j).2.2.1 = some (tt j)) ∧ (∀ a, a < N → ∀ b, b < N → a ≠ b → (T a).2.1 ≠ (T b).2.1) ∧ tt k = ty ∧ (T k).2.2.2 = fin ∧ (fin = true → (T k).1 = own)
theorem yr_get (pc2 : Nat) (C : yC Z D dA p s m args meth c cc nL own A) {idx ci k a : Nat} {fs : List Value} {v : Value} (d : decode cc pc = .ok (.getfield idx, 3)) (hl : yFl own idx ci k) (ha : h a = some (.inr (ci, fs))) (hv : fs[k]? = some v) (hp : pc + 3 = pc2) (k : yW p l e R s m args below meth c nL D A cells slots Q pc2 lv (v :: st) (h)) : yW p l e R s m args below meth c nL D A cells slots Q pc lv (.ref a :: st) (h) := fun H locs ls a1 b w => by
  subst hp
  obtain ⟨Rn, T, N, e1, e2, e3, e4⟩ := hl
  obtain ⟨ws, q0, hP, hD, hq, -⟩ := yd_pos b ha
  exact va_get C.1 C.2.1 C.2.2.2.2.1 e3 C.2.2.2.1 C.2.2.2.2.2.1 hP q0 hq e1 _ e2 (C.2.2.2.2.1 _ e4) (fun _ q => q) hv d (k H locs ls a1 b w)
theorem yr_put (pc2 : Nat) (C : yC Z D dA p s m args meth c cc nL own A) {idx ci k a : Nat} {fs : List Value} {v : Value} {ty : FieldType} (d : decode cc pc = .ok (.putfield idx, 3)) (hl : yFp own idx ci k ty false) (ha : h a = some (.inr (ci, fs))) (hlen : k < fs.length) (hn : narrow ty v = v) (hf : fits ty v = true) (hp : pc + 3 = pc2) (kk : yW p l e R s m args below meth c nL D A cells slots Q pc2 lv (st) (va_up h a (some (.inr (ci, fs.set k v))))) : yW p l e R s m args below meth c nL D A cells slots Q pc lv (v :: .ref a :: st) (h) := fun H locs ls a1 b w => by
  subst hp
  obtain ⟨Rn, T, N, tt, e1, e2, e3, e4, e5, e6, rfl, e8, -⟩ := hl
  obtain ⟨ws, q0, hP, hD, hq, hset, -⟩ := yd_pos b ha
  exact va_put C.1 C.2.1 C.2.2.2.2.1 e3 tt e5 e6 C.2.2.2.1 C.2.2.2.2.2.1 hP hD w q0 hq e1 k e2 (C.2.2.2.2.1 _ e4) (fun _ q => q) e8 (e5 k e2) hn hf hlen d (fun H1 locs1 hP1 hD1 hS1 => kk H1 locs1 ls a1 (hset _ H1 hP1 hD1) hS1)
theorem yr_putF (pc2 : Nat) (C : yC Z D dA p s m args meth c cc nL own A) (hin : meth.name = "<init>") {idx ci k a : Nat} {fs : List Value} {v : Value} {ty : FieldType} (d : decode cc pc = .ok (.putfield idx, 3)) (hl : yFp own idx ci k ty true) (ha : h a = some (.inr (ci, fs))) (hlen : k < fs.length) (hn : narrow ty v = v) (hf : fits ty v = true) (hp : pc + 3 = pc2) (kk : yW p l e R s m args below meth c nL D A cells slots Q pc2 lv (st) (va_up h a (some (.inr (ci, fs.set k v))))) : yW p l e R s m args below meth c nL D A cells slots Q pc lv (v :: .ref a :: st) (h) := fun H locs ls a1 b w => by
  subst hp
  obtain ⟨Rn, T, N, tt, e1, e2, e3, e4, e5, e6, rfl, e8, e9⟩ := hl
  obtain ⟨ws, q0, hP, hD, hq, hset, -⟩ := yd_pos b ha
  exact va_putF C.1 C.2.1 C.2.2.2.2.1 e3 tt e5 e6 C.2.2.2.1 C.2.2.2.2.2.1 hP hD w q0 hq e1 k e2 (C.2.2.2.2.1 _ e4) (fun _ q => q) e8 hin (e9 rfl) (e5 k e2) hn hf hlen d (fun H1 locs1 hP1 hD1 hS1 => kk H1 locs1 ls a1 (hset _ H1 hP1 hD1) hS1)
theorem yr_iald (pc2 : Nat) (C : yC Z D dA p s m args meth c cc nL own A) {a n : Nat} {f : Nat → Int32} {i : Int32} (d : decode cc pc = .ok (.iaload, 1)) (ha : h a = some (.inl (dA 0, n, .inl f))) (hin : vp_in i n) (hp : pc + 1 = pc2) (k : yW p l e R s m args below meth c nL D A cells slots Q pc2 lv (.int (f i.toNatClampNeg) :: st) (h)) : yW p l e R s m args below meth c nL D A cells slots Q pc lv (.int i :: .ref a :: st) (h) := fun H locs ls a1 b w => by
  subst hp
  obtain ⟨ws, q0, hP, hD, hq, -⟩ := yd_pos b ha
  exact va_iald C.1 C.2.1 C.2.2.2.2.2.1 hP q0 0 hq rfl hin d (k H locs ls a1 b w)
theorem yr_iast (pc2 : Nat) (C : yC Z D dA p s m args meth c cc nL own A) {a n : Nat} {f : Nat → Int32} {i x : Int32} (d : decode cc pc = .ok (.iastore, 1)) (ha : h a = some (.inl (dA 0, n, .inl f))) (hin : vp_in i n) (hp : pc + 1 = pc2) (k : yW p l e R s m args below meth c nL D A cells slots Q pc2 lv (st) (va_up h a (some (.inl (dA 0, n, .inl (upd f i.toNatClampNeg x)))))) : yW p l e R s m args below meth c nL D A cells slots Q pc lv (.int x :: .int i :: .ref a :: st) (h) := fun H locs ls a1 b w => by
  subst hp
  obtain ⟨ws, q0, hP, hD, hq, hset, -⟩ := yd_pos b ha
  exact va_iast C.1 C.2.1 C.2.2.2.2.2.1 hP hD w q0 0 hq rfl hin d (fun H1 locs1 hP1 hD1 hS1 => k H1 locs1 ls a1 (hset _ H1 hP1 hD1) hS1)
theorem yr_bald (pc2 : Nat) (C : yC Z D dA p s m args meth c cc nL own A) {a n : Nat} {f : Nat → Int32} {i : Int32} (d : decode cc pc = .ok (.baload, 1)) (ha : h a = some (.inl (dA 1, n, .inl f))) (hin : vp_in i n) (hp : pc + 1 = pc2) (k : yW p l e R s m args below meth c nL D A cells slots Q pc2 lv (.int (f i.toNatClampNeg) :: st) (h)) : yW p l e R s m args below meth c nL D A cells slots Q pc lv (.int i :: .ref a :: st) (h) := fun H locs ls a1 b w => by
  subst hp
  obtain ⟨ws, q0, hP, hD, hq, -⟩ := yd_pos b ha
  exact va_bald C.1 C.2.1 C.2.2.2.2.2.1 hP q0 1 hq rfl hin d (k H locs ls a1 b w)
theorem yr_bast (pc2 : Nat) (C : yC Z D dA p s m args meth c cc nL own A) {a n : Nat} {f : Nat → Int32} {i x : Int32} (d : decode cc pc = .ok (.bastore, 1)) (ha : h a = some (.inl (dA 1, n, .inl f))) (hin : vp_in i n) (hp : pc + 1 = pc2) (k : yW p l e R s m args below meth c nL D A cells slots Q pc2 lv (st) (va_up h a (some (.inl (dA 1, n, .inl (upd f i.toNatClampNeg (vp_nar .byte x))))))) : yW p l e R s m args below meth c nL D A cells slots Q pc lv (.int x :: .int i :: .ref a :: st) (h) := fun H locs ls a1 b w => by
  subst hp
  obtain ⟨ws, q0, hP, hD, hq, hset, -⟩ := yd_pos b ha
  exact va_bast C.1 C.2.1 C.2.2.2.2.2.1 hP hD w q0 1 hq rfl hin d (fun H1 locs1 hP1 hD1 hS1 => k H1 locs1 ls a1 (hset _ H1 hP1 hD1) hS1)
theorem yr_sald (pc2 : Nat) (C : yC Z D dA p s m args meth c cc nL own A) {a n : Nat} {f : Nat → Int32} {i : Int32} (d : decode cc pc = .ok (.saload, 1)) (ha : h a = some (.inl (dA 2, n, .inl f))) (hin : vp_in i n) (hp : pc + 1 = pc2) (k : yW p l e R s m args below meth c nL D A cells slots Q pc2 lv (.int (f i.toNatClampNeg) :: st) (h)) : yW p l e R s m args below meth c nL D A cells slots Q pc lv (.int i :: .ref a :: st) (h) := fun H locs ls a1 b w => by
  subst hp
  obtain ⟨ws, q0, hP, hD, hq, -⟩ := yd_pos b ha
  exact va_sald C.1 C.2.1 C.2.2.2.2.2.1 hP q0 2 hq rfl hin d (k H locs ls a1 b w)
theorem yr_sast (pc2 : Nat) (C : yC Z D dA p s m args meth c cc nL own A) {a n : Nat} {f : Nat → Int32} {i x : Int32} (d : decode cc pc = .ok (.sastore, 1)) (ha : h a = some (.inl (dA 2, n, .inl f))) (hin : vp_in i n) (hp : pc + 1 = pc2) (k : yW p l e R s m args below meth c nL D A cells slots Q pc2 lv (st) (va_up h a (some (.inl (dA 2, n, .inl (upd f i.toNatClampNeg (vp_nar .short x))))))) : yW p l e R s m args below meth c nL D A cells slots Q pc lv (.int x :: .int i :: .ref a :: st) (h) := fun H locs ls a1 b w => by
  subst hp
  obtain ⟨ws, q0, hP, hD, hq, hset, -⟩ := yd_pos b ha
  exact va_sast C.1 C.2.1 C.2.2.2.2.2.1 hP hD w q0 2 hq rfl hin d (fun H1 locs1 hP1 hD1 hS1 => k H1 locs1 ls a1 (hset _ H1 hP1 hD1) hS1)
theorem yr_zald (pc2 : Nat) (C : yC Z D dA p s m args meth c cc nL own A) {a n : Nat} {f : Nat → Int32} {i : Int32} (d : decode cc pc = .ok (.baload, 1)) (ha : h a = some (.inl (dA 3, n, .inl f))) (hin : vp_in i n) (hp : pc + 1 = pc2) (k : yW p l e R s m args below meth c nL D A cells slots Q pc2 lv (.int (f i.toNatClampNeg) :: st) (h)) : yW p l e R s m args below meth c nL D A cells slots Q pc lv (.int i :: .ref a :: st) (h) := fun H locs ls a1 b w => by
  subst hp
  obtain ⟨ws, q0, hP, hD, hq, -⟩ := yd_pos b ha
  exact va_zald C.1 C.2.1 C.2.2.2.2.2.1 hP q0 3 hq rfl hin d (k H locs ls a1 b w)
theorem yr_zast (pc2 : Nat) (C : yC Z D dA p s m args meth c cc nL own A) {a n : Nat} {f : Nat → Int32} {i x : Int32} (d : decode cc pc = .ok (.bastore, 1)) (ha : h a = some (.inl (dA 3, n, .inl f))) (hin : vp_in i n) (hp : pc + 1 = pc2) (k : yW p l e R s m args below meth c nL D A cells slots Q pc2 lv (st) (va_up h a (some (.inl (dA 3, n, .inl (upd f i.toNatClampNeg (vp_nar .boolean x))))))) : yW p l e R s m args below meth c nL D A cells slots Q pc lv (.int x :: .int i :: .ref a :: st) (h) := fun H locs ls a1 b w => by
  subst hp
  obtain ⟨ws, q0, hP, hD, hq, hset, -⟩ := yd_pos b ha
  exact va_zast C.1 C.2.1 C.2.2.2.2.2.1 hP hD w q0 3 hq rfl hin d (fun H1 locs1 hP1 hD1 hS1 => k H1 locs1 ls a1 (hset _ H1 hP1 hD1) hS1)
theorem yr_alen (pc2 t : Nat) (C : yC Z D dA p s m args meth c cc nL own A) {a : Nat} {cA : ClassId} {x : vp_A} {ty : FieldType} (v : Int32) (d : decode cc pc = .ok (.arraylength, 1)) (ha : h a = some (.inl (cA, x))) (ht : (yT dA)[t]? = some (cA, ty)) (hv : Int32.ofNat x.1 = v) (hp : pc + 1 = pc2) (k : yW p l e R s m args below meth c nL D A cells slots Q pc2 lv (.int v :: st) (h)) : yW p l e R s m args below meth c nL D A cells slots Q pc lv (.ref a :: st) (h) := fun H locs ls a1 b w => by
  subst hp
  obtain ⟨ws, q0, hP, hD, hq, -⟩ := yd_pos b ha
  exact va_alen C.1 C.2.1 C.2.2.2.2.2.1 hP q0 t hq ht hv d (k H locs ls a1 b w)
end Rows2
end
section
section Rows3
variable {Z : (Nat → Prop) → State → Prop} {D : va_G} {dA : Nat → ClassId} {p : Program} {l : Launch} {e : Env} {R : Room} {s : State} {m : MethodId} {args : Array Value} {below : List Frame} {meth : Method} {c : Code} {cc : ByteArray} {nL : Nat} {own : String} {A : Nat → Prop} {cells slots : Nat} {Q : State → Prop} {pc : Nat} {lv : List (Option Value)} {st : List Value} {h : yH}
/-- a class that may be made: number ci of vwCl, linked at idx; its fields' first values fs -/
def yNw (own : String) (idx ci N : Nat) (fs : List Value) : Prop := ∃ (R : String) (T : u_T) (tt : Nat → FieldType), vwCl[ci]? = some (R, T, N) ∧ (∀ w ∈ u_ws R T N, w ∈ yTs) ∧ (∀ j, j < N → parseFieldDescriptor (T j).2.2.1 = some (tt j)) ∧ Cond.classLink own idx R ∈ yTs ∧ Cond.instantiable R N ∈ yTs ∧ Cond.initialized R ∈ yTs ∧ ∀ j, j < N → defaultValue (tt j) = vp_V fs j
theorem yr_new (pc2 : Nat) (C : yC Z D dA p s m args meth c cc nL own A) {idx ci N : Nat} {fs : List Value} (d : decode cc pc = .ok (.new idx, 3)) (hl : yNw own idx ci N fs) (h1 : cells + 1 ≤ R.cells) (h2 : slots + N ≤ R.slots) (hp : pc + 3 = pc2) (kk : ∀ q : Nat, h q = none → yW p l e R s m args below meth c nL D A (cells + 1) (slots + N) Q pc2 lv (.ref q :: st) (va_up h q (some (.inr (ci, fs))))) : yW p l e R s m args below meth c nL D A cells slots Q pc lv (st) (h) := fun H locs ls a1 b w => by
  subst hp
  obtain ⟨Rn, T, tt, e1, e2, e3, e4, e5, e6, e7⟩ := hl
  obtain ⟨ws, hP, hD, hpush⟩ := yd_list b
  exact va_new C.1 C.2.1 C.2.2.2.2.1 e2 tt e3 C.2.2.2.1 (C.2.2.2.2.1 _ e4) (C.2.2.2.2.1 _ e5) (C.2.2.2.2.1 _ e6) C.2.2.2.2.2.1 hP hD w C.2.2.2.2.2.2.2.1 e1 e7 h1 h2 d (fun q H1 hP1 hD1 hS1 => kk q (hpush _ _ _ hP1 hD1).1 H1 locs ls a1 (hpush _ _ _ hP1 hD1).2 hS1)
theorem yr_newaI (pc2 : Nat) (C : yC Z D dA p s m args meth c cc nL own A) {n : Int32} (N' : Nat) (d : decode cc pc = .ok (.newarray .int, 2)) (hc : Cond.arrayClass .int ∈ yTs) (hn : ¬ n < 0) (hN : n.toNatClampNeg = N') (hb : N' * componentBytes .int ≤ 536870912) (h1 : cells + 1 ≤ R.cells) (h2 : slots + N' ≤ R.slots) (hp : pc + 2 = pc2) (kk : ∀ q : Nat, h q = none → yW p l e R s m args below meth c nL D A (cells + 1) (slots + N') Q pc2 lv (.ref q :: st) (va_up h q (some (.inl (dA 0, N', .inl (fun _ => 0)))))) : yW p l e R s m args below meth c nL D A cells slots Q pc lv (.int n :: st) (h) := fun H locs ls a1 b w => by
  subst hp
  obtain ⟨ws, hP, hD, hpush⟩ := yd_list b
  have hK := C.2.2.2.2.2.1
  refine va_newa (atype := .int) (a0 := (N', .inl (fun _ => 0))) C.1 C.2.1 (C.2.2.2.2.1 _ hc) rfl hK hP hD w C.2.2.2.2.2.2.2.1 (fun cA => rfl) hn hN hb h1 h2 d (fun q cA H1 hK1 hP1 hD1 hS1 => ?_)
  have e1 : va_RA s cA .int := (hK1.2 6 (cA, .int) rfl).2
  have e2 : va_RA s (dA 0) .int := (hK.2 0 (dA 0, .int) rfl).2
  have e3 : cA = dA 0 := Option.some.inj (e1.symm.trans e2)
  subst e3
  exact kk q (hpush _ _ _ hP1 hD1).1 H1 locs ls a1 (hpush _ _ _ hP1 hD1).2 hS1
theorem yr_newaB (pc2 : Nat) (C : yC Z D dA p s m args meth c cc nL own A) {n : Int32} (N' : Nat) (d : decode cc pc = .ok (.newarray .byte, 2)) (hc : Cond.arrayClass .byte ∈ yTs) (hn : ¬ n < 0) (hN : n.toNatClampNeg = N') (hb : N' * componentBytes .byte ≤ 536870912) (h1 : cells + 1 ≤ R.cells) (h2 : slots + N' ≤ R.slots) (hp : pc + 2 = pc2) (kk : ∀ q : Nat, h q = none → yW p l e R s m args below meth c nL D A (cells + 1) (slots + N') Q pc2 lv (.ref q :: st) (va_up h q (some (.inl (dA 1, N', .inl (fun _ => 0)))))) : yW p l e R s m args below meth c nL D A cells slots Q pc lv (.int n :: st) (h) := fun H locs ls a1 b w => by
  subst hp
  obtain ⟨ws, hP, hD, hpush⟩ := yd_list b
  have hK := C.2.2.2.2.2.1
  refine va_newa (atype := .byte) (a0 := (N', .inl (fun _ => 0))) C.1 C.2.1 (C.2.2.2.2.1 _ hc) rfl hK hP hD w C.2.2.2.2.2.2.2.1 (fun cA => rfl) hn hN hb h1 h2 d (fun q cA H1 hK1 hP1 hD1 hS1 => ?_)
  have e1 : va_RA s cA .byte := (hK1.2 6 (cA, .byte) rfl).2
  have e2 : va_RA s (dA 1) .byte := (hK.2 1 (dA 1, .byte) rfl).2
  have e3 : cA = dA 1 := Option.some.inj (e1.symm.trans e2)
  subst e3
  exact kk q (hpush _ _ _ hP1 hD1).1 H1 locs ls a1 (hpush _ _ _ hP1 hD1).2 hS1
theorem yr_newaS (pc2 : Nat) (C : yC Z D dA p s m args meth c cc nL own A) {n : Int32} (N' : Nat) (d : decode cc pc = .ok (.newarray .short, 2)) (hc : Cond.arrayClass .short ∈ yTs) (hn : ¬ n < 0) (hN : n.toNatClampNeg = N') (hb : N' * componentBytes .short ≤ 536870912) (h1 : cells + 1 ≤ R.cells) (h2 : slots + N' ≤ R.slots) (hp : pc + 2 = pc2) (kk : ∀ q : Nat, h q = none → yW p l e R s m args below meth c nL D A (cells + 1) (slots + N') Q pc2 lv (.ref q :: st) (va_up h q (some (.inl (dA 2, N', .inl (fun _ => 0)))))) : yW p l e R s m args below meth c nL D A cells slots Q pc lv (.int n :: st) (h) := fun H locs ls a1 b w => by
  subst hp
  obtain ⟨ws, hP, hD, hpush⟩ := yd_list b
  have hK := C.2.2.2.2.2.1
  refine va_newa (atype := .short) (a0 := (N', .inl (fun _ => 0))) C.1 C.2.1 (C.2.2.2.2.1 _ hc) rfl hK hP hD w C.2.2.2.2.2.2.2.1 (fun cA => rfl) hn hN hb h1 h2 d (fun q cA H1 hK1 hP1 hD1 hS1 => ?_)
  have e1 : va_RA s cA .short := (hK1.2 6 (cA, .short) rfl).2
  have e2 : va_RA s (dA 2) .short := (hK.2 2 (dA 2, .short) rfl).2
  have e3 : cA = dA 2 := Option.some.inj (e1.symm.trans e2)
  subst e3
  exact kk q (hpush _ _ _ hP1 hD1).1 H1 locs ls a1 (hpush _ _ _ hP1 hD1).2 hS1
theorem yr_newaZ (pc2 : Nat) (C : yC Z D dA p s m args meth c cc nL own A) {n : Int32} (N' : Nat) (d : decode cc pc = .ok (.newarray .boolean, 2)) (hc : Cond.arrayClass .boolean ∈ yTs) (hn : ¬ n < 0) (hN : n.toNatClampNeg = N') (hb : N' * componentBytes .boolean ≤ 536870912) (h1 : cells + 1 ≤ R.cells) (h2 : slots + N' ≤ R.slots) (hp : pc + 2 = pc2) (kk : ∀ q : Nat, h q = none → yW p l e R s m args below meth c nL D A (cells + 1) (slots + N') Q pc2 lv (.ref q :: st) (va_up h q (some (.inl (dA 3, N', .inl (fun _ => 0)))))) : yW p l e R s m args below meth c nL D A cells slots Q pc lv (.int n :: st) (h) := fun H locs ls a1 b w => by
  subst hp
  obtain ⟨ws, hP, hD, hpush⟩ := yd_list b
  have hK := C.2.2.2.2.2.1
  refine va_newa (atype := .boolean) (a0 := (N', .inl (fun _ => 0))) C.1 C.2.1 (C.2.2.2.2.1 _ hc) rfl hK hP hD w C.2.2.2.2.2.2.2.1 (fun cA => rfl) hn hN hb h1 h2 d (fun q cA H1 hK1 hP1 hD1 hS1 => ?_)
  have e1 : va_RA s cA .boolean := (hK1.2 6 (cA, .boolean) rfl).2
  have e2 : va_RA s (dA 3) .boolean := (hK.2 3 (dA 3, .boolean) rfl).2
  have e3 : cA = dA 3 := Option.some.inj (e1.symm.trans e2)
  subst e3
  exact kk q (hpush _ _ _ hP1 hD1).1 H1 locs ls a1 (hpush _ _ _ hP1 hD1).2 hS1
theorem yr_objInit (pc2 : Nat) (C : yC Z D dA p s m args meth c cc nL own A) {idx a : Nat} (d : decode cc pc = .ok (.invokespecial idx, 3)) (e1 : Cond.methodLink own idx objectInit ∈ yTs) (e2 : Cond.instanceMethod objectInit ∈ yTs) (e3 : Cond.code objectInit ⟨#[0xb1]⟩ 1 none ∈ yTs) (h1 : 1 ≤ R.frames) (h2 : (st.map fun v => v.category).sum + 12 ≤ R.locals) (hp : pc + 3 = pc2) (k : yW p l e R s m args below meth c nL D A cells slots Q pc2 lv (st) (h)) : yW p l e R s m args below meth c nL D A cells slots Q pc lv (.ref a :: st) (h) := fun H locs ls a1 b w => by
  subst hp
  obtain ⟨lw, q1, q2⟩ := id a1
  refine W.objInit C.1 C.2.1 C.2.2.2.1 (C.2.2.2.2.1 _ e1) (C.2.2.2.2.1 _ e2) (C.2.2.2.2.1 _ e3) rfl (by rw [C.2.2.1]; exact q1.1) rfl d h1 ?_ (k H locs ls a1 b w)
  have hm : 2 * (F0 m pc ls (.ref a :: st)).monitorRoom = 0 := rfl
  omega
/-- a method: its words are in the table -/
def yMt (y : MethodName) (cc : ByteArray) (nL : Nat) (ret : Option FieldType) (n : Nat) : Prop := Cond.code y cc nL ret ∈ yTs ∧ Cond.initialized y.cls ∈ yTs ∧ y.cls ≠ "java/lang/invoke/MethodHandle" ∧ y.cls ≠ "java/lang/invoke/VarHandle" ∧ (parseMethodDescriptor y.desc).map (fun d => d.parameters.length) = some n
def yMv (y : MethodName) : Prop := Cond.instanceMethod y ∈ yTs ∧ Cond.selects y.cls y y ∈ yTs
theorem yd_pre {Z : (Nat → Prop) → State → Prop} {D : va_G} {dA : Nat → ClassId} {s : State} {A : Nat → Prop} {H : Heap} {h : yH} {locs : List Loc} (hz : Z A s) (hZ : yZok D dA Z) (hA : ∀ q, s.heap.size ≤ q → A q) (b : yd_at D h A H) (w : va_S A s.heap H locs) (U : State) (hU : U.heap = H) (hW : s.WarmedH U.vm) : U.heap.size = H.size ∧ yd_at D h (fun _ => True) U.heap ∧ Z (yA h H.size) U := by
  refine ⟨by rw [hU], by rw [hU]; exact yd_weak b (fun _ _ _ _ => trivial), hZ.2.2 A _ s U hW (fun q h1 h2 => by rw [hU]; exact w.2.1 q h1 h2) (fun q h1 h2 => ?_) hz⟩
  rcases h2 with ⟨e, he⟩ | h2
  · exact (yd_in b he).1
  · have := w.1
    omega
theorem yd_blind {Z : (Nat → Prop) → State → Prop} {D : va_G} {dA : Nat → ClassId} (hZ : yZok D dA Z) {As : List Value} {sz : Nat} {h : yH} : FrameBlind (va_Pc As (fun U => U.heap.size = sz ∧ yd_at D h (fun _ => True) U.heap ∧ Z (yA h sz) U)) := fun a U g mk q => by
  obtain ⟨q0, q1, q2, q3⟩ := q
  exact ⟨q0, q1, q2, hZ.2.1 _ U _ rfl rfl q3⟩
theorem yr_after (C : yC Z D dA p s m args meth c cc nL own A) {B : Option Value} {rest : List Value} {mc ms : Nat} {QQ : Option Value → yH → Prop} {H : Heap} {locs : List Loc} {ls : Array Slot} {st0 : List Value} {aa : Array Value} (a1 : yd_lv ls nL lv) (b : yd_at D h A H) (w : va_S A s.heap H locs)
    (hr : va_Run p l e R s m args below meth c H locs cells slots mc ms (F0 m pc ls st0) rest (yQc D (yA h H.size) QQ aa) (yA h H.size))
    (kk : ∀ (r : Option Value) (h' : yH), QQ r h' → yW p l e R s m args below meth c nL D A (cells + mc) (slots + ms) Q (pc + 3) lv (r.toList ++ rest) (h')) : W p l e R s m args below meth c H locs cells slots Q (F0 m pc ls st0) := by
  intro T hT X
  obtain ⟨v, st₀, t, T', L, e1, X', hL, e2, e3, ⟨⟨r, h', c1, c2, c3⟩, c4⟩, go⟩ := hr T hT X
  cases c1
  have hAA : ∀ q, q < H.size → yA h H.size q → A q := fun q h1 h2 => by
    rcases h2 with ⟨x, hx⟩ | h2
    · exact (yd_in b hx).1
    · omega
  have hbig : ∀ q, yA h H.size q → A q := fun q h2 => by
    rcases h2 with ⟨x, hx⟩ | h2
    · exact (yd_in b hx).1
    · exact C.2.2.2.2.2.2.2.1 q (by have := w.1; omega)
  have hS' : va_S A s.heap t.heap (locs ++ L) := by
    refine ⟨by have := w.1; have := c4.1; rw [e1] at this; omega, fun q h1 h2 => ?_, fun q hq => ?_⟩
    · have h3 : q < H.size := by have := w.1; omega
      have := c4.2 q (by rw [e1]; exact h3) (fun z => h2 (hAA q h3 z))
      rw [this, e1]
      exact w.2.1 q h1 h2
    · rcases List.mem_append.mp hq with h1 | h1
      · exact w.2.2 q h1
      · exact hbig _ (hL q h1)
  obtain ⟨t2, s2, q2⟩ := kk _ h' c2 t.heap (locs ++ L) ls a1 (yd_weak c3 (fun a e _ hA => hbig a hA)) hS' T' e2 X'
  exact ⟨t2, go t2 s2, q2⟩
theorem yr_callV (pc2 : Nat) (C : yC Z D dA p s m args meth c cc nL own A) {y : MethodName} {cc' : ByteArray} {nL' : Nat} {ret' : Option FieldType} {k mc ms n idx : Nat} {QQ : Option Value → yH → Prop} {a ci : Nat} {fs : List Value} (As : List Value) (hM : yM Z D y cc' nL' ret' k mc ms (.ref a :: As) h QQ) (d : decode cc pc = .ok (.invokevirtual idx, 3)) (ht : yMt y cc' nL' ret' n) (hv : yMv y) (hl : Cond.methodLink own idx y ∈ yTs) (ha : h a = some (.inr (ci, fs))) (hci : (vwCl[ci]?).map (·.1) = some y.cls) (hn : As.length = n) (h1 : k + 1 ≤ R.frames) (h2 : 8 + (nL' + 11) + 40 * k ≤ R.locals) (h3 : cells + mc ≤ R.cells) (h4 : slots + ms ≤ R.slots) (h5 : (st.map fun v => v.category).sum ≤ 8) (hp : pc + 3 = pc2) (kk : ∀ (r : Option Value) (h' : yH), QQ r h' → yW p l e R s m args below meth c nL D A (cells + mc) (slots + ms) Q pc2 lv (r.toList ++ st) (h')) : yW p l e R s m args below meth c nL D A cells slots Q pc lv (As.reverse ++ .ref a :: st) (h) := fun H locs ls a1 b w => by
  subst hp
  obtain ⟨lw, q1, q2⟩ := id a1
  obtain ⟨t1, t2, t3, t4, t5⟩ := ht
  obtain ⟨rr, hrr, hrr2⟩ : ∃ rr : vw_C, vwCl[ci]? = some rr ∧ rr.1 = y.cls := by
    cases hx : vwCl[ci]? with
    | none => rw [hx] at hci; cases hci
    | some rr => rw [hx] at hci; exact ⟨rr, rfl, Option.some.inj hci⟩
  obtain ⟨ws, q0, hP, hD, hq, -⟩ := yd_pos b ha
  have hrc : ∃ cell : Cell, H[a]? = some cell ∧ cell.vm.isStatics = false ∧ s.vm.findClass y.cls = some cell.cls := by
    rw [← hrr2]
    exact va_recv C.2.2.2.2.2.1 hP hrr hq
  have hG : GoodIn yTs (wsV own idx y.cls y (Cond.code y cc' nL' ret' :: yTs)) := by
    intro w hw
    rcases List.mem_append.mp hw with hw | hw
    · simp only [List.mem_cons, List.not_mem_nil, or_false] at hw
      rcases hw with rfl | rfl | rfl | rfl
      · exact yt_good _ hl
      · exact yt_good _ hv.1
      · exact yt_good _ hv.2
      · exact yt_good _ t2
    · exact yt_code t1 w hw
  refine yr_after C (B := none) a1 b w (va_runV (As := As) (rest := st) ⟨C.1, C.2.1, C.2.2.1, C.2.2.2.1, C.2.2.2.2.1⟩ (hM l H.size) (cwV n C.2.2.2.2.1 hG rfl rfl rfl ⟨rfl, t3, t4, t5⟩ ⟨h1, h2⟩) ⟨yd_blind C.2.2.2.2.2.2.2.2.2, hrc, fun U hU hW => ⟨rfl, yd_pre C.2.2.2.2.2.2.2.2.1 C.2.2.2.2.2.2.2.2.2 C.2.2.2.2.2.2.2.1 b w U hU hW⟩⟩ rfl hn q1.1 rfl (lv_room h5) d ⟨h3, h4⟩) kk
theorem yr_callS (pc2 : Nat) (C : yC Z D dA p s m args meth c cc nL own A) {y : MethodName} {cc' : ByteArray} {nL' : Nat} {ret' : Option FieldType} {k mc ms n idx : Nat} {QQ : Option Value → yH → Prop} (As : List Value) (hM : yM Z D y cc' nL' ret' k mc ms As h QQ) (d : decode cc pc = .ok (.invokestatic idx, 3)) (ht : yMt y cc' nL' ret' n) (hs : Cond.static y ∈ yTs) (hl : Cond.methodLink own idx y ∈ yTs) (hn : As.length = n) (h1 : k + 1 ≤ R.frames) (h2 : 8 + (nL' + 11) + 40 * k ≤ R.locals) (h3 : cells + mc ≤ R.cells) (h4 : slots + ms ≤ R.slots) (h5 : (st.map fun v => v.category).sum ≤ 8) (hp : pc + 3 = pc2) (kk : ∀ (r : Option Value) (h' : yH), QQ r h' → yW p l e R s m args below meth c nL D A (cells + mc) (slots + ms) Q pc2 lv (r.toList ++ st) (h')) : yW p l e R s m args below meth c nL D A cells slots Q pc lv (As.reverse ++ st) (h) := fun H locs ls a1 b w => by
  subst hp
  obtain ⟨lw, q1, q2⟩ := id a1
  obtain ⟨t1, t2, t3, t4, t5⟩ := ht
  have hG : GoodIn yTs (va_wsS own idx y (Cond.code y cc' nL' ret' :: yTs)) := by
    intro w hw
    rcases List.mem_append.mp hw with hw | hw
    · simp only [List.mem_cons, List.not_mem_nil, or_false] at hw
      rcases hw with rfl | rfl | rfl
      · exact yt_good _ hl
      · exact yt_good _ hs
      · exact yt_good _ t2
    · exact yt_code t1 w hw
  refine yr_after C (B := none) a1 b w (va_runS (As := As) (rest := st) ⟨C.1, C.2.1, C.2.2.1, C.2.2.2.1, C.2.2.2.2.1⟩ (hM l H.size) (va_cwS n C.2.2.2.2.1 hG rfl rfl rfl ⟨t3, t4, t5⟩ ⟨h1, h2⟩) ⟨yd_blind C.2.2.2.2.2.2.2.2.2, fun U hU hW => ⟨rfl, yd_pre C.2.2.2.2.2.2.2.2.1 C.2.2.2.2.2.2.2.2.2 C.2.2.2.2.2.2.2.1 b w U hU hW⟩⟩ rfl hn q1.1 rfl (lv_room h5) d ⟨h3, h4⟩) kk
theorem yr_callI (pc2 : Nat) (C : yC Z D dA p s m args meth c cc nL own A) {y : MethodName} {cc' : ByteArray} {nL' : Nat} {k mc ms n idx : Nat} {QQ : Option Value → yH → Prop} {a : Nat} (As : List Value) (hM : yM Z D y cc' nL' none k mc ms (.ref a :: As) h QQ) (d : decode cc pc = .ok (.invokespecial idx, 3)) (ht : yMt y cc' nL' none n) (hy : y.name = "<init>") (hv : Cond.instanceMethod y ∈ yTs) (hl : Cond.methodLink own idx y ∈ yTs) (hn : As.length = n) (h1 : k + 1 ≤ R.frames) (h2 : 8 + (nL' + 11) + 40 * k ≤ R.locals) (h3 : cells + mc ≤ R.cells) (h4 : slots + ms ≤ R.slots) (h5 : (st.map fun v => v.category).sum ≤ 8) (hp : pc + 3 = pc2) (kk : ∀ (r : Option Value) (h' : yH), QQ r h' → yW p l e R s m args below meth c nL D A (cells + mc) (slots + ms) Q pc2 lv (r.toList ++ st) (h')) : yW p l e R s m args below meth c nL D A cells slots Q pc lv (As.reverse ++ .ref a :: st) (h) := fun H locs ls a1 b w => by
  subst hp
  obtain ⟨lw, q1, q2⟩ := id a1
  obtain ⟨t1, t2, t3, t4, t5⟩ := ht
  refine yr_after C (B := none) a1 b w (va_runI (As := As) (rest := st) ⟨C.1, C.2.1, C.2.2.1, C.2.2.2.1, C.2.2.2.2.1⟩ (hM l H.size) (cwI n C.2.2.2.2.1 (yt_code t1) rfl rfl rfl (C.2.2.2.2.1 _ t2) (C.2.2.2.2.1 _ hl) (C.2.2.2.2.1 _ hv) hy ⟨t3, t4, t5⟩ ⟨h1, h2⟩) ⟨yd_blind C.2.2.2.2.2.2.2.2.2, fun U hU hW => ⟨rfl, yd_pre C.2.2.2.2.2.2.2.2.1 C.2.2.2.2.2.2.2.2.2 C.2.2.2.2.2.2.2.1 b w U hU hW⟩⟩ rfl hn q1.1 rfl (lv_room h5) d ⟨h3, h4⟩) kk
theorem yr_V0v (pc2 : Nat) (C : yC Z D dA p s m args meth c cc nL own A) {y : MethodName} {cc' : ByteArray} {nL' : Nat} {ret' : Option FieldType} {k mc ms idx : Nat} {PP : yH → Prop} {rv : Value} {a ci : Nat} {fs : List Value} (hM : yM Z D y cc' nL' ret' k mc ms (.ref a :: []) h (fun r h' => r = some rv ∧ PP h')) (d : decode cc pc = .ok (.invokevirtual idx, 3)) (ht : yMt y cc' nL' ret' 0) (hv : yMv y) (hl : Cond.methodLink own idx y ∈ yTs) (ha : h a = some (.inr (ci, fs))) (hci : (vwCl[ci]?).map (·.1) = some y.cls) (h1 : k + 1 ≤ R.frames) (h2 : 8 + (nL' + 11) + 40 * k ≤ R.locals) (h3 : cells + mc ≤ R.cells) (h4 : slots + ms ≤ R.slots) (h5 : (st.map fun v => v.category).sum ≤ 8) (hp : pc + 3 = pc2) (kk : ∀ h' : yH, PP h' → yW p l e R s m args below meth c nL D A (cells + mc) (slots + ms) Q pc2 lv (rv :: st) (h')) : yW p l e R s m args below meth c nL D A cells slots Q pc lv (.ref a :: st) (h) := by
  refine yr_callV pc2 C [] hM d ht hv hl ha hci rfl h1 h2 h3 h4 h5 hp (fun r h' hq => ?_)
  obtain ⟨rfl, hq⟩ := hq
  exact kk h' hq
theorem yr_V0u (pc2 : Nat) (C : yC Z D dA p s m args meth c cc nL own A) {y : MethodName} {cc' : ByteArray} {nL' : Nat} {ret' : Option FieldType} {k mc ms idx : Nat} {PP : yH → Prop} {a ci : Nat} {fs : List Value} (hM : yM Z D y cc' nL' ret' k mc ms (.ref a :: []) h (fun r h' => r = none ∧ PP h')) (d : decode cc pc = .ok (.invokevirtual idx, 3)) (ht : yMt y cc' nL' ret' 0) (hv : yMv y) (hl : Cond.methodLink own idx y ∈ yTs) (ha : h a = some (.inr (ci, fs))) (hci : (vwCl[ci]?).map (·.1) = some y.cls) (h1 : k + 1 ≤ R.frames) (h2 : 8 + (nL' + 11) + 40 * k ≤ R.locals) (h3 : cells + mc ≤ R.cells) (h4 : slots + ms ≤ R.slots) (h5 : (st.map fun v => v.category).sum ≤ 8) (hp : pc + 3 = pc2) (kk : ∀ h' : yH, PP h' → yW p l e R s m args below meth c nL D A (cells + mc) (slots + ms) Q pc2 lv (st) (h')) : yW p l e R s m args below meth c nL D A cells slots Q pc lv (.ref a :: st) (h) := by
  refine yr_callV pc2 C [] hM d ht hv hl ha hci rfl h1 h2 h3 h4 h5 hp (fun r h' hq => ?_)
  obtain ⟨rfl, hq⟩ := hq
  exact kk h' hq
theorem yr_S0v (pc2 : Nat) (C : yC Z D dA p s m args meth c cc nL own A) {y : MethodName} {cc' : ByteArray} {nL' : Nat} {ret' : Option FieldType} {k mc ms idx : Nat} {PP : yH → Prop} {rv : Value} (hM : yM Z D y cc' nL' ret' k mc ms [] h (fun r h' => r = some rv ∧ PP h')) (d : decode cc pc = .ok (.invokestatic idx, 3)) (ht : yMt y cc' nL' ret' 0) (hs : Cond.static y ∈ yTs) (hl : Cond.methodLink own idx y ∈ yTs) (h1 : k + 1 ≤ R.frames) (h2 : 8 + (nL' + 11) + 40 * k ≤ R.locals) (h3 : cells + mc ≤ R.cells) (h4 : slots + ms ≤ R.slots) (h5 : (st.map fun v => v.category).sum ≤ 8) (hp : pc + 3 = pc2) (kk : ∀ h' : yH, PP h' → yW p l e R s m args below meth c nL D A (cells + mc) (slots + ms) Q pc2 lv (rv :: st) (h')) : yW p l e R s m args below meth c nL D A cells slots Q pc lv (st) (h) := by
  refine yr_callS pc2 C [] hM d ht hs hl rfl h1 h2 h3 h4 h5 hp (fun r h' hq => ?_)
  obtain ⟨rfl, hq⟩ := hq
  exact kk h' hq
theorem yr_S0u (pc2 : Nat) (C : yC Z D dA p s m args meth c cc nL own A) {y : MethodName} {cc' : ByteArray} {nL' : Nat} {ret' : Option FieldType} {k mc ms idx : Nat} {PP : yH → Prop} (hM : yM Z D y cc' nL' ret' k mc ms [] h (fun r h' => r = none ∧ PP h')) (d : decode cc pc = .ok (.invokestatic idx, 3)) (ht : yMt y cc' nL' ret' 0) (hs : Cond.static y ∈ yTs) (hl : Cond.methodLink own idx y ∈ yTs) (h1 : k + 1 ≤ R.frames) (h2 : 8 + (nL' + 11) + 40 * k ≤ R.locals) (h3 : cells + mc ≤ R.cells) (h4 : slots + ms ≤ R.slots) (h5 : (st.map fun v => v.category).sum ≤ 8) (hp : pc + 3 = pc2) (kk : ∀ h' : yH, PP h' → yW p l e R s m args below meth c nL D A (cells + mc) (slots + ms) Q pc2 lv (st) (h')) : yW p l e R s m args below meth c nL D A cells slots Q pc lv (st) (h) := by
  refine yr_callS pc2 C [] hM d ht hs hl rfl h1 h2 h3 h4 h5 hp (fun r h' hq => ?_)
  obtain ⟨rfl, hq⟩ := hq
  exact kk h' hq
theorem yr_I0u (pc2 : Nat) (C : yC Z D dA p s m args meth c cc nL own A) {y : MethodName} {cc' : ByteArray} {nL' : Nat} {k mc ms idx : Nat} {PP : yH → Prop} {a : Nat} (hM : yM Z D y cc' nL' none k mc ms (.ref a :: []) h (fun r h' => r = none ∧ PP h')) (d : decode cc pc = .ok (.invokespecial idx, 3)) (ht : yMt y cc' nL' none 0) (hy : y.name = "<init>") (hv : Cond.instanceMethod y ∈ yTs) (hl : Cond.methodLink own idx y ∈ yTs) (h1 : k + 1 ≤ R.frames) (h2 : 8 + (nL' + 11) + 40 * k ≤ R.locals) (h3 : cells + mc ≤ R.cells) (h4 : slots + ms ≤ R.slots) (h5 : (st.map fun v => v.category).sum ≤ 8) (hp : pc + 3 = pc2) (kk : ∀ h' : yH, PP h' → yW p l e R s m args below meth c nL D A (cells + mc) (slots + ms) Q pc2 lv (st) (h')) : yW p l e R s m args below meth c nL D A cells slots Q pc lv (.ref a :: st) (h) := by
  refine yr_callI pc2 C [] hM d ht hy hv hl rfl h1 h2 h3 h4 h5 hp (fun r h' hq => ?_)
  obtain ⟨rfl, hq⟩ := hq
  exact kk h' hq
theorem yr_V1v (pc2 : Nat) (C : yC Z D dA p s m args meth c cc nL own A) {y : MethodName} {cc' : ByteArray} {nL' : Nat} {ret' : Option FieldType} {k mc ms idx : Nat} {PP : yH → Prop} {rv : Value} {a ci : Nat} {fs : List Value} {v1 : Value} (hM : yM Z D y cc' nL' ret' k mc ms (.ref a :: [v1]) h (fun r h' => r = some rv ∧ PP h')) (d : decode cc pc = .ok (.invokevirtual idx, 3)) (ht : yMt y cc' nL' ret' 1) (hv : yMv y) (hl : Cond.methodLink own idx y ∈ yTs) (ha : h a = some (.inr (ci, fs))) (hci : (vwCl[ci]?).map (·.1) = some y.cls) (h1 : k + 1 ≤ R.frames) (h2 : 8 + (nL' + 11) + 40 * k ≤ R.locals) (h3 : cells + mc ≤ R.cells) (h4 : slots + ms ≤ R.slots) (h5 : (st.map fun v => v.category).sum ≤ 8) (hp : pc + 3 = pc2) (kk : ∀ h' : yH, PP h' → yW p l e R s m args below meth c nL D A (cells + mc) (slots + ms) Q pc2 lv (rv :: st) (h')) : yW p l e R s m args below meth c nL D A cells slots Q pc lv (v1 :: .ref a :: st) (h) := by
  refine yr_callV pc2 C [v1] hM d ht hv hl ha hci rfl h1 h2 h3 h4 h5 hp (fun r h' hq => ?_)
  obtain ⟨rfl, hq⟩ := hq
  exact kk h' hq
theorem yr_V1u (pc2 : Nat) (C : yC Z D dA p s m args meth c cc nL own A) {y : MethodName} {cc' : ByteArray} {nL' : Nat} {ret' : Option FieldType} {k mc ms idx : Nat} {PP : yH → Prop} {a ci : Nat} {fs : List Value} {v1 : Value} (hM : yM Z D y cc' nL' ret' k mc ms (.ref a :: [v1]) h (fun r h' => r = none ∧ PP h')) (d : decode cc pc = .ok (.invokevirtual idx, 3)) (ht : yMt y cc' nL' ret' 1) (hv : yMv y) (hl : Cond.methodLink own idx y ∈ yTs) (ha : h a = some (.inr (ci, fs))) (hci : (vwCl[ci]?).map (·.1) = some y.cls) (h1 : k + 1 ≤ R.frames) (h2 : 8 + (nL' + 11) + 40 * k ≤ R.locals) (h3 : cells + mc ≤ R.cells) (h4 : slots + ms ≤ R.slots) (h5 : (st.map fun v => v.category).sum ≤ 8) (hp : pc + 3 = pc2) (kk : ∀ h' : yH, PP h' → yW p l e R s m args below meth c nL D A (cells + mc) (slots + ms) Q pc2 lv (st) (h')) : yW p l e R s m args below meth c nL D A cells slots Q pc lv (v1 :: .ref a :: st) (h) := by
  refine yr_callV pc2 C [v1] hM d ht hv hl ha hci rfl h1 h2 h3 h4 h5 hp (fun r h' hq => ?_)
  obtain ⟨rfl, hq⟩ := hq
  exact kk h' hq
theorem yr_S1v (pc2 : Nat) (C : yC Z D dA p s m args meth c cc nL own A) {y : MethodName} {cc' : ByteArray} {nL' : Nat} {ret' : Option FieldType} {k mc ms idx : Nat} {PP : yH → Prop} {rv : Value} {v1 : Value} (hM : yM Z D y cc' nL' ret' k mc ms [v1] h (fun r h' => r = some rv ∧ PP h')) (d : decode cc pc = .ok (.invokestatic idx, 3)) (ht : yMt y cc' nL' ret' 1) (hs : Cond.static y ∈ yTs) (hl : Cond.methodLink own idx y ∈ yTs) (h1 : k + 1 ≤ R.frames) (h2 : 8 + (nL' + 11) + 40 * k ≤ R.locals) (h3 : cells + mc ≤ R.cells) (h4 : slots + ms ≤ R.slots) (h5 : (st.map fun v => v.category).sum ≤ 8) (hp : pc + 3 = pc2) (kk : ∀ h' : yH, PP h' → yW p l e R s m args below meth c nL D A (cells + mc) (slots + ms) Q pc2 lv (rv :: st) (h')) : yW p l e R s m args below meth c nL D A cells slots Q pc lv (v1 :: st) (h) := by
  refine yr_callS pc2 C [v1] hM d ht hs hl rfl h1 h2 h3 h4 h5 hp (fun r h' hq => ?_)
  obtain ⟨rfl, hq⟩ := hq
  exact kk h' hq
theorem yr_S1u (pc2 : Nat) (C : yC Z D dA p s m args meth c cc nL own A) {y : MethodName} {cc' : ByteArray} {nL' : Nat} {ret' : Option FieldType} {k mc ms idx : Nat} {PP : yH → Prop} {v1 : Value} (hM : yM Z D y cc' nL' ret' k mc ms [v1] h (fun r h' => r = none ∧ PP h')) (d : decode cc pc = .ok (.invokestatic idx, 3)) (ht : yMt y cc' nL' ret' 1) (hs : Cond.static y ∈ yTs) (hl : Cond.methodLink own idx y ∈ yTs) (h1 : k + 1 ≤ R.frames) (h2 : 8 + (nL' + 11) + 40 * k ≤ R.locals) (h3 : cells + mc ≤ R.cells) (h4 : slots + ms ≤ R.slots) (h5 : (st.map fun v => v.category).sum ≤ 8) (hp : pc + 3 = pc2) (kk : ∀ h' : yH, PP h' → yW p l e R s m args below meth c nL D A (cells + mc) (slots + ms) Q pc2 lv (st) (h')) : yW p l e R s m args below meth c nL D A cells slots Q pc lv (v1 :: st) (h) := by
  refine yr_callS pc2 C [v1] hM d ht hs hl rfl h1 h2 h3 h4 h5 hp (fun r h' hq => ?_)
  obtain ⟨rfl, hq⟩ := hq
  exact kk h' hq
theorem yr_I1u (pc2 : Nat) (C : yC Z D dA p s m args meth c cc nL own A) {y : MethodName} {cc' : ByteArray} {nL' : Nat} {k mc ms idx : Nat} {PP : yH → Prop} {a : Nat} {v1 : Value} (hM : yM Z D y cc' nL' none k mc ms (.ref a :: [v1]) h (fun r h' => r = none ∧ PP h')) (d : decode cc pc = .ok (.invokespecial idx, 3)) (ht : yMt y cc' nL' none 1) (hy : y.name = "<init>") (hv : Cond.instanceMethod y ∈ yTs) (hl : Cond.methodLink own idx y ∈ yTs) (h1 : k + 1 ≤ R.frames) (h2 : 8 + (nL' + 11) + 40 * k ≤ R.locals) (h3 : cells + mc ≤ R.cells) (h4 : slots + ms ≤ R.slots) (h5 : (st.map fun v => v.category).sum ≤ 8) (hp : pc + 3 = pc2) (kk : ∀ h' : yH, PP h' → yW p l e R s m args below meth c nL D A (cells + mc) (slots + ms) Q pc2 lv (st) (h')) : yW p l e R s m args below meth c nL D A cells slots Q pc lv (v1 :: .ref a :: st) (h) := by
  refine yr_callI pc2 C [v1] hM d ht hy hv hl rfl h1 h2 h3 h4 h5 hp (fun r h' hq => ?_)
  obtain ⟨rfl, hq⟩ := hq
  exact kk h' hq
theorem yr_V2v (pc2 : Nat) (C : yC Z D dA p s m args meth c cc nL own A) {y : MethodName} {cc' : ByteArray} {nL' : Nat} {ret' : Option FieldType} {k mc ms idx : Nat} {PP : yH → Prop} {rv : Value} {a ci : Nat} {fs : List Value} {v1 v2 : Value} (hM : yM Z D y cc' nL' ret' k mc ms (.ref a :: [v1, v2]) h (fun r h' => r = some rv ∧ PP h')) (d : decode cc pc = .ok (.invokevirtual idx, 3)) (ht : yMt y cc' nL' ret' 2) (hv : yMv y) (hl : Cond.methodLink own idx y ∈ yTs) (ha : h a = some (.inr (ci, fs))) (hci : (vwCl[ci]?).map (·.1) = some y.cls) (h1 : k + 1 ≤ R.frames) (h2 : 8 + (nL' + 11) + 40 * k ≤ R.locals) (h3 : cells + mc ≤ R.cells) (h4 : slots + ms ≤ R.slots) (h5 : (st.map fun v => v.category).sum ≤ 8) (hp : pc + 3 = pc2) (kk : ∀ h' : yH, PP h' → yW p l e R s m args below meth c nL D A (cells + mc) (slots + ms) Q pc2 lv (rv :: st) (h')) : yW p l e R s m args below meth c nL D A cells slots Q pc lv (v2 :: v1 :: .ref a :: st) (h) := by
  refine yr_callV pc2 C [v1, v2] hM d ht hv hl ha hci rfl h1 h2 h3 h4 h5 hp (fun r h' hq => ?_)
  obtain ⟨rfl, hq⟩ := hq
  exact kk h' hq
theorem yr_V2u (pc2 : Nat) (C : yC Z D dA p s m args meth c cc nL own A) {y : MethodName} {cc' : ByteArray} {nL' : Nat} {ret' : Option FieldType} {k mc ms idx : Nat} {PP : yH → Prop} {a ci : Nat} {fs : List Value} {v1 v2 : Value} (hM : yM Z D y cc' nL' ret' k mc ms (.ref a :: [v1, v2]) h (fun r h' => r = none ∧ PP h')) (d : decode cc pc = .ok (.invokevirtual idx, 3)) (ht : yMt y cc' nL' ret' 2) (hv : yMv y) (hl : Cond.methodLink own idx y ∈ yTs) (ha : h a = some (.inr (ci, fs))) (hci : (vwCl[ci]?).map (·.1) = some y.cls) (h1 : k + 1 ≤ R.frames) (h2 : 8 + (nL' + 11) + 40 * k ≤ R.locals) (h3 : cells + mc ≤ R.cells) (h4 : slots + ms ≤ R.slots) (h5 : (st.map fun v => v.category).sum ≤ 8) (hp : pc + 3 = pc2) (kk : ∀ h' : yH, PP h' → yW p l e R s m args below meth c nL D A (cells + mc) (slots + ms) Q pc2 lv (st) (h')) : yW p l e R s m args below meth c nL D A cells slots Q pc lv (v2 :: v1 :: .ref a :: st) (h) := by
  refine yr_callV pc2 C [v1, v2] hM d ht hv hl ha hci rfl h1 h2 h3 h4 h5 hp (fun r h' hq => ?_)
  obtain ⟨rfl, hq⟩ := hq
  exact kk h' hq
theorem yr_S2v (pc2 : Nat) (C : yC Z D dA p s m args meth c cc nL own A) {y : MethodName} {cc' : ByteArray} {nL' : Nat} {ret' : Option FieldType} {k mc ms idx : Nat} {PP : yH → Prop} {rv : Value} {v1 v2 : Value} (hM : yM Z D y cc' nL' ret' k mc ms [v1, v2] h (fun r h' => r = some rv ∧ PP h')) (d : decode cc pc = .ok (.invokestatic idx, 3)) (ht : yMt y cc' nL' ret' 2) (hs : Cond.static y ∈ yTs) (hl : Cond.methodLink own idx y ∈ yTs) (h1 : k + 1 ≤ R.frames) (h2 : 8 + (nL' + 11) + 40 * k ≤ R.locals) (h3 : cells + mc ≤ R.cells) (h4 : slots + ms ≤ R.slots) (h5 : (st.map fun v => v.category).sum ≤ 8) (hp : pc + 3 = pc2) (kk : ∀ h' : yH, PP h' → yW p l e R s m args below meth c nL D A (cells + mc) (slots + ms) Q pc2 lv (rv :: st) (h')) : yW p l e R s m args below meth c nL D A cells slots Q pc lv (v2 :: v1 :: st) (h) := by
  refine yr_callS pc2 C [v1, v2] hM d ht hs hl rfl h1 h2 h3 h4 h5 hp (fun r h' hq => ?_)
  obtain ⟨rfl, hq⟩ := hq
  exact kk h' hq
theorem yr_S2u (pc2 : Nat) (C : yC Z D dA p s m args meth c cc nL own A) {y : MethodName} {cc' : ByteArray} {nL' : Nat} {ret' : Option FieldType} {k mc ms idx : Nat} {PP : yH → Prop} {v1 v2 : Value} (hM : yM Z D y cc' nL' ret' k mc ms [v1, v2] h (fun r h' => r = none ∧ PP h')) (d : decode cc pc = .ok (.invokestatic idx, 3)) (ht : yMt y cc' nL' ret' 2) (hs : Cond.static y ∈ yTs) (hl : Cond.methodLink own idx y ∈ yTs) (h1 : k + 1 ≤ R.frames) (h2 : 8 + (nL' + 11) + 40 * k ≤ R.locals) (h3 : cells + mc ≤ R.cells) (h4 : slots + ms ≤ R.slots) (h5 : (st.map fun v => v.category).sum ≤ 8) (hp : pc + 3 = pc2) (kk : ∀ h' : yH, PP h' → yW p l e R s m args below meth c nL D A (cells + mc) (slots + ms) Q pc2 lv (st) (h')) : yW p l e R s m args below meth c nL D A cells slots Q pc lv (v2 :: v1 :: st) (h) := by
  refine yr_callS pc2 C [v1, v2] hM d ht hs hl rfl h1 h2 h3 h4 h5 hp (fun r h' hq => ?_)
  obtain ⟨rfl, hq⟩ := hq
  exact kk h' hq
theorem yr_I2u (pc2 : Nat) (C : yC Z D dA p s m args meth c cc nL own A) {y : MethodName} {cc' : ByteArray} {nL' : Nat} {k mc ms idx : Nat} {PP : yH → Prop} {a : Nat} {v1 v2 : Value} (hM : yM Z D y cc' nL' none k mc ms (.ref a :: [v1, v2]) h (fun r h' => r = none ∧ PP h')) (d : decode cc pc = .ok (.invokespecial idx, 3)) (ht : yMt y cc' nL' none 2) (hy : y.name = "<init>") (hv : Cond.instanceMethod y ∈ yTs) (hl : Cond.methodLink own idx y ∈ yTs) (h1 : k + 1 ≤ R.frames) (h2 : 8 + (nL' + 11) + 40 * k ≤ R.locals) (h3 : cells + mc ≤ R.cells) (h4 : slots + ms ≤ R.slots) (h5 : (st.map fun v => v.category).sum ≤ 8) (hp : pc + 3 = pc2) (kk : ∀ h' : yH, PP h' → yW p l e R s m args below meth c nL D A (cells + mc) (slots + ms) Q pc2 lv (st) (h')) : yW p l e R s m args below meth c nL D A cells slots Q pc lv (v2 :: v1 :: .ref a :: st) (h) := by
  refine yr_callI pc2 C [v1, v2] hM d ht hy hv hl rfl h1 h2 h3 h4 h5 hp (fun r h' hq => ?_)
  obtain ⟨rfl, hq⟩ := hq
  exact kk h' hq
theorem yr_V3v (pc2 : Nat) (C : yC Z D dA p s m args meth c cc nL own A) {y : MethodName} {cc' : ByteArray} {nL' : Nat} {ret' : Option FieldType} {k mc ms idx : Nat} {PP : yH → Prop} {rv : Value} {a ci : Nat} {fs : List Value} {v1 v2 v3 : Value} (hM : yM Z D y cc' nL' ret' k mc ms (.ref a :: [v1, v2, v3]) h (fun r h' => r = some rv ∧ PP h')) (d : decode cc pc = .ok (.invokevirtual idx, 3)) (ht : yMt y cc' nL' ret' 3) (hv : yMv y) (hl : Cond.methodLink own idx y ∈ yTs) (ha : h a = some (.inr (ci, fs))) (hci : (vwCl[ci]?).map (·.1) = some y.cls) (h1 : k + 1 ≤ R.frames) (h2 : 8 + (nL' + 11) + 40 * k ≤ R.locals) (h3 : cells + mc ≤ R.cells) (h4 : slots + ms ≤ R.slots) (h5 : (st.map fun v => v.category).sum ≤ 8) (hp : pc + 3 = pc2) (kk : ∀ h' : yH, PP h' → yW p l e R s m args below meth c nL D A (cells + mc) (slots + ms) Q pc2 lv (rv :: st) (h')) : yW p l e R s m args below meth c nL D A cells slots Q pc lv (v3 :: v2 :: v1 :: .ref a :: st) (h) := by
  refine yr_callV pc2 C [v1, v2, v3] hM d ht hv hl ha hci rfl h1 h2 h3 h4 h5 hp (fun r h' hq => ?_)
  obtain ⟨rfl, hq⟩ := hq
  exact kk h' hq
theorem yr_V3u (pc2 : Nat) (C : yC Z D dA p s m args meth c cc nL own A) {y : MethodName} {cc' : ByteArray} {nL' : Nat} {ret' : Option FieldType} {k mc ms idx : Nat} {PP : yH → Prop} {a ci : Nat} {fs : List Value} {v1 v2 v3 : Value} (hM : yM Z D y cc' nL' ret' k mc ms (.ref a :: [v1, v2, v3]) h (fun r h' => r = none ∧ PP h')) (d : decode cc pc = .ok (.invokevirtual idx, 3)) (ht : yMt y cc' nL' ret' 3) (hv : yMv y) (hl : Cond.methodLink own idx y ∈ yTs) (ha : h a = some (.inr (ci, fs))) (hci : (vwCl[ci]?).map (·.1) = some y.cls) (h1 : k + 1 ≤ R.frames) (h2 : 8 + (nL' + 11) + 40 * k ≤ R.locals) (h3 : cells + mc ≤ R.cells) (h4 : slots + ms ≤ R.slots) (h5 : (st.map fun v => v.category).sum ≤ 8) (hp : pc + 3 = pc2) (kk : ∀ h' : yH, PP h' → yW p l e R s m args below meth c nL D A (cells + mc) (slots + ms) Q pc2 lv (st) (h')) : yW p l e R s m args below meth c nL D A cells slots Q pc lv (v3 :: v2 :: v1 :: .ref a :: st) (h) := by
  refine yr_callV pc2 C [v1, v2, v3] hM d ht hv hl ha hci rfl h1 h2 h3 h4 h5 hp (fun r h' hq => ?_)
  obtain ⟨rfl, hq⟩ := hq
  exact kk h' hq
theorem yr_S3v (pc2 : Nat) (C : yC Z D dA p s m args meth c cc nL own A) {y : MethodName} {cc' : ByteArray} {nL' : Nat} {ret' : Option FieldType} {k mc ms idx : Nat} {PP : yH → Prop} {rv : Value} {v1 v2 v3 : Value} (hM : yM Z D y cc' nL' ret' k mc ms [v1, v2, v3] h (fun r h' => r = some rv ∧ PP h')) (d : decode cc pc = .ok (.invokestatic idx, 3)) (ht : yMt y cc' nL' ret' 3) (hs : Cond.static y ∈ yTs) (hl : Cond.methodLink own idx y ∈ yTs) (h1 : k + 1 ≤ R.frames) (h2 : 8 + (nL' + 11) + 40 * k ≤ R.locals) (h3 : cells + mc ≤ R.cells) (h4 : slots + ms ≤ R.slots) (h5 : (st.map fun v => v.category).sum ≤ 8) (hp : pc + 3 = pc2) (kk : ∀ h' : yH, PP h' → yW p l e R s m args below meth c nL D A (cells + mc) (slots + ms) Q pc2 lv (rv :: st) (h')) : yW p l e R s m args below meth c nL D A cells slots Q pc lv (v3 :: v2 :: v1 :: st) (h) := by
  refine yr_callS pc2 C [v1, v2, v3] hM d ht hs hl rfl h1 h2 h3 h4 h5 hp (fun r h' hq => ?_)
  obtain ⟨rfl, hq⟩ := hq
  exact kk h' hq
theorem yr_S3u (pc2 : Nat) (C : yC Z D dA p s m args meth c cc nL own A) {y : MethodName} {cc' : ByteArray} {nL' : Nat} {ret' : Option FieldType} {k mc ms idx : Nat} {PP : yH → Prop} {v1 v2 v3 : Value} (hM : yM Z D y cc' nL' ret' k mc ms [v1, v2, v3] h (fun r h' => r = none ∧ PP h')) (d : decode cc pc = .ok (.invokestatic idx, 3)) (ht : yMt y cc' nL' ret' 3) (hs : Cond.static y ∈ yTs) (hl : Cond.methodLink own idx y ∈ yTs) (h1 : k + 1 ≤ R.frames) (h2 : 8 + (nL' + 11) + 40 * k ≤ R.locals) (h3 : cells + mc ≤ R.cells) (h4 : slots + ms ≤ R.slots) (h5 : (st.map fun v => v.category).sum ≤ 8) (hp : pc + 3 = pc2) (kk : ∀ h' : yH, PP h' → yW p l e R s m args below meth c nL D A (cells + mc) (slots + ms) Q pc2 lv (st) (h')) : yW p l e R s m args below meth c nL D A cells slots Q pc lv (v3 :: v2 :: v1 :: st) (h) := by
  refine yr_callS pc2 C [v1, v2, v3] hM d ht hs hl rfl h1 h2 h3 h4 h5 hp (fun r h' hq => ?_)
  obtain ⟨rfl, hq⟩ := hq
  exact kk h' hq
theorem yr_I3u (pc2 : Nat) (C : yC Z D dA p s m args meth c cc nL own A) {y : MethodName} {cc' : ByteArray} {nL' : Nat} {k mc ms idx : Nat} {PP : yH → Prop} {a : Nat} {v1 v2 v3 : Value} (hM : yM Z D y cc' nL' none k mc ms (.ref a :: [v1, v2, v3]) h (fun r h' => r = none ∧ PP h')) (d : decode cc pc = .ok (.invokespecial idx, 3)) (ht : yMt y cc' nL' none 3) (hy : y.name = "<init>") (hv : Cond.instanceMethod y ∈ yTs) (hl : Cond.methodLink own idx y ∈ yTs) (h1 : k + 1 ≤ R.frames) (h2 : 8 + (nL' + 11) + 40 * k ≤ R.locals) (h3 : cells + mc ≤ R.cells) (h4 : slots + ms ≤ R.slots) (h5 : (st.map fun v => v.category).sum ≤ 8) (hp : pc + 3 = pc2) (kk : ∀ h' : yH, PP h' → yW p l e R s m args below meth c nL D A (cells + mc) (slots + ms) Q pc2 lv (st) (h')) : yW p l e R s m args below meth c nL D A cells slots Q pc lv (v3 :: v2 :: v1 :: .ref a :: st) (h) := by
  refine yr_callI pc2 C [v1, v2, v3] hM d ht hy hv hl rfl h1 h2 h3 h4 h5 hp (fun r h' hq => ?_)
  obtain ⟨rfl, hq⟩ := hq
  exact kk h' hq
theorem yr_V4v (pc2 : Nat) (C : yC Z D dA p s m args meth c cc nL own A) {y : MethodName} {cc' : ByteArray} {nL' : Nat} {ret' : Option FieldType} {k mc ms idx : Nat} {PP : yH → Prop} {rv : Value} {a ci : Nat} {fs : List Value} {v1 v2 v3 v4 : Value} (hM : yM Z D y cc' nL' ret' k mc ms (.ref a :: [v1, v2, v3, v4]) h (fun r h' => r = some rv ∧ PP h')) (d : decode cc pc = .ok (.invokevirtual idx, 3)) (ht : yMt y cc' nL' ret' 4) (hv : yMv y) (hl : Cond.methodLink own idx y ∈ yTs) (ha : h a = some (.inr (ci, fs))) (hci : (vwCl[ci]?).map (·.1) = some y.cls) (h1 : k + 1 ≤ R.frames) (h2 : 8 + (nL' + 11) + 40 * k ≤ R.locals) (h3 : cells + mc ≤ R.cells) (h4 : slots + ms ≤ R.slots) (h5 : (st.map fun v => v.category).sum ≤ 8) (hp : pc + 3 = pc2) (kk : ∀ h' : yH, PP h' → yW p l e R s m args below meth c nL D A (cells + mc) (slots + ms) Q pc2 lv (rv :: st) (h')) : yW p l e R s m args below meth c nL D A cells slots Q pc lv (v4 :: v3 :: v2 :: v1 :: .ref a :: st) (h) := by
  refine yr_callV pc2 C [v1, v2, v3, v4] hM d ht hv hl ha hci rfl h1 h2 h3 h4 h5 hp (fun r h' hq => ?_)
  obtain ⟨rfl, hq⟩ := hq
  exact kk h' hq
theorem yr_V4u (pc2 : Nat) (C : yC Z D dA p s m args meth c cc nL own A) {y : MethodName} {cc' : ByteArray} {nL' : Nat} {ret' : Option FieldType} {k mc ms idx : Nat} {PP : yH → Prop} {a ci : Nat} {fs : List Value} {v1 v2 v3 v4 : Value} (hM : yM Z D y cc' nL' ret' k mc ms (.ref a :: [v1, v2, v3, v4]) h (fun r h' => r = none ∧ PP h')) (d : decode cc pc = .ok (.invokevirtual idx, 3)) (ht : yMt y cc' nL' ret' 4) (hv : yMv y) (hl : Cond.methodLink own idx y ∈ yTs) (ha : h a = some (.inr (ci, fs))) (hci : (vwCl[ci]?).map (·.1) = some y.cls) (h1 : k + 1 ≤ R.frames) (h2 : 8 + (nL' + 11) + 40 * k ≤ R.locals) (h3 : cells + mc ≤ R.cells) (h4 : slots + ms ≤ R.slots) (h5 : (st.map fun v => v.category).sum ≤ 8) (hp : pc + 3 = pc2) (kk : ∀ h' : yH, PP h' → yW p l e R s m args below meth c nL D A (cells + mc) (slots + ms) Q pc2 lv (st) (h')) : yW p l e R s m args below meth c nL D A cells slots Q pc lv (v4 :: v3 :: v2 :: v1 :: .ref a :: st) (h) := by
  refine yr_callV pc2 C [v1, v2, v3, v4] hM d ht hv hl ha hci rfl h1 h2 h3 h4 h5 hp (fun r h' hq => ?_)
  obtain ⟨rfl, hq⟩ := hq
  exact kk h' hq
theorem yr_S4v (pc2 : Nat) (C : yC Z D dA p s m args meth c cc nL own A) {y : MethodName} {cc' : ByteArray} {nL' : Nat} {ret' : Option FieldType} {k mc ms idx : Nat} {PP : yH → Prop} {rv : Value} {v1 v2 v3 v4 : Value} (hM : yM Z D y cc' nL' ret' k mc ms [v1, v2, v3, v4] h (fun r h' => r = some rv ∧ PP h')) (d : decode cc pc = .ok (.invokestatic idx, 3)) (ht : yMt y cc' nL' ret' 4) (hs : Cond.static y ∈ yTs) (hl : Cond.methodLink own idx y ∈ yTs) (h1 : k + 1 ≤ R.frames) (h2 : 8 + (nL' + 11) + 40 * k ≤ R.locals) (h3 : cells + mc ≤ R.cells) (h4 : slots + ms ≤ R.slots) (h5 : (st.map fun v => v.category).sum ≤ 8) (hp : pc + 3 = pc2) (kk : ∀ h' : yH, PP h' → yW p l e R s m args below meth c nL D A (cells + mc) (slots + ms) Q pc2 lv (rv :: st) (h')) : yW p l e R s m args below meth c nL D A cells slots Q pc lv (v4 :: v3 :: v2 :: v1 :: st) (h) := by
  refine yr_callS pc2 C [v1, v2, v3, v4] hM d ht hs hl rfl h1 h2 h3 h4 h5 hp (fun r h' hq => ?_)
  obtain ⟨rfl, hq⟩ := hq
  exact kk h' hq
theorem yr_S4u (pc2 : Nat) (C : yC Z D dA p s m args meth c cc nL own A) {y : MethodName} {cc' : ByteArray} {nL' : Nat} {ret' : Option FieldType} {k mc ms idx : Nat} {PP : yH → Prop} {v1 v2 v3 v4 : Value} (hM : yM Z D y cc' nL' ret' k mc ms [v1, v2, v3, v4] h (fun r h' => r = none ∧ PP h')) (d : decode cc pc = .ok (.invokestatic idx, 3)) (ht : yMt y cc' nL' ret' 4) (hs : Cond.static y ∈ yTs) (hl : Cond.methodLink own idx y ∈ yTs) (h1 : k + 1 ≤ R.frames) (h2 : 8 + (nL' + 11) + 40 * k ≤ R.locals) (h3 : cells + mc ≤ R.cells) (h4 : slots + ms ≤ R.slots) (h5 : (st.map fun v => v.category).sum ≤ 8) (hp : pc + 3 = pc2) (kk : ∀ h' : yH, PP h' → yW p l e R s m args below meth c nL D A (cells + mc) (slots + ms) Q pc2 lv (st) (h')) : yW p l e R s m args below meth c nL D A cells slots Q pc lv (v4 :: v3 :: v2 :: v1 :: st) (h) := by
  refine yr_callS pc2 C [v1, v2, v3, v4] hM d ht hs hl rfl h1 h2 h3 h4 h5 hp (fun r h' hq => ?_)
  obtain ⟨rfl, hq⟩ := hq
  exact kk h' hq
theorem yr_I4u (pc2 : Nat) (C : yC Z D dA p s m args meth c cc nL own A) {y : MethodName} {cc' : ByteArray} {nL' : Nat} {k mc ms idx : Nat} {PP : yH → Prop} {a : Nat} {v1 v2 v3 v4 : Value} (hM : yM Z D y cc' nL' none k mc ms (.ref a :: [v1, v2, v3, v4]) h (fun r h' => r = none ∧ PP h')) (d : decode cc pc = .ok (.invokespecial idx, 3)) (ht : yMt y cc' nL' none 4) (hy : y.name = "<init>") (hv : Cond.instanceMethod y ∈ yTs) (hl : Cond.methodLink own idx y ∈ yTs) (h1 : k + 1 ≤ R.frames) (h2 : 8 + (nL' + 11) + 40 * k ≤ R.locals) (h3 : cells + mc ≤ R.cells) (h4 : slots + ms ≤ R.slots) (h5 : (st.map fun v => v.category).sum ≤ 8) (hp : pc + 3 = pc2) (kk : ∀ h' : yH, PP h' → yW p l e R s m args below meth c nL D A (cells + mc) (slots + ms) Q pc2 lv (st) (h')) : yW p l e R s m args below meth c nL D A cells slots Q pc lv (v4 :: v3 :: v2 :: v1 :: .ref a :: st) (h) := by
  refine yr_callI pc2 C [v1, v2, v3, v4] hM d ht hy hv hl rfl h1 h2 h3 h4 h5 hp (fun r h' hq => ?_)
  obtain ⟨rfl, hq⟩ := hq
  exact kk h' hq
theorem yr_V5v (pc2 : Nat) (C : yC Z D dA p s m args meth c cc nL own A) {y : MethodName} {cc' : ByteArray} {nL' : Nat} {ret' : Option FieldType} {k mc ms idx : Nat} {PP : yH → Prop} {rv : Value} {a ci : Nat} {fs : List Value} {v1 v2 v3 v4 v5 : Value} (hM : yM Z D y cc' nL' ret' k mc ms (.ref a :: [v1, v2, v3, v4, v5]) h (fun r h' => r = some rv ∧ PP h')) (d : decode cc pc = .ok (.invokevirtual idx, 3)) (ht : yMt y cc' nL' ret' 5) (hv : yMv y) (hl : Cond.methodLink own idx y ∈ yTs) (ha : h a = some (.inr (ci, fs))) (hci : (vwCl[ci]?).map (·.1) = some y.cls) (h1 : k + 1 ≤ R.frames) (h2 : 8 + (nL' + 11) + 40 * k ≤ R.locals) (h3 : cells + mc ≤ R.cells) (h4 : slots + ms ≤ R.slots) (h5 : (st.map fun v => v.category).sum ≤ 8) (hp : pc + 3 = pc2) (kk : ∀ h' : yH, PP h' → yW p l e R s m args below meth c nL D A (cells + mc) (slots + ms) Q pc2 lv (rv :: st) (h')) : yW p l e R s m args below meth c nL D A cells slots Q pc lv (v5 :: v4 :: v3 :: v2 :: v1 :: .ref a :: st) (h) := by
  refine yr_callV pc2 C [v1, v2, v3, v4, v5] hM d ht hv hl ha hci rfl h1 h2 h3 h4 h5 hp (fun r h' hq => ?_)
  obtain ⟨rfl, hq⟩ := hq
  exact kk h' hq
theorem yr_V5u (pc2 : Nat) (C : yC Z D dA p s m args meth c cc nL own A) {y : MethodName} {cc' : ByteArray} {nL' : Nat} {ret' : Option FieldType} {k mc ms idx : Nat} {PP : yH → Prop} {a ci : Nat} {fs : List Value} {v1 v2 v3 v4 v5 : Value} (hM : yM Z D y cc' nL' ret' k mc ms (.ref a :: [v1, v2, v3, v4, v5]) h (fun r h' => r = none ∧ PP h')) (d : decode cc pc = .ok (.invokevirtual idx, 3)) (ht : yMt y cc' nL' ret' 5) (hv : yMv y) (hl : Cond.methodLink own idx y ∈ yTs) (ha : h a = some (.inr (ci, fs))) (hci : (vwCl[ci]?).map (·.1) = some y.cls) (h1 : k + 1 ≤ R.frames) (h2 : 8 + (nL' + 11) + 40 * k ≤ R.locals) (h3 : cells + mc ≤ R.cells) (h4 : slots + ms ≤ R.slots) (h5 : (st.map fun v => v.category).sum ≤ 8) (hp : pc + 3 = pc2) (kk : ∀ h' : yH, PP h' → yW p l e R s m args below meth c nL D A (cells + mc) (slots + ms) Q pc2 lv (st) (h')) : yW p l e R s m args below meth c nL D A cells slots Q pc lv (v5 :: v4 :: v3 :: v2 :: v1 :: .ref a :: st) (h) := by
  refine yr_callV pc2 C [v1, v2, v3, v4, v5] hM d ht hv hl ha hci rfl h1 h2 h3 h4 h5 hp (fun r h' hq => ?_)
  obtain ⟨rfl, hq⟩ := hq
  exact kk h' hq
theorem yr_S5v (pc2 : Nat) (C : yC Z D dA p s m args meth c cc nL own A) {y : MethodName} {cc' : ByteArray} {nL' : Nat} {ret' : Option FieldType} {k mc ms idx : Nat} {PP : yH → Prop} {rv : Value} {v1 v2 v3 v4 v5 : Value} (hM : yM Z D y cc' nL' ret' k mc ms [v1, v2, v3, v4, v5] h (fun r h' => r = some rv ∧ PP h')) (d : decode cc pc = .ok (.invokestatic idx, 3)) (ht : yMt y cc' nL' ret' 5) (hs : Cond.static y ∈ yTs) (hl : Cond.methodLink own idx y ∈ yTs) (h1 : k + 1 ≤ R.frames) (h2 : 8 + (nL' + 11) + 40 * k ≤ R.locals) (h3 : cells + mc ≤ R.cells) (h4 : slots + ms ≤ R.slots) (h5 : (st.map fun v => v.category).sum ≤ 8) (hp : pc + 3 = pc2) (kk : ∀ h' : yH, PP h' → yW p l e R s m args below meth c nL D A (cells + mc) (slots + ms) Q pc2 lv (rv :: st) (h')) : yW p l e R s m args below meth c nL D A cells slots Q pc lv (v5 :: v4 :: v3 :: v2 :: v1 :: st) (h) := by
  refine yr_callS pc2 C [v1, v2, v3, v4, v5] hM d ht hs hl rfl h1 h2 h3 h4 h5 hp (fun r h' hq => ?_)
  obtain ⟨rfl, hq⟩ := hq
  exact kk h' hq
theorem yr_S5u (pc2 : Nat) (C : yC Z D dA p s m args meth c cc nL own A) {y : MethodName} {cc' : ByteArray} {nL' : Nat} {ret' : Option FieldType} {k mc ms idx : Nat} {PP : yH → Prop} {v1 v2 v3 v4 v5 : Value} (hM : yM Z D y cc' nL' ret' k mc ms [v1, v2, v3, v4, v5] h (fun r h' => r = none ∧ PP h')) (d : decode cc pc = .ok (.invokestatic idx, 3)) (ht : yMt y cc' nL' ret' 5) (hs : Cond.static y ∈ yTs) (hl : Cond.methodLink own idx y ∈ yTs) (h1 : k + 1 ≤ R.frames) (h2 : 8 + (nL' + 11) + 40 * k ≤ R.locals) (h3 : cells + mc ≤ R.cells) (h4 : slots + ms ≤ R.slots) (h5 : (st.map fun v => v.category).sum ≤ 8) (hp : pc + 3 = pc2) (kk : ∀ h' : yH, PP h' → yW p l e R s m args below meth c nL D A (cells + mc) (slots + ms) Q pc2 lv (st) (h')) : yW p l e R s m args below meth c nL D A cells slots Q pc lv (v5 :: v4 :: v3 :: v2 :: v1 :: st) (h) := by
  refine yr_callS pc2 C [v1, v2, v3, v4, v5] hM d ht hs hl rfl h1 h2 h3 h4 h5 hp (fun r h' hq => ?_)
  obtain ⟨rfl, hq⟩ := hq
  exact kk h' hq
theorem yr_I5u (pc2 : Nat) (C : yC Z D dA p s m args meth c cc nL own A) {y : MethodName} {cc' : ByteArray} {nL' : Nat} {k mc ms idx : Nat} {PP : yH → Prop} {a : Nat} {v1 v2 v3 v4 v5 : Value} (hM : yM Z D y cc' nL' none k mc ms (.ref a :: [v1, v2, v3, v4, v5]) h (fun r h' => r = none ∧ PP h')) (d : decode cc pc = .ok (.invokespecial idx, 3)) (ht : yMt y cc' nL' none 5) (hy : y.name = "<init>") (hv : Cond.instanceMethod y ∈ yTs) (hl : Cond.methodLink own idx y ∈ yTs) (h1 : k + 1 ≤ R.frames) (h2 : 8 + (nL' + 11) + 40 * k ≤ R.locals) (h3 : cells + mc ≤ R.cells) (h4 : slots + ms ≤ R.slots) (h5 : (st.map fun v => v.category).sum ≤ 8) (hp : pc + 3 = pc2) (kk : ∀ h' : yH, PP h' → yW p l e R s m args below meth c nL D A (cells + mc) (slots + ms) Q pc2 lv (st) (h')) : yW p l e R s m args below meth c nL D A cells slots Q pc lv (v5 :: v4 :: v3 :: v2 :: v1 :: .ref a :: st) (h) := by
  refine yr_callI pc2 C [v1, v2, v3, v4, v5] hM d ht hy hv hl rfl h1 h2 h3 h4 h5 hp (fun r h' hq => ?_)
  obtain ⟨rfl, hq⟩ := hq
  exact kk h' hq
end Rows3
end
section
set_option maxRecDepth 20000 in
theorem it_Jx4a65c : ∀ w ∈ u_ws RJx4a65c TJx4a65c 3, w ∈ yTs := yt_all (by decide +kernel)
set_option maxRecDepth 20000 in
theorem it_X0 : ∀ w ∈ u_ws RX0 TX0 1, w ∈ yTs := yt_all (by decide +kernel)
set_option maxRecDepth 20000 in
theorem it_X1 : ∀ w ∈ u_ws RX1 TX1 4, w ∈ yTs := yt_all (by decide +kernel)
set_option maxRecDepth 20000 in
theorem it_X2 : ∀ w ∈ u_ws RX2 TX2 5, w ∈ yTs := yt_all (by decide +kernel)
set_option maxRecDepth 20000 in
theorem it_X3 : ∀ w ∈ u_ws RX3 TX3 3, w ∈ yTs := yt_all (by decide +kernel)
set_option maxRecDepth 20000 in
theorem it_X4 : ∀ w ∈ u_ws RX4 TX4 5, w ∈ yTs := yt_all (by decide +kernel)
set_option maxRecDepth 20000 in
theorem it_X5 : ∀ w ∈ u_ws RX5 TX5 4, w ∈ yTs := yt_all (by decide +kernel)
set_option maxRecDepth 20000 in
theorem it_X6 : ∀ w ∈ u_ws RX6 TX6 18, w ∈ yTs := yt_all (by decide +kernel)
set_option maxRecDepth 20000 in
theorem it_X7 : ∀ w ∈ u_ws RX7 TX7 2, w ∈ yTs := yt_all (by decide +kernel)
set_option maxRecDepth 20000 in
theorem it_X8 : ∀ w ∈ u_ws RX8 TX8 16, w ∈ yTs := yt_all (by decide +kernel)
set_option maxRecDepth 20000 in
theorem it_X9 : ∀ w ∈ u_ws RX9 TX9 53, w ∈ yTs := yt_all (by decide +kernel)
theorem fl_X8_10 : yFl RX8 10 9 0 := ⟨RX8, TX8, 16, rfl, by decide, it_X8, yt_in 111 (by decide +kernel) rfl⟩
theorem fp_X8_10 : yFp RX8 10 9 0 (.object "java/util/ArrayList") true := ⟨RX8, TX8, 16, tyX8, rfl, by decide, it_X8, yt_in 111 (by decide +kernel) rfl, tyX8_ok, nmX8, rfl, rfl, (fun _ => rfl)⟩
theorem fl_X8_16 : yFl RX8 16 9 1 := ⟨RX8, TX8, 16, rfl, by decide, it_X8, yt_in 112 (by decide +kernel) rfl⟩
theorem fp_X8_16 : yFp RX8 16 9 1 (.object "java/util/ArrayList") true := ⟨RX8, TX8, 16, tyX8, rfl, by decide, it_X8, yt_in 112 (by decide +kernel) rfl, tyX8_ok, nmX8, rfl, rfl, (fun _ => rfl)⟩
theorem fl_X8_19 : yFl RX8 19 9 2 := ⟨RX8, TX8, 16, rfl, by decide, it_X8, yt_in 113 (by decide +kernel) rfl⟩
theorem fp_X8_19 : yFp RX8 19 9 2 (.object "java/util/ArrayList") true := ⟨RX8, TX8, 16, tyX8, rfl, by decide, it_X8, yt_in 113 (by decide +kernel) rfl, tyX8_ok, nmX8, rfl, rfl, (fun _ => rfl)⟩
theorem fl_X8_22 : yFl RX8 22 9 3 := ⟨RX8, TX8, 16, rfl, by decide, it_X8, yt_in 114 (by decide +kernel) rfl⟩
theorem fp_X8_22 : yFp RX8 22 9 3 (.object "java/util/ArrayList") true := ⟨RX8, TX8, 16, tyX8, rfl, by decide, it_X8, yt_in 114 (by decide +kernel) rfl, tyX8_ok, nmX8, rfl, rfl, (fun _ => rfl)⟩
theorem fl_X8_25 : yFl RX8 25 9 4 := ⟨RX8, TX8, 16, rfl, by decide, it_X8, yt_in 115 (by decide +kernel) rfl⟩
theorem fp_X8_25 : yFp RX8 25 9 4 (.object "java/util/ArrayList") true := ⟨RX8, TX8, 16, tyX8, rfl, by decide, it_X8, yt_in 115 (by decide +kernel) rfl, tyX8_ok, nmX8, rfl, rfl, (fun _ => rfl)⟩
theorem fl_X8_31 : yFl RX8 31 9 5 := ⟨RX8, TX8, 16, rfl, by decide, it_X8, yt_in 116 (by decide +kernel) rfl⟩
theorem fp_X8_31 : yFp RX8 31 9 5 (.object "CrossingKeeper$Findings") true := ⟨RX8, TX8, 16, tyX8, rfl, by decide, it_X8, yt_in 116 (by decide +kernel) rfl, tyX8_ok, nmX8, rfl, rfl, (fun _ => rfl)⟩
theorem fl_X8_38 : yFl RX8 38 9 6 := ⟨RX8, TX8, 16, rfl, by decide, it_X8, yt_in 117 (by decide +kernel) rfl⟩
theorem fp_X8_38 : yFp RX8 38 9 6 (.object "CrossingKeeper$Faults") true := ⟨RX8, TX8, 16, tyX8, rfl, by decide, it_X8, yt_in 117 (by decide +kernel) rfl, tyX8_ok, nmX8, rfl, rfl, (fun _ => rfl)⟩
theorem fl_X8_45 : yFl RX8 45 9 7 := ⟨RX8, TX8, 16, rfl, by decide, it_X8, yt_in 118 (by decide +kernel) rfl⟩
theorem fp_X8_45 : yFp RX8 45 9 7 (.object "CrossingKeeper$Bodies") true := ⟨RX8, TX8, 16, tyX8, rfl, by decide, it_X8, yt_in 118 (by decide +kernel) rfl, tyX8_ok, nmX8, rfl, rfl, (fun _ => rfl)⟩
theorem fl_X8_49 : yFl RX8 49 9 8 := ⟨RX8, TX8, 16, rfl, by decide, it_X8, yt_in 119 (by decide +kernel) rfl⟩
theorem fp_X8_49 : yFp RX8 49 9 8 (.int) false := ⟨RX8, TX8, 16, tyX8, rfl, by decide, it_X8, yt_in 119 (by decide +kernel) rfl, tyX8_ok, nmX8, rfl, rfl, (fun h => by cases h)⟩
theorem fl_X8_53 : yFl RX8 53 9 9 := ⟨RX8, TX8, 16, rfl, by decide, it_X8, yt_in 120 (by decide +kernel) rfl⟩
theorem fp_X8_53 : yFp RX8 53 9 9 (.int) false := ⟨RX8, TX8, 16, tyX8, rfl, by decide, it_X8, yt_in 120 (by decide +kernel) rfl, tyX8_ok, nmX8, rfl, rfl, (fun h => by cases h)⟩
theorem fl_X8_56 : yFl RX8 56 9 10 := ⟨RX8, TX8, 16, rfl, by decide, it_X8, yt_in 121 (by decide +kernel) rfl⟩
theorem fp_X8_56 : yFp RX8 56 9 10 (.object "CrossingKeeper$Stage") false := ⟨RX8, TX8, 16, tyX8, rfl, by decide, it_X8, yt_in 121 (by decide +kernel) rfl, tyX8_ok, nmX8, rfl, rfl, (fun h => by cases h)⟩
theorem fl_X8_60 : yFl RX8 60 9 11 := ⟨RX8, TX8, 16, rfl, by decide, it_X8, yt_in 122 (by decide +kernel) rfl⟩
theorem fp_X8_60 : yFp RX8 60 9 11 (.int) false := ⟨RX8, TX8, 16, tyX8, rfl, by decide, it_X8, yt_in 122 (by decide +kernel) rfl, tyX8_ok, nmX8, rfl, rfl, (fun h => by cases h)⟩
theorem fl_X8_63 : yFl RX8 63 9 12 := ⟨RX8, TX8, 16, rfl, by decide, it_X8, yt_in 123 (by decide +kernel) rfl⟩
theorem fp_X8_63 : yFp RX8 63 9 12 (.int) false := ⟨RX8, TX8, 16, tyX8, rfl, by decide, it_X8, yt_in 123 (by decide +kernel) rfl, tyX8_ok, nmX8, rfl, rfl, (fun h => by cases h)⟩
theorem fl_X8_66 : yFl RX8 66 9 13 := ⟨RX8, TX8, 16, rfl, by decide, it_X8, yt_in 124 (by decide +kernel) rfl⟩
theorem fp_X8_66 : yFp RX8 66 9 13 (.int) false := ⟨RX8, TX8, 16, tyX8, rfl, by decide, it_X8, yt_in 124 (by decide +kernel) rfl, tyX8_ok, nmX8, rfl, rfl, (fun h => by cases h)⟩
theorem fl_X8_69 : yFl RX8 69 9 14 := ⟨RX8, TX8, 16, rfl, by decide, it_X8, yt_in 125 (by decide +kernel) rfl⟩
theorem fp_X8_69 : yFp RX8 69 9 14 (.object "CrossingKeeper$Stage") false := ⟨RX8, TX8, 16, tyX8, rfl, by decide, it_X8, yt_in 125 (by decide +kernel) rfl, tyX8_ok, nmX8, rfl, rfl, (fun h => by cases h)⟩
theorem fl_X8_72 : yFl RX8 72 9 15 := ⟨RX8, TX8, 16, rfl, by decide, it_X8, yt_in 126 (by decide +kernel) rfl⟩
theorem fp_X8_72 : yFp RX8 72 9 15 (.int) false := ⟨RX8, TX8, 16, tyX8, rfl, by decide, it_X8, yt_in 126 (by decide +kernel) rfl, tyX8_ok, nmX8, rfl, rfl, (fun h => by cases h)⟩
theorem fl_X8_88 : yFl RX8 88 7 0 := ⟨RX6, TX6, 18, rfl, by decide, it_X6, yt_in 175 (by decide +kernel) rfl⟩
theorem fl_X8_127 : yFl RX8 127 8 0 := ⟨RX7, TX7, 2, rfl, by decide, it_X7, yt_in 358 (by decide +kernel) rfl⟩
theorem fl_X8_131 : yFl RX8 131 7 4 := ⟨RX6, TX6, 18, rfl, by decide, it_X6, yt_in 181 (by decide +kernel) rfl⟩
theorem fp_X8_131 : yFp RX8 131 7 4 (.object "CrossingKeeper$Detector") false := ⟨RX6, TX6, 18, tyX6, rfl, by decide, it_X6, yt_in 181 (by decide +kernel) rfl, tyX6_ok, nmX6, rfl, rfl, (fun h => by cases h)⟩
theorem fl_X8_135 : yFl RX8 135 2 0 := ⟨RX1, TX1, 4, rfl, by decide, it_X1, yt_in 393 (by decide +kernel) rfl⟩
theorem fl_X8_150 : yFl RX8 150 2 3 := ⟨RX1, TX1, 4, rfl, by decide, it_X1, yt_in 397 (by decide +kernel) rfl⟩
theorem fp_X8_150 : yFp RX8 150 2 3 (.int) false := ⟨RX1, TX1, 4, tyX1, rfl, by decide, it_X1, yt_in 397 (by decide +kernel) rfl, tyX1_ok, nmX1, rfl, rfl, (fun h => by cases h)⟩
theorem fl_X8_157 : yFl RX8 157 7 5 := ⟨RX6, TX6, 18, rfl, by decide, it_X6, yt_in 183 (by decide +kernel) rfl⟩
theorem fp_X8_157 : yFp RX8 157 7 5 (.boolean) false := ⟨RX6, TX6, 18, tyX6, rfl, by decide, it_X6, yt_in 183 (by decide +kernel) rfl, tyX6_ok, nmX6, rfl, rfl, (fun h => by cases h)⟩
theorem fl_X8_169 : yFl RX8 169 7 6 := ⟨RX6, TX6, 18, rfl, by decide, it_X6, yt_in 185 (by decide +kernel) rfl⟩
theorem fp_X8_169 : yFp RX8 169 7 6 (.int) false := ⟨RX6, TX6, 18, tyX6, rfl, by decide, it_X6, yt_in 185 (by decide +kernel) rfl, tyX6_ok, nmX6, rfl, rfl, (fun h => by cases h)⟩
theorem fl_X8_172 : yFl RX8 172 7 8 := ⟨RX6, TX6, 18, rfl, by decide, it_X6, yt_in 192 (by decide +kernel) rfl⟩
theorem fp_X8_172 : yFp RX8 172 7 8 (.int) false := ⟨RX6, TX6, 18, tyX6, rfl, by decide, it_X6, yt_in 192 (by decide +kernel) rfl, tyX6_ok, nmX6, rfl, rfl, (fun h => by cases h)⟩
theorem fl_X8_179 : yFl RX8 179 3 3 := ⟨RX2, TX2, 5, rfl, by decide, it_X2, yt_in 86 (by decide +kernel) rfl⟩
theorem fp_X8_179 : yFp RX8 179 3 3 (.int) false := ⟨RX2, TX2, 5, tyX2, rfl, by decide, it_X2, yt_in 86 (by decide +kernel) rfl, tyX2_ok, nmX2, rfl, rfl, (fun h => by cases h)⟩
theorem fl_X8_182 : yFl RX8 182 3 0 := ⟨RX2, TX2, 5, rfl, by decide, it_X2, yt_in 80 (by decide +kernel) rfl⟩
theorem fp_X8_182 : yFp RX8 182 3 0 (.int) false := ⟨RX2, TX2, 5, tyX2, rfl, by decide, it_X2, yt_in 80 (by decide +kernel) rfl, tyX2_ok, nmX2, rfl, rfl, (fun h => by cases h)⟩
theorem fl_X8_197 : yFl RX8 197 3 4 := ⟨RX2, TX2, 5, rfl, by decide, it_X2, yt_in 88 (by decide +kernel) rfl⟩
theorem fp_X8_197 : yFp RX8 197 3 4 (.boolean) false := ⟨RX2, TX2, 5, tyX2, rfl, by decide, it_X2, yt_in 88 (by decide +kernel) rfl, tyX2_ok, nmX2, rfl, rfl, (fun h => by cases h)⟩
theorem fl_X8_220 : yFl RX8 220 7 1 := ⟨RX6, TX6, 18, rfl, by decide, it_X6, yt_in 177 (by decide +kernel) rfl⟩
theorem fl_X8_223 : yFl RX8 223 7 16 := ⟨RX6, TX6, 18, rfl, by decide, it_X6, yt_in 214 (by decide +kernel) rfl⟩
theorem fp_X8_223 : yFp RX8 223 7 16 (.int) false := ⟨RX6, TX6, 18, tyX6, rfl, by decide, it_X6, yt_in 214 (by decide +kernel) rfl, tyX6_ok, nmX6, rfl, rfl, (fun h => by cases h)⟩
theorem fl_X8_226 : yFl RX8 226 7 17 := ⟨RX6, TX6, 18, rfl, by decide, it_X6, yt_in 216 (by decide +kernel) rfl⟩
theorem fp_X8_226 : yFp RX8 226 7 17 (.int) false := ⟨RX6, TX6, 18, tyX6, rfl, by decide, it_X6, yt_in 216 (by decide +kernel) rfl, tyX6_ok, nmX6, rfl, rfl, (fun h => by cases h)⟩
theorem fl_X8_229 : yFl RX8 229 7 14 := ⟨RX6, TX6, 18, rfl, by decide, it_X6, yt_in 210 (by decide +kernel) rfl⟩
theorem fp_X8_229 : yFp RX8 229 7 14 (.int) false := ⟨RX6, TX6, 18, tyX6, rfl, by decide, it_X6, yt_in 210 (by decide +kernel) rfl, tyX6_ok, nmX6, rfl, rfl, (fun h => by cases h)⟩
theorem fl_X8_232 : yFl RX8 232 7 15 := ⟨RX6, TX6, 18, rfl, by decide, it_X6, yt_in 212 (by decide +kernel) rfl⟩
theorem fp_X8_232 : yFp RX8 232 7 15 (.int) false := ⟨RX6, TX6, 18, tyX6, rfl, by decide, it_X6, yt_in 212 (by decide +kernel) rfl, tyX6_ok, nmX6, rfl, rfl, (fun h => by cases h)⟩
theorem fl_X8_235 : yFl RX8 235 7 9 := ⟨RX6, TX6, 18, rfl, by decide, it_X6, yt_in 194 (by decide +kernel) rfl⟩
theorem fp_X8_235 : yFp RX8 235 7 9 (.int) false := ⟨RX6, TX6, 18, tyX6, rfl, by decide, it_X6, yt_in 194 (by decide +kernel) rfl, tyX6_ok, nmX6, rfl, rfl, (fun h => by cases h)⟩
theorem fl_X8_238 : yFl RX8 238 7 10 := ⟨RX6, TX6, 18, rfl, by decide, it_X6, yt_in 197 (by decide +kernel) rfl⟩
theorem fp_X8_238 : yFp RX8 238 7 10 (.int) false := ⟨RX6, TX6, 18, tyX6, rfl, by decide, it_X6, yt_in 197 (by decide +kernel) rfl, tyX6_ok, nmX6, rfl, rfl, (fun h => by cases h)⟩
theorem fl_X8_241 : yFl RX8 241 7 11 := ⟨RX6, TX6, 18, rfl, by decide, it_X6, yt_in 201 (by decide +kernel) rfl⟩
theorem fp_X8_241 : yFp RX8 241 7 11 (.int) false := ⟨RX6, TX6, 18, tyX6, rfl, by decide, it_X6, yt_in 201 (by decide +kernel) rfl, tyX6_ok, nmX6, rfl, rfl, (fun h => by cases h)⟩
theorem fl_X8_244 : yFl RX8 244 7 12 := ⟨RX6, TX6, 18, rfl, by decide, it_X6, yt_in 205 (by decide +kernel) rfl⟩
theorem fp_X8_244 : yFp RX8 244 7 12 (.int) false := ⟨RX6, TX6, 18, tyX6, rfl, by decide, it_X6, yt_in 205 (by decide +kernel) rfl, tyX6_ok, nmX6, rfl, rfl, (fun h => by cases h)⟩
theorem fl_X8_247 : yFl RX8 247 7 13 := ⟨RX6, TX6, 18, rfl, by decide, it_X6, yt_in 208 (by decide +kernel) rfl⟩
theorem fp_X8_247 : yFp RX8 247 7 13 (.int) false := ⟨RX6, TX6, 18, tyX6, rfl, by decide, it_X6, yt_in 208 (by decide +kernel) rfl, tyX6_ok, nmX6, rfl, rfl, (fun h => by cases h)⟩
theorem fl_X8_265 : yFl RX8 265 4 1 := ⟨RX3, TX3, 3, rfl, by decide, it_X3, yt_in 62 (by decide +kernel) rfl⟩
theorem fp_X8_265 : yFp RX8 265 4 1 (.int) false := ⟨RX3, TX3, 3, tyX3, rfl, by decide, it_X3, yt_in 62 (by decide +kernel) rfl, tyX3_ok, nmX3, rfl, rfl, (fun h => by cases h)⟩
theorem fl_X8_268 : yFl RX8 268 4 2 := ⟨RX3, TX3, 3, rfl, by decide, it_X3, yt_in 64 (by decide +kernel) rfl⟩
theorem fp_X8_268 : yFp RX8 268 4 2 (.int) false := ⟨RX3, TX3, 3, tyX3, rfl, by decide, it_X3, yt_in 64 (by decide +kernel) rfl, tyX3_ok, nmX3, rfl, rfl, (fun h => by cases h)⟩
theorem fl_X8_271 : yFl RX8 271 3 1 := ⟨RX2, TX2, 5, rfl, by decide, it_X2, yt_in 82 (by decide +kernel) rfl⟩
theorem fp_X8_271 : yFp RX8 271 3 1 (.int) false := ⟨RX2, TX2, 5, tyX2, rfl, by decide, it_X2, yt_in 82 (by decide +kernel) rfl, tyX2_ok, nmX2, rfl, rfl, (fun h => by cases h)⟩
theorem fl_X8_272 : yFl RX8 272 3 2 := ⟨RX2, TX2, 5, rfl, by decide, it_X2, yt_in 84 (by decide +kernel) rfl⟩
theorem fp_X8_272 : yFp RX8 272 3 2 (.int) false := ⟨RX2, TX2, 5, tyX2, rfl, by decide, it_X2, yt_in 84 (by decide +kernel) rfl, tyX2_ok, nmX2, rfl, rfl, (fun h => by cases h)⟩
theorem fl_X8_275 : yFl RX8 275 1 0 := ⟨RX0, TX0, 1, rfl, by decide, it_X0, yt_in 107 (by decide +kernel) rfl⟩
theorem fp_X8_275 : yFp RX8 275 1 0 (.int) false := ⟨RX0, TX0, 1, tyX0, rfl, by decide, it_X0, yt_in 107 (by decide +kernel) rfl, tyX0_ok, nmX0, rfl, rfl, (fun h => by cases h)⟩
theorem fl_X8_278 : yFl RX8 278 5 4 := ⟨RX4, TX4, 5, rfl, by decide, it_X4, yt_in 449 (by decide +kernel) rfl⟩
theorem fl_X8_324 : yFl RX8 324 7 7 := ⟨RX6, TX6, 18, rfl, by decide, it_X6, yt_in 189 (by decide +kernel) rfl⟩
theorem fp_X8_324 : yFp RX8 324 7 7 (.boolean) false := ⟨RX6, TX6, 18, tyX6, rfl, by decide, it_X6, yt_in 189 (by decide +kernel) rfl, tyX6_ok, nmX6, rfl, rfl, (fun h => by cases h)⟩
theorem fl_X8_352 : yFl RX8 352 8 1 := ⟨RX7, TX7, 2, rfl, by decide, it_X7, yt_in 360 (by decide +kernel) rfl⟩
theorem fl_X0_9 : yFl RX0 9 1 0 := ⟨RX0, TX0, 1, rfl, by decide, it_X0, yt_in 106 (by decide +kernel) rfl⟩
theorem fp_X0_9 : yFp RX0 9 1 0 (.int) false := ⟨RX0, TX0, 1, tyX0, rfl, by decide, it_X0, yt_in 106 (by decide +kernel) rfl, tyX0_ok, nmX0, rfl, rfl, (fun h => by cases h)⟩
theorem fl_X1_9 : yFl RX1 9 2 1 := ⟨RX1, TX1, 4, rfl, by decide, it_X1, yt_in 394 (by decide +kernel) rfl⟩
theorem fp_X1_9 : yFp RX1 9 2 1 (.array .byte) false := ⟨RX1, TX1, 4, tyX1, rfl, by decide, it_X1, yt_in 394 (by decide +kernel) rfl, tyX1_ok, nmX1, rfl, rfl, (fun h => by cases h)⟩
theorem fl_X1_15 : yFl RX1 15 2 2 := ⟨RX1, TX1, 4, rfl, by decide, it_X1, yt_in 395 (by decide +kernel) rfl⟩
theorem fp_X1_15 : yFp RX1 15 2 2 (.array .short) false := ⟨RX1, TX1, 4, tyX1, rfl, by decide, it_X1, yt_in 395 (by decide +kernel) rfl, tyX1_ok, nmX1, rfl, rfl, (fun h => by cases h)⟩
theorem fl_X1_19 : yFl RX1 19 2 3 := ⟨RX1, TX1, 4, rfl, by decide, it_X1, yt_in 396 (by decide +kernel) rfl⟩
theorem fp_X1_19 : yFp RX1 19 2 3 (.int) false := ⟨RX1, TX1, 4, tyX1, rfl, by decide, it_X1, yt_in 396 (by decide +kernel) rfl, tyX1_ok, nmX1, rfl, rfl, (fun h => by cases h)⟩
theorem fl_X1_23 : yFl RX1 23 2 0 := ⟨RX1, TX1, 4, rfl, by decide, it_X1, yt_in 392 (by decide +kernel) rfl⟩
theorem fp_X1_23 : yFp RX1 23 2 0 (.int) true := ⟨RX1, TX1, 4, tyX1, rfl, by decide, it_X1, yt_in 392 (by decide +kernel) rfl, tyX1_ok, nmX1, rfl, rfl, (fun _ => rfl)⟩
theorem fl_X2_9 : yFl RX2 9 3 0 := ⟨RX2, TX2, 5, rfl, by decide, it_X2, yt_in 79 (by decide +kernel) rfl⟩
theorem fp_X2_9 : yFp RX2 9 3 0 (.int) false := ⟨RX2, TX2, 5, tyX2, rfl, by decide, it_X2, yt_in 79 (by decide +kernel) rfl, tyX2_ok, nmX2, rfl, rfl, (fun h => by cases h)⟩
theorem fl_X2_15 : yFl RX2 15 3 1 := ⟨RX2, TX2, 5, rfl, by decide, it_X2, yt_in 81 (by decide +kernel) rfl⟩
theorem fp_X2_15 : yFp RX2 15 3 1 (.int) false := ⟨RX2, TX2, 5, tyX2, rfl, by decide, it_X2, yt_in 81 (by decide +kernel) rfl, tyX2_ok, nmX2, rfl, rfl, (fun h => by cases h)⟩
theorem fl_X2_18 : yFl RX2 18 3 2 := ⟨RX2, TX2, 5, rfl, by decide, it_X2, yt_in 83 (by decide +kernel) rfl⟩
theorem fp_X2_18 : yFp RX2 18 3 2 (.int) false := ⟨RX2, TX2, 5, tyX2, rfl, by decide, it_X2, yt_in 83 (by decide +kernel) rfl, tyX2_ok, nmX2, rfl, rfl, (fun h => by cases h)⟩
theorem fl_X2_21 : yFl RX2 21 3 3 := ⟨RX2, TX2, 5, rfl, by decide, it_X2, yt_in 85 (by decide +kernel) rfl⟩
theorem fp_X2_21 : yFp RX2 21 3 3 (.int) false := ⟨RX2, TX2, 5, tyX2, rfl, by decide, it_X2, yt_in 85 (by decide +kernel) rfl, tyX2_ok, nmX2, rfl, rfl, (fun h => by cases h)⟩
theorem fl_X2_24 : yFl RX2 24 3 4 := ⟨RX2, TX2, 5, rfl, by decide, it_X2, yt_in 87 (by decide +kernel) rfl⟩
theorem fp_X2_24 : yFp RX2 24 3 4 (.boolean) false := ⟨RX2, TX2, 5, tyX2, rfl, by decide, it_X2, yt_in 87 (by decide +kernel) rfl, tyX2_ok, nmX2, rfl, rfl, (fun h => by cases h)⟩
theorem fl_X3_9 : yFl RX3 9 4 0 := ⟨RX3, TX3, 3, rfl, by decide, it_X3, yt_in 60 (by decide +kernel) rfl⟩
theorem fp_X3_9 : yFp RX3 9 4 0 (.array .int) true := ⟨RX3, TX3, 3, tyX3, rfl, by decide, it_X3, yt_in 60 (by decide +kernel) rfl, tyX3_ok, nmX3, rfl, rfl, (fun _ => rfl)⟩
theorem fl_X3_15 : yFl RX3 15 4 1 := ⟨RX3, TX3, 3, rfl, by decide, it_X3, yt_in 61 (by decide +kernel) rfl⟩
theorem fp_X3_15 : yFp RX3 15 4 1 (.int) false := ⟨RX3, TX3, 3, tyX3, rfl, by decide, it_X3, yt_in 61 (by decide +kernel) rfl, tyX3_ok, nmX3, rfl, rfl, (fun h => by cases h)⟩
theorem fl_X3_19 : yFl RX3 19 4 2 := ⟨RX3, TX3, 3, rfl, by decide, it_X3, yt_in 63 (by decide +kernel) rfl⟩
theorem fp_X3_19 : yFp RX3 19 4 2 (.int) false := ⟨RX3, TX3, 3, tyX3, rfl, by decide, it_X3, yt_in 63 (by decide +kernel) rfl, tyX3_ok, nmX3, rfl, rfl, (fun h => by cases h)⟩
theorem fl_X4_7 : yFl RX4 7 5 0 := ⟨RX4, TX4, 5, rfl, by decide, it_X4, yt_in 444 (by decide +kernel) rfl⟩
theorem fp_X4_7 : yFp RX4 7 5 0 (.object "CrossingKeeper$Phase") true := ⟨RX4, TX4, 5, tyX4, rfl, by decide, it_X4, yt_in 444 (by decide +kernel) rfl, tyX4_ok, nmX4, rfl, rfl, (fun _ => rfl)⟩
theorem fl_X4_13 : yFl RX4 13 5 1 := ⟨RX4, TX4, 5, rfl, by decide, it_X4, yt_in 445 (by decide +kernel) rfl⟩
theorem fp_X4_13 : yFp RX4 13 5 1 (.int) true := ⟨RX4, TX4, 5, tyX4, rfl, by decide, it_X4, yt_in 445 (by decide +kernel) rfl, tyX4_ok, nmX4, rfl, rfl, (fun _ => rfl)⟩
theorem fl_X4_17 : yFl RX4 17 5 2 := ⟨RX4, TX4, 5, rfl, by decide, it_X4, yt_in 446 (by decide +kernel) rfl⟩
theorem fp_X4_17 : yFp RX4 17 5 2 (.int) true := ⟨RX4, TX4, 5, tyX4, rfl, by decide, it_X4, yt_in 446 (by decide +kernel) rfl, tyX4_ok, nmX4, rfl, rfl, (fun _ => rfl)⟩
theorem fl_X4_20 : yFl RX4 20 5 3 := ⟨RX4, TX4, 5, rfl, by decide, it_X4, yt_in 447 (by decide +kernel) rfl⟩
theorem fp_X4_20 : yFp RX4 20 5 3 (.int) true := ⟨RX4, TX4, 5, tyX4, rfl, by decide, it_X4, yt_in 447 (by decide +kernel) rfl, tyX4_ok, nmX4, rfl, rfl, (fun _ => rfl)⟩
theorem fl_X4_23 : yFl RX4 23 5 4 := ⟨RX4, TX4, 5, rfl, by decide, it_X4, yt_in 448 (by decide +kernel) rfl⟩
theorem fp_X4_23 : yFp RX4 23 5 4 (.int) true := ⟨RX4, TX4, 5, tyX4, rfl, by decide, it_X4, yt_in 448 (by decide +kernel) rfl, tyX4_ok, nmX4, rfl, rfl, (fun _ => rfl)⟩
theorem fl_X4_26 : yFl RX4 26 7 11 := ⟨RX6, TX6, 18, rfl, by decide, it_X6, yt_in 199 (by decide +kernel) rfl⟩
theorem fp_X4_26 : yFp RX4 26 7 11 (.int) false := ⟨RX6, TX6, 18, tyX6, rfl, by decide, it_X6, yt_in 199 (by decide +kernel) rfl, tyX6_ok, nmX6, rfl, rfl, (fun h => by cases h)⟩
theorem fl_X4_29 : yFl RX4 29 7 12 := ⟨RX6, TX6, 18, rfl, by decide, it_X6, yt_in 203 (by decide +kernel) rfl⟩
theorem fp_X4_29 : yFp RX4 29 7 12 (.int) false := ⟨RX6, TX6, 18, tyX6, rfl, by decide, it_X6, yt_in 203 (by decide +kernel) rfl, tyX6_ok, nmX6, rfl, rfl, (fun h => by cases h)⟩
theorem fl_X4_30 : yFl RX4 30 7 13 := ⟨RX6, TX6, 18, rfl, by decide, it_X6, yt_in 207 (by decide +kernel) rfl⟩
theorem fp_X4_30 : yFp RX4 30 7 13 (.int) false := ⟨RX6, TX6, 18, tyX6, rfl, by decide, it_X6, yt_in 207 (by decide +kernel) rfl, tyX6_ok, nmX6, rfl, rfl, (fun h => by cases h)⟩
theorem fl_X5_7 : yFl RX5 7 6 3 := ⟨RX5, TX5, 4, rfl, by decide, it_X5, yt_in 478 (by decide +kernel) rfl⟩
theorem fp_X5_7 : yFp RX5 7 6 3 (.int) false := ⟨RX5, TX5, 4, tyX5, rfl, by decide, it_X5, yt_in 478 (by decide +kernel) rfl, tyX5_ok, nmX5, rfl, rfl, (fun h => by cases h)⟩
theorem fl_X5_13 : yFl RX5 13 6 0 := ⟨RX5, TX5, 4, rfl, by decide, it_X5, yt_in 475 (by decide +kernel) rfl⟩
theorem fp_X5_13 : yFp RX5 13 6 0 (.object "CrossingKeeper$Detector") true := ⟨RX5, TX5, 4, tyX5, rfl, by decide, it_X5, yt_in 475 (by decide +kernel) rfl, tyX5_ok, nmX5, rfl, rfl, (fun _ => rfl)⟩
theorem fl_X5_17 : yFl RX5 17 6 1 := ⟨RX5, TX5, 4, rfl, by decide, it_X5, yt_in 476 (by decide +kernel) rfl⟩
theorem fp_X5_17 : yFp RX5 17 6 1 (.object "CrossingKeeper$Detector") true := ⟨RX5, TX5, 4, tyX5, rfl, by decide, it_X5, yt_in 476 (by decide +kernel) rfl, tyX5_ok, nmX5, rfl, rfl, (fun _ => rfl)⟩
theorem fl_X5_20 : yFl RX5 20 6 2 := ⟨RX5, TX5, 4, rfl, by decide, it_X5, yt_in 477 (by decide +kernel) rfl⟩
theorem fp_X5_20 : yFp RX5 20 6 2 (.int) true := ⟨RX5, TX5, 4, tyX5, rfl, by decide, it_X5, yt_in 477 (by decide +kernel) rfl, tyX5_ok, nmX5, rfl, rfl, (fun _ => rfl)⟩
theorem fl_X6_9 : yFl RX6 9 7 2 := ⟨RX6, TX6, 18, rfl, by decide, it_X6, yt_in 178 (by decide +kernel) rfl⟩
theorem fp_X6_9 : yFp RX6 9 7 2 (.array .int) true := ⟨RX6, TX6, 18, tyX6, rfl, by decide, it_X6, yt_in 178 (by decide +kernel) rfl, tyX6_ok, nmX6, rfl, rfl, (fun _ => rfl)⟩
theorem fl_X6_15 : yFl RX6 15 7 3 := ⟨RX6, TX6, 18, rfl, by decide, it_X6, yt_in 179 (by decide +kernel) rfl⟩
theorem fp_X6_15 : yFp RX6 15 7 3 (.array .int) true := ⟨RX6, TX6, 18, tyX6, rfl, by decide, it_X6, yt_in 179 (by decide +kernel) rfl, tyX6_ok, nmX6, rfl, rfl, (fun _ => rfl)⟩
theorem fl_X6_18 : yFl RX6 18 7 4 := ⟨RX6, TX6, 18, rfl, by decide, it_X6, yt_in 180 (by decide +kernel) rfl⟩
theorem fp_X6_18 : yFp RX6 18 7 4 (.object "CrossingKeeper$Detector") false := ⟨RX6, TX6, 18, tyX6, rfl, by decide, it_X6, yt_in 180 (by decide +kernel) rfl, tyX6_ok, nmX6, rfl, rfl, (fun h => by cases h)⟩
theorem fl_X6_22 : yFl RX6 22 7 5 := ⟨RX6, TX6, 18, rfl, by decide, it_X6, yt_in 182 (by decide +kernel) rfl⟩
theorem fp_X6_22 : yFp RX6 22 7 5 (.boolean) false := ⟨RX6, TX6, 18, tyX6, rfl, by decide, it_X6, yt_in 182 (by decide +kernel) rfl, tyX6_ok, nmX6, rfl, rfl, (fun h => by cases h)⟩
theorem fl_X6_26 : yFl RX6 26 7 6 := ⟨RX6, TX6, 18, rfl, by decide, it_X6, yt_in 184 (by decide +kernel) rfl⟩
theorem fp_X6_26 : yFp RX6 26 7 6 (.int) false := ⟨RX6, TX6, 18, tyX6, rfl, by decide, it_X6, yt_in 184 (by decide +kernel) rfl, tyX6_ok, nmX6, rfl, rfl, (fun h => by cases h)⟩
theorem fl_X6_30 : yFl RX6 30 7 7 := ⟨RX6, TX6, 18, rfl, by decide, it_X6, yt_in 187 (by decide +kernel) rfl⟩
theorem fp_X6_30 : yFp RX6 30 7 7 (.boolean) false := ⟨RX6, TX6, 18, tyX6, rfl, by decide, it_X6, yt_in 187 (by decide +kernel) rfl, tyX6_ok, nmX6, rfl, rfl, (fun h => by cases h)⟩
theorem fl_X6_33 : yFl RX6 33 7 8 := ⟨RX6, TX6, 18, rfl, by decide, it_X6, yt_in 190 (by decide +kernel) rfl⟩
theorem fp_X6_33 : yFp RX6 33 7 8 (.int) false := ⟨RX6, TX6, 18, tyX6, rfl, by decide, it_X6, yt_in 190 (by decide +kernel) rfl, tyX6_ok, nmX6, rfl, rfl, (fun h => by cases h)⟩
theorem fl_X6_36 : yFl RX6 36 7 9 := ⟨RX6, TX6, 18, rfl, by decide, it_X6, yt_in 193 (by decide +kernel) rfl⟩
theorem fp_X6_36 : yFp RX6 36 7 9 (.int) false := ⟨RX6, TX6, 18, tyX6, rfl, by decide, it_X6, yt_in 193 (by decide +kernel) rfl, tyX6_ok, nmX6, rfl, rfl, (fun h => by cases h)⟩
theorem fl_X6_39 : yFl RX6 39 7 10 := ⟨RX6, TX6, 18, rfl, by decide, it_X6, yt_in 195 (by decide +kernel) rfl⟩
theorem fp_X6_39 : yFp RX6 39 7 10 (.int) false := ⟨RX6, TX6, 18, tyX6, rfl, by decide, it_X6, yt_in 195 (by decide +kernel) rfl, tyX6_ok, nmX6, rfl, rfl, (fun h => by cases h)⟩
theorem fl_X6_42 : yFl RX6 42 7 11 := ⟨RX6, TX6, 18, rfl, by decide, it_X6, yt_in 198 (by decide +kernel) rfl⟩
theorem fp_X6_42 : yFp RX6 42 7 11 (.int) false := ⟨RX6, TX6, 18, tyX6, rfl, by decide, it_X6, yt_in 198 (by decide +kernel) rfl, tyX6_ok, nmX6, rfl, rfl, (fun h => by cases h)⟩
theorem fl_X6_45 : yFl RX6 45 7 12 := ⟨RX6, TX6, 18, rfl, by decide, it_X6, yt_in 202 (by decide +kernel) rfl⟩
theorem fp_X6_45 : yFp RX6 45 7 12 (.int) false := ⟨RX6, TX6, 18, tyX6, rfl, by decide, it_X6, yt_in 202 (by decide +kernel) rfl, tyX6_ok, nmX6, rfl, rfl, (fun h => by cases h)⟩
theorem fl_X6_48 : yFl RX6 48 7 13 := ⟨RX6, TX6, 18, rfl, by decide, it_X6, yt_in 206 (by decide +kernel) rfl⟩
theorem fp_X6_48 : yFp RX6 48 7 13 (.int) false := ⟨RX6, TX6, 18, tyX6, rfl, by decide, it_X6, yt_in 206 (by decide +kernel) rfl, tyX6_ok, nmX6, rfl, rfl, (fun h => by cases h)⟩
theorem fl_X6_51 : yFl RX6 51 7 14 := ⟨RX6, TX6, 18, rfl, by decide, it_X6, yt_in 209 (by decide +kernel) rfl⟩
theorem fp_X6_51 : yFp RX6 51 7 14 (.int) false := ⟨RX6, TX6, 18, tyX6, rfl, by decide, it_X6, yt_in 209 (by decide +kernel) rfl, tyX6_ok, nmX6, rfl, rfl, (fun h => by cases h)⟩
theorem fl_X6_54 : yFl RX6 54 7 15 := ⟨RX6, TX6, 18, rfl, by decide, it_X6, yt_in 211 (by decide +kernel) rfl⟩
theorem fp_X6_54 : yFp RX6 54 7 15 (.int) false := ⟨RX6, TX6, 18, tyX6, rfl, by decide, it_X6, yt_in 211 (by decide +kernel) rfl, tyX6_ok, nmX6, rfl, rfl, (fun h => by cases h)⟩
theorem fl_X6_57 : yFl RX6 57 7 16 := ⟨RX6, TX6, 18, rfl, by decide, it_X6, yt_in 213 (by decide +kernel) rfl⟩
theorem fp_X6_57 : yFp RX6 57 7 16 (.int) false := ⟨RX6, TX6, 18, tyX6, rfl, by decide, it_X6, yt_in 213 (by decide +kernel) rfl, tyX6_ok, nmX6, rfl, rfl, (fun h => by cases h)⟩
theorem fl_X6_60 : yFl RX6 60 7 17 := ⟨RX6, TX6, 18, rfl, by decide, it_X6, yt_in 215 (by decide +kernel) rfl⟩
theorem fp_X6_60 : yFp RX6 60 7 17 (.int) false := ⟨RX6, TX6, 18, tyX6, rfl, by decide, it_X6, yt_in 215 (by decide +kernel) rfl, tyX6_ok, nmX6, rfl, rfl, (fun h => by cases h)⟩
theorem fl_X6_63 : yFl RX6 63 7 0 := ⟨RX6, TX6, 18, rfl, by decide, it_X6, yt_in 174 (by decide +kernel) rfl⟩
theorem fp_X6_63 : yFp RX6 63 7 0 (.int) true := ⟨RX6, TX6, 18, tyX6, rfl, by decide, it_X6, yt_in 174 (by decide +kernel) rfl, tyX6_ok, nmX6, rfl, rfl, (fun _ => rfl)⟩
theorem fl_X6_66 : yFl RX6 66 7 1 := ⟨RX6, TX6, 18, rfl, by decide, it_X6, yt_in 176 (by decide +kernel) rfl⟩
theorem fp_X6_66 : yFp RX6 66 7 1 (.int) true := ⟨RX6, TX6, 18, tyX6, rfl, by decide, it_X6, yt_in 176 (by decide +kernel) rfl, tyX6_ok, nmX6, rfl, rfl, (fun _ => rfl)⟩
theorem fl_X7_11 : yFl RX7 11 8 1 := ⟨RX7, TX7, 2, rfl, by decide, it_X7, yt_in 359 (by decide +kernel) rfl⟩
theorem fp_X7_11 : yFp RX7 11 8 1 (.array (.object "CrossingKeeper$Phase")) true := ⟨RX7, TX7, 2, tyX7, rfl, by decide, it_X7, yt_in 359 (by decide +kernel) rfl, tyX7_ok, nmX7, rfl, rfl, (fun _ => rfl)⟩
theorem fl_X7_17 : yFl RX7 17 8 0 := ⟨RX7, TX7, 2, rfl, by decide, it_X7, yt_in 357 (by decide +kernel) rfl⟩
theorem fp_X7_17 : yFp RX7 17 8 0 (.int) true := ⟨RX7, TX7, 2, tyX7, rfl, by decide, it_X7, yt_in 357 (by decide +kernel) rfl, tyX7_ok, nmX7, rfl, rfl, (fun _ => rfl)⟩
theorem fl_X7_25 : yFl RX7 25 7 11 := ⟨RX6, TX6, 18, rfl, by decide, it_X6, yt_in 200 (by decide +kernel) rfl⟩
theorem fp_X7_25 : yFp RX7 25 7 11 (.int) false := ⟨RX6, TX6, 18, tyX6, rfl, by decide, it_X6, yt_in 200 (by decide +kernel) rfl, tyX6_ok, nmX6, rfl, rfl, (fun h => by cases h)⟩
theorem fl_X7_34 : yFl RX7 34 7 12 := ⟨RX6, TX6, 18, rfl, by decide, it_X6, yt_in 204 (by decide +kernel) rfl⟩
theorem fp_X7_34 : yFp RX7 34 7 12 (.int) false := ⟨RX6, TX6, 18, tyX6, rfl, by decide, it_X6, yt_in 204 (by decide +kernel) rfl, tyX6_ok, nmX6, rfl, rfl, (fun h => by cases h)⟩
theorem fl_X7_44 : yFl RX7 44 7 7 := ⟨RX6, TX6, 18, rfl, by decide, it_X6, yt_in 188 (by decide +kernel) rfl⟩
theorem fp_X7_44 : yFp RX7 44 7 7 (.boolean) false := ⟨RX6, TX6, 18, tyX6, rfl, by decide, it_X6, yt_in 188 (by decide +kernel) rfl, tyX6_ok, nmX6, rfl, rfl, (fun h => by cases h)⟩
theorem fl_X7_52 : yFl RX7 52 7 8 := ⟨RX6, TX6, 18, rfl, by decide, it_X6, yt_in 191 (by decide +kernel) rfl⟩
theorem fp_X7_52 : yFp RX7 52 7 8 (.int) false := ⟨RX6, TX6, 18, tyX6, rfl, by decide, it_X6, yt_in 191 (by decide +kernel) rfl, tyX6_ok, nmX6, rfl, rfl, (fun h => by cases h)⟩
theorem fl_X7_55 : yFl RX7 55 7 6 := ⟨RX6, TX6, 18, rfl, by decide, it_X6, yt_in 186 (by decide +kernel) rfl⟩
theorem fp_X7_55 : yFp RX7 55 7 6 (.int) false := ⟨RX6, TX6, 18, tyX6, rfl, by decide, it_X6, yt_in 186 (by decide +kernel) rfl, tyX6_ok, nmX6, rfl, rfl, (fun h => by cases h)⟩
theorem fl_X7_58 : yFl RX7 58 7 10 := ⟨RX6, TX6, 18, rfl, by decide, it_X6, yt_in 196 (by decide +kernel) rfl⟩
theorem fp_X7_58 : yFp RX7 58 7 10 (.int) false := ⟨RX6, TX6, 18, tyX6, rfl, by decide, it_X6, yt_in 196 (by decide +kernel) rfl, tyX6_ok, nmX6, rfl, rfl, (fun h => by cases h)⟩
theorem fl_X9_7 : yFl RX9 7 10 2 := ⟨RX9, TX9, 53, rfl, by decide, it_X9, yt_in 798 (by decide +kernel) rfl⟩
theorem fp_X9_7 : yFp RX9 7 10 2 (.array .int) true := ⟨RX9, TX9, 53, tyX9, rfl, by decide, it_X9, yt_in 798 (by decide +kernel) rfl, tyX9_ok, nmX9, rfl, rfl, (fun _ => rfl)⟩
theorem fl_X9_13 : yFl RX9 13 10 3 := ⟨RX9, TX9, 53, rfl, by decide, it_X9, yt_in 799 (by decide +kernel) rfl⟩
theorem fp_X9_13 : yFp RX9 13 10 3 (.array .int) true := ⟨RX9, TX9, 53, tyX9, rfl, by decide, it_X9, yt_in 799 (by decide +kernel) rfl, tyX9_ok, nmX9, rfl, rfl, (fun _ => rfl)⟩
theorem fl_X9_16 : yFl RX9 16 10 4 := ⟨RX9, TX9, 53, rfl, by decide, it_X9, yt_in 800 (by decide +kernel) rfl⟩
theorem fp_X9_16 : yFp RX9 16 10 4 (.array .int) true := ⟨RX9, TX9, 53, tyX9, rfl, by decide, it_X9, yt_in 800 (by decide +kernel) rfl, tyX9_ok, nmX9, rfl, rfl, (fun _ => rfl)⟩
theorem fl_X9_19 : yFl RX9 19 10 5 := ⟨RX9, TX9, 53, rfl, by decide, it_X9, yt_in 801 (by decide +kernel) rfl⟩
theorem fp_X9_19 : yFp RX9 19 10 5 (.array .int) true := ⟨RX9, TX9, 53, tyX9, rfl, by decide, it_X9, yt_in 801 (by decide +kernel) rfl, tyX9_ok, nmX9, rfl, rfl, (fun _ => rfl)⟩
theorem fl_X9_22 : yFl RX9 22 10 6 := ⟨RX9, TX9, 53, rfl, by decide, it_X9, yt_in 802 (by decide +kernel) rfl⟩
theorem fp_X9_22 : yFp RX9 22 10 6 (.array .int) true := ⟨RX9, TX9, 53, tyX9, rfl, by decide, it_X9, yt_in 802 (by decide +kernel) rfl, tyX9_ok, nmX9, rfl, rfl, (fun _ => rfl)⟩
theorem fl_X9_25 : yFl RX9 25 10 7 := ⟨RX9, TX9, 53, rfl, by decide, it_X9, yt_in 803 (by decide +kernel) rfl⟩
theorem fp_X9_25 : yFp RX9 25 10 7 (.array .int) true := ⟨RX9, TX9, 53, tyX9, rfl, by decide, it_X9, yt_in 803 (by decide +kernel) rfl, tyX9_ok, nmX9, rfl, rfl, (fun _ => rfl)⟩
theorem fl_X9_28 : yFl RX9 28 10 8 := ⟨RX9, TX9, 53, rfl, by decide, it_X9, yt_in 804 (by decide +kernel) rfl⟩
theorem fp_X9_28 : yFp RX9 28 10 8 (.array .int) true := ⟨RX9, TX9, 53, tyX9, rfl, by decide, it_X9, yt_in 804 (by decide +kernel) rfl, tyX9_ok, nmX9, rfl, rfl, (fun _ => rfl)⟩
theorem fl_X9_31 : yFl RX9 31 10 9 := ⟨RX9, TX9, 53, rfl, by decide, it_X9, yt_in 805 (by decide +kernel) rfl⟩
theorem fp_X9_31 : yFp RX9 31 10 9 (.array .int) true := ⟨RX9, TX9, 53, tyX9, rfl, by decide, it_X9, yt_in 805 (by decide +kernel) rfl, tyX9_ok, nmX9, rfl, rfl, (fun _ => rfl)⟩
theorem fl_X9_34 : yFl RX9 34 10 10 := ⟨RX9, TX9, 53, rfl, by decide, it_X9, yt_in 806 (by decide +kernel) rfl⟩
theorem fp_X9_34 : yFp RX9 34 10 10 (.array .int) true := ⟨RX9, TX9, 53, tyX9, rfl, by decide, it_X9, yt_in 806 (by decide +kernel) rfl, tyX9_ok, nmX9, rfl, rfl, (fun _ => rfl)⟩
theorem fl_X9_37 : yFl RX9 37 10 11 := ⟨RX9, TX9, 53, rfl, by decide, it_X9, yt_in 807 (by decide +kernel) rfl⟩
theorem fp_X9_37 : yFp RX9 37 10 11 (.array .int) true := ⟨RX9, TX9, 53, tyX9, rfl, by decide, it_X9, yt_in 807 (by decide +kernel) rfl, tyX9_ok, nmX9, rfl, rfl, (fun _ => rfl)⟩
theorem fl_X9_40 : yFl RX9 40 10 12 := ⟨RX9, TX9, 53, rfl, by decide, it_X9, yt_in 808 (by decide +kernel) rfl⟩
theorem fp_X9_40 : yFp RX9 40 10 12 (.array .int) true := ⟨RX9, TX9, 53, tyX9, rfl, by decide, it_X9, yt_in 808 (by decide +kernel) rfl, tyX9_ok, nmX9, rfl, rfl, (fun _ => rfl)⟩
theorem fl_X9_43 : yFl RX9 43 10 13 := ⟨RX9, TX9, 53, rfl, by decide, it_X9, yt_in 809 (by decide +kernel) rfl⟩
theorem fp_X9_43 : yFp RX9 43 10 13 (.array .int) true := ⟨RX9, TX9, 53, tyX9, rfl, by decide, it_X9, yt_in 809 (by decide +kernel) rfl, tyX9_ok, nmX9, rfl, rfl, (fun _ => rfl)⟩
theorem fl_X9_46 : yFl RX9 46 10 14 := ⟨RX9, TX9, 53, rfl, by decide, it_X9, yt_in 810 (by decide +kernel) rfl⟩
theorem fp_X9_46 : yFp RX9 46 10 14 (.array .boolean) true := ⟨RX9, TX9, 53, tyX9, rfl, by decide, it_X9, yt_in 810 (by decide +kernel) rfl, tyX9_ok, nmX9, rfl, rfl, (fun _ => rfl)⟩
theorem fl_X9_50 : yFl RX9 50 10 15 := ⟨RX9, TX9, 53, rfl, by decide, it_X9, yt_in 811 (by decide +kernel) rfl⟩
theorem fp_X9_50 : yFp RX9 50 10 15 (.array .boolean) true := ⟨RX9, TX9, 53, tyX9, rfl, by decide, it_X9, yt_in 811 (by decide +kernel) rfl, tyX9_ok, nmX9, rfl, rfl, (fun _ => rfl)⟩
theorem fl_X9_53 : yFl RX9 53 10 16 := ⟨RX9, TX9, 53, rfl, by decide, it_X9, yt_in 812 (by decide +kernel) rfl⟩
theorem fp_X9_53 : yFp RX9 53 10 16 (.array .int) true := ⟨RX9, TX9, 53, tyX9, rfl, by decide, it_X9, yt_in 812 (by decide +kernel) rfl, tyX9_ok, nmX9, rfl, rfl, (fun _ => rfl)⟩
theorem fl_X9_56 : yFl RX9 56 10 18 := ⟨RX9, TX9, 53, rfl, by decide, it_X9, yt_in 814 (by decide +kernel) rfl⟩
theorem fp_X9_56 : yFp RX9 56 10 18 (.array .int) true := ⟨RX9, TX9, 53, tyX9, rfl, by decide, it_X9, yt_in 814 (by decide +kernel) rfl, tyX9_ok, nmX9, rfl, rfl, (fun _ => rfl)⟩
theorem fl_X9_59 : yFl RX9 59 10 20 := ⟨RX9, TX9, 53, rfl, by decide, it_X9, yt_in 816 (by decide +kernel) rfl⟩
theorem fp_X9_59 : yFp RX9 59 10 20 (.array .int) true := ⟨RX9, TX9, 53, tyX9, rfl, by decide, it_X9, yt_in 816 (by decide +kernel) rfl, tyX9_ok, nmX9, rfl, rfl, (fun _ => rfl)⟩
theorem fl_X9_62 : yFl RX9 62 10 21 := ⟨RX9, TX9, 53, rfl, by decide, it_X9, yt_in 817 (by decide +kernel) rfl⟩
theorem fp_X9_62 : yFp RX9 62 10 21 (.array .int) true := ⟨RX9, TX9, 53, tyX9, rfl, by decide, it_X9, yt_in 817 (by decide +kernel) rfl, tyX9_ok, nmX9, rfl, rfl, (fun _ => rfl)⟩
theorem fl_X9_65 : yFl RX9 65 10 22 := ⟨RX9, TX9, 53, rfl, by decide, it_X9, yt_in 818 (by decide +kernel) rfl⟩
theorem fp_X9_65 : yFp RX9 65 10 22 (.array .int) true := ⟨RX9, TX9, 53, tyX9, rfl, by decide, it_X9, yt_in 818 (by decide +kernel) rfl, tyX9_ok, nmX9, rfl, rfl, (fun _ => rfl)⟩
theorem fl_X9_68 : yFl RX9 68 10 24 := ⟨RX9, TX9, 53, rfl, by decide, it_X9, yt_in 820 (by decide +kernel) rfl⟩
theorem fp_X9_68 : yFp RX9 68 10 24 (.array .int) true := ⟨RX9, TX9, 53, tyX9, rfl, by decide, it_X9, yt_in 820 (by decide +kernel) rfl, tyX9_ok, nmX9, rfl, rfl, (fun _ => rfl)⟩
theorem fl_X9_71 : yFl RX9 71 10 25 := ⟨RX9, TX9, 53, rfl, by decide, it_X9, yt_in 821 (by decide +kernel) rfl⟩
theorem fp_X9_71 : yFp RX9 71 10 25 (.array .int) true := ⟨RX9, TX9, 53, tyX9, rfl, by decide, it_X9, yt_in 821 (by decide +kernel) rfl, tyX9_ok, nmX9, rfl, rfl, (fun _ => rfl)⟩
theorem fl_X9_74 : yFl RX9 74 10 26 := ⟨RX9, TX9, 53, rfl, by decide, it_X9, yt_in 822 (by decide +kernel) rfl⟩
theorem fp_X9_74 : yFp RX9 74 10 26 (.array .int) true := ⟨RX9, TX9, 53, tyX9, rfl, by decide, it_X9, yt_in 822 (by decide +kernel) rfl, tyX9_ok, nmX9, rfl, rfl, (fun _ => rfl)⟩
theorem fl_X9_77 : yFl RX9 77 10 27 := ⟨RX9, TX9, 53, rfl, by decide, it_X9, yt_in 823 (by decide +kernel) rfl⟩
theorem fp_X9_77 : yFp RX9 77 10 27 (.array .int) true := ⟨RX9, TX9, 53, tyX9, rfl, by decide, it_X9, yt_in 823 (by decide +kernel) rfl, tyX9_ok, nmX9, rfl, rfl, (fun _ => rfl)⟩
theorem fl_X9_80 : yFl RX9 80 10 28 := ⟨RX9, TX9, 53, rfl, by decide, it_X9, yt_in 824 (by decide +kernel) rfl⟩
theorem fp_X9_80 : yFp RX9 80 10 28 (.array .int) true := ⟨RX9, TX9, 53, tyX9, rfl, by decide, it_X9, yt_in 824 (by decide +kernel) rfl, tyX9_ok, nmX9, rfl, rfl, (fun _ => rfl)⟩
theorem fl_X9_83 : yFl RX9 83 10 30 := ⟨RX9, TX9, 53, rfl, by decide, it_X9, yt_in 826 (by decide +kernel) rfl⟩
theorem fp_X9_83 : yFp RX9 83 10 30 (.array .int) true := ⟨RX9, TX9, 53, tyX9, rfl, by decide, it_X9, yt_in 826 (by decide +kernel) rfl, tyX9_ok, nmX9, rfl, rfl, (fun _ => rfl)⟩
theorem fl_X9_86 : yFl RX9 86 10 31 := ⟨RX9, TX9, 53, rfl, by decide, it_X9, yt_in 827 (by decide +kernel) rfl⟩
theorem fp_X9_86 : yFp RX9 86 10 31 (.array .int) true := ⟨RX9, TX9, 53, tyX9, rfl, by decide, it_X9, yt_in 827 (by decide +kernel) rfl, tyX9_ok, nmX9, rfl, rfl, (fun _ => rfl)⟩
theorem fl_X9_89 : yFl RX9 89 10 32 := ⟨RX9, TX9, 53, rfl, by decide, it_X9, yt_in 828 (by decide +kernel) rfl⟩
theorem fp_X9_89 : yFp RX9 89 10 32 (.array .int) true := ⟨RX9, TX9, 53, tyX9, rfl, by decide, it_X9, yt_in 828 (by decide +kernel) rfl, tyX9_ok, nmX9, rfl, rfl, (fun _ => rfl)⟩
theorem fl_X9_92 : yFl RX9 92 10 33 := ⟨RX9, TX9, 53, rfl, by decide, it_X9, yt_in 829 (by decide +kernel) rfl⟩
theorem fp_X9_92 : yFp RX9 92 10 33 (.array .int) true := ⟨RX9, TX9, 53, tyX9, rfl, by decide, it_X9, yt_in 829 (by decide +kernel) rfl, tyX9_ok, nmX9, rfl, rfl, (fun _ => rfl)⟩
theorem fl_X9_95 : yFl RX9 95 10 34 := ⟨RX9, TX9, 53, rfl, by decide, it_X9, yt_in 830 (by decide +kernel) rfl⟩
theorem fp_X9_95 : yFp RX9 95 10 34 (.int) false := ⟨RX9, TX9, 53, tyX9, rfl, by decide, it_X9, yt_in 830 (by decide +kernel) rfl, tyX9_ok, nmX9, rfl, rfl, (fun h => by cases h)⟩
theorem fl_X9_99 : yFl RX9 99 10 38 := ⟨RX9, TX9, 53, rfl, by decide, it_X9, yt_in 834 (by decide +kernel) rfl⟩
theorem fp_X9_99 : yFp RX9 99 10 38 (.int) false := ⟨RX9, TX9, 53, tyX9, rfl, by decide, it_X9, yt_in 834 (by decide +kernel) rfl, tyX9_ok, nmX9, rfl, rfl, (fun h => by cases h)⟩
theorem fl_X9_102 : yFl RX9 102 10 39 := ⟨RX9, TX9, 53, rfl, by decide, it_X9, yt_in 835 (by decide +kernel) rfl⟩
theorem fp_X9_102 : yFp RX9 102 10 39 (.int) false := ⟨RX9, TX9, 53, tyX9, rfl, by decide, it_X9, yt_in 835 (by decide +kernel) rfl, tyX9_ok, nmX9, rfl, rfl, (fun h => by cases h)⟩
theorem fl_X9_105 : yFl RX9 105 10 42 := ⟨RX9, TX9, 53, rfl, by decide, it_X9, yt_in 838 (by decide +kernel) rfl⟩
theorem fp_X9_105 : yFp RX9 105 10 42 (.int) false := ⟨RX9, TX9, 53, tyX9, rfl, by decide, it_X9, yt_in 838 (by decide +kernel) rfl, tyX9_ok, nmX9, rfl, rfl, (fun h => by cases h)⟩
theorem fl_X9_108 : yFl RX9 108 10 46 := ⟨RX9, TX9, 53, rfl, by decide, it_X9, yt_in 842 (by decide +kernel) rfl⟩
theorem fp_X9_108 : yFp RX9 108 10 46 (.array .int) true := ⟨RX9, TX9, 53, tyX9, rfl, by decide, it_X9, yt_in 842 (by decide +kernel) rfl, tyX9_ok, nmX9, rfl, rfl, (fun _ => rfl)⟩
theorem fl_X9_111 : yFl RX9 111 10 48 := ⟨RX9, TX9, 53, rfl, by decide, it_X9, yt_in 844 (by decide +kernel) rfl⟩
theorem fp_X9_111 : yFp RX9 111 10 48 (.int) false := ⟨RX9, TX9, 53, tyX9, rfl, by decide, it_X9, yt_in 844 (by decide +kernel) rfl, tyX9_ok, nmX9, rfl, rfl, (fun h => by cases h)⟩
theorem fl_X9_114 : yFl RX9 114 10 51 := ⟨RX9, TX9, 53, rfl, by decide, it_X9, yt_in 847 (by decide +kernel) rfl⟩
theorem fp_X9_114 : yFp RX9 114 10 51 (.array .int) true := ⟨RX9, TX9, 53, tyX9, rfl, by decide, it_X9, yt_in 847 (by decide +kernel) rfl, tyX9_ok, nmX9, rfl, rfl, (fun _ => rfl)⟩
theorem fl_X9_117 : yFl RX9 117 10 52 := ⟨RX9, TX9, 53, rfl, by decide, it_X9, yt_in 848 (by decide +kernel) rfl⟩
theorem fp_X9_117 : yFp RX9 117 10 52 (.array .int) true := ⟨RX9, TX9, 53, tyX9, rfl, by decide, it_X9, yt_in 848 (by decide +kernel) rfl, tyX9_ok, nmX9, rfl, rfl, (fun _ => rfl)⟩
theorem fl_X9_120 : yFl RX9 120 10 1 := ⟨RX9, TX9, 53, rfl, by decide, it_X9, yt_in 797 (by decide +kernel) rfl⟩
theorem fp_X9_120 : yFp RX9 120 10 1 (.int) false := ⟨RX9, TX9, 53, tyX9, rfl, by decide, it_X9, yt_in 797 (by decide +kernel) rfl, tyX9_ok, nmX9, rfl, rfl, (fun h => by cases h)⟩
theorem fl_X9_127 : yFl RX9 127 10 17 := ⟨RX9, TX9, 53, rfl, by decide, it_X9, yt_in 813 (by decide +kernel) rfl⟩
theorem fp_X9_127 : yFp RX9 127 10 17 (.int) false := ⟨RX9, TX9, 53, tyX9, rfl, by decide, it_X9, yt_in 813 (by decide +kernel) rfl, tyX9_ok, nmX9, rfl, rfl, (fun h => by cases h)⟩
theorem fl_X9_130 : yFl RX9 130 10 19 := ⟨RX9, TX9, 53, rfl, by decide, it_X9, yt_in 815 (by decide +kernel) rfl⟩
theorem fp_X9_130 : yFp RX9 130 10 19 (.int) false := ⟨RX9, TX9, 53, tyX9, rfl, by decide, it_X9, yt_in 815 (by decide +kernel) rfl, tyX9_ok, nmX9, rfl, rfl, (fun h => by cases h)⟩
theorem fl_X9_133 : yFl RX9 133 10 0 := ⟨RX9, TX9, 53, rfl, by decide, it_X9, yt_in 796 (by decide +kernel) rfl⟩
theorem fp_X9_133 : yFp RX9 133 10 0 (.int) false := ⟨RX9, TX9, 53, tyX9, rfl, by decide, it_X9, yt_in 796 (by decide +kernel) rfl, tyX9_ok, nmX9, rfl, rfl, (fun h => by cases h)⟩
theorem fl_X9_150 : yFl RX9 150 10 23 := ⟨RX9, TX9, 53, rfl, by decide, it_X9, yt_in 819 (by decide +kernel) rfl⟩
theorem fp_X9_150 : yFp RX9 150 10 23 (.int) false := ⟨RX9, TX9, 53, tyX9, rfl, by decide, it_X9, yt_in 819 (by decide +kernel) rfl, tyX9_ok, nmX9, rfl, rfl, (fun h => by cases h)⟩
theorem fl_X9_153 : yFl RX9 153 10 29 := ⟨RX9, TX9, 53, rfl, by decide, it_X9, yt_in 825 (by decide +kernel) rfl⟩
theorem fp_X9_153 : yFp RX9 153 10 29 (.int) false := ⟨RX9, TX9, 53, tyX9, rfl, by decide, it_X9, yt_in 825 (by decide +kernel) rfl, tyX9_ok, nmX9, rfl, rfl, (fun h => by cases h)⟩
theorem fl_X9_159 : yFl RX9 159 10 44 := ⟨RX9, TX9, 53, rfl, by decide, it_X9, yt_in 840 (by decide +kernel) rfl⟩
theorem fp_X9_159 : yFp RX9 159 10 44 (.int) false := ⟨RX9, TX9, 53, tyX9, rfl, by decide, it_X9, yt_in 840 (by decide +kernel) rfl, tyX9_ok, nmX9, rfl, rfl, (fun h => by cases h)⟩
theorem fl_X9_162 : yFl RX9 162 10 40 := ⟨RX9, TX9, 53, rfl, by decide, it_X9, yt_in 836 (by decide +kernel) rfl⟩
theorem fp_X9_162 : yFp RX9 162 10 40 (.boolean) false := ⟨RX9, TX9, 53, tyX9, rfl, by decide, it_X9, yt_in 836 (by decide +kernel) rfl, tyX9_ok, nmX9, rfl, rfl, (fun h => by cases h)⟩
theorem fl_X9_166 : yFl RX9 166 10 47 := ⟨RX9, TX9, 53, rfl, by decide, it_X9, yt_in 843 (by decide +kernel) rfl⟩
theorem fp_X9_166 : yFp RX9 166 10 47 (.int) false := ⟨RX9, TX9, 53, tyX9, rfl, by decide, it_X9, yt_in 843 (by decide +kernel) rfl, tyX9_ok, nmX9, rfl, rfl, (fun h => by cases h)⟩
theorem fl_X9_173 : yFl RX9 173 10 50 := ⟨RX9, TX9, 53, rfl, by decide, it_X9, yt_in 846 (by decide +kernel) rfl⟩
theorem fp_X9_173 : yFp RX9 173 10 50 (.int) false := ⟨RX9, TX9, 53, tyX9, rfl, by decide, it_X9, yt_in 846 (by decide +kernel) rfl, tyX9_ok, nmX9, rfl, rfl, (fun h => by cases h)⟩
theorem fl_X9_186 : yFl RX9 186 10 49 := ⟨RX9, TX9, 53, rfl, by decide, it_X9, yt_in 845 (by decide +kernel) rfl⟩
theorem fp_X9_186 : yFp RX9 186 10 49 (.int) false := ⟨RX9, TX9, 53, tyX9, rfl, by decide, it_X9, yt_in 845 (by decide +kernel) rfl, tyX9_ok, nmX9, rfl, rfl, (fun h => by cases h)⟩
theorem fl_X9_189 : yFl RX9 189 10 35 := ⟨RX9, TX9, 53, rfl, by decide, it_X9, yt_in 831 (by decide +kernel) rfl⟩
theorem fp_X9_189 : yFp RX9 189 10 35 (.int) false := ⟨RX9, TX9, 53, tyX9, rfl, by decide, it_X9, yt_in 831 (by decide +kernel) rfl, tyX9_ok, nmX9, rfl, rfl, (fun h => by cases h)⟩
theorem fl_X9_204 : yFl RX9 204 10 45 := ⟨RX9, TX9, 53, rfl, by decide, it_X9, yt_in 841 (by decide +kernel) rfl⟩
theorem fp_X9_204 : yFp RX9 204 10 45 (.int) false := ⟨RX9, TX9, 53, tyX9, rfl, by decide, it_X9, yt_in 841 (by decide +kernel) rfl, tyX9_ok, nmX9, rfl, rfl, (fun h => by cases h)⟩
theorem fl_X9_207 : yFl RX9 207 10 41 := ⟨RX9, TX9, 53, rfl, by decide, it_X9, yt_in 837 (by decide +kernel) rfl⟩
theorem fp_X9_207 : yFp RX9 207 10 41 (.int) false := ⟨RX9, TX9, 53, tyX9, rfl, by decide, it_X9, yt_in 837 (by decide +kernel) rfl, tyX9_ok, nmX9, rfl, rfl, (fun h => by cases h)⟩
theorem fl_X9_210 : yFl RX9 210 10 43 := ⟨RX9, TX9, 53, rfl, by decide, it_X9, yt_in 839 (by decide +kernel) rfl⟩
theorem fp_X9_210 : yFp RX9 210 10 43 (.int) false := ⟨RX9, TX9, 53, tyX9, rfl, by decide, it_X9, yt_in 839 (by decide +kernel) rfl, tyX9_ok, nmX9, rfl, rfl, (fun h => by cases h)⟩
theorem fl_X9_223 : yFl RX9 223 10 36 := ⟨RX9, TX9, 53, rfl, by decide, it_X9, yt_in 832 (by decide +kernel) rfl⟩
theorem fp_X9_223 : yFp RX9 223 10 36 (.int) false := ⟨RX9, TX9, 53, tyX9, rfl, by decide, it_X9, yt_in 832 (by decide +kernel) rfl, tyX9_ok, nmX9, rfl, rfl, (fun h => by cases h)⟩
theorem fl_X9_226 : yFl RX9 226 10 37 := ⟨RX9, TX9, 53, rfl, by decide, it_X9, yt_in 833 (by decide +kernel) rfl⟩
theorem fp_X9_226 : yFp RX9 226 10 37 (.int) false := ⟨RX9, TX9, 53, tyX9, rfl, by decide, it_X9, yt_in 833 (by decide +kernel) rfl, tyX9_ok, nmX9, rfl, rfl, (fun h => by cases h)⟩
theorem fl_Jx4a65c_9 : yFl RJx4a65c 9 0 1 := ⟨RJx4a65c, TJx4a65c, 3, rfl, by decide, it_Jx4a65c, yt_in 42 (by decide +kernel) rfl⟩
theorem fp_Jx4a65c_9 : yFp RJx4a65c 9 0 1 (.array (.object "java/lang/Object")) false := ⟨RJx4a65c, TJx4a65c, 3, tyJx4a65c, rfl, by decide, it_Jx4a65c, yt_in 42 (by decide +kernel) rfl, tyJx4a65c_ok, nmJx4a65c, rfl, rfl, (fun h => by cases h)⟩
theorem fl_Jx4a65c_48 : yFl RJx4a65c 48 0 2 := ⟨RJx4a65c, TJx4a65c, 3, rfl, by decide, it_Jx4a65c, yt_in 43 (by decide +kernel) rfl⟩
theorem fp_Jx4a65c_48 : yFp RJx4a65c 48 0 2 (.int) false := ⟨RJx4a65c, TJx4a65c, 3, tyJx4a65c, rfl, by decide, it_Jx4a65c, yt_in 43 (by decide +kernel) rfl, tyJx4a65c_ok, nmJx4a65c, rfl, rfl, (fun h => by cases h)⟩
theorem mt_X0_init : yMt yX0_init cX0_init 1 none 0 := ⟨yt_in 104 (by decide +kernel) rfl, yt_in 7 (by decide +kernel) rfl, by decide, by decide, by decide +kernel⟩
theorem mi_X0_init : Cond.instanceMethod yX0_init ∈ yTs := yt_in 103 (by decide +kernel) rfl
theorem mt_X0_asksOf : yMt yX0_asksOf cX0_asksOf 4 (some .boolean) 3 := ⟨yt_in 585 (by decide +kernel) rfl, yt_in 7 (by decide +kernel) rfl, by decide, by decide, by decide +kernel⟩
theorem mi_X0_asksOf : Cond.instanceMethod yX0_asksOf ∈ yTs := yt_in 583 (by decide +kernel) rfl
theorem mv_X0_asksOf : yMv yX0_asksOf := ⟨mi_X0_asksOf, yt_in 584 (by decide +kernel) rfl⟩
theorem mt_X0_holdsOf : yMt yX0_holdsOf cX0_holdsOf 3 (some .boolean) 2 := ⟨yt_in 540 (by decide +kernel) rfl, yt_in 7 (by decide +kernel) rfl, by decide, by decide, by decide +kernel⟩
theorem mi_X0_holdsOf : Cond.instanceMethod yX0_holdsOf ∈ yTs := yt_in 538 (by decide +kernel) rfl
theorem mv_X0_holdsOf : yMv yX0_holdsOf := ⟨mi_X0_holdsOf, yt_in 539 (by decide +kernel) rfl⟩
theorem mt_X0_asksAsCar : yMt yX0_asksAsCar cX0_asksAsCar 3 (some .boolean) 2 := ⟨yt_in 589 (by decide +kernel) rfl, yt_in 7 (by decide +kernel) rfl, by decide, by decide, by decide +kernel⟩
theorem mi_X0_asksAsCar : Cond.instanceMethod yX0_asksAsCar ∈ yTs := yt_in 588 (by decide +kernel) rfl
theorem mv_X0_asksAsCar : yMv yX0_asksAsCar := ⟨mi_X0_asksAsCar, yt_sel 17 (by decide +kernel) rfl⟩
theorem mt_X0_asksAsTurn : yMt yX0_asksAsTurn cX0_asksAsTurn 3 (some .boolean) 2 := ⟨yt_in 593 (by decide +kernel) rfl, yt_in 7 (by decide +kernel) rfl, by decide, by decide, by decide +kernel⟩
theorem mi_X0_asksAsTurn : Cond.instanceMethod yX0_asksAsTurn ∈ yTs := yt_in 592 (by decide +kernel) rfl
theorem mv_X0_asksAsTurn : yMv yX0_asksAsTurn := ⟨mi_X0_asksAsTurn, yt_sel 18 (by decide +kernel) rfl⟩
theorem mt_X0_asksAsWalk : yMt yX0_asksAsWalk cX0_asksAsWalk 2 (some .boolean) 1 := ⟨yt_in 597 (by decide +kernel) rfl, yt_in 7 (by decide +kernel) rfl, by decide, by decide, by decide +kernel⟩
theorem mi_X0_asksAsWalk : Cond.instanceMethod yX0_asksAsWalk ∈ yTs := yt_in 596 (by decide +kernel) rfl
theorem mv_X0_asksAsWalk : yMv yX0_asksAsWalk := ⟨mi_X0_asksAsWalk, yt_sel 19 (by decide +kernel) rfl⟩
theorem mt_X0_asksAsTram : yMt yX0_asksAsTram cX0_asksAsTram 2 (some .boolean) 1 := ⟨yt_in 601 (by decide +kernel) rfl, yt_in 7 (by decide +kernel) rfl, by decide, by decide, by decide +kernel⟩
theorem mi_X0_asksAsTram : Cond.instanceMethod yX0_asksAsTram ∈ yTs := yt_in 600 (by decide +kernel) rfl
theorem mv_X0_asksAsTram : yMv yX0_asksAsTram := ⟨mi_X0_asksAsTram, yt_sel 20 (by decide +kernel) rfl⟩
theorem mt_X0_holdsAsCar : yMt yX0_holdsAsCar cX0_holdsAsCar 2 (some .boolean) 1 := ⟨yt_in 544 (by decide +kernel) rfl, yt_in 7 (by decide +kernel) rfl, by decide, by decide, by decide +kernel⟩
theorem mi_X0_holdsAsCar : Cond.instanceMethod yX0_holdsAsCar ∈ yTs := yt_in 543 (by decide +kernel) rfl
theorem mv_X0_holdsAsCar : yMv yX0_holdsAsCar := ⟨mi_X0_holdsAsCar, yt_sel 11 (by decide +kernel) rfl⟩
theorem mt_X0_holdsAsWalk : yMt yX0_holdsAsWalk cX0_holdsAsWalk 1 (some .boolean) 0 := ⟨yt_in 548 (by decide +kernel) rfl, yt_in 7 (by decide +kernel) rfl, by decide, by decide, by decide +kernel⟩
theorem mi_X0_holdsAsWalk : Cond.instanceMethod yX0_holdsAsWalk ∈ yTs := yt_in 547 (by decide +kernel) rfl
theorem mv_X0_holdsAsWalk : yMv yX0_holdsAsWalk := ⟨mi_X0_holdsAsWalk, yt_sel 12 (by decide +kernel) rfl⟩
theorem mt_X0_holdsAsTram : yMt yX0_holdsAsTram cX0_holdsAsTram 2 (some .boolean) 1 := ⟨yt_in 552 (by decide +kernel) rfl, yt_in 7 (by decide +kernel) rfl, by decide, by decide, by decide +kernel⟩
theorem mi_X0_holdsAsTram : Cond.instanceMethod yX0_holdsAsTram ∈ yTs := yt_in 551 (by decide +kernel) rfl
theorem mv_X0_holdsAsTram : yMv yX0_holdsAsTram := ⟨mi_X0_holdsAsTram, yt_sel 13 (by decide +kernel) rfl⟩
theorem mt_X0_holdsAsRest : yMt yX0_holdsAsRest cX0_holdsAsRest 1 (some .boolean) 0 := ⟨yt_in 556 (by decide +kernel) rfl, yt_in 7 (by decide +kernel) rfl, by decide, by decide, by decide +kernel⟩
theorem mi_X0_holdsAsRest : Cond.instanceMethod yX0_holdsAsRest ∈ yTs := yt_in 555 (by decide +kernel) rfl
theorem mv_X0_holdsAsRest : yMv yX0_holdsAsRest := ⟨mi_X0_holdsAsRest, yt_sel 14 (by decide +kernel) rfl⟩
theorem mt_X1_init : yMt yX1_init cX1_init 2 none 1 := ⟨yt_in 390 (by decide +kernel) rfl, yt_in 17 (by decide +kernel) rfl, by decide, by decide, by decide +kernel⟩
theorem mi_X1_init : Cond.instanceMethod yX1_init ∈ yTs := yt_in 389 (by decide +kernel) rfl
theorem mt_X1_isCutOff : yMt yX1_isCutOff cX1_isCutOff 1 (some .boolean) 0 := ⟨yt_in 420 (by decide +kernel) rfl, yt_in 17 (by decide +kernel) rfl, by decide, by decide, by decide +kernel⟩
theorem mi_X1_isCutOff : Cond.instanceMethod yX1_isCutOff ∈ yTs := yt_in 418 (by decide +kernel) rfl
theorem mv_X1_isCutOff : yMv yX1_isCutOff := ⟨mi_X1_isCutOff, yt_in 419 (by decide +kernel) rfl⟩
theorem mt_X1_cutOff : yMt yX1_cutOff cX1_cutOff 2 (some .int) 0 := ⟨yt_in 424 (by decide +kernel) rfl, yt_in 17 (by decide +kernel) rfl, by decide, by decide, by decide +kernel⟩
theorem mi_X1_cutOff : Cond.instanceMethod yX1_cutOff ∈ yTs := yt_in 422 (by decide +kernel) rfl
theorem mv_X1_cutOff : yMv yX1_cutOff := ⟨mi_X1_cutOff, yt_in 423 (by decide +kernel) rfl⟩
theorem mt_X1_addPlace : yMt yX1_addPlace cX1_addPlace 3 (some .boolean) 2 := ⟨yt_in 432 (by decide +kernel) rfl, yt_in 17 (by decide +kernel) rfl, by decide, by decide, by decide +kernel⟩
theorem mi_X1_addPlace : Cond.instanceMethod yX1_addPlace ∈ yTs := yt_in 430 (by decide +kernel) rfl
theorem mv_X1_addPlace : yMv yX1_addPlace := ⟨mi_X1_addPlace, yt_in 431 (by decide +kernel) rfl⟩
theorem mt_X1_reaches : yMt yX1_reaches cX1_reaches 2 (some .boolean) 1 := ⟨yt_in 568 (by decide +kernel) rfl, yt_in 17 (by decide +kernel) rfl, by decide, by decide, by decide +kernel⟩
theorem mi_X1_reaches : Cond.instanceMethod yX1_reaches ∈ yTs := yt_in 566 (by decide +kernel) rfl
theorem mv_X1_reaches : yMv yX1_reaches := ⟨mi_X1_reaches, yt_in 567 (by decide +kernel) rfl⟩
theorem mt_X1_passingsAt : yMt yX1_passingsAt cX1_passingsAt 2 (some .int) 1 := ⟨yt_in 572 (by decide +kernel) rfl, yt_in 17 (by decide +kernel) rfl, by decide, by decide, by decide +kernel⟩
theorem mi_X1_passingsAt : Cond.instanceMethod yX1_passingsAt ∈ yTs := yt_in 570 (by decide +kernel) rfl
theorem mv_X1_passingsAt : yMv yX1_passingsAt := ⟨mi_X1_passingsAt, yt_in 571 (by decide +kernel) rfl⟩
theorem mt_X1_occupiedAt : yMt yX1_occupiedAt cX1_occupiedAt 2 (some .int) 1 := ⟨yt_in 581 (by decide +kernel) rfl, yt_in 17 (by decide +kernel) rfl, by decide, by decide, by decide +kernel⟩
theorem mi_X1_occupiedAt : Cond.instanceMethod yX1_occupiedAt ∈ yTs := yt_in 579 (by decide +kernel) rfl
theorem mv_X1_occupiedAt : yMv yX1_occupiedAt := ⟨mi_X1_occupiedAt, yt_in 580 (by decide +kernel) rfl⟩
theorem mt_X2_init : yMt yX2_init cX2_init 1 none 0 := ⟨yt_in 77 (by decide +kernel) rfl, yt_in 6 (by decide +kernel) rfl, by decide, by decide, by decide +kernel⟩
theorem mi_X2_init : Cond.instanceMethod yX2_init ∈ yTs := yt_in 76 (by decide +kernel) rfl
theorem mt_X2_meet : yMt yX2_meet cX2_meet 3 none 2 := ⟨yt_in 635 (by decide +kernel) rfl, yt_in 6 (by decide +kernel) rfl, by decide, by decide, by decide +kernel⟩
theorem mi_X2_meet : Cond.instanceMethod yX2_meet ∈ yTs := yt_in 633 (by decide +kernel) rfl
theorem mv_X2_meet : yMv yX2_meet := ⟨mi_X2_meet, yt_in 634 (by decide +kernel) rfl⟩
theorem mt_X3_init : yMt yX3_init cX3_init 1 none 0 := ⟨yt_in 58 (by decide +kernel) rfl, yt_in 5 (by decide +kernel) rfl, by decide, by decide, by decide +kernel⟩
theorem mi_X3_init : Cond.instanceMethod yX3_init ∈ yTs := yt_in 57 (by decide +kernel) rfl
theorem mt_X3_add : yMt yX3_add cX3_add 3 none 2 := ⟨yt_in 564 (by decide +kernel) rfl, yt_in 5 (by decide +kernel) rfl, by decide, by decide, by decide +kernel⟩
theorem mi_X3_add : Cond.instanceMethod yX3_add ∈ yTs := yt_in 562 (by decide +kernel) rfl
theorem mv_X3_add : yMv yX3_add := ⟨mi_X3_add, yt_in 563 (by decide +kernel) rfl⟩
theorem mt_X3_howMany : yMt yX3_howMany cX3_howMany 2 (some .int) 1 := ⟨yt_in 777 (by decide +kernel) rfl, yt_in 5 (by decide +kernel) rfl, by decide, by decide, by decide +kernel⟩
theorem mi_X3_howMany : Cond.instanceMethod yX3_howMany ∈ yTs := yt_in 775 (by decide +kernel) rfl
theorem mv_X3_howMany : yMv yX3_howMany := ⟨mi_X3_howMany, yt_in 776 (by decide +kernel) rfl⟩
theorem mt_X4_init : yMt yX4_init cX4_init 6 none 5 := ⟨yt_in 442 (by decide +kernel) rfl, yt_in 18 (by decide +kernel) rfl, by decide, by decide, by decide +kernel⟩
theorem mi_X4_init : Cond.instanceMethod yX4_init ∈ yTs := yt_in 441 (by decide +kernel) rfl
theorem mt_X4_changeTable : yMt yX4_changeTable cX4_changeTable 1 none 0 := ⟨yt_in 515 (by decide +kernel) rfl, yt_in 18 (by decide +kernel) rfl, by decide, by decide, by decide +kernel⟩
theorem mi_X4_changeTable : Cond.instanceMethod yX4_changeTable ∈ yTs := yt_in 513 (by decide +kernel) rfl
theorem mv_X4_changeTable : yMv yX4_changeTable := ⟨mi_X4_changeTable, yt_in 514 (by decide +kernel) rfl⟩
theorem mt_X5_init : yMt yX5_init cX5_init 4 none 3 := ⟨yt_in 473 (by decide +kernel) rfl, yt_in 19 (by decide +kernel) rfl, by decide, by decide, by decide +kernel⟩
theorem mi_X5_init : Cond.instanceMethod yX5_init ∈ yTs := yt_in 472 (by decide +kernel) rfl
theorem mt_X5_lookAt : yMt yX5_lookAt cX5_lookAt 2 none 1 := ⟨yt_in 609 (by decide +kernel) rfl, yt_in 19 (by decide +kernel) rfl, by decide, by decide, by decide +kernel⟩
theorem mi_X5_lookAt : Cond.instanceMethod yX5_lookAt ∈ yTs := yt_in 607 (by decide +kernel) rfl
theorem mv_X5_lookAt : yMv yX5_lookAt := ⟨mi_X5_lookAt, yt_in 608 (by decide +kernel) rfl⟩
theorem mt_X5_differIn : yMt yX5_differIn cX5_differIn 2 (some .boolean) 1 := ⟨yt_in 613 (by decide +kernel) rfl, yt_in 19 (by decide +kernel) rfl, by decide, by decide, by decide +kernel⟩
theorem mi_X5_differIn : Cond.instanceMethod yX5_differIn ∈ yTs := yt_in 612 (by decide +kernel) rfl
theorem mv_X5_differIn : yMv yX5_differIn := ⟨mi_X5_differIn, yt_sel 22 (by decide +kernel) rfl⟩
theorem mt_X5_isBroken : yMt yX5_isBroken cX5_isBroken 1 (some .boolean) 0 := ⟨yt_in 627 (by decide +kernel) rfl, yt_in 19 (by decide +kernel) rfl, by decide, by decide, by decide +kernel⟩
theorem mi_X5_isBroken : Cond.instanceMethod yX5_isBroken ∈ yTs := yt_in 625 (by decide +kernel) rfl
theorem mv_X5_isBroken : yMv yX5_isBroken := ⟨mi_X5_isBroken, yt_in 626 (by decide +kernel) rfl⟩
theorem mt_X5_beginAnew : yMt yX5_beginAnew cX5_beginAnew 1 none 0 := ⟨yt_in 653 (by decide +kernel) rfl, yt_in 19 (by decide +kernel) rfl, by decide, by decide, by decide +kernel⟩
theorem mi_X5_beginAnew : Cond.instanceMethod yX5_beginAnew ∈ yTs := yt_in 651 (by decide +kernel) rfl
theorem mv_X5_beginAnew : yMv yX5_beginAnew := ⟨mi_X5_beginAnew, yt_in 652 (by decide +kernel) rfl⟩
theorem mt_X6_init : yMt yX6_init cX6_init 4 none 2 := ⟨yt_in 172 (by decide +kernel) rfl, yt_in 9 (by decide +kernel) rfl, by decide, by decide, by decide +kernel⟩
theorem mi_X6_init : Cond.instanceMethod yX6_init ∈ yTs := yt_in 171 (by decide +kernel) rfl
theorem mt_X6_isAsked : yMt yX6_isAsked cX6_isAsked 1 (some .boolean) 0 := ⟨yt_in 495 (by decide +kernel) rfl, yt_in 9 (by decide +kernel) rfl, by decide, by decide, by decide +kernel⟩
theorem mi_X6_isAsked : Cond.instanceMethod yX6_isAsked ∈ yTs := yt_in 493 (by decide +kernel) rfl
theorem mv_X6_isAsked : yMv yX6_isAsked := ⟨mi_X6_isAsked, yt_in 494 (by decide +kernel) rfl⟩
theorem mt_X6_isLit : yMt yX6_isLit cX6_isLit 1 (some .boolean) 0 := ⟨yt_in 623 (by decide +kernel) rfl, yt_in 9 (by decide +kernel) rfl, by decide, by decide, by decide +kernel⟩
theorem mi_X6_isLit : Cond.instanceMethod yX6_isLit ∈ yTs := yt_in 621 (by decide +kernel) rfl
theorem mv_X6_isLit : yMv yX6_isLit := ⟨mi_X6_isLit, yt_in 622 (by decide +kernel) rfl⟩
theorem mt_X6_setClearing : yMt yX6_setClearing cX6_setClearing 4 none 2 := ⟨yt_in 345 (by decide +kernel) rfl, yt_in 9 (by decide +kernel) rfl, by decide, by decide, by decide +kernel⟩
theorem mi_X6_setClearing : Cond.instanceMethod yX6_setClearing ∈ yTs := yt_in 343 (by decide +kernel) rfl
theorem mv_X6_setClearing : yMv yX6_setClearing := ⟨mi_X6_setClearing, yt_in 344 (by decide +kernel) rfl⟩
theorem mt_X6_clearingTo : yMt yX6_clearingTo cX6_clearingTo 3 (some .int) 1 := ⟨yt_in 381 (by decide +kernel) rfl, yt_in 9 (by decide +kernel) rfl, by decide, by decide, by decide +kernel⟩
theorem mi_X6_clearingTo : Cond.instanceMethod yX6_clearingTo ∈ yTs := yt_in 379 (by decide +kernel) rfl
theorem mv_X6_clearingTo : yMv yX6_clearingTo := ⟨mi_X6_clearingTo, yt_in 380 (by decide +kernel) rfl⟩
theorem mt_X6_greatestClearing : yMt yX6_greatestClearing cX6_greatestClearing 6 (some .int) 0 := ⟨yt_in 768 (by decide +kernel) rfl, yt_in 9 (by decide +kernel) rfl, by decide, by decide, by decide +kernel⟩
theorem mi_X6_greatestClearing : Cond.instanceMethod yX6_greatestClearing ∈ yTs := yt_in 766 (by decide +kernel) rfl
theorem mv_X6_greatestClearing : yMv yX6_greatestClearing := ⟨mi_X6_greatestClearing, yt_in 767 (by decide +kernel) rfl⟩
theorem mt_X6_keepLight : yMt yX6_keepLight cX6_keepLight 2 none 1 := ⟨yt_in 716 (by decide +kernel) rfl, yt_in 9 (by decide +kernel) rfl, by decide, by decide, by decide +kernel⟩
theorem mi_X6_keepLight : Cond.instanceMethod yX6_keepLight ∈ yTs := yt_in 714 (by decide +kernel) rfl
theorem mv_X6_keepLight : yMv yX6_keepLight := ⟨mi_X6_keepLight, yt_in 715 (by decide +kernel) rfl⟩
theorem mt_X6_lightBehind : yMt yX6_lightBehind cX6_lightBehind 2 (some .int) 1 := ⟨yt_in 737 (by decide +kernel) rfl, yt_in 9 (by decide +kernel) rfl, by decide, by decide, by decide +kernel⟩
theorem mi_X6_lightBehind : Cond.instanceMethod yX6_lightBehind ∈ yTs := yt_in 735 (by decide +kernel) rfl
theorem mv_X6_lightBehind : yMv yX6_lightBehind := ⟨mi_X6_lightBehind, yt_in 736 (by decide +kernel) rfl⟩
theorem mt_X7_init : yMt yX7_init cX7_init 2 none 1 := ⟨yt_in 353 (by decide +kernel) rfl, yt_in 16 (by decide +kernel) rfl, by decide, by decide, by decide +kernel⟩
theorem mi_X7_init : Cond.instanceMethod yX7_init ∈ yTs := yt_in 352 (by decide +kernel) rfl
theorem mt_X7_putPhase : yMt yX7_putPhase cX7_putPhase 3 none 2 := ⟨yt_in 369 (by decide +kernel) rfl, yt_in 16 (by decide +kernel) rfl, by decide, by decide, by decide +kernel⟩
theorem mi_X7_putPhase : Cond.instanceMethod yX7_putPhase ∈ yTs := yt_in 367 (by decide +kernel) rfl
theorem mv_X7_putPhase : yMv yX7_putPhase := ⟨mi_X7_putPhase, yt_in 368 (by decide +kernel) rfl⟩
theorem mt_X7_phaseIn : yMt yX7_phaseIn cX7_phaseIn 2 (some (.object "CrossingKeeper$Phase")) 1 := ⟨yt_in 752 (by decide +kernel) rfl, yt_in 16 (by decide +kernel) rfl, by decide, by decide, by decide +kernel⟩
theorem mi_X7_phaseIn : Cond.instanceMethod yX7_phaseIn ∈ yTs := yt_in 750 (by decide +kernel) rfl
theorem mv_X7_phaseIn : yMv yX7_phaseIn := ⟨mi_X7_phaseIn, yt_in 751 (by decide +kernel) rfl⟩
theorem mt_X7_hasPhase : yMt yX7_hasPhase cX7_hasPhase 6 (some .boolean) 1 := ⟨yt_in 341 (by decide +kernel) rfl, yt_in 16 (by decide +kernel) rfl, by decide, by decide, by decide +kernel⟩
theorem mi_X7_hasPhase : Cond.instanceMethod yX7_hasPhase ∈ yTs := yt_in 339 (by decide +kernel) rfl
theorem mv_X7_hasPhase : yMv yX7_hasPhase := ⟨mi_X7_hasPhase, yt_in 340 (by decide +kernel) rfl⟩
theorem mt_X7_isEmpty : yMt yX7_isEmpty cX7_isEmpty 5 (some .boolean) 0 := ⟨yt_in 373 (by decide +kernel) rfl, yt_in 16 (by decide +kernel) rfl, by decide, by decide, by decide +kernel⟩
theorem mi_X7_isEmpty : Cond.instanceMethod yX7_isEmpty ∈ yTs := yt_in 371 (by decide +kernel) rfl
theorem mv_X7_isEmpty : yMv yX7_isEmpty := ⟨mi_X7_isEmpty, yt_in 372 (by decide +kernel) rfl⟩
theorem mt_X7_hasConflict : yMt yX7_hasConflict cX7_hasConflict 9 (some .boolean) 0 := ⟨yt_in 377 (by decide +kernel) rfl, yt_in 16 (by decide +kernel) rfl, by decide, by decide, by decide +kernel⟩
theorem mi_X7_hasConflict : Cond.instanceMethod yX7_hasConflict ∈ yTs := yt_in 375 (by decide +kernel) rfl
theorem mv_X7_hasConflict : yMv yX7_hasConflict := ⟨mi_X7_hasConflict, yt_in 376 (by decide +kernel) rfl⟩
theorem mt_X7_leastGreen : yMt yX7_leastGreen cX7_leastGreen 6 (some .int) 0 := ⟨yt_in 693 (by decide +kernel) rfl, yt_in 16 (by decide +kernel) rfl, by decide, by decide, by decide +kernel⟩
theorem mi_X7_leastGreen : Cond.instanceMethod yX7_leastGreen ∈ yTs := yt_in 691 (by decide +kernel) rfl
theorem mv_X7_leastGreen : yMv yX7_leastGreen := ⟨mi_X7_leastGreen, yt_in 692 (by decide +kernel) rfl⟩
theorem mt_X7_greatestGreen : yMt yX7_greatestGreen cX7_greatestGreen 6 (some .int) 0 := ⟨yt_in 698 (by decide +kernel) rfl, yt_in 16 (by decide +kernel) rfl, by decide, by decide, by decide +kernel⟩
theorem mi_X7_greatestGreen : Cond.instanceMethod yX7_greatestGreen ∈ yTs := yt_in 696 (by decide +kernel) rfl
theorem mv_X7_greatestGreen : yMv yX7_greatestGreen := ⟨mi_X7_greatestGreen, yt_in 697 (by decide +kernel) rfl⟩
theorem mt_X7_isHeld : yMt yX7_isHeld cX7_isHeld 5 (some .boolean) 0 := ⟨yt_in 673 (by decide +kernel) rfl, yt_in 16 (by decide +kernel) rfl, by decide, by decide, by decide +kernel⟩
theorem mi_X7_isHeld : Cond.instanceMethod yX7_isHeld ∈ yTs := yt_in 671 (by decide +kernel) rfl
theorem mv_X7_isHeld : yMv yX7_isHeld := ⟨mi_X7_isHeld, yt_in 672 (by decide +kernel) rfl⟩
theorem mt_X7_firstAsked : yMt yX7_firstAsked cX7_firstAsked 6 (some .int) 0 := ⟨yt_in 668 (by decide +kernel) rfl, yt_in 16 (by decide +kernel) rfl, by decide, by decide, by decide +kernel⟩
theorem mi_X7_firstAsked : Cond.instanceMethod yX7_firstAsked ∈ yTs := yt_in 666 (by decide +kernel) rfl
theorem mv_X7_firstAsked : yMv yX7_firstAsked := ⟨mi_X7_firstAsked, yt_in 667 (by decide +kernel) rfl⟩
theorem mt_X7_mayBeGreen : yMt yX7_mayBeGreen cX7_mayBeGreen 6 (some .boolean) 1 := ⟨yt_in 685 (by decide +kernel) rfl, yt_in 16 (by decide +kernel) rfl, by decide, by decide, by decide +kernel⟩
theorem mi_X7_mayBeGreen : Cond.instanceMethod yX7_mayBeGreen ∈ yTs := yt_in 683 (by decide +kernel) rfl
theorem mv_X7_mayBeGreen : yMv yX7_mayBeGreen := ⟨mi_X7_mayBeGreen, yt_in 684 (by decide +kernel) rfl⟩
theorem mt_X8_init : yMt yX8_init cX8_init 1 none 0 := ⟨yt_in 24 (by decide +kernel) rfl, yt_in 1 (by decide +kernel) rfl, by decide, by decide, by decide +kernel⟩
theorem mi_X8_init : Cond.instanceMethod yX8_init ∈ yTs := yt_in 23 (by decide +kernel) rfl
theorem mt_X8_phase : yMt yX8_phase cX8_phase 3 (some .int) 1 := ⟨yt_in 163 (by decide +kernel) rfl, yt_in 1 (by decide +kernel) rfl, by decide, by decide, by decide +kernel⟩
theorem mi_X8_phase : Cond.instanceMethod yX8_phase ∈ yTs := yt_in 161 (by decide +kernel) rfl
theorem mv_X8_phase : yMv yX8_phase := ⟨mi_X8_phase, yt_in 162 (by decide +kernel) rfl⟩
theorem mt_X8_conflict : yMt yX8_conflict cX8_conflict 9 (some .int) 4 := ⟨yt_in 315 (by decide +kernel) rfl, yt_in 1 (by decide +kernel) rfl, by decide, by decide, by decide +kernel⟩
theorem mi_X8_conflict : Cond.instanceMethod yX8_conflict ∈ yTs := yt_in 313 (by decide +kernel) rfl
theorem mv_X8_conflict : yMv yX8_conflict := ⟨mi_X8_conflict, yt_in 314 (by decide +kernel) rfl⟩
theorem mt_X8_stage : yMt yX8_stage cX8_stage 9 (some .int) 4 := ⟨yt_in 349 (by decide +kernel) rfl, yt_in 1 (by decide +kernel) rfl, by decide, by decide, by decide +kernel⟩
theorem mi_X8_stage : Cond.instanceMethod yX8_stage ∈ yTs := yt_in 347 (by decide +kernel) rfl
theorem mv_X8_stage : yMv yX8_stage := ⟨mi_X8_stage, yt_in 348 (by decide +kernel) rfl⟩
theorem mt_X8_detector : yMt yX8_detector cX8_detector 4 (some .int) 1 := ⟨yt_in 385 (by decide +kernel) rfl, yt_in 1 (by decide +kernel) rfl, by decide, by decide, by decide +kernel⟩
theorem mi_X8_detector : Cond.instanceMethod yX8_detector ∈ yTs := yt_in 383 (by decide +kernel) rfl
theorem mv_X8_detector : yMv yX8_detector := ⟨mi_X8_detector, yt_in 384 (by decide +kernel) rfl⟩
theorem mt_X8_cut : yMt yX8_cut cX8_cut 3 (some .int) 1 := ⟨yt_in 412 (by decide +kernel) rfl, yt_in 1 (by decide +kernel) rfl, by decide, by decide, by decide +kernel⟩
theorem mi_X8_cut : Cond.instanceMethod yX8_cut ∈ yTs := yt_in 410 (by decide +kernel) rfl
theorem mv_X8_cut : yMv yX8_cut := ⟨mi_X8_cut, yt_in 411 (by decide +kernel) rfl⟩
theorem mt_X8_passing : yMt yX8_passing cX8_passing 5 (some .int) 3 := ⟨yt_in 428 (by decide +kernel) rfl, yt_in 1 (by decide +kernel) rfl, by decide, by decide, by decide +kernel⟩
theorem mi_X8_passing : Cond.instanceMethod yX8_passing ∈ yTs := yt_in 426 (by decide +kernel) rfl
theorem mv_X8_passing : yMv yX8_passing := ⟨mi_X8_passing, yt_in 427 (by decide +kernel) rfl⟩
theorem mt_X8_table : yMt yX8_table cX8_table 7 (some .int) 5 := ⟨yt_in 437 (by decide +kernel) rfl, yt_in 1 (by decide +kernel) rfl, by decide, by decide, by decide +kernel⟩
theorem mi_X8_table : Cond.instanceMethod yX8_table ∈ yTs := yt_in 435 (by decide +kernel) rfl
theorem mv_X8_table : yMv yX8_table := ⟨mi_X8_table, yt_in 436 (by decide +kernel) rfl⟩
theorem mt_X8_lamp : yMt yX8_lamp cX8_lamp 5 (some .int) 2 := ⟨yt_in 464 (by decide +kernel) rfl, yt_in 1 (by decide +kernel) rfl, by decide, by decide, by decide +kernel⟩
theorem mi_X8_lamp : Cond.instanceMethod yX8_lamp ∈ yTs := yt_in 462 (by decide +kernel) rfl
theorem mv_X8_lamp : yMv yX8_lamp := ⟨mi_X8_lamp, yt_in 463 (by decide +kernel) rfl⟩
theorem mt_X8_pair : yMt yX8_pair cX8_pair 6 (some .int) 3 := ⟨yt_in 468 (by decide +kernel) rfl, yt_in 1 (by decide +kernel) rfl, by decide, by decide, by decide +kernel⟩
theorem mi_X8_pair : Cond.instanceMethod yX8_pair ∈ yTs := yt_in 466 (by decide +kernel) rfl
theorem mv_X8_pair : yMv yX8_pair := ⟨mi_X8_pair, yt_in 467 (by decide +kernel) rfl⟩
theorem mt_X8_ask : yMt yX8_ask cX8_ask 3 (some .int) 1 := ⟨yt_in 491 (by decide +kernel) rfl, yt_in 1 (by decide +kernel) rfl, by decide, by decide, by decide +kernel⟩
theorem mi_X8_ask : Cond.instanceMethod yX8_ask ∈ yTs := yt_in 489 (by decide +kernel) rfl
theorem mv_X8_ask : yMv yX8_ask := ⟨mi_X8_ask, yt_in 490 (by decide +kernel) rfl⟩
theorem mt_X8_hurry : yMt yX8_hurry cX8_hurry 3 (some .int) 1 := ⟨yt_in 499 (by decide +kernel) rfl, yt_in 1 (by decide +kernel) rfl, by decide, by decide, by decide +kernel⟩
theorem mi_X8_hurry : Cond.instanceMethod yX8_hurry ∈ yTs := yt_in 497 (by decide +kernel) rfl
theorem mv_X8_hurry : yMv yX8_hurry := ⟨mi_X8_hurry, yt_in 498 (by decide +kernel) rfl⟩
theorem mt_X8_second : yMt yX8_second cX8_second 4 (some .int) 1 := ⟨yt_in 507 (by decide +kernel) rfl, yt_in 1 (by decide +kernel) rfl, by decide, by decide, by decide +kernel⟩
theorem mi_X8_second : Cond.instanceMethod yX8_second ∈ yTs := yt_in 505 (by decide +kernel) rfl
theorem mv_X8_second : yMv yX8_second := ⟨mi_X8_second, yt_in 506 (by decide +kernel) rfl⟩
theorem mt_X8_alarm : yMt yX8_alarm cX8_alarm 1 (some .int) 0 := ⟨yt_in 721 (by decide +kernel) rfl, yt_in 1 (by decide +kernel) rfl, by decide, by decide, by decide +kernel⟩
theorem mi_X8_alarm : Cond.instanceMethod yX8_alarm ∈ yTs := yt_in 719 (by decide +kernel) rfl
theorem mv_X8_alarm : yMv yX8_alarm := ⟨mi_X8_alarm, yt_in 720 (by decide +kernel) rfl⟩
theorem mt_X8_restore : yMt yX8_restore cX8_restore 1 (some .int) 0 := ⟨yt_in 725 (by decide +kernel) rfl, yt_in 1 (by decide +kernel) rfl, by decide, by decide, by decide +kernel⟩
theorem mi_X8_restore : Cond.instanceMethod yX8_restore ∈ yTs := yt_in 723 (by decide +kernel) rfl
theorem mv_X8_restore : yMv yX8_restore := ⟨mi_X8_restore, yt_in 724 (by decide +kernel) rfl⟩
theorem mt_X8_light : yMt yX8_light cX8_light 3 (some .int) 1 := ⟨yt_in 729 (by decide +kernel) rfl, yt_in 1 (by decide +kernel) rfl, by decide, by decide, by decide +kernel⟩
theorem mi_X8_light : Cond.instanceMethod yX8_light ∈ yTs := yt_in 727 (by decide +kernel) rfl
theorem mv_X8_light : yMv yX8_light := ⟨mi_X8_light, yt_in 728 (by decide +kernel) rfl⟩
theorem mt_X8_was : yMt yX8_was cX8_was 4 (some .int) 2 := ⟨yt_in 733 (by decide +kernel) rfl, yt_in 1 (by decide +kernel) rfl, by decide, by decide, by decide +kernel⟩
theorem mi_X8_was : Cond.instanceMethod yX8_was ∈ yTs := yt_in 731 (by decide +kernel) rfl
theorem mv_X8_was : yMv yX8_was := ⟨mi_X8_was, yt_in 732 (by decide +kernel) rfl⟩
theorem mt_X8_stageOf : yMt yX8_stageOf cX8_stageOf 2 (some .int) 1 := ⟨yt_in 741 (by decide +kernel) rfl, yt_in 1 (by decide +kernel) rfl, by decide, by decide, by decide +kernel⟩
theorem mi_X8_stageOf : Cond.instanceMethod yX8_stageOf ∈ yTs := yt_in 739 (by decide +kernel) rfl
theorem mv_X8_stageOf : yMv yX8_stageOf := ⟨mi_X8_stageOf, yt_in 740 (by decide +kernel) rfl⟩
theorem mt_X8_place : yMt yX8_place cX8_place 5 (some .int) 2 := ⟨yt_in 748 (by decide +kernel) rfl, yt_in 1 (by decide +kernel) rfl, by decide, by decide, by decide +kernel⟩
theorem mi_X8_place : Cond.instanceMethod yX8_place ∈ yTs := yt_in 746 (by decide +kernel) rfl
theorem mv_X8_place : yMv yX8_place := ⟨mi_X8_place, yt_in 747 (by decide +kernel) rfl⟩
theorem mt_X8_told : yMt yX8_told cX8_told 4 (some .int) 2 := ⟨yt_in 756 (by decide +kernel) rfl, yt_in 1 (by decide +kernel) rfl, by decide, by decide, by decide +kernel⟩
theorem mi_X8_told : Cond.instanceMethod yX8_told ∈ yTs := yt_in 754 (by decide +kernel) rfl
theorem mv_X8_told : yMv yX8_told := ⟨mi_X8_told, yt_in 755 (by decide +kernel) rfl⟩
theorem mt_X8_length : yMt yX8_length cX8_length 3 (some .int) 1 := ⟨yt_in 760 (by decide +kernel) rfl, yt_in 1 (by decide +kernel) rfl, by decide, by decide, by decide +kernel⟩
theorem mi_X8_length : Cond.instanceMethod yX8_length ∈ yTs := yt_in 758 (by decide +kernel) rfl
theorem mv_X8_length : yMv yX8_length := ⟨mi_X8_length, yt_in 759 (by decide +kernel) rfl⟩
theorem mt_X8_bound : yMt yX8_bound cX8_bound 5 (some .int) 0 := ⟨yt_in 764 (by decide +kernel) rfl, yt_in 1 (by decide +kernel) rfl, by decide, by decide, by decide +kernel⟩
theorem mi_X8_bound : Cond.instanceMethod yX8_bound ∈ yTs := yt_in 762 (by decide +kernel) rfl
theorem mv_X8_bound : yMv yX8_bound := ⟨mi_X8_bound, yt_in 763 (by decide +kernel) rfl⟩
theorem mt_X8_count : yMt yX8_count cX8_count 2 (some .int) 1 := ⟨yt_in 773 (by decide +kernel) rfl, yt_in 1 (by decide +kernel) rfl, by decide, by decide, by decide +kernel⟩
theorem mi_X8_count : Cond.instanceMethod yX8_count ∈ yTs := yt_in 771 (by decide +kernel) rfl
theorem mv_X8_count : yMv yX8_count := ⟨mi_X8_count, yt_in 772 (by decide +kernel) rfl⟩
theorem mt_X8_finding : yMt yX8_finding cX8_finding 2 (some .int) 1 := ⟨yt_in 781 (by decide +kernel) rfl, yt_in 1 (by decide +kernel) rfl, by decide, by decide, by decide +kernel⟩
theorem mi_X8_finding : Cond.instanceMethod yX8_finding ∈ yTs := yt_in 779 (by decide +kernel) rfl
theorem mv_X8_finding : yMv yX8_finding := ⟨mi_X8_finding, yt_in 780 (by decide +kernel) rfl⟩
theorem mt_X8_fault : yMt yX8_fault cX8_fault 2 (some .int) 1 := ⟨yt_in 785 (by decide +kernel) rfl, yt_in 1 (by decide +kernel) rfl, by decide, by decide, by decide +kernel⟩
theorem mi_X8_fault : Cond.instanceMethod yX8_fault ∈ yTs := yt_in 783 (by decide +kernel) rfl
theorem mv_X8_fault : yMv yX8_fault := ⟨mi_X8_fault, yt_in 784 (by decide +kernel) rfl⟩
theorem mt_X8_trace : yMt yX8_trace cX8_trace 1 (some .int) 0 := ⟨yt_in 789 (by decide +kernel) rfl, yt_in 1 (by decide +kernel) rfl, by decide, by decide, by decide +kernel⟩
theorem mi_X8_trace : Cond.instanceMethod yX8_trace ∈ yTs := yt_in 787 (by decide +kernel) rfl
theorem mv_X8_trace : yMv yX8_trace := ⟨mi_X8_trace, yt_in 788 (by decide +kernel) rfl⟩
theorem mt_X8_isWithin : yMt yX8_isWithin cX8_isWithin 3 (some .boolean) 3 := ⟨yt_in 336 (by decide +kernel) rfl, yt_in 1 (by decide +kernel) rfl, by decide, by decide, by decide +kernel⟩
theorem ms_X8_isWithin : Cond.static yX8_isWithin ∈ yTs := yt_in 335 (by decide +kernel) rfl
theorem mt_X8_phaseAt : yMt yX8_phaseAt cX8_phaseAt 2 (some (.object "CrossingKeeper$Phase")) 1 := ⟨yt_in 319 (by decide +kernel) rfl, yt_in 1 (by decide +kernel) rfl, by decide, by decide, by decide +kernel⟩
theorem mi_X8_phaseAt : Cond.instanceMethod yX8_phaseAt ∈ yTs := yt_in 318 (by decide +kernel) rfl
theorem mv_X8_phaseAt : yMv yX8_phaseAt := ⟨mi_X8_phaseAt, yt_sel 3 (by decide +kernel) rfl⟩
theorem mt_X8_stageAt : yMt yX8_stageAt cX8_stageAt 2 (some (.object "CrossingKeeper$Stage")) 1 := ⟨yt_in 503 (by decide +kernel) rfl, yt_in 1 (by decide +kernel) rfl, by decide, by decide, by decide +kernel⟩
theorem mi_X8_stageAt : Cond.instanceMethod yX8_stageAt ∈ yTs := yt_in 502 (by decide +kernel) rfl
theorem mv_X8_stageAt : yMv yX8_stageAt := ⟨mi_X8_stageAt, yt_sel 5 (by decide +kernel) rfl⟩
theorem mt_X8_detectorAt : yMt yX8_detectorAt cX8_detectorAt 2 (some (.object "CrossingKeeper$Detector")) 1 := ⟨yt_in 416 (by decide +kernel) rfl, yt_in 1 (by decide +kernel) rfl, by decide, by decide, by decide +kernel⟩
theorem mi_X8_detectorAt : Cond.instanceMethod yX8_detectorAt ∈ yTs := yt_in 415 (by decide +kernel) rfl
theorem mv_X8_detectorAt : yMv yX8_detectorAt := ⟨mi_X8_detectorAt, yt_sel 4 (by decide +kernel) rfl⟩
theorem mt_X8_numberOf : yMt yX8_numberOf cX8_numberOf 1 (some .int) 1 := ⟨yt_in 744 (by decide +kernel) rfl, yt_in 1 (by decide +kernel) rfl, by decide, by decide, by decide +kernel⟩
theorem ms_X8_numberOf : Cond.static yX8_numberOf ∈ yTs := yt_in 743 (by decide +kernel) rfl
theorem mt_X8_doOrders : yMt yX8_doOrders cX8_doOrders 3 none 1 := ⟨yt_in 511 (by decide +kernel) rfl, yt_in 1 (by decide +kernel) rfl, by decide, by decide, by decide +kernel⟩
theorem mi_X8_doOrders : Cond.instanceMethod yX8_doOrders ∈ yTs := yt_in 510 (by decide +kernel) rfl
theorem mv_X8_doOrders : yMv yX8_doOrders := ⟨mi_X8_doOrders, yt_sel 6 (by decide +kernel) rfl⟩
theorem mt_X8_runLights : yMt yX8_runLights cX8_runLights 4 none 1 := ⟨yt_in 528 (by decide +kernel) rfl, yt_in 1 (by decide +kernel) rfl, by decide, by decide, by decide +kernel⟩
theorem mi_X8_runLights : Cond.instanceMethod yX8_runLights ∈ yTs := yt_in 527 (by decide +kernel) rfl
theorem mv_X8_runLights : yMv yX8_runLights := ⟨mi_X8_runLights, yt_sel 8 (by decide +kernel) rfl⟩
theorem mt_X8_keepLights : yMt yX8_keepLights cX8_keepLights 3 none 1 := ⟨yt_in 712 (by decide +kernel) rfl, yt_in 1 (by decide +kernel) rfl, by decide, by decide, by decide +kernel⟩
theorem mi_X8_keepLights : Cond.instanceMethod yX8_keepLights ∈ yTs := yt_in 711 (by decide +kernel) rfl
theorem mv_X8_keepLights : yMv yX8_keepLights := ⟨mi_X8_keepLights, yt_sel 35 (by decide +kernel) rfl⟩
theorem mt_X8_readPhases : yMt yX8_readPhases cX8_readPhases 4 none 1 := ⟨yt_in 532 (by decide +kernel) rfl, yt_in 1 (by decide +kernel) rfl, by decide, by decide, by decide +kernel⟩
theorem mi_X8_readPhases : Cond.instanceMethod yX8_readPhases ∈ yTs := yt_in 531 (by decide +kernel) rfl
theorem mv_X8_readPhases : yMv yX8_readPhases := ⟨mi_X8_readPhases, yt_sel 9 (by decide +kernel) rfl⟩
theorem mt_X8_holdsIn : yMt yX8_holdsIn cX8_holdsIn 4 (some .boolean) 2 := ⟨yt_in 536 (by decide +kernel) rfl, yt_in 1 (by decide +kernel) rfl, by decide, by decide, by decide +kernel⟩
theorem mi_X8_holdsIn : Cond.instanceMethod yX8_holdsIn ∈ yTs := yt_in 535 (by decide +kernel) rfl
theorem mv_X8_holdsIn : yMv yX8_holdsIn := ⟨mi_X8_holdsIn, yt_sel 10 (by decide +kernel) rfl⟩
theorem mt_X8_asksIn : yMt yX8_asksIn cX8_asksIn 4 (some .boolean) 2 := ⟨yt_in 577 (by decide +kernel) rfl, yt_in 1 (by decide +kernel) rfl, by decide, by decide, by decide +kernel⟩
theorem mi_X8_asksIn : Cond.instanceMethod yX8_asksIn ∈ yTs := yt_in 576 (by decide +kernel) rfl
theorem mv_X8_asksIn : yMv yX8_asksIn := ⟨mi_X8_asksIn, yt_sel 16 (by decide +kernel) rfl⟩
theorem mt_X8_rowsUntil : yMt yX8_rowsUntil cX8_rowsUntil 4 (some (.object "CrossingKeeper$Detector")) 2 := ⟨yt_in 560 (by decide +kernel) rfl, yt_in 1 (by decide +kernel) rfl, by decide, by decide, by decide +kernel⟩
theorem mi_X8_rowsUntil : Cond.instanceMethod yX8_rowsUntil ∈ yTs := yt_in 559 (by decide +kernel) rfl
theorem mv_X8_rowsUntil : yMv yX8_rowsUntil := ⟨mi_X8_rowsUntil, yt_sel 15 (by decide +kernel) rfl⟩
theorem mt_X8_endsIn : yMt yX8_endsIn cX8_endsIn 4 (some .boolean) 2 := ⟨yt_in 657 (by decide +kernel) rfl, yt_in 1 (by decide +kernel) rfl, by decide, by decide, by decide +kernel⟩
theorem mi_X8_endsIn : Cond.instanceMethod yX8_endsIn ∈ yTs := yt_in 656 (by decide +kernel) rfl
theorem mv_X8_endsIn : yMv yX8_endsIn := ⟨mi_X8_endsIn, yt_sel 28 (by decide +kernel) rfl⟩
theorem mt_X8_endStage : yMt yX8_endStage cX8_endStage 7 none 2 := ⟨yt_in 677 (by decide +kernel) rfl, yt_in 1 (by decide +kernel) rfl, by decide, by decide, by decide +kernel⟩
theorem mi_X8_endStage : Cond.instanceMethod yX8_endStage ∈ yTs := yt_in 676 (by decide +kernel) rfl
theorem mv_X8_endStage : yMv yX8_endStage := ⟨mi_X8_endStage, yt_sel 30 (by decide +kernel) rfl⟩
theorem mt_X8_setEnd : yMt yX8_setEnd cX8_setEnd 6 none 2 := ⟨yt_in 647 (by decide +kernel) rfl, yt_in 1 (by decide +kernel) rfl, by decide, by decide, by decide +kernel⟩
theorem mi_X8_setEnd : Cond.instanceMethod yX8_setEnd ∈ yTs := yt_in 646 (by decide +kernel) rfl
theorem mv_X8_setEnd : yMv yX8_setEnd := ⟨mi_X8_setEnd, yt_sel 27 (by decide +kernel) rfl⟩
theorem mt_X8_endAmbers : yMt yX8_endAmbers cX8_endAmbers 4 none 1 := ⟨yt_in 681 (by decide +kernel) rfl, yt_in 1 (by decide +kernel) rfl, by decide, by decide, by decide +kernel⟩
theorem mi_X8_endAmbers : Cond.instanceMethod yX8_endAmbers ∈ yTs := yt_in 680 (by decide +kernel) rfl
theorem mv_X8_endAmbers : yMv yX8_endAmbers := ⟨mi_X8_endAmbers, yt_sel 31 (by decide +kernel) rfl⟩
theorem mt_X8_beginStage : yMt yX8_beginStage cX8_beginStage 7 none 2 := ⟨yt_in 689 (by decide +kernel) rfl, yt_in 1 (by decide +kernel) rfl, by decide, by decide, by decide +kernel⟩
theorem mi_X8_beginStage : Cond.instanceMethod yX8_beginStage ∈ yTs := yt_in 688 (by decide +kernel) rfl
theorem mv_X8_beginStage : yMv yX8_beginStage := ⟨mi_X8_beginStage, yt_sel 32 (by decide +kernel) rfl⟩
theorem mt_X8_nextStage : yMt yX8_nextStage cX8_nextStage 7 (some (.object "CrossingKeeper$Stage")) 0 := ⟨yt_in 661 (by decide +kernel) rfl, yt_in 1 (by decide +kernel) rfl, by decide, by decide, by decide +kernel⟩
theorem mi_X8_nextStage : Cond.instanceMethod yX8_nextStage ∈ yTs := yt_in 660 (by decide +kernel) rfl
theorem mv_X8_nextStage : yMv yX8_nextStage := ⟨mi_X8_nextStage, yt_sel 29 (by decide +kernel) rfl⟩
theorem mt_X8_changeLight : yMt yX8_changeLight cX8_changeLight 4 none 3 := ⟨yt_in 639 (by decide +kernel) rfl, yt_in 1 (by decide +kernel) rfl, by decide, by decide, by decide +kernel⟩
theorem mi_X8_changeLight : Cond.instanceMethod yX8_changeLight ∈ yTs := yt_in 638 (by decide +kernel) rfl
theorem mv_X8_changeLight : yMv yX8_changeLight := ⟨mi_X8_changeLight, yt_sel 25 (by decide +kernel) rfl⟩
theorem mt_X8_changeAllLights : yMt yX8_changeAllLights cX8_changeAllLights 3 none 1 := ⟨yt_in 708 (by decide +kernel) rfl, yt_in 1 (by decide +kernel) rfl, by decide, by decide, by decide +kernel⟩
theorem mi_X8_changeAllLights : Cond.instanceMethod yX8_changeAllLights ∈ yTs := yt_in 707 (by decide +kernel) rfl
theorem mv_X8_changeAllLights : yMv yX8_changeAllLights := ⟨mi_X8_changeAllLights, yt_sel 34 (by decide +kernel) rfl⟩
theorem mt_X8_gapOf : yMt yX8_gapOf cX8_gapOf 6 (some .int) 2 := ⟨yt_in 643 (by decide +kernel) rfl, yt_in 1 (by decide +kernel) rfl, by decide, by decide, by decide +kernel⟩
theorem mi_X8_gapOf : Cond.instanceMethod yX8_gapOf ∈ yTs := yt_in 642 (by decide +kernel) rfl
theorem mv_X8_gapOf : yMv yX8_gapOf := ⟨mi_X8_gapOf, yt_sel 26 (by decide +kernel) rfl⟩
theorem mt_X8_lookAtPairs : yMt yX8_lookAtPairs cX8_lookAtPairs 3 none 1 := ⟨yt_in 605 (by decide +kernel) rfl, yt_in 1 (by decide +kernel) rfl, by decide, by decide, by decide +kernel⟩
theorem mi_X8_lookAtPairs : Cond.instanceMethod yX8_lookAtPairs ∈ yTs := yt_in 604 (by decide +kernel) rfl
theorem mv_X8_lookAtPairs : yMv yX8_lookAtPairs := ⟨mi_X8_lookAtPairs, yt_sel 21 (by decide +kernel) rfl⟩
theorem mt_X8_faultToMeet : yMt yX8_faultToMeet cX8_faultToMeet 3 (some .int) 0 := ⟨yt_in 619 (by decide +kernel) rfl, yt_in 1 (by decide +kernel) rfl, by decide, by decide, by decide +kernel⟩
theorem mi_X8_faultToMeet : Cond.instanceMethod yX8_faultToMeet ∈ yTs := yt_in 618 (by decide +kernel) rfl
theorem mv_X8_faultToMeet : yMv yX8_faultToMeet := ⟨mi_X8_faultToMeet, yt_sel 23 (by decide +kernel) rfl⟩
theorem mt_X8_meetFault : yMt yX8_meetFault cX8_meetFault 5 none 2 := ⟨yt_in 631 (by decide +kernel) rfl, yt_in 1 (by decide +kernel) rfl, by decide, by decide, by decide +kernel⟩
theorem mi_X8_meetFault : Cond.instanceMethod yX8_meetFault ∈ yTs := yt_in 630 (by decide +kernel) rfl
theorem mv_X8_meetFault : yMv yX8_meetFault := ⟨mi_X8_meetFault, yt_sel 24 (by decide +kernel) rfl⟩
theorem mt_X8_flashIfDue : yMt yX8_flashIfDue cX8_flashIfDue 2 none 1 := ⟨yt_in 704 (by decide +kernel) rfl, yt_in 1 (by decide +kernel) rfl, by decide, by decide, by decide +kernel⟩
theorem mi_X8_flashIfDue : Cond.instanceMethod yX8_flashIfDue ∈ yTs := yt_in 703 (by decide +kernel) rfl
theorem mv_X8_flashIfDue : yMv yX8_flashIfDue := ⟨mi_X8_flashIfDue, yt_sel 33 (by decide +kernel) rfl⟩
theorem mt_X9_init : yMt yX9_init cX9_init 1 none 0 := ⟨yt_in 794 (by decide +kernel) rfl, yt_in 8 (by decide +kernel) rfl, by decide, by decide, by decide +kernel⟩
theorem mi_X9_init : Cond.instanceMethod yX9_init ∈ yTs := yt_in 793 (by decide +kernel) rfl
theorem mt_X9_in : yMt yX9_in cX9_in 3 (some .boolean) 3 := ⟨yt_in 963 (by decide +kernel) rfl, yt_in 8 (by decide +kernel) rfl, by decide, by decide, by decide +kernel⟩
theorem ms_X9_in : Cond.static yX9_in ∈ yTs := yt_in 962 (by decide +kernel) rfl
theorem mt_X9_isPhase : yMt yX9_isPhase cX9_isPhase 2 (some .boolean) 1 := ⟨yt_in 971 (by decide +kernel) rfl, yt_in 8 (by decide +kernel) rfl, by decide, by decide, by decide +kernel⟩
theorem mi_X9_isPhase : Cond.instanceMethod yX9_isPhase ∈ yTs := yt_in 970 (by decide +kernel) rfl
theorem mv_X9_isPhase : yMv yX9_isPhase := ⟨mi_X9_isPhase, yt_sel 36 (by decide +kernel) rfl⟩
theorem mt_X9_isStage : yMt yX9_isStage cX9_isStage 2 (some .boolean) 1 := ⟨yt_in 1023 (by decide +kernel) rfl, yt_in 8 (by decide +kernel) rfl, by decide, by decide, by decide +kernel⟩
theorem mi_X9_isStage : Cond.instanceMethod yX9_isStage ∈ yTs := yt_in 1022 (by decide +kernel) rfl
theorem mv_X9_isStage : yMv yX9_isStage := ⟨mi_X9_isStage, yt_sel 40 (by decide +kernel) rfl⟩
theorem mt_X9_isDetector : yMt yX9_isDetector cX9_isDetector 2 (some .boolean) 1 := ⟨yt_in 995 (by decide +kernel) rfl, yt_in 8 (by decide +kernel) rfl, by decide, by decide, by decide +kernel⟩
theorem mi_X9_isDetector : Cond.instanceMethod yX9_isDetector ∈ yTs := yt_in 994 (by decide +kernel) rfl
theorem mv_X9_isDetector : yMv yX9_isDetector := ⟨mi_X9_isDetector, yt_sel 39 (by decide +kernel) rfl⟩
theorem mt_X9_meets : yMt yX9_meets cX9_meets 3 (some .boolean) 2 := ⟨yt_in 983 (by decide +kernel) rfl, yt_in 8 (by decide +kernel) rfl, by decide, by decide, by decide +kernel⟩
theorem mi_X9_meets : Cond.instanceMethod yX9_meets ∈ yTs := yt_in 982 (by decide +kernel) rfl
theorem mv_X9_meets : yMv yX9_meets := ⟨mi_X9_meets, yt_sel 38 (by decide +kernel) rfl⟩
theorem mt_X9_phase : yMt yX9_phase cX9_phase 2 (some .int) 1 := ⟨yt_in 960 (by decide +kernel) rfl, yt_in 8 (by decide +kernel) rfl, by decide, by decide, by decide +kernel⟩
theorem mi_X9_phase : Cond.instanceMethod yX9_phase ∈ yTs := yt_in 958 (by decide +kernel) rfl
theorem mv_X9_phase : yMv yX9_phase := ⟨mi_X9_phase, yt_in 959 (by decide +kernel) rfl⟩
theorem mt_X9_has : yMt yX9_has cX9_has 5 (some .boolean) 2 := ⟨yt_in 975 (by decide +kernel) rfl, yt_in 8 (by decide +kernel) rfl, by decide, by decide, by decide +kernel⟩
theorem mi_X9_has : Cond.instanceMethod yX9_has ∈ yTs := yt_in 974 (by decide +kernel) rfl
theorem mv_X9_has : yMv yX9_has := ⟨mi_X9_has, yt_sel 37 (by decide +kernel) rfl⟩
theorem mt_X9_conflict : yMt yX9_conflict cX9_conflict 6 (some .int) 4 := ⟨yt_in 967 (by decide +kernel) rfl, yt_in 8 (by decide +kernel) rfl, by decide, by decide, by decide +kernel⟩
theorem mi_X9_conflict : Cond.instanceMethod yX9_conflict ∈ yTs := yt_in 965 (by decide +kernel) rfl
theorem mv_X9_conflict : yMv yX9_conflict := ⟨mi_X9_conflict, yt_in 966 (by decide +kernel) rfl⟩
theorem mt_X9_stage : yMt yX9_stage cX9_stage 10 (some .int) 4 := ⟨yt_in 979 (by decide +kernel) rfl, yt_in 8 (by decide +kernel) rfl, by decide, by decide, by decide +kernel⟩
theorem mi_X9_stage : Cond.instanceMethod yX9_stage ∈ yTs := yt_in 977 (by decide +kernel) rfl
theorem mv_X9_stage : yMv yX9_stage := ⟨mi_X9_stage, yt_in 978 (by decide +kernel) rfl⟩
theorem mt_X9_detector : yMt yX9_detector cX9_detector 2 (some .int) 1 := ⟨yt_in 987 (by decide +kernel) rfl, yt_in 8 (by decide +kernel) rfl, by decide, by decide, by decide +kernel⟩
theorem mi_X9_detector : Cond.instanceMethod yX9_detector ∈ yTs := yt_in 985 (by decide +kernel) rfl
theorem mv_X9_detector : yMv yX9_detector := ⟨mi_X9_detector, yt_in 986 (by decide +kernel) rfl⟩
theorem mt_X9_cut : yMt yX9_cut cX9_cut 3 (some .int) 1 := ⟨yt_in 991 (by decide +kernel) rfl, yt_in 8 (by decide +kernel) rfl, by decide, by decide, by decide +kernel⟩
theorem mi_X9_cut : Cond.instanceMethod yX9_cut ∈ yTs := yt_in 989 (by decide +kernel) rfl
theorem mv_X9_cut : yMv yX9_cut := ⟨mi_X9_cut, yt_in 990 (by decide +kernel) rfl⟩
theorem mt_X9_passing : yMt yX9_passing cX9_passing 4 (some .int) 3 := ⟨yt_in 999 (by decide +kernel) rfl, yt_in 8 (by decide +kernel) rfl, by decide, by decide, by decide +kernel⟩
theorem mi_X9_passing : Cond.instanceMethod yX9_passing ∈ yTs := yt_in 997 (by decide +kernel) rfl
theorem mv_X9_passing : yMv yX9_passing := ⟨mi_X9_passing, yt_in 998 (by decide +kernel) rfl⟩
theorem mt_X9_table : yMt yX9_table cX9_table 6 (some .int) 5 := ⟨yt_in 1003 (by decide +kernel) rfl, yt_in 8 (by decide +kernel) rfl, by decide, by decide, by decide +kernel⟩
theorem mi_X9_table : Cond.instanceMethod yX9_table ∈ yTs := yt_in 1001 (by decide +kernel) rfl
theorem mv_X9_table : yMv yX9_table := ⟨mi_X9_table, yt_in 1002 (by decide +kernel) rfl⟩
theorem mt_X9_lamp : yMt yX9_lamp cX9_lamp 4 (some .int) 2 := ⟨yt_in 1007 (by decide +kernel) rfl, yt_in 8 (by decide +kernel) rfl, by decide, by decide, by decide +kernel⟩
theorem mi_X9_lamp : Cond.instanceMethod yX9_lamp ∈ yTs := yt_in 1005 (by decide +kernel) rfl
theorem mv_X9_lamp : yMv yX9_lamp := ⟨mi_X9_lamp, yt_in 1006 (by decide +kernel) rfl⟩
theorem mt_X9_pair : yMt yX9_pair cX9_pair 4 (some .int) 3 := ⟨yt_in 1011 (by decide +kernel) rfl, yt_in 8 (by decide +kernel) rfl, by decide, by decide, by decide +kernel⟩
theorem mi_X9_pair : Cond.instanceMethod yX9_pair ∈ yTs := yt_in 1009 (by decide +kernel) rfl
theorem mv_X9_pair : yMv yX9_pair := ⟨mi_X9_pair, yt_in 1010 (by decide +kernel) rfl⟩
theorem mt_X9_ask : yMt yX9_ask cX9_ask 2 (some .int) 1 := ⟨yt_in 1015 (by decide +kernel) rfl, yt_in 8 (by decide +kernel) rfl, by decide, by decide, by decide +kernel⟩
theorem mi_X9_ask : Cond.instanceMethod yX9_ask ∈ yTs := yt_in 1013 (by decide +kernel) rfl
theorem mv_X9_ask : yMv yX9_ask := ⟨mi_X9_ask, yt_in 1014 (by decide +kernel) rfl⟩
theorem mt_X9_hurry : yMt yX9_hurry cX9_hurry 2 (some .int) 1 := ⟨yt_in 1019 (by decide +kernel) rfl, yt_in 8 (by decide +kernel) rfl, by decide, by decide, by decide +kernel⟩
theorem mi_X9_hurry : Cond.instanceMethod yX9_hurry ∈ yTs := yt_in 1017 (by decide +kernel) rfl
theorem mv_X9_hurry : yMv yX9_hurry := ⟨mi_X9_hurry, yt_in 1018 (by decide +kernel) rfl⟩
theorem mt_X9_alarm : yMt yX9_alarm cX9_alarm 1 (some .int) 0 := ⟨yt_in 1027 (by decide +kernel) rfl, yt_in 8 (by decide +kernel) rfl, by decide, by decide, by decide +kernel⟩
theorem mi_X9_alarm : Cond.instanceMethod yX9_alarm ∈ yTs := yt_in 1025 (by decide +kernel) rfl
theorem mv_X9_alarm : yMv yX9_alarm := ⟨mi_X9_alarm, yt_in 1026 (by decide +kernel) rfl⟩
theorem mt_X9_found : yMt yX9_found cX9_found 3 none 2 := ⟨yt_in 1051 (by decide +kernel) rfl, yt_in 8 (by decide +kernel) rfl, by decide, by decide, by decide +kernel⟩
theorem mi_X9_found : Cond.instanceMethod yX9_found ∈ yTs := yt_in 1050 (by decide +kernel) rfl
theorem mv_X9_found : yMv yX9_found := ⟨mi_X9_found, yt_sel 45 (by decide +kernel) rfl⟩
theorem mt_X9_readAt : yMt yX9_readAt cX9_readAt 3 (some .int) 1 := ⟨yt_in 1063 (by decide +kernel) rfl, yt_in 8 (by decide +kernel) rfl, by decide, by decide, by decide +kernel⟩
theorem mi_X9_readAt : Cond.instanceMethod yX9_readAt ∈ yTs := yt_in 1062 (by decide +kernel) rfl
theorem mv_X9_readAt : yMv yX9_readAt := ⟨mi_X9_readAt, yt_sel 48 (by decide +kernel) rfl⟩
theorem mt_X9_asksOfCar : yMt yX9_asksOfCar cX9_asksOfCar 2 (some .boolean) 1 := ⟨yt_in 1071 (by decide +kernel) rfl, yt_in 8 (by decide +kernel) rfl, by decide, by decide, by decide +kernel⟩
theorem mi_X9_asksOfCar : Cond.instanceMethod yX9_asksOfCar ∈ yTs := yt_in 1070 (by decide +kernel) rfl
theorem mv_X9_asksOfCar : yMv yX9_asksOfCar := ⟨mi_X9_asksOfCar, yt_sel 50 (by decide +kernel) rfl⟩
theorem mt_X9_doesAsk : yMt yX9_doesAsk cX9_doesAsk 3 (some .boolean) 1 := ⟨yt_in 1067 (by decide +kernel) rfl, yt_in 8 (by decide +kernel) rfl, by decide, by decide, by decide +kernel⟩
theorem mi_X9_doesAsk : Cond.instanceMethod yX9_doesAsk ∈ yTs := yt_in 1066 (by decide +kernel) rfl
theorem mv_X9_doesAsk : yMv yX9_doesAsk := ⟨mi_X9_doesAsk, yt_sel 49 (by decide +kernel) rfl⟩
theorem mt_X9_doesHold : yMt yX9_doesHold cX9_doesHold 3 (some .boolean) 1 := ⟨yt_in 1059 (by decide +kernel) rfl, yt_in 8 (by decide +kernel) rfl, by decide, by decide, by decide +kernel⟩
theorem mi_X9_doesHold : Cond.instanceMethod yX9_doesHold ∈ yTs := yt_in 1058 (by decide +kernel) rfl
theorem mv_X9_doesHold : yMv yX9_doesHold := ⟨mi_X9_doesHold, yt_sel 47 (by decide +kernel) rfl⟩
theorem mt_X9_change : yMt yX9_change cX9_change 3 none 2 := ⟨yt_in 1043 (by decide +kernel) rfl, yt_in 8 (by decide +kernel) rfl, by decide, by decide, by decide +kernel⟩
theorem mi_X9_change : Cond.instanceMethod yX9_change ∈ yTs := yt_in 1042 (by decide +kernel) rfl
theorem mv_X9_change : yMv yX9_change := ⟨mi_X9_change, yt_sel 43 (by decide +kernel) rfl⟩
theorem mt_X9_gapOf : yMt yX9_gapOf cX9_gapOf 5 (some .int) 1 := ⟨yt_in 1047 (by decide +kernel) rfl, yt_in 8 (by decide +kernel) rfl, by decide, by decide, by decide +kernel⟩
theorem mi_X9_gapOf : Cond.instanceMethod yX9_gapOf ∈ yTs := yt_in 1046 (by decide +kernel) rfl
theorem mv_X9_gapOf : yMv yX9_gapOf := ⟨mi_X9_gapOf, yt_sel 44 (by decide +kernel) rfl⟩
theorem mt_X9_endsIn : yMt yX9_endsIn cX9_endsIn 5 none 2 := ⟨yt_in 1083 (by decide +kernel) rfl, yt_in 8 (by decide +kernel) rfl, by decide, by decide, by decide +kernel⟩
theorem mi_X9_endsIn : Cond.instanceMethod yX9_endsIn ∈ yTs := yt_in 1082 (by decide +kernel) rfl
theorem mv_X9_endsIn : yMv yX9_endsIn := ⟨mi_X9_endsIn, yt_sel 53 (by decide +kernel) rfl⟩
theorem mt_X9_leastOf : yMt yX9_leastOf cX9_leastOf 5 (some .int) 1 := ⟨yt_in 1107 (by decide +kernel) rfl, yt_in 8 (by decide +kernel) rfl, by decide, by decide, by decide +kernel⟩
theorem mi_X9_leastOf : Cond.instanceMethod yX9_leastOf ∈ yTs := yt_in 1106 (by decide +kernel) rfl
theorem mv_X9_leastOf : yMv yX9_leastOf := ⟨mi_X9_leastOf, yt_sel 59 (by decide +kernel) rfl⟩
theorem mt_X9_greatestOf : yMt yX9_greatestOf cX9_greatestOf 5 (some .int) 1 := ⟨yt_in 1111 (by decide +kernel) rfl, yt_in 8 (by decide +kernel) rfl, by decide, by decide, by decide +kernel⟩
theorem mi_X9_greatestOf : Cond.instanceMethod yX9_greatestOf ∈ yTs := yt_in 1110 (by decide +kernel) rfl
theorem mv_X9_greatestOf : yMv yX9_greatestOf := ⟨mi_X9_greatestOf, yt_sel 60 (by decide +kernel) rfl⟩
theorem mt_X9_askedFirst : yMt yX9_askedFirst cX9_askedFirst 5 (some .int) 1 := ⟨yt_in 1095 (by decide +kernel) rfl, yt_in 8 (by decide +kernel) rfl, by decide, by decide, by decide +kernel⟩
theorem mi_X9_askedFirst : Cond.instanceMethod yX9_askedFirst ∈ yTs := yt_in 1094 (by decide +kernel) rfl
theorem mv_X9_askedFirst : yMv yX9_askedFirst := ⟨mi_X9_askedFirst, yt_sel 56 (by decide +kernel) rfl⟩
theorem mt_X9_next : yMt yX9_next cX9_next 6 (some .int) 0 := ⟨yt_in 1103 (by decide +kernel) rfl, yt_in 8 (by decide +kernel) rfl, by decide, by decide, by decide +kernel⟩
theorem mi_X9_next : Cond.instanceMethod yX9_next ∈ yTs := yt_in 1102 (by decide +kernel) rfl
theorem mv_X9_next : yMv yX9_next := ⟨mi_X9_next, yt_sel 58 (by decide +kernel) rfl⟩
theorem mt_X9_doOrders : yMt yX9_doOrders cX9_doOrders 4 none 0 := ⟨yt_in 1039 (by decide +kernel) rfl, yt_in 8 (by decide +kernel) rfl, by decide, by decide, by decide +kernel⟩
theorem mi_X9_doOrders : Cond.instanceMethod yX9_doOrders ∈ yTs := yt_in 1038 (by decide +kernel) rfl
theorem mv_X9_doOrders : yMv yX9_doOrders := ⟨mi_X9_doOrders, yt_sel 42 (by decide +kernel) rfl⟩
theorem mt_X9_readAll : yMt yX9_readAll cX9_readAll 5 none 0 := ⟨yt_in 1055 (by decide +kernel) rfl, yt_in 8 (by decide +kernel) rfl, by decide, by decide, by decide +kernel⟩
theorem mi_X9_readAll : Cond.instanceMethod yX9_readAll ∈ yTs := yt_in 1054 (by decide +kernel) rfl
theorem mv_X9_readAll : yMv yX9_readAll := ⟨mi_X9_readAll, yt_sel 46 (by decide +kernel) rfl⟩
theorem mt_X9_faultNow : yMt yX9_faultNow cX9_faultNow 2 (some .int) 0 := ⟨yt_in 1075 (by decide +kernel) rfl, yt_in 8 (by decide +kernel) rfl, by decide, by decide, by decide +kernel⟩
theorem mi_X9_faultNow : Cond.instanceMethod yX9_faultNow ∈ yTs := yt_in 1074 (by decide +kernel) rfl
theorem mv_X9_faultNow : yMv yX9_faultNow := ⟨mi_X9_faultNow, yt_sel 51 (by decide +kernel) rfl⟩
theorem mt_X9_meetFault : yMt yX9_meetFault cX9_meetFault 3 none 1 := ⟨yt_in 1079 (by decide +kernel) rfl, yt_in 8 (by decide +kernel) rfl, by decide, by decide, by decide +kernel⟩
theorem mi_X9_meetFault : Cond.instanceMethod yX9_meetFault ∈ yTs := yt_in 1078 (by decide +kernel) rfl
theorem mv_X9_meetFault : yMv yX9_meetFault := ⟨mi_X9_meetFault, yt_sel 52 (by decide +kernel) rfl⟩
theorem mt_X9_isAnotherWanted : yMt yX9_isAnotherWanted cX9_isAnotherWanted 3 (some .boolean) 0 := ⟨yt_in 1091 (by decide +kernel) rfl, yt_in 8 (by decide +kernel) rfl, by decide, by decide, by decide +kernel⟩
theorem mi_X9_isAnotherWanted : Cond.instanceMethod yX9_isAnotherWanted ∈ yTs := yt_in 1090 (by decide +kernel) rfl
theorem mv_X9_isAnotherWanted : yMv yX9_isAnotherWanted := ⟨mi_X9_isAnotherWanted, yt_sel 55 (by decide +kernel) rfl⟩
theorem mt_X9_perhapsEnd : yMt yX9_perhapsEnd cX9_perhapsEnd 4 none 0 := ⟨yt_in 1087 (by decide +kernel) rfl, yt_in 8 (by decide +kernel) rfl, by decide, by decide, by decide +kernel⟩
theorem mi_X9_perhapsEnd : Cond.instanceMethod yX9_perhapsEnd ∈ yTs := yt_in 1086 (by decide +kernel) rfl
theorem mv_X9_perhapsEnd : yMv yX9_perhapsEnd := ⟨mi_X9_perhapsEnd, yt_sel 54 (by decide +kernel) rfl⟩
theorem mt_X9_perhapsBegin : yMt yX9_perhapsBegin cX9_perhapsBegin 4 none 0 := ⟨yt_in 1099 (by decide +kernel) rfl, yt_in 8 (by decide +kernel) rfl, by decide, by decide, by decide +kernel⟩
theorem mi_X9_perhapsBegin : Cond.instanceMethod yX9_perhapsBegin ∈ yTs := yt_in 1098 (by decide +kernel) rfl
theorem mv_X9_perhapsBegin : yMv yX9_perhapsBegin := ⟨mi_X9_perhapsBegin, yt_sel 57 (by decide +kernel) rfl⟩
theorem mt_X9_pass : yMt yX9_pass cX9_pass 4 (some .boolean) 0 := ⟨yt_in 1035 (by decide +kernel) rfl, yt_in 8 (by decide +kernel) rfl, by decide, by decide, by decide +kernel⟩
theorem mi_X9_pass : Cond.instanceMethod yX9_pass ∈ yTs := yt_in 1034 (by decide +kernel) rfl
theorem mv_X9_pass : yMv yX9_pass := ⟨mi_X9_pass, yt_sel 41 (by decide +kernel) rfl⟩
theorem mt_X9_second : yMt yX9_second cX9_second 4 (some .int) 1 := ⟨yt_in 1031 (by decide +kernel) rfl, yt_in 8 (by decide +kernel) rfl, by decide, by decide, by decide +kernel⟩
theorem mi_X9_second : Cond.instanceMethod yX9_second ∈ yTs := yt_in 1029 (by decide +kernel) rfl
theorem mv_X9_second : yMv yX9_second := ⟨mi_X9_second, yt_in 1030 (by decide +kernel) rfl⟩
theorem mt_X9_restore : yMt yX9_restore cX9_restore 2 (some .int) 0 := ⟨yt_in 1115 (by decide +kernel) rfl, yt_in 8 (by decide +kernel) rfl, by decide, by decide, by decide +kernel⟩
theorem mi_X9_restore : Cond.instanceMethod yX9_restore ∈ yTs := yt_in 1113 (by decide +kernel) rfl
theorem mv_X9_restore : yMv yX9_restore := ⟨mi_X9_restore, yt_in 1114 (by decide +kernel) rfl⟩
theorem mt_X9_light : yMt yX9_light cX9_light 2 (some .int) 1 := ⟨yt_in 1119 (by decide +kernel) rfl, yt_in 8 (by decide +kernel) rfl, by decide, by decide, by decide +kernel⟩
theorem mi_X9_light : Cond.instanceMethod yX9_light ∈ yTs := yt_in 1117 (by decide +kernel) rfl
theorem mv_X9_light : yMv yX9_light := ⟨mi_X9_light, yt_in 1118 (by decide +kernel) rfl⟩
theorem mt_X9_was : yMt yX9_was cX9_was 3 (some .int) 2 := ⟨yt_in 1123 (by decide +kernel) rfl, yt_in 8 (by decide +kernel) rfl, by decide, by decide, by decide +kernel⟩
theorem mi_X9_was : Cond.instanceMethod yX9_was ∈ yTs := yt_in 1121 (by decide +kernel) rfl
theorem mv_X9_was : yMv yX9_was := ⟨mi_X9_was, yt_in 1122 (by decide +kernel) rfl⟩
theorem mt_X9_stageOf : yMt yX9_stageOf cX9_stageOf 2 (some .int) 1 := ⟨yt_in 1127 (by decide +kernel) rfl, yt_in 8 (by decide +kernel) rfl, by decide, by decide, by decide +kernel⟩
theorem mi_X9_stageOf : Cond.instanceMethod yX9_stageOf ∈ yTs := yt_in 1125 (by decide +kernel) rfl
theorem mv_X9_stageOf : yMv yX9_stageOf := ⟨mi_X9_stageOf, yt_in 1126 (by decide +kernel) rfl⟩
theorem mt_X9_place : yMt yX9_place cX9_place 3 (some .int) 2 := ⟨yt_in 1131 (by decide +kernel) rfl, yt_in 8 (by decide +kernel) rfl, by decide, by decide, by decide +kernel⟩
theorem mi_X9_place : Cond.instanceMethod yX9_place ∈ yTs := yt_in 1129 (by decide +kernel) rfl
theorem mv_X9_place : yMv yX9_place := ⟨mi_X9_place, yt_in 1130 (by decide +kernel) rfl⟩
theorem mt_X9_told : yMt yX9_told cX9_told 3 (some .int) 2 := ⟨yt_in 1135 (by decide +kernel) rfl, yt_in 8 (by decide +kernel) rfl, by decide, by decide, by decide +kernel⟩
theorem mi_X9_told : Cond.instanceMethod yX9_told ∈ yTs := yt_in 1133 (by decide +kernel) rfl
theorem mv_X9_told : yMv yX9_told := ⟨mi_X9_told, yt_in 1134 (by decide +kernel) rfl⟩
theorem mt_X9_length : yMt yX9_length cX9_length 2 (some .int) 1 := ⟨yt_in 1139 (by decide +kernel) rfl, yt_in 8 (by decide +kernel) rfl, by decide, by decide, by decide +kernel⟩
theorem mi_X9_length : Cond.instanceMethod yX9_length ∈ yTs := yt_in 1137 (by decide +kernel) rfl
theorem mv_X9_length : yMv yX9_length := ⟨mi_X9_length, yt_in 1138 (by decide +kernel) rfl⟩
theorem mt_X9_bound : yMt yX9_bound cX9_bound 6 (some .int) 0 := ⟨yt_in 1143 (by decide +kernel) rfl, yt_in 8 (by decide +kernel) rfl, by decide, by decide, by decide +kernel⟩
theorem mi_X9_bound : Cond.instanceMethod yX9_bound ∈ yTs := yt_in 1141 (by decide +kernel) rfl
theorem mv_X9_bound : yMv yX9_bound := ⟨mi_X9_bound, yt_in 1142 (by decide +kernel) rfl⟩
theorem mt_X9_count : yMt yX9_count cX9_count 2 (some .int) 1 := ⟨yt_in 1147 (by decide +kernel) rfl, yt_in 8 (by decide +kernel) rfl, by decide, by decide, by decide +kernel⟩
theorem mi_X9_count : Cond.instanceMethod yX9_count ∈ yTs := yt_in 1145 (by decide +kernel) rfl
theorem mv_X9_count : yMv yX9_count := ⟨mi_X9_count, yt_in 1146 (by decide +kernel) rfl⟩
theorem mt_X9_finding : yMt yX9_finding cX9_finding 2 (some .int) 1 := ⟨yt_in 1151 (by decide +kernel) rfl, yt_in 8 (by decide +kernel) rfl, by decide, by decide, by decide +kernel⟩
theorem mi_X9_finding : Cond.instanceMethod yX9_finding ∈ yTs := yt_in 1149 (by decide +kernel) rfl
theorem mv_X9_finding : yMv yX9_finding := ⟨mi_X9_finding, yt_in 1150 (by decide +kernel) rfl⟩
theorem mt_X9_fault : yMt yX9_fault cX9_fault 2 (some .int) 1 := ⟨yt_in 1155 (by decide +kernel) rfl, yt_in 8 (by decide +kernel) rfl, by decide, by decide, by decide +kernel⟩
theorem mi_X9_fault : Cond.instanceMethod yX9_fault ∈ yTs := yt_in 1153 (by decide +kernel) rfl
theorem mv_X9_fault : yMv yX9_fault := ⟨mi_X9_fault, yt_in 1154 (by decide +kernel) rfl⟩
theorem mt_X9_trace : yMt yX9_trace cX9_trace 1 (some .int) 0 := ⟨yt_in 1159 (by decide +kernel) rfl, yt_in 8 (by decide +kernel) rfl, by decide, by decide, by decide +kernel⟩
theorem mi_X9_trace : Cond.instanceMethod yX9_trace ∈ yTs := yt_in 1157 (by decide +kernel) rfl
theorem mv_X9_trace : yMv yX9_trace := ⟨mi_X9_trace, yt_in 1158 (by decide +kernel) rfl⟩
theorem mt_J9_floorMod_7cf53 : yMt yJ9_floorMod_7cf53 cJ9_floorMod_7cf53 3 (some .int) 2 := ⟨yt_in 664 (by decide +kernel) rfl, yt_in 11 (by decide +kernel) rfl, by decide, by decide, by decide +kernel⟩
theorem ms_J9_floorMod_7cf53 : Cond.static yJ9_floorMod_7cf53 ∈ yTs := yt_in 663 (by decide +kernel) rfl
theorem mt_J9_max_7cf53 : yMt yJ9_max_7cf53 cJ9_max_7cf53 2 (some .int) 2 := ⟨yt_in 275 (by decide +kernel) rfl, yt_in 11 (by decide +kernel) rfl, by decide, by decide, by decide +kernel⟩
theorem ms_J9_max_7cf53 : Cond.static yJ9_max_7cf53 ∈ yTs := yt_in 274 (by decide +kernel) rfl
theorem mt_J9_min_7cf53 : yMt yJ9_min_7cf53 cJ9_min_7cf53 2 (some .int) 2 := ⟨yt_in 306 (by decide +kernel) rfl, yt_in 11 (by decide +kernel) rfl, by decide, by decide, by decide +kernel⟩
theorem ms_J9_min_7cf53 : Cond.static yJ9_min_7cf53 ∈ yTs := yt_in 305 (by decide +kernel) rfl
theorem mt_Jxa1e45_init_da8c8 : yMt yJxa1e45_init_da8c8 cJxa1e45_init_da8c8 1 none 0 := ⟨yt_in 38 (by decide +kernel) rfl, yt_in 2 (by decide +kernel) rfl, by decide, by decide, by decide +kernel⟩
theorem mi_Jxa1e45_init_da8c8 : Cond.instanceMethod yJxa1e45_init_da8c8 ∈ yTs := yt_in 37 (by decide +kernel) rfl
theorem mt_Jxc12de_init_da8c8 : yMt yJxc12de_init_da8c8 cJxc12de_init_da8c8 1 none 0 := ⟨yt_in 35 (by decide +kernel) rfl, yt_in 3 (by decide +kernel) rfl, by decide, by decide, by decide +kernel⟩
theorem mi_Jxc12de_init_da8c8 : Cond.instanceMethod yJxc12de_init_da8c8 ∈ yTs := yt_in 34 (by decide +kernel) rfl
theorem mt_Jx4a65c_init_da8c8 : yMt yJx4a65c_init_da8c8 cJx4a65c_init_da8c8 1 none 0 := ⟨yt_in 32 (by decide +kernel) rfl, yt_in 4 (by decide +kernel) rfl, by decide, by decide, by decide +kernel⟩
theorem mi_Jx4a65c_init_da8c8 : Cond.instanceMethod yJx4a65c_init_da8c8 ∈ yTs := yt_in 31 (by decide +kernel) rfl
theorem mt_Jx4a65c_grow_92f84 : yMt yJx4a65c_grow_92f84 cJx4a65c_grow_92f84 4 (some (.array (.object "java/lang/Object"))) 1 := ⟨yt_in 269 (by decide +kernel) rfl, yt_in 4 (by decide +kernel) rfl, by decide, by decide, by decide +kernel⟩
theorem mi_Jx4a65c_grow_92f84 : Cond.instanceMethod yJx4a65c_grow_92f84 ∈ yTs := yt_in 268 (by decide +kernel) rfl
theorem mv_Jx4a65c_grow_92f84 : yMv yJx4a65c_grow_92f84 := ⟨mi_Jx4a65c_grow_92f84, yt_sel 2 (by decide +kernel) rfl⟩
theorem mt_Jx4a65c_grow_d5877 : yMt yJx4a65c_grow_d5877 cJx4a65c_grow_d5877 1 (some (.array (.object "java/lang/Object"))) 0 := ⟨yt_in 265 (by decide +kernel) rfl, yt_in 4 (by decide +kernel) rfl, by decide, by decide, by decide +kernel⟩
theorem mi_Jx4a65c_grow_d5877 : Cond.instanceMethod yJx4a65c_grow_d5877 ∈ yTs := yt_in 264 (by decide +kernel) rfl
theorem mv_Jx4a65c_grow_d5877 : yMv yJx4a65c_grow_d5877 := ⟨mi_Jx4a65c_grow_d5877, yt_sel 1 (by decide +kernel) rfl⟩
theorem mt_Jx4a65c_size_8abf5 : yMt yJx4a65c_size_8abf5 cJx4a65c_size_8abf5 1 (some .int) 0 := ⟨yt_in 167 (by decide +kernel) rfl, yt_in 4 (by decide +kernel) rfl, by decide, by decide, by decide +kernel⟩
theorem mi_Jx4a65c_size_8abf5 : Cond.instanceMethod yJx4a65c_size_8abf5 ∈ yTs := yt_in 165 (by decide +kernel) rfl
theorem mv_Jx4a65c_size_8abf5 : yMv yJx4a65c_size_8abf5 := ⟨mi_Jx4a65c_size_8abf5, yt_in 166 (by decide +kernel) rfl⟩
theorem mt_Jx4a65c_elementData_915e3 : yMt yJx4a65c_elementData_915e3 cJx4a65c_elementData_915e3 2 (some (.object "java/lang/Object")) 1 := ⟨yt_in 333 (by decide +kernel) rfl, yt_in 4 (by decide +kernel) rfl, by decide, by decide, by decide +kernel⟩
theorem mi_Jx4a65c_elementData_915e3 : Cond.instanceMethod yJx4a65c_elementData_915e3 ∈ yTs := yt_in 331 (by decide +kernel) rfl
theorem mv_Jx4a65c_elementData_915e3 : yMv yJx4a65c_elementData_915e3 := ⟨mi_Jx4a65c_elementData_915e3, yt_in 332 (by decide +kernel) rfl⟩
theorem mt_Jx4a65c_get_915e3 : yMt yJx4a65c_get_915e3 cJx4a65c_get_915e3 2 (some (.object "java/lang/Object")) 1 := ⟨yt_in 323 (by decide +kernel) rfl, yt_in 4 (by decide +kernel) rfl, by decide, by decide, by decide +kernel⟩
theorem mi_Jx4a65c_get_915e3 : Cond.instanceMethod yJx4a65c_get_915e3 ∈ yTs := yt_in 321 (by decide +kernel) rfl
theorem mv_Jx4a65c_get_915e3 : yMv yJx4a65c_get_915e3 := ⟨mi_Jx4a65c_get_915e3, yt_in 322 (by decide +kernel) rfl⟩
theorem mt_Jx4a65c_add_72be8 : yMt yJx4a65c_add_72be8 cJx4a65c_add_72be8 4 none 3 := ⟨yt_in 261 (by decide +kernel) rfl, yt_in 4 (by decide +kernel) rfl, by decide, by decide, by decide +kernel⟩
theorem mi_Jx4a65c_add_72be8 : Cond.instanceMethod yJx4a65c_add_72be8 ∈ yTs := yt_in 260 (by decide +kernel) rfl
theorem mv_Jx4a65c_add_72be8 : yMv yJx4a65c_add_72be8 := ⟨mi_Jx4a65c_add_72be8, yt_sel 0 (by decide +kernel) rfl⟩
theorem mt_Jx4a65c_add_9ea2d : yMt yJx4a65c_add_9ea2d cJx4a65c_add_9ea2d 2 (some .boolean) 1 := ⟨yt_in 257 (by decide +kernel) rfl, yt_in 4 (by decide +kernel) rfl, by decide, by decide, by decide +kernel⟩
theorem mi_Jx4a65c_add_9ea2d : Cond.instanceMethod yJx4a65c_add_9ea2d ∈ yTs := yt_in 255 (by decide +kernel) rfl
theorem mv_Jx4a65c_add_9ea2d : yMv yJx4a65c_add_9ea2d := ⟨mi_Jx4a65c_add_9ea2d, yt_in 256 (by decide +kernel) rfl⟩
theorem mt_Jx4a65c_remove_915e3 : yMt yJx4a65c_remove_915e3 cJx4a65c_remove_915e3 4 (some (.object "java/lang/Object")) 1 := ⟨yt_in 519 (by decide +kernel) rfl, yt_in 4 (by decide +kernel) rfl, by decide, by decide, by decide +kernel⟩
theorem mi_Jx4a65c_remove_915e3 : Cond.instanceMethod yJx4a65c_remove_915e3 ∈ yTs := yt_in 517 (by decide +kernel) rfl
theorem mv_Jx4a65c_remove_915e3 : yMv yJx4a65c_remove_915e3 := ⟨mi_Jx4a65c_remove_915e3, yt_in 518 (by decide +kernel) rfl⟩
theorem mt_Jx4a65c_fastRemove_b59b0 : yMt yJx4a65c_fastRemove_b59b0 cJx4a65c_fastRemove_b59b0 4 none 2 := ⟨yt_in 523 (by decide +kernel) rfl, yt_in 4 (by decide +kernel) rfl, by decide, by decide, by decide +kernel⟩
theorem mi_Jx4a65c_fastRemove_b59b0 : Cond.instanceMethod yJx4a65c_fastRemove_b59b0 ∈ yTs := yt_in 522 (by decide +kernel) rfl
theorem mv_Jx4a65c_fastRemove_b59b0 : yMv yJx4a65c_fastRemove_b59b0 := ⟨mi_Jx4a65c_fastRemove_b59b0, yt_sel 7 (by decide +kernel) rfl⟩
theorem mt_J7_copyOf_1904c : yMt yJ7_copyOf_1904c cJ7_copyOf_1904c 2 (some (.array (.object "java/lang/Object"))) 2 := ⟨yt_in 282 (by decide +kernel) rfl, yt_in 12 (by decide +kernel) rfl, by decide, by decide, by decide +kernel⟩
theorem ms_J7_copyOf_1904c : Cond.static yJ7_copyOf_1904c ∈ yTs := yt_in 281 (by decide +kernel) rfl
theorem mt_J7_copyOf_6403c : yMt yJ7_copyOf_6403c cJ7_copyOf_6403c 4 (some (.array (.object "java/lang/Object"))) 3 := ⟨yt_in 300 (by decide +kernel) rfl, yt_in 12 (by decide +kernel) rfl, by decide, by decide, by decide +kernel⟩
theorem ms_J7_copyOf_6403c : Cond.static yJ7_copyOf_6403c ∈ yTs := yt_in 299 (by decide +kernel) rfl
theorem mt_J15_checkIndex_7cf53 : yMt yJ15_checkIndex_7cf53 cJ15_checkIndex_7cf53 2 (some .int) 2 := ⟨yt_in 326 (by decide +kernel) rfl, yt_in 14 (by decide +kernel) rfl, by decide, by decide, by decide +kernel⟩
theorem ms_J15_checkIndex_7cf53 : Cond.static yJ15_checkIndex_7cf53 ∈ yTs := yt_in 325 (by decide +kernel) rfl
theorem mt_J8_newLength_cabcc : yMt yJ8_newLength_cabcc cJ8_newLength_cabcc 4 (some .int) 3 := ⟨yt_in 272 (by decide +kernel) rfl, yt_in 10 (by decide +kernel) rfl, by decide, by decide, by decide +kernel⟩
theorem ms_J8_newLength_cabcc : Cond.static yJ8_newLength_cabcc ∈ yTs := yt_in 271 (by decide +kernel) rfl
theorem mt_J8_hugeLength_7cf53 : yMt yJ8_hugeLength_7cf53 cJ8_hugeLength_7cf53 3 (some .int) 2 := ⟨yt_in 279 (by decide +kernel) rfl, yt_in 10 (by decide +kernel) rfl, by decide, by decide, by decide +kernel⟩
theorem ms_J8_hugeLength_7cf53 : Cond.static yJ8_hugeLength_7cf53 ∈ yTs := yt_in 278 (by decide +kernel) rfl
theorem mt_J3_checkIndex_8e157 : yMt yJ3_checkIndex_8e157 cJ3_checkIndex_8e157 3 (some .int) 3 := ⟨yt_in 329 (by decide +kernel) rfl, yt_in 15 (by decide +kernel) rfl, by decide, by decide, by decide +kernel⟩
theorem ms_J3_checkIndex_8e157 : Cond.static yJ3_checkIndex_8e157 ∈ yTs := yt_in 328 (by decide +kernel) rfl
theorem ml_X8_1 : Cond.methodLink RX8 1 objectInit ∈ yTs := yt_in 25 (by decide +kernel) rfl
theorem ml_X8_9 : Cond.methodLink RX8 9 yJx4a65c_init_da8c8 ∈ yTs := yt_in 30 (by decide +kernel) rfl
theorem ml_X8_75 : Cond.methodLink RX8 75 yJx4a65c_size_8abf5 ∈ yTs := yt_in 164 (by decide +kernel) rfl
theorem ml_X8_81 : Cond.methodLink RX8 81 yX6_init ∈ yTs := yt_in 170 (by decide +kernel) rfl
theorem ml_X8_84 : Cond.methodLink RX8 84 yJx4a65c_add_9ea2d ∈ yTs := yt_in 254 (by decide +kernel) rfl
theorem ml_X8_91 : Cond.methodLink RX8 91 yX8_phaseAt ∈ yTs := yt_in 316 (by decide +kernel) rfl
theorem ml_X8_95 : Cond.methodLink RX8 95 yX8_isWithin ∈ yTs := yt_in 334 (by decide +kernel) rfl
theorem ml_X8_99 : Cond.methodLink RX8 99 yJx4a65c_get_915e3 ∈ yTs := yt_in 320 (by decide +kernel) rfl
theorem ml_X8_105 : Cond.methodLink RX8 105 yX7_hasPhase ∈ yTs := yt_in 338 (by decide +kernel) rfl
theorem ml_X8_109 : Cond.methodLink RX8 109 yX6_setClearing ∈ yTs := yt_in 342 (by decide +kernel) rfl
theorem ml_X8_113 : Cond.methodLink RX8 113 yX7_init ∈ yTs := yt_in 351 (by decide +kernel) rfl
theorem ml_X8_116 : Cond.methodLink RX8 116 yX7_putPhase ∈ yTs := yt_in 366 (by decide +kernel) rfl
theorem ml_X8_120 : Cond.methodLink RX8 120 yX7_isEmpty ∈ yTs := yt_in 370 (by decide +kernel) rfl
theorem ml_X8_124 : Cond.methodLink RX8 124 yX7_hasConflict ∈ yTs := yt_in 374 (by decide +kernel) rfl
theorem ml_X8_130 : Cond.methodLink RX8 130 yX1_init ∈ yTs := yt_in 388 (by decide +kernel) rfl
theorem ml_X8_136 : Cond.methodLink RX8 136 yX8_detectorAt ∈ yTs := yt_in 413 (by decide +kernel) rfl
theorem ml_X8_140 : Cond.methodLink RX8 140 yX1_isCutOff ∈ yTs := yt_in 417 (by decide +kernel) rfl
theorem ml_X8_143 : Cond.methodLink RX8 143 yX1_cutOff ∈ yTs := yt_in 421 (by decide +kernel) rfl
theorem ml_X8_146 : Cond.methodLink RX8 146 yX1_addPlace ∈ yTs := yt_in 429 (by decide +kernel) rfl
theorem ml_X8_154 : Cond.methodLink RX8 154 yX4_init ∈ yTs := yt_in 440 (by decide +kernel) rfl
theorem ml_X8_163 : Cond.methodLink RX8 163 yX5_init ∈ yTs := yt_in 471 (by decide +kernel) rfl
theorem ml_X8_166 : Cond.methodLink RX8 166 yX6_isAsked ∈ yTs := yt_in 492 (by decide +kernel) rfl
theorem ml_X8_175 : Cond.methodLink RX8 175 yX8_stageAt ∈ yTs := yt_in 500 (by decide +kernel) rfl
theorem ml_X8_185 : Cond.methodLink RX8 185 yX8_doOrders ∈ yTs := yt_in 508 (by decide +kernel) rfl
theorem ml_X8_188 : Cond.methodLink RX8 188 yX8_runLights ∈ yTs := yt_in 525 (by decide +kernel) rfl
theorem ml_X8_191 : Cond.methodLink RX8 191 yX8_flashIfDue ∈ yTs := yt_in 701 (by decide +kernel) rfl
theorem ml_X8_194 : Cond.methodLink RX8 194 yX8_keepLights ∈ yTs := yt_in 709 (by decide +kernel) rfl
theorem ml_X8_200 : Cond.methodLink RX8 200 yX8_changeAllLights ∈ yTs := yt_in 705 (by decide +kernel) rfl
theorem ml_X8_203 : Cond.methodLink RX8 203 yX6_lightBehind ∈ yTs := yt_in 734 (by decide +kernel) rfl
theorem ml_X8_207 : Cond.methodLink RX8 207 yX8_numberOf ∈ yTs := yt_in 742 (by decide +kernel) rfl
theorem ml_X8_211 : Cond.methodLink RX8 211 yX8_nextStage ∈ yTs := yt_in 658 (by decide +kernel) rfl
theorem ml_X8_215 : Cond.methodLink RX8 215 yX7_phaseIn ∈ yTs := yt_in 749 (by decide +kernel) rfl
theorem ml_X8_218 : Cond.methodLink RX8 218 yX3_add ∈ yTs := yt_in 561 (by decide +kernel) rfl
theorem ml_X8_250 : Cond.methodLink RX8 250 yX7_greatestGreen ∈ yTs := yt_in 695 (by decide +kernel) rfl
theorem ml_X8_253 : Cond.methodLink RX8 253 yJ9_max_7cf53 ∈ yTs := yt_in 649 (by decide +kernel) rfl
theorem ml_X8_259 : Cond.methodLink RX8 259 yX6_greatestClearing ∈ yTs := yt_in 765 (by decide +kernel) rfl
theorem ml_X8_262 : Cond.methodLink RX8 262 yX3_howMany ∈ yTs := yt_in 774 (by decide +kernel) rfl
theorem ml_X8_281 : Cond.methodLink RX8 281 yX4_changeTable ∈ yTs := yt_in 512 (by decide +kernel) rfl
theorem ml_X8_284 : Cond.methodLink RX8 284 yJx4a65c_remove_915e3 ∈ yTs := yt_in 516 (by decide +kernel) rfl
theorem ml_X8_287 : Cond.methodLink RX8 287 yX8_readPhases ∈ yTs := yt_in 529 (by decide +kernel) rfl
theorem ml_X8_290 : Cond.methodLink RX8 290 yX8_lookAtPairs ∈ yTs := yt_in 602 (by decide +kernel) rfl
theorem ml_X8_293 : Cond.methodLink RX8 293 yX8_faultToMeet ∈ yTs := yt_in 616 (by decide +kernel) rfl
theorem ml_X8_296 : Cond.methodLink RX8 296 yX8_meetFault ∈ yTs := yt_in 628 (by decide +kernel) rfl
theorem ml_X8_299 : Cond.methodLink RX8 299 yX8_endsIn ∈ yTs := yt_in 654 (by decide +kernel) rfl
theorem ml_X8_303 : Cond.methodLink RX8 303 yX8_endStage ∈ yTs := yt_in 674 (by decide +kernel) rfl
theorem ml_X8_307 : Cond.methodLink RX8 307 yX8_endAmbers ∈ yTs := yt_in 678 (by decide +kernel) rfl
theorem ml_X8_310 : Cond.methodLink RX8 310 yX7_mayBeGreen ∈ yTs := yt_in 682 (by decide +kernel) rfl
theorem ml_X8_314 : Cond.methodLink RX8 314 yX8_beginStage ∈ yTs := yt_in 686 (by decide +kernel) rfl
theorem ml_X8_317 : Cond.methodLink RX8 317 yX6_keepLight ∈ yTs := yt_in 713 (by decide +kernel) rfl
theorem ml_X8_320 : Cond.methodLink RX8 320 yX8_holdsIn ∈ yTs := yt_in 533 (by decide +kernel) rfl
theorem ml_X8_327 : Cond.methodLink RX8 327 yX8_asksIn ∈ yTs := yt_in 574 (by decide +kernel) rfl
theorem ml_X8_330 : Cond.methodLink RX8 330 yX0_holdsOf ∈ yTs := yt_in 537 (by decide +kernel) rfl
theorem ml_X8_333 : Cond.methodLink RX8 333 yX8_rowsUntil ∈ yTs := yt_in 557 (by decide +kernel) rfl
theorem ml_X8_337 : Cond.methodLink RX8 337 yX1_passingsAt ∈ yTs := yt_in 569 (by decide +kernel) rfl
theorem ml_X8_340 : Cond.methodLink RX8 340 yX1_occupiedAt ∈ yTs := yt_in 578 (by decide +kernel) rfl
theorem ml_X8_343 : Cond.methodLink RX8 343 yX0_asksOf ∈ yTs := yt_in 582 (by decide +kernel) rfl
theorem ml_X8_346 : Cond.methodLink RX8 346 yX1_reaches ∈ yTs := yt_in 565 (by decide +kernel) rfl
theorem ml_X8_349 : Cond.methodLink RX8 349 yX7_isHeld ∈ yTs := yt_in 670 (by decide +kernel) rfl
theorem ml_X8_356 : Cond.methodLink RX8 356 yX8_changeLight ∈ yTs := yt_in 636 (by decide +kernel) rfl
theorem ml_X8_360 : Cond.methodLink RX8 360 yX8_setEnd ∈ yTs := yt_in 644 (by decide +kernel) rfl
theorem ml_X8_363 : Cond.methodLink RX8 363 yX6_clearingTo ∈ yTs := yt_in 648 (by decide +kernel) rfl
theorem ml_X8_367 : Cond.methodLink RX8 367 yX7_leastGreen ∈ yTs := yt_in 690 (by decide +kernel) rfl
theorem ml_X8_370 : Cond.methodLink RX8 370 yJ9_floorMod_7cf53 ∈ yTs := yt_in 662 (by decide +kernel) rfl
theorem ml_X8_373 : Cond.methodLink RX8 373 yX7_firstAsked ∈ yTs := yt_in 665 (by decide +kernel) rfl
theorem ml_X8_376 : Cond.methodLink RX8 376 yX8_gapOf ∈ yTs := yt_in 640 (by decide +kernel) rfl
theorem ml_X8_380 : Cond.methodLink RX8 380 yX5_lookAt ∈ yTs := yt_in 606 (by decide +kernel) rfl
theorem ml_X8_383 : Cond.methodLink RX8 383 yX6_isLit ∈ yTs := yt_in 620 (by decide +kernel) rfl
theorem ml_X8_386 : Cond.methodLink RX8 386 yX5_isBroken ∈ yTs := yt_in 624 (by decide +kernel) rfl
theorem ml_X8_389 : Cond.methodLink RX8 389 yX2_meet ∈ yTs := yt_in 632 (by decide +kernel) rfl
theorem ml_X8_392 : Cond.methodLink RX8 392 yX5_beginAnew ∈ yTs := yt_in 650 (by decide +kernel) rfl
theorem ml_X0_3 : Cond.methodLink RX0 3 objectInit ∈ yTs := yt_in 105 (by decide +kernel) rfl
theorem ml_X0_15 : Cond.methodLink RX0 15 yX0_asksAsCar ∈ yTs := yt_in 586 (by decide +kernel) rfl
theorem ml_X0_19 : Cond.methodLink RX0 19 yX0_asksAsTurn ∈ yTs := yt_in 590 (by decide +kernel) rfl
theorem ml_X0_22 : Cond.methodLink RX0 22 yX0_asksAsWalk ∈ yTs := yt_in 594 (by decide +kernel) rfl
theorem ml_X0_26 : Cond.methodLink RX0 26 yX0_asksAsTram ∈ yTs := yt_in 598 (by decide +kernel) rfl
theorem ml_X0_29 : Cond.methodLink RX0 29 yX0_holdsAsCar ∈ yTs := yt_in 541 (by decide +kernel) rfl
theorem ml_X0_32 : Cond.methodLink RX0 32 yX0_holdsAsWalk ∈ yTs := yt_in 545 (by decide +kernel) rfl
theorem ml_X0_36 : Cond.methodLink RX0 36 yX0_holdsAsTram ∈ yTs := yt_in 549 (by decide +kernel) rfl
theorem ml_X0_39 : Cond.methodLink RX0 39 yX0_holdsAsRest ∈ yTs := yt_in 553 (by decide +kernel) rfl
theorem ml_X1_3 : Cond.methodLink RX1 3 objectInit ∈ yTs := yt_in 391 (by decide +kernel) rfl
theorem ml_X1_26 : Cond.methodLink RX1 26 yX1_isCutOff ∈ yTs := yt_in 433 (by decide +kernel) rfl
theorem ml_X1_30 : Cond.methodLink RX1 30 yX1_reaches ∈ yTs := yt_in 573 (by decide +kernel) rfl
theorem ml_X2_3 : Cond.methodLink RX2 3 objectInit ∈ yTs := yt_in 78 (by decide +kernel) rfl
theorem ml_X3_3 : Cond.methodLink RX3 3 objectInit ∈ yTs := yt_in 59 (by decide +kernel) rfl
theorem ml_X4_1 : Cond.methodLink RX4 1 objectInit ∈ yTs := yt_in 443 (by decide +kernel) rfl
theorem ml_X5_1 : Cond.methodLink RX5 1 objectInit ∈ yTs := yt_in 474 (by decide +kernel) rfl
theorem ml_X5_23 : Cond.methodLink RX5 23 yX5_differIn ∈ yTs := yt_in 610 (by decide +kernel) rfl
theorem ml_X5_27 : Cond.methodLink RX5 27 yX1_reaches ∈ yTs := yt_in 614 (by decide +kernel) rfl
theorem ml_X5_32 : Cond.methodLink RX5 32 yX1_passingsAt ∈ yTs := yt_in 615 (by decide +kernel) rfl
theorem ml_X6_3 : Cond.methodLink RX6 3 objectInit ∈ yTs := yt_in 173 (by decide +kernel) rfl
theorem ml_X6_69 : Cond.methodLink RX6 69 yJ9_max_7cf53 ∈ yTs := yt_in 769 (by decide +kernel) rfl
theorem ml_X6_75 : Cond.methodLink RX6 75 yJ9_floorMod_7cf53 ∈ yTs := yt_in 717 (by decide +kernel) rfl
theorem ml_X7_3 : Cond.methodLink RX7 3 objectInit ∈ yTs := yt_in 354 (by decide +kernel) rfl
theorem ml_X7_21 : Cond.methodLink RX7 21 yX6_clearingTo ∈ yTs := yt_in 378 (by decide +kernel) rfl
theorem ml_X7_28 : Cond.methodLink RX7 28 yJ9_max_7cf53 ∈ yTs := yt_in 694 (by decide +kernel) rfl
theorem ml_X7_37 : Cond.methodLink RX7 37 yJ9_min_7cf53 ∈ yTs := yt_in 699 (by decide +kernel) rfl
theorem ml_X7_40 : Cond.methodLink RX7 40 yX7_leastGreen ∈ yTs := yt_in 700 (by decide +kernel) rfl
theorem ml_X7_48 : Cond.methodLink RX7 48 yX6_isAsked ∈ yTs := yt_in 669 (by decide +kernel) rfl
theorem ml_L_9 : Cond.methodLink RL 9 yX8_init ∈ yTs := yt_in 22 (by decide +kernel) rfl
theorem ml_L_12 : Cond.methodLink RL 12 yX9_init ∈ yTs := yt_in 792 (by decide +kernel) rfl
theorem ml_L_13 : Cond.methodLink RL 13 yX8_phase ∈ yTs := yt_in 160 (by decide +kernel) rfl
theorem ml_L_17 : Cond.methodLink RL 17 yX9_phase ∈ yTs := yt_in 957 (by decide +kernel) rfl
theorem ml_L_18 : Cond.methodLink RL 18 yX8_conflict ∈ yTs := yt_in 312 (by decide +kernel) rfl
theorem ml_L_22 : Cond.methodLink RL 22 yX9_conflict ∈ yTs := yt_in 964 (by decide +kernel) rfl
theorem ml_L_23 : Cond.methodLink RL 23 yX8_stage ∈ yTs := yt_in 346 (by decide +kernel) rfl
theorem ml_L_26 : Cond.methodLink RL 26 yX9_stage ∈ yTs := yt_in 976 (by decide +kernel) rfl
theorem ml_L_27 : Cond.methodLink RL 27 yX8_detector ∈ yTs := yt_in 382 (by decide +kernel) rfl
theorem ml_L_30 : Cond.methodLink RL 30 yX9_detector ∈ yTs := yt_in 984 (by decide +kernel) rfl
theorem ml_L_31 : Cond.methodLink RL 31 yX8_cut ∈ yTs := yt_in 409 (by decide +kernel) rfl
theorem ml_L_34 : Cond.methodLink RL 34 yX9_cut ∈ yTs := yt_in 988 (by decide +kernel) rfl
theorem ml_L_35 : Cond.methodLink RL 35 yX8_passing ∈ yTs := yt_in 425 (by decide +kernel) rfl
theorem ml_L_39 : Cond.methodLink RL 39 yX9_passing ∈ yTs := yt_in 996 (by decide +kernel) rfl
theorem ml_L_40 : Cond.methodLink RL 40 yX8_table ∈ yTs := yt_in 434 (by decide +kernel) rfl
theorem ml_L_44 : Cond.methodLink RL 44 yX9_table ∈ yTs := yt_in 1000 (by decide +kernel) rfl
theorem ml_L_45 : Cond.methodLink RL 45 yX8_lamp ∈ yTs := yt_in 461 (by decide +kernel) rfl
theorem ml_L_49 : Cond.methodLink RL 49 yX9_lamp ∈ yTs := yt_in 1004 (by decide +kernel) rfl
theorem ml_L_50 : Cond.methodLink RL 50 yX8_pair ∈ yTs := yt_in 465 (by decide +kernel) rfl
theorem ml_L_53 : Cond.methodLink RL 53 yX9_pair ∈ yTs := yt_in 1008 (by decide +kernel) rfl
theorem ml_L_54 : Cond.methodLink RL 54 yX8_ask ∈ yTs := yt_in 488 (by decide +kernel) rfl
theorem ml_L_57 : Cond.methodLink RL 57 yX9_ask ∈ yTs := yt_in 1012 (by decide +kernel) rfl
theorem ml_L_58 : Cond.methodLink RL 58 yX8_hurry ∈ yTs := yt_in 496 (by decide +kernel) rfl
theorem ml_L_61 : Cond.methodLink RL 61 yX9_hurry ∈ yTs := yt_in 1016 (by decide +kernel) rfl
theorem ml_L_62 : Cond.methodLink RL 62 yX8_second ∈ yTs := yt_in 504 (by decide +kernel) rfl
theorem ml_L_65 : Cond.methodLink RL 65 yX9_second ∈ yTs := yt_in 1028 (by decide +kernel) rfl
theorem ml_L_66 : Cond.methodLink RL 66 yX8_alarm ∈ yTs := yt_in 718 (by decide +kernel) rfl
theorem ml_L_70 : Cond.methodLink RL 70 yX9_alarm ∈ yTs := yt_in 1024 (by decide +kernel) rfl
theorem ml_L_71 : Cond.methodLink RL 71 yX8_restore ∈ yTs := yt_in 722 (by decide +kernel) rfl
theorem ml_L_74 : Cond.methodLink RL 74 yX9_restore ∈ yTs := yt_in 1112 (by decide +kernel) rfl
theorem ml_L_75 : Cond.methodLink RL 75 yX8_light ∈ yTs := yt_in 726 (by decide +kernel) rfl
theorem ml_L_78 : Cond.methodLink RL 78 yX9_light ∈ yTs := yt_in 1116 (by decide +kernel) rfl
theorem ml_L_79 : Cond.methodLink RL 79 yX8_was ∈ yTs := yt_in 730 (by decide +kernel) rfl
theorem ml_L_83 : Cond.methodLink RL 83 yX9_was ∈ yTs := yt_in 1120 (by decide +kernel) rfl
theorem ml_L_84 : Cond.methodLink RL 84 yX8_stageOf ∈ yTs := yt_in 738 (by decide +kernel) rfl
theorem ml_L_87 : Cond.methodLink RL 87 yX9_stageOf ∈ yTs := yt_in 1124 (by decide +kernel) rfl
theorem ml_L_88 : Cond.methodLink RL 88 yX8_place ∈ yTs := yt_in 745 (by decide +kernel) rfl
theorem ml_L_91 : Cond.methodLink RL 91 yX9_place ∈ yTs := yt_in 1128 (by decide +kernel) rfl
theorem ml_L_92 : Cond.methodLink RL 92 yX8_told ∈ yTs := yt_in 753 (by decide +kernel) rfl
theorem ml_L_95 : Cond.methodLink RL 95 yX9_told ∈ yTs := yt_in 1132 (by decide +kernel) rfl
theorem ml_L_96 : Cond.methodLink RL 96 yX8_length ∈ yTs := yt_in 757 (by decide +kernel) rfl
theorem ml_L_99 : Cond.methodLink RL 99 yX9_length ∈ yTs := yt_in 1136 (by decide +kernel) rfl
theorem ml_L_100 : Cond.methodLink RL 100 yX8_bound ∈ yTs := yt_in 761 (by decide +kernel) rfl
theorem ml_L_103 : Cond.methodLink RL 103 yX9_bound ∈ yTs := yt_in 1140 (by decide +kernel) rfl
theorem ml_L_104 : Cond.methodLink RL 104 yX8_count ∈ yTs := yt_in 770 (by decide +kernel) rfl
theorem ml_L_107 : Cond.methodLink RL 107 yX9_count ∈ yTs := yt_in 1144 (by decide +kernel) rfl
theorem ml_L_108 : Cond.methodLink RL 108 yX8_finding ∈ yTs := yt_in 778 (by decide +kernel) rfl
theorem ml_L_111 : Cond.methodLink RL 111 yX9_finding ∈ yTs := yt_in 1148 (by decide +kernel) rfl
theorem ml_L_112 : Cond.methodLink RL 112 yX8_fault ∈ yTs := yt_in 782 (by decide +kernel) rfl
theorem ml_L_115 : Cond.methodLink RL 115 yX9_fault ∈ yTs := yt_in 1152 (by decide +kernel) rfl
theorem ml_L_116 : Cond.methodLink RL 116 yX8_trace ∈ yTs := yt_in 786 (by decide +kernel) rfl
theorem ml_L_119 : Cond.methodLink RL 119 yX9_trace ∈ yTs := yt_in 1156 (by decide +kernel) rfl
theorem ml_X9_1 : Cond.methodLink RX9 1 objectInit ∈ yTs := yt_in 795 (by decide +kernel) rfl
theorem ml_X9_123 : Cond.methodLink RX9 123 yX9_in ∈ yTs := yt_in 961 (by decide +kernel) rfl
theorem ml_X9_136 : Cond.methodLink RX9 136 yX9_isPhase ∈ yTs := yt_in 968 (by decide +kernel) rfl
theorem ml_X9_140 : Cond.methodLink RX9 140 yX9_has ∈ yTs := yt_in 972 (by decide +kernel) rfl
theorem ml_X9_144 : Cond.methodLink RX9 144 yX9_meets ∈ yTs := yt_in 980 (by decide +kernel) rfl
theorem ml_X9_147 : Cond.methodLink RX9 147 yX9_isDetector ∈ yTs := yt_in 992 (by decide +kernel) rfl
theorem ml_X9_156 : Cond.methodLink RX9 156 yX9_isStage ∈ yTs := yt_in 1020 (by decide +kernel) rfl
theorem ml_X9_169 : Cond.methodLink RX9 169 yX9_found ∈ yTs := yt_in 1048 (by decide +kernel) rfl
theorem ml_X9_176 : Cond.methodLink RX9 176 yX9_readAt ∈ yTs := yt_in 1060 (by decide +kernel) rfl
theorem ml_X9_180 : Cond.methodLink RX9 180 yX9_asksOfCar ∈ yTs := yt_in 1068 (by decide +kernel) rfl
theorem ml_X9_183 : Cond.methodLink RX9 183 yX9_gapOf ∈ yTs := yt_in 1044 (by decide +kernel) rfl
theorem ml_X9_192 : Cond.methodLink RX9 192 yX9_leastOf ∈ yTs := yt_in 1104 (by decide +kernel) rfl
theorem ml_X9_195 : Cond.methodLink RX9 195 yX9_askedFirst ∈ yTs := yt_in 1092 (by decide +kernel) rfl
theorem ml_X9_198 : Cond.methodLink RX9 198 yX9_doesHold ∈ yTs := yt_in 1056 (by decide +kernel) rfl
theorem ml_X9_201 : Cond.methodLink RX9 201 yX9_doesAsk ∈ yTs := yt_in 1064 (by decide +kernel) rfl
theorem ml_X9_213 : Cond.methodLink RX9 213 yX9_change ∈ yTs := yt_in 1040 (by decide +kernel) rfl
theorem ml_X9_216 : Cond.methodLink RX9 216 yX9_endsIn ∈ yTs := yt_in 1080 (by decide +kernel) rfl
theorem ml_X9_219 : Cond.methodLink RX9 219 yX9_isAnotherWanted ∈ yTs := yt_in 1088 (by decide +kernel) rfl
theorem ml_X9_229 : Cond.methodLink RX9 229 yX9_next ∈ yTs := yt_in 1100 (by decide +kernel) rfl
theorem ml_X9_233 : Cond.methodLink RX9 233 yX9_greatestOf ∈ yTs := yt_in 1108 (by decide +kernel) rfl
theorem ml_X9_236 : Cond.methodLink RX9 236 yX9_doOrders ∈ yTs := yt_in 1036 (by decide +kernel) rfl
theorem ml_X9_239 : Cond.methodLink RX9 239 yX9_readAll ∈ yTs := yt_in 1052 (by decide +kernel) rfl
theorem ml_X9_242 : Cond.methodLink RX9 242 yX9_faultNow ∈ yTs := yt_in 1072 (by decide +kernel) rfl
theorem ml_X9_245 : Cond.methodLink RX9 245 yX9_meetFault ∈ yTs := yt_in 1076 (by decide +kernel) rfl
theorem ml_X9_249 : Cond.methodLink RX9 249 yX9_perhapsEnd ∈ yTs := yt_in 1084 (by decide +kernel) rfl
theorem ml_X9_252 : Cond.methodLink RX9 252 yX9_perhapsBegin ∈ yTs := yt_in 1096 (by decide +kernel) rfl
theorem ml_X9_255 : Cond.methodLink RX9 255 yX9_pass ∈ yTs := yt_in 1032 (by decide +kernel) rfl
theorem ml_Jxa1e45_1 : Cond.methodLink RJxa1e45 1 objectInit ∈ yTs := yt_in 39 (by decide +kernel) rfl
theorem ml_Jxc12de_1 : Cond.methodLink RJxc12de 1 yJxa1e45_init_da8c8 ∈ yTs := yt_in 36 (by decide +kernel) rfl
theorem ml_Jx4a65c_1 : Cond.methodLink RJx4a65c 1 yJxc12de_init_da8c8 ∈ yTs := yt_in 33 (by decide +kernel) rfl
theorem ml_Jx4a65c_66 : Cond.methodLink RJx4a65c 66 yJ7_copyOf_1904c ∈ yTs := yt_in 280 (by decide +kernel) rfl
theorem ml_Jx4a65c_69 : Cond.methodLink RJx4a65c 69 yJx4a65c_grow_92f84 ∈ yTs := yt_in 266 (by decide +kernel) rfl
theorem ml_Jx4a65c_73 : Cond.methodLink RJx4a65c 73 yJ8_newLength_cabcc ∈ yTs := yt_in 270 (by decide +kernel) rfl
theorem ml_Jx4a65c_79 : Cond.methodLink RJx4a65c 79 yJ9_max_7cf53 ∈ yTs := yt_in 310 (by decide +kernel) rfl
theorem ml_Jx4a65c_118 : Cond.methodLink RJx4a65c 118 yJ15_checkIndex_7cf53 ∈ yTs := yt_in 324 (by decide +kernel) rfl
theorem ml_Jx4a65c_123 : Cond.methodLink RJx4a65c 123 yJx4a65c_elementData_915e3 ∈ yTs := yt_in 330 (by decide +kernel) rfl
theorem ml_Jx4a65c_129 : Cond.methodLink RJx4a65c 129 yJx4a65c_grow_d5877 ∈ yTs := yt_in 262 (by decide +kernel) rfl
theorem ml_Jx4a65c_131 : Cond.methodLink RJx4a65c 131 yJx4a65c_add_72be8 ∈ yTs := yt_in 258 (by decide +kernel) rfl
theorem ml_Jx4a65c_144 : Cond.methodLink RJx4a65c 144 yJx4a65c_fastRemove_b59b0 ∈ yTs := yt_in 520 (by decide +kernel) rfl
theorem ml_J7_300 : Cond.methodLink RJ7 300 yJ7_copyOf_6403c ∈ yTs := yt_in 298 (by decide +kernel) rfl
theorem ml_J7_304 : Cond.methodLink RJ7 304 yJ9_min_7cf53 ∈ yTs := yt_in 304 (by decide +kernel) rfl
theorem ml_J15_105 : Cond.methodLink RJ15 105 yJ3_checkIndex_8e157 ∈ yTs := yt_in 327 (by decide +kernel) rfl
theorem ml_J8_194 : Cond.methodLink RJ8 194 yJ9_max_7cf53 ∈ yTs := yt_in 273 (by decide +kernel) rfl
theorem ml_J8_201 : Cond.methodLink RJ8 201 yJ8_hugeLength_7cf53 ∈ yTs := yt_in 277 (by decide +kernel) rfl
theorem oi_i : Cond.instanceMethod objectInit ∈ yTs := yt_in 26 (by decide +kernel) rfl
theorem oi_c : Cond.code objectInit ⟨#[0xb1]⟩ 1 none ∈ yTs := yt_in 27 (by decide +kernel) rfl
theorem ac_int : Cond.arrayClass .int ∈ yTs := yt_in 72 (by decide +kernel) rfl
theorem ac_byte : Cond.arrayClass .byte ∈ yTs := yt_in 407 (by decide +kernel) rfl
theorem ac_short : Cond.arrayClass .short ∈ yTs := yt_in 408 (by decide +kernel) rfl
theorem ac_boolean : Cond.arrayClass .boolean ∈ yTs := yt_in 956 (by decide +kernel) rfl
end
section
/-! the reference: its state is a map of numbers, S k j: of its field k the place j (a field that is no array: place 0) -/
abbrev yS : Type := Nat → Nat → Int32
def mL : Nat → Nat
  | 2 => 8
  | 3 => 8
  | 4 => 8
  | 5 => 8
  | 6 => 8
  | 7 => 8
  | 8 => 8
  | 9 => 8
  | 10 => 8
  | 11 => 8
  | 12 => 8
  | 13 => 8
  | 14 => 8
  | 15 => 8
  | 16 => 64
  | 18 => 24
  | 20 => 12
  | 21 => 2400
  | 22 => 2400
  | 24 => 16
  | 25 => 16
  | 26 => 16
  | 27 => 16
  | 28 => 16
  | 30 => 6
  | 31 => 6
  | 32 => 6
  | 33 => 6
  | 46 => 5
  | 51 => 488
  | 52 => 4
  | _ => 0
def mA : Nat → Bool
  | 2 => true
  | 3 => true
  | 4 => true
  | 5 => true
  | 6 => true
  | 7 => true
  | 8 => true
  | 9 => true
  | 10 => true
  | 11 => true
  | 12 => true
  | 13 => true
  | 14 => true
  | 15 => true
  | 16 => true
  | 18 => true
  | 20 => true
  | 21 => true
  | 22 => true
  | 24 => true
  | 25 => true
  | 26 => true
  | 27 => true
  | 28 => true
  | 30 => true
  | 31 => true
  | 32 => true
  | 33 => true
  | 46 => true
  | 51 => true
  | 52 => true
  | _ => false
def mT : Nat → Nat
  | 14 => 3
  | 15 => 3
  | _ => 0
def mV (ad : Nat → Nat) (S : yS) (k : Nat) : Value := if mA k = true then .ref (ad k) else .int (S k 0)
def mF (ad : Nat → Nat) (S : yS) : List Value := (List.range 53).map (mV ad S)
def mset (S : yS) (k j : Nat) (v : Int32) : yS := va_up S k (upd (S k) j v)
theorem mset_same (S : yS) (k j : Nat) (v : Int32) : mset S k j v k j = v := by simp [mset, va_up, upd]
theorem mset_row (S : yS) (k j : Nat) (v : Int32) : mset S k j v k = upd (S k) j v := by simp [mset, va_up]
theorem mset_at (S : yS) (k j i : Nat) (v : Int32) : mset S k j v k i = if i = j then v else S k i := by simp [mset, va_up, upd]
theorem mset_ne (S : yS) {k j k' : Nat} (v : Int32) (h : k' ≠ k) : mset S k j v k' = S k' := by simp [mset, va_up, h]
/-- the reference's object at m0, its arrays at ad -/
def yMR (dA : Nat → ClassId) (ad : Nat → Nat) (m0 : Nat) (S : yS) (h : yH) : Prop :=
  h m0 = some (.inr (10, mF ad S)) ∧ (∀ k, k < 53 → mA k = true → h (ad k) = some (.inl (dA (mT k), mL k, .inl (S k)))) ∧ (∀ j k, j < 53 → k < 53 → mA j = true → mA k = true → ad j = ad k → j = k)
theorem mF_get {ad : Nat → Nat} {S : yS} {k : Nat} (hk : k < 53) : (mF ad S)[k]? = some (mV ad S k) := by
  unfold mF
  rw [List.getElem?_map, List.getElem?_range hk]
  rfl
theorem mF_len {ad : Nat → Nat} {S : yS} : (mF ad S).length = 53 := by unfold mF; rw [List.length_map, List.length_range]
theorem mF_set {ad : Nat → Nat} {S : yS} {k : Nat} {v : Int32} (hk : k < 53) (ha : mA k = false) : (mF ad S).set k (.int v) = mF ad (mset S k 0 v) := by
  apply List.ext_getElem?
  intro j
  by_cases hj : j < 53
  · rw [mF_get hj]
    by_cases e : k = j
    · subst e
      rw [List.getElem?_set_self (by rw [mF_len]; exact hk)]
      simp [mV, ha, mset_same]
    · rw [List.getElem?_set_ne e, mF_get hj]
      have : j ≠ k := fun q => e q.symm
      simp only [mV, mset_ne S v this]
  · rw [List.getElem?_eq_none (by rw [List.length_set, mF_len]; omega), List.getElem?_eq_none (by rw [mF_len]; omega)]
theorem mF_arr {ad : Nat → Nat} {S : yS} {k j : Nat} {v : Int32} (ha : mA k = true) : mF ad (mset S k j v) = mF ad S := by
  unfold mF
  refine List.map_congr_left (fun i _ => ?_)
  unfold mV
  by_cases e : i = k
  · subst e
    rw [if_pos ha, if_pos ha]
  · rw [mset_ne S v e]
theorem yMR_put {dA : Nat → ClassId} {ad : Nat → Nat} {m0 : Nat} {S : yS} {h : yH} (hR : yMR dA ad m0 S h) {k : Nat} {v : Int32} (hk : k < 53) (ha : mA k = false) : yMR dA ad m0 (mset S k 0 v) (va_up h m0 (some (.inr (10, (mF ad S).set k (.int v))))) := by
  obtain ⟨h1, h2, h3⟩ := hR
  refine ⟨by rw [mF_set hk ha]; simp [va_up], fun j hj hja => ?_, h3⟩
  have e : j ≠ k := fun q => by subst q; rw [ha] at hja; cases hja
  have e2 : ad j ≠ m0 := fun q => by
    have := h2 j hj hja
    rw [q, h1] at this
    cases this
  rw [mset_ne S v e]
  simp only [va_up, if_neg e2]
  exact h2 j hj hja
theorem yMR_ast {dA : Nat → ClassId} {ad : Nat → Nat} {m0 : Nat} {S : yS} {h : yH} (hR : yMR dA ad m0 S h) {k i : Nat} {v : Int32} (hk : k < 53) (ha : mA k = true) : yMR dA ad m0 (mset S k i v) (va_up h (ad k) (some (.inl (dA (mT k), mL k, .inl (upd (S k) i v))))) := by
  obtain ⟨h1, h2, h3⟩ := hR
  have e0 : ad k ≠ m0 := fun q => by
    have := h2 k hk ha
    rw [q, h1] at this
    cases this
  refine ⟨by rw [mF_arr ha]; simp only [va_up, if_neg (Ne.symm e0)]; exact h1, fun j hj hja => ?_, h3⟩
  by_cases e : j = k
  · subst e
    rw [mset_row]
    simp [va_up]
  · have e2 : ad j ≠ ad k := fun q => e (h3 j k hj hk hja ha q)
    rw [mset_ne S v e]
    simp only [va_up, if_neg e2]
    exact h2 j hj hja
theorem yd_fitZ {v : Int32} (h : v = 0 ∨ v = 1) : fits .boolean (.int v) = true := by rcases h with rfl | rfl <;> rfl
theorem yd_vpZ {v : Int32} (h : v = 0 ∨ v = 1) : vp_nar .boolean v = v := by rcases h with rfl | rfl <;> rfl
section MRows
variable {Z : (Nat → Prop) → State → Prop} {D : va_G} {dA : Nat → ClassId} {p : Program} {l : Launch} {e : Env} {R : Room} {s : State} {m : MethodId} {args : Array Value} {below : List Frame} {meth : Method} {c : Code} {cc : ByteArray} {nL : Nat} {own : String} {A : Nat → Prop} {cells slots : Nat} {Q : State → Prop} {pc : Nat} {lv : List (Option Value)} {st : List Value} {h : yH}
variable {ad : Nat → Nat} {m0 : Nat} {S : yS}
theorem ym_get (pc2 : Nat) (C : yC Z D dA p s m args meth c cc nL own A) (hR : yMR dA ad m0 S h) {k idx : Nat} (d : decode cc pc = .ok (.getfield idx, 3)) (hl : yFl own idx 10 k) (hk : k < 53) (ha : mA k = false) (hp : pc + 3 = pc2) (kk : yW p l e R s m args below meth c nL D A cells slots Q pc2 lv (.int (S k 0) :: st) (h)) : yW p l e R s m args below meth c nL D A cells slots Q pc lv (.ref m0 :: st) (h) := yr_get pc2 C d hl hR.1 (by rw [mF_get hk]; simp only [mV, ha]; rfl) hp kk
theorem ym_getA (pc2 : Nat) (C : yC Z D dA p s m args meth c cc nL own A) (hR : yMR dA ad m0 S h) {k idx : Nat} (d : decode cc pc = .ok (.getfield idx, 3)) (hl : yFl own idx 10 k) (hk : k < 53) (ha : mA k = true) (hp : pc + 3 = pc2) (kk : yW p l e R s m args below meth c nL D A cells slots Q pc2 lv (.ref (ad k) :: st) (h)) : yW p l e R s m args below meth c nL D A cells slots Q pc lv (.ref m0 :: st) (h) := yr_get pc2 C d hl hR.1 (by rw [mF_get hk]; simp only [mV, ha]; rfl) hp kk
theorem ym_put (pc2 : Nat) (C : yC Z D dA p s m args meth c cc nL own A) (hR : yMR dA ad m0 S h) {k idx : Nat} {v : Int32} (d : decode cc pc = .ok (.putfield idx, 3)) (hl : yFp own idx 10 k .int false) (hk : k < 53) (ha : mA k = false) (hp : pc + 3 = pc2) (kk : ∀ h : yH, yMR dA ad m0 (mset S k 0 v) h → yW p l e R s m args below meth c nL D A cells slots Q pc2 lv (st) (h)) : yW p l e R s m args below meth c nL D A cells slots Q pc lv (.int v :: .ref m0 :: st) (h) := yr_put pc2 C d hl hR.1 (by rw [mF_len]; exact hk) rfl rfl hp (kk _ (yMR_put hR hk ha))
theorem ym_putZ (pc2 : Nat) (C : yC Z D dA p s m args meth c cc nL own A) (hR : yMR dA ad m0 S h) {k idx : Nat} {v : Int32} (d : decode cc pc = .ok (.putfield idx, 3)) (hl : yFp own idx 10 k .boolean false) (hk : k < 53) (ha : mA k = false) (hv : v = 0 ∨ v = 1) (hp : pc + 3 = pc2) (kk : ∀ h : yH, yMR dA ad m0 (mset S k 0 v) h → yW p l e R s m args below meth c nL D A cells slots Q pc2 lv (st) (h)) : yW p l e R s m args below meth c nL D A cells slots Q pc lv (.int v :: .ref m0 :: st) (h) := yr_put pc2 C d hl hR.1 (by rw [mF_len]; exact hk) (yd_narZ hv) (yd_fitZ hv) hp (kk _ (yMR_put hR hk ha))
theorem ym_ald (pc2 : Nat) (C : yC Z D dA p s m args meth c cc nL own A) (hR : yMR dA ad m0 S h) {k : Nat} {i : Int32} (d : decode cc pc = .ok (.iaload, 1)) (hk : k < 53) (ha : mA k = true) (ht : mT k = 0) (hin : vp_in i (mL k)) (hp : pc + 1 = pc2) (kk : yW p l e R s m args below meth c nL D A cells slots Q pc2 lv (.int (S k i.toNatClampNeg) :: st) (h)) : yW p l e R s m args below meth c nL D A cells slots Q pc lv (.int i :: .ref (ad k) :: st) (h) := yr_iald pc2 C d (by have q := hR.2.1 k hk ha; rw [ht] at q; exact q) hin hp kk
theorem ym_zald (pc2 : Nat) (C : yC Z D dA p s m args meth c cc nL own A) (hR : yMR dA ad m0 S h) {k : Nat} {i : Int32} (d : decode cc pc = .ok (.baload, 1)) (hk : k < 53) (ha : mA k = true) (ht : mT k = 3) (hin : vp_in i (mL k)) (hp : pc + 1 = pc2) (kk : yW p l e R s m args below meth c nL D A cells slots Q pc2 lv (.int (S k i.toNatClampNeg) :: st) (h)) : yW p l e R s m args below meth c nL D A cells slots Q pc lv (.int i :: .ref (ad k) :: st) (h) := yr_zald pc2 C d (by have q := hR.2.1 k hk ha; rw [ht] at q; exact q) hin hp kk
theorem ym_ast (pc2 : Nat) (C : yC Z D dA p s m args meth c cc nL own A) (hR : yMR dA ad m0 S h) {k : Nat} {i x : Int32} (d : decode cc pc = .ok (.iastore, 1)) (hk : k < 53) (ha : mA k = true) (ht : mT k = 0) (hin : vp_in i (mL k)) (hp : pc + 1 = pc2) (kk : ∀ h : yH, yMR dA ad m0 (mset S k i.toNatClampNeg x) h → yW p l e R s m args below meth c nL D A cells slots Q pc2 lv (st) (h)) : yW p l e R s m args below meth c nL D A cells slots Q pc lv (.int x :: .int i :: .ref (ad k) :: st) (h) := yr_iast pc2 C d (by have q := hR.2.1 k hk ha; rw [ht] at q; exact q) hin hp (kk _ (by have q := yMR_ast hR (i := i.toNatClampNeg) (v := x) hk ha; rw [ht] at q; exact q))
theorem ym_zast (pc2 : Nat) (C : yC Z D dA p s m args meth c cc nL own A) (hR : yMR dA ad m0 S h) {k : Nat} {i x : Int32} (d : decode cc pc = .ok (.bastore, 1)) (hk : k < 53) (ha : mA k = true) (ht : mT k = 3) (hin : vp_in i (mL k)) (hx : x = 0 ∨ x = 1) (hp : pc + 1 = pc2) (kk : ∀ h : yH, yMR dA ad m0 (mset S k i.toNatClampNeg x) h → yW p l e R s m args below meth c nL D A cells slots Q pc2 lv (st) (h)) : yW p l e R s m args below meth c nL D A cells slots Q pc lv (.int x :: .int i :: .ref (ad k) :: st) (h) := yr_zast pc2 C d (by have q := hR.2.1 k hk ha; rw [ht] at q; exact q) hin hp (kk _ (by rw [yd_vpZ hx]; have q := yMR_ast hR (i := i.toNatClampNeg) (v := x) hk ha; rw [ht] at q; exact q))
end MRows
end
section
def bI (b : Bool) : Int32 := cond b 1 0
theorem bI_or (b : Bool) : bI b = 0 ∨ bI b = 1 := by cases b <;> simp [bI]
theorem bI_0 {b : Bool} : bI b = 0 ↔ b = false := by cases b <;> simp [bI]
theorem bI_1 {b : Bool} : ¬ bI b = 0 ↔ b = true := by cases b <;> simp [bI]
section BRows
variable {Z : (Nat → Prop) → State → Prop} {D : va_G} {dA : Nat → ClassId} {p : Program} {l : Launch} {e : Env} {R : Room} {s : State} {m : MethodId} {args : Array Value} {below : List Frame} {meth : Method} {c : Code} {cc : ByteArray} {nL : Nat} {own : String} {A : Nat → Prop} {cells slots : Nat} {Q : State → Prop} {pc : Nat} {lv : List (Option Value)} {st : List Value} {h : yH}
theorem yb_eq (tgt pc2 : Nat) (C : yC Z D dA p s m args meth c cc nL own A) {x : Bool} {off : Int} (d : decode cc pc = .ok (.ifCond .eq off, 3)) (ht : (pc : Int) + off = (tgt : Int)) (hp : pc + 3 = pc2) (kt : x = false → yW p l e R s m args below meth c nL D A cells slots Q tgt lv (st) (h)) (kf : x = true → yW p l e R s m args below meth c nL D A cells slots Q pc2 lv (st) (h)) : yW p l e R s m args below meth c nL D A cells slots Q pc lv (.int (bI x) :: st) (h) := yr_if_eq tgt pc2 C d ht hp (fun q => kt (bI_0.mp q)) (fun q => kf (bI_1.mp q))
theorem yb_ne (tgt pc2 : Nat) (C : yC Z D dA p s m args meth c cc nL own A) {x : Bool} {off : Int} (d : decode cc pc = .ok (.ifCond .ne off, 3)) (ht : (pc : Int) + off = (tgt : Int)) (hp : pc + 3 = pc2) (kt : x = true → yW p l e R s m args below meth c nL D A cells slots Q tgt lv (st) (h)) (kf : x = false → yW p l e R s m args below meth c nL D A cells slots Q pc2 lv (st) (h)) : yW p l e R s m args below meth c nL D A cells slots Q pc lv (.int (bI x) :: st) (h) := yr_if_ne tgt pc2 C d ht hp (fun q => kt (bI_1.mp q)) (fun q => kf (bI_0.mp q))
end BRows
theorem mL_lt (k : Nat) : mL k < 2 ^ 31 := by unfold mL; split <;> decide
section NRows
variable {Z : (Nat → Prop) → State → Prop} {D : va_G} {dA : Nat → ClassId} {p : Program} {l : Launch} {e : Env} {R : Room} {s : State} {m : MethodId} {args : Array Value} {below : List Frame} {meth : Method} {c : Code} {cc : ByteArray} {nL : Nat} {own : String} {A : Nat → Prop} {cells slots : Nat} {Q : State → Prop} {pc : Nat} {lv : List (Option Value)} {st : List Value} {h : yH}
variable {ad : Nat → Nat} {m0 : Nat} {S : yS}
theorem ym_aldN (pc2 : Nat) (C : yC Z D dA p s m args meth c cc nL own A) (hR : yMR dA ad m0 S h) {k i : Nat} (d : decode cc pc = .ok (.iaload, 1)) (hk : k < 53) (ha : mA k = true) (ht : mT k = 0) (hi : i < mL k) (hp : pc + 1 = pc2) (kk : yW p l e R s m args below meth c nL D A cells slots Q pc2 lv (.int (S k i) :: st) (h)) : yW p l e R s m args below meth c nL D A cells slots Q pc lv (.int (nI i) :: .ref (ad k) :: st) (h) := by
  refine ym_ald pc2 C hR d hk ha ht (vp_in_nI hi (mL_lt k)) hp ?_
  rw [nI_clamp (Nat.lt_trans hi (mL_lt k))]
  exact kk
theorem ym_astN (pc2 : Nat) (C : yC Z D dA p s m args meth c cc nL own A) (hR : yMR dA ad m0 S h) {k i : Nat} {x : Int32} (d : decode cc pc = .ok (.iastore, 1)) (hk : k < 53) (ha : mA k = true) (ht : mT k = 0) (hi : i < mL k) (hp : pc + 1 = pc2) (kk : ∀ h : yH, yMR dA ad m0 (mset S k i x) h → yW p l e R s m args below meth c nL D A cells slots Q pc2 lv (st) (h)) : yW p l e R s m args below meth c nL D A cells slots Q pc lv (.int x :: .int (nI i) :: .ref (ad k) :: st) (h) := by
  refine ym_ast pc2 C hR d hk ha ht (vp_in_nI hi (mL_lt k)) hp (fun h hR => ?_)
  rw [nI_clamp (Nat.lt_trans hi (mL_lt k))] at hR
  exact kk h hR
theorem ym_zaldN (pc2 : Nat) (C : yC Z D dA p s m args meth c cc nL own A) (hR : yMR dA ad m0 S h) {k i : Nat} (d : decode cc pc = .ok (.baload, 1)) (hk : k < 53) (ha : mA k = true) (ht : mT k = 3) (hi : i < mL k) (hp : pc + 1 = pc2) (kk : yW p l e R s m args below meth c nL D A cells slots Q pc2 lv (.int (S k i) :: st) (h)) : yW p l e R s m args below meth c nL D A cells slots Q pc lv (.int (nI i) :: .ref (ad k) :: st) (h) := by
  refine ym_zald pc2 C hR d hk ha ht (vp_in_nI hi (mL_lt k)) hp ?_
  rw [nI_clamp (Nat.lt_trans hi (mL_lt k))]
  exact kk
theorem ym_zastN (pc2 : Nat) (C : yC Z D dA p s m args meth c cc nL own A) (hR : yMR dA ad m0 S h) {k i : Nat} {x : Int32} (d : decode cc pc = .ok (.bastore, 1)) (hk : k < 53) (ha : mA k = true) (ht : mT k = 3) (hi : i < mL k) (hx : x = 0 ∨ x = 1) (hp : pc + 1 = pc2) (kk : ∀ h : yH, yMR dA ad m0 (mset S k i x) h → yW p l e R s m args below meth c nL D A cells slots Q pc2 lv (st) (h)) : yW p l e R s m args below meth c nL D A cells slots Q pc lv (.int x :: .int (nI i) :: .ref (ad k) :: st) (h) := by
  refine ym_zast pc2 C hR d hk ha ht (vp_in_nI hi (mL_lt k)) hx hp (fun h hR => ?_)
  rw [nI_clamp (Nat.lt_trans hi (mL_lt k))] at hR
  exact kk h hR
end NRows

/-! the reference's methods as functions -/
def m_in (v lo hi : Int32) : Bool := !decide (v < lo) && !decide (hi < v)
def m_isP (S : yS) (p : Int32) : Bool := m_in p 0 (S 1 0 - 1)
def m_isS (S : yS) (p : Int32) : Bool := m_in p 0 (S 17 0 - 1)
def m_isD (S : yS) (p : Int32) : Bool := m_in p 0 (S 19 0 - 1)
def m_found (S : yS) (a : Nat) (p : Int32) : yS := mset (mset (mset S 46 a (S 46 a + 1)) 47 0 (nI a)) 48 0 p
section M1
variable {Z : (Nat → Prop) → State → Prop} {D : va_G} {dA : Nat → ClassId} {ad : Nat → Nat} {m0 : Nat} {S : yS}
set_option maxHeartbeats 4000000 in
set_option maxRecDepth 100000 in
theorem mc_in (hZ : yZok D dA Z) (v lo hi : Int32)  (h : yH) : yM Z D yX9_in cX9_in 3 (some .boolean) 0 0 0 [.int v, .int lo, .int hi] h (fun r h' => r = some (.int (bI (m_in v lo hi))) ∧ h' = h) := by
  refine yM_of hZ (by decide) rfl (Nat.le_of_ble_eq_true rfl) ?_
  intro p l e s m args below meth c A C hr hin
  show yW p l e (yR 0 0 0) s m args below meth c 3 D A 0 0 _ 0 [some (.int v), some (.int lo), some (.int hi)] [] h
  refine yr_iload_n 1 C dX9_in_0 rfl rfl ?_
  refine yr_iload_n 2 C dX9_in_1 rfl rfl ?_
  refine yr_icmp_lt 14 5 C dX9_in_2 (by decide) rfl (fun c2 => ?_) (fun c2 => ?_)
  · refine yr_iconst 15 C (0) dX9_in_14 rfl rfl ?_
    refine yr_zret C dX9_in_15 hr ?_ (Nat.le_of_ble_eq_true rfl) (Nat.le_of_ble_eq_true rfl) ?_
    · decide
    exact ⟨by simp [m_in, bI, *], rfl⟩
  · refine yr_iload_n 6 C dX9_in_5 rfl rfl ?_
    refine yr_iload_n 7 C dX9_in_6 rfl rfl ?_
    refine yr_icmp_gt 14 10 C dX9_in_7 (by decide) rfl (fun c7 => ?_) (fun c7 => ?_)
    · refine yr_iconst 15 C (0) dX9_in_14 rfl rfl ?_
      refine yr_zret C dX9_in_15 hr ?_ (Nat.le_of_ble_eq_true rfl) (Nat.le_of_ble_eq_true rfl) ?_
      · decide
      exact ⟨by simp [m_in, bI, *], rfl⟩
    · refine yr_iconst 11 C (1) dX9_in_10 rfl rfl ?_
      refine yr_goto 15 C dX9_in_11 (by decide) ?_
      refine yr_zret C dX9_in_15 hr ?_ (Nat.le_of_ble_eq_true rfl) (Nat.le_of_ble_eq_true rfl) ?_
      · decide
      exact ⟨by simp [m_in, bI, *], rfl⟩
set_option maxHeartbeats 4000000 in
set_option maxRecDepth 100000 in
theorem mc_isPhase (hZ : yZok D dA Z) (q : Int32)  (h : yH) (hR : yMR dA ad m0 (S) h) : yM Z D yX9_isPhase cX9_isPhase 2 (some .boolean) 1 0 0 [.ref m0, .int q] h (fun r h' => r = some (.int (bI (m_isP S q))) ∧ yMR dA ad m0 (S) h') := by
  refine yM_of hZ (by decide) rfl (Nat.le_of_ble_eq_true rfl) ?_
  intro p l e s m args below meth c A C hr hin
  show yW p l e (yR 1 0 0) s m args below meth c 2 D A 0 0 _ 0 [some (.ref m0), some (.int q)] [] h
  refine yr_iload_n 1 C dX9_isPhase_0 rfl rfl ?_
  refine yr_iconst 2 C (0) dX9_isPhase_1 rfl rfl ?_
  refine yr_aload_n 3 C dX9_isPhase_2 rfl rfl rfl ?_
  refine ym_get 6 C hR dX9_isPhase_3 fl_X9_120 (by decide) rfl rfl ?_
  refine yr_iconst 7 C (1) dX9_isPhase_6 rfl rfl ?_
  refine yr_isub 8 C dX9_isPhase_7 rfl ?_
  refine yr_S3v 11 C (mc_in hZ _ _ _ _) dX9_isPhase_8 mt_X9_in ms_X9_in ml_X9_123 (Nat.le_of_ble_eq_true rfl) (Nat.le_of_ble_eq_true rfl) (Nat.le_of_ble_eq_true rfl) (Nat.le_of_ble_eq_true rfl) (Nat.le_of_ble_eq_true rfl) rfl (fun h e => ?_)
  subst e
  refine yr_zret C dX9_isPhase_11 hr ?_ (Nat.le_of_ble_eq_true rfl) (Nat.le_of_ble_eq_true rfl) ?_
  · exact bI_or _
  exact ⟨rfl, hR⟩
set_option maxHeartbeats 4000000 in
set_option maxRecDepth 100000 in
theorem mc_isStage (hZ : yZok D dA Z) (q : Int32)  (h : yH) (hR : yMR dA ad m0 (S) h) : yM Z D yX9_isStage cX9_isStage 2 (some .boolean) 1 0 0 [.ref m0, .int q] h (fun r h' => r = some (.int (bI (m_isS S q))) ∧ yMR dA ad m0 (S) h') := by
  refine yM_of hZ (by decide) rfl (Nat.le_of_ble_eq_true rfl) ?_
  intro p l e s m args below meth c A C hr hin
  show yW p l e (yR 1 0 0) s m args below meth c 2 D A 0 0 _ 0 [some (.ref m0), some (.int q)] [] h
  refine yr_iload_n 1 C dX9_isStage_0 rfl rfl ?_
  refine yr_iconst 2 C (0) dX9_isStage_1 rfl rfl ?_
  refine yr_aload_n 3 C dX9_isStage_2 rfl rfl rfl ?_
  refine ym_get 6 C hR dX9_isStage_3 fl_X9_127 (by decide) rfl rfl ?_
  refine yr_iconst 7 C (1) dX9_isStage_6 rfl rfl ?_
  refine yr_isub 8 C dX9_isStage_7 rfl ?_
  refine yr_S3v 11 C (mc_in hZ _ _ _ _) dX9_isStage_8 mt_X9_in ms_X9_in ml_X9_123 (Nat.le_of_ble_eq_true rfl) (Nat.le_of_ble_eq_true rfl) (Nat.le_of_ble_eq_true rfl) (Nat.le_of_ble_eq_true rfl) (Nat.le_of_ble_eq_true rfl) rfl (fun h e => ?_)
  subst e
  refine yr_zret C dX9_isStage_11 hr ?_ (Nat.le_of_ble_eq_true rfl) (Nat.le_of_ble_eq_true rfl) ?_
  · exact bI_or _
  exact ⟨rfl, hR⟩
set_option maxHeartbeats 4000000 in
set_option maxRecDepth 100000 in
theorem mc_isDetector (hZ : yZok D dA Z) (q : Int32)  (h : yH) (hR : yMR dA ad m0 (S) h) : yM Z D yX9_isDetector cX9_isDetector 2 (some .boolean) 1 0 0 [.ref m0, .int q] h (fun r h' => r = some (.int (bI (m_isD S q))) ∧ yMR dA ad m0 (S) h') := by
  refine yM_of hZ (by decide) rfl (Nat.le_of_ble_eq_true rfl) ?_
  intro p l e s m args below meth c A C hr hin
  show yW p l e (yR 1 0 0) s m args below meth c 2 D A 0 0 _ 0 [some (.ref m0), some (.int q)] [] h
  refine yr_iload_n 1 C dX9_isDetector_0 rfl rfl ?_
  refine yr_iconst 2 C (0) dX9_isDetector_1 rfl rfl ?_
  refine yr_aload_n 3 C dX9_isDetector_2 rfl rfl rfl ?_
  refine ym_get 6 C hR dX9_isDetector_3 fl_X9_130 (by decide) rfl rfl ?_
  refine yr_iconst 7 C (1) dX9_isDetector_6 rfl rfl ?_
  refine yr_isub 8 C dX9_isDetector_7 rfl ?_
  refine yr_S3v 11 C (mc_in hZ _ _ _ _) dX9_isDetector_8 mt_X9_in ms_X9_in ml_X9_123 (Nat.le_of_ble_eq_true rfl) (Nat.le_of_ble_eq_true rfl) (Nat.le_of_ble_eq_true rfl) (Nat.le_of_ble_eq_true rfl) (Nat.le_of_ble_eq_true rfl) rfl (fun h e => ?_)
  subst e
  refine yr_zret C dX9_isDetector_11 hr ?_ (Nat.le_of_ble_eq_true rfl) (Nat.le_of_ble_eq_true rfl) ?_
  · exact bI_or _
  exact ⟨rfl, hR⟩
set_option maxHeartbeats 4000000 in
set_option maxRecDepth 100000 in
theorem mc_found (hZ : yZok D dA Z) (a : Nat) (ha : a < 5) (q : Int32)  (h : yH) (hR : yMR dA ad m0 (S) h) : yM Z D yX9_found cX9_found 3 none 0 0 0 [.ref m0, .int (nI a), .int q] h (fun r h' => r = none ∧ yMR dA ad m0 (m_found S a q) h') := by
  refine yM_of hZ (by decide) rfl (Nat.le_of_ble_eq_true rfl) ?_
  intro p l e s m args below meth c A C hr hin
  show yW p l e (yR 0 0 0) s m args below meth c 3 D A 0 0 _ 0 [some (.ref m0), some (.int (nI a)), some (.int q)] [] h
  refine yr_aload_n 1 C dX9_found_0 rfl rfl rfl ?_
  refine ym_getA 4 C hR dX9_found_1 fl_X9_108 (by decide) rfl rfl ?_
  refine yr_iload_n 5 C dX9_found_4 rfl rfl ?_
  refine yr_dup2 6 C dX9_found_5 rfl rfl rfl ?_
  refine ym_aldN 7 C hR dX9_found_6 (by decide) rfl rfl ?_ rfl ?_
  · exact ha
  refine yr_iconst 8 C (1) dX9_found_7 rfl rfl ?_
  refine yr_iadd 9 C dX9_found_8 rfl ?_
  refine ym_astN 10 C hR dX9_found_9 (by decide) rfl rfl ?_ rfl (fun h hR => ?_)
  · exact ha
  refine yr_aload_n 11 C dX9_found_10 rfl rfl rfl ?_
  refine yr_iload_n 12 C dX9_found_11 rfl rfl ?_
  refine ym_put 15 C hR dX9_found_12 fp_X9_166 (by decide) rfl rfl (fun h hR => ?_)
  refine yr_aload_n 16 C dX9_found_15 rfl rfl rfl ?_
  refine yr_iload_n 17 C dX9_found_16 rfl rfl ?_
  refine ym_put 20 C hR dX9_found_17 fp_X9_111 (by decide) rfl rfl (fun h hR => ?_)
  refine yr_vret C dX9_found_20 hr (Nat.le_of_ble_eq_true rfl) (Nat.le_of_ble_eq_true rfl) ?_
  exact ⟨rfl, hR⟩
end M1
end
section
theorem nI_lit_le {a i : Nat} (h : a ≤ i) (hi : i < 2 ^ 31) : nI a ≤ nI i := nI_le h hi
theorem ixm {a b c : Nat} : nI a * nI b + nI c = nI (a * b + c) := by rw [pk_mul, nI_add]
theorem bI_or1 (a b : Bool) : bI a ||| bI b = bI (a || b) := by cases a <;> cases b <;> rfl
theorem bI_t : (1 : Int32) = bI true := rfl
theorem bI_f : (0 : Int32) = bI false := rfl
theorem nI_nle4 {a b : Nat} (h : a < b) (hb : b < 2 ^ 31) : ¬ nI b ≤ nI a := nI_ge h hb
def m_meets (S : yS) (p q : Nat) : Bool := decide (0 < S 16 (8 * p + q))
def m_hasL (S : yS) (s : Nat) (q : Int32) : Nat → Nat → Bool → Bool
  | 0, _, a => a
  | j + 1, i, a => m_hasL S s q j (i + 1) (a || decide (S 18 (4 * s + i) = q))
def m_has (S : yS) (s : Nat) (q : Int32) : Bool := m_hasL S s q 4 0 false
section M2
variable {Z : (Nat → Prop) → State → Prop} {D : va_G} {dA : Nat → ClassId} {ad : Nat → Nat} {m0 : Nat} {S : yS}
set_option maxHeartbeats 4000000 in
set_option maxRecDepth 100000 in
theorem mc_meets (hZ : yZok D dA Z) (a b : Nat) (ha : a < 8) (hb : b < 8)  (h : yH) (hR : yMR dA ad m0 (S) h) : yM Z D yX9_meets cX9_meets 3 (some .boolean) 0 0 0 [.ref m0, .int (nI a), .int (nI b)] h (fun r h' => r = some (.int (bI (m_meets S a b))) ∧ yMR dA ad m0 (S) h') := by
  refine yM_of hZ (by decide) rfl (Nat.le_of_ble_eq_true rfl) ?_
  intro p l e s m args below meth c A C hr hin
  show yW p l e (yR 0 0 0) s m args below meth c 3 D A 0 0 _ 0 [some (.ref m0), some (.int (nI a)), some (.int (nI b))] [] h
  refine yr_aload_n 1 C dX9_meets_0 rfl rfl rfl ?_
  refine ym_getA 4 C hR dX9_meets_1 fl_X9_53 (by decide) rfl rfl ?_
  refine yr_bipush 6 C (8) dX9_meets_4 rfl rfl ?_
  refine yr_iload_n 7 C dX9_meets_6 rfl rfl ?_
  refine yr_imul 8 C dX9_meets_7 rfl ?_
  refine yr_iload_n 9 C dX9_meets_8 rfl rfl ?_
  refine yr_iadd 10 C dX9_meets_9 rfl ?_
  rw [show (8 : Int32) * nI a + nI b = nI (8 * a + b) from ixm]
  refine ym_aldN 11 C hR dX9_meets_10 (by decide) rfl rfl ?_ rfl ?_
  · simp only [mL]; omega
  refine yr_if_le 18 14 C dX9_meets_11 (by decide) rfl (fun c11 => ?_) (fun c11 => ?_)
  · refine yr_iconst 19 C (0) dX9_meets_18 rfl rfl ?_
    refine yr_zret C dX9_meets_19 hr ?_ (Nat.le_of_ble_eq_true rfl) (Nat.le_of_ble_eq_true rfl) ?_
    · decide
    refine ⟨?_, hR⟩
    simp [m_meets, bI, Int32.not_lt.mpr, Int32.not_le.mp, c11]
  · refine yr_iconst 15 C (1) dX9_meets_14 rfl rfl ?_
    refine yr_goto 19 C dX9_meets_15 (by decide) ?_
    refine yr_zret C dX9_meets_19 hr ?_ (Nat.le_of_ble_eq_true rfl) (Nat.le_of_ble_eq_true rfl) ?_
    · decide
    refine ⟨?_, hR⟩
    simp [m_meets, bI, Int32.not_lt.mpr, Int32.not_le.mp, c11]
set_option maxHeartbeats 4000000 in
set_option maxRecDepth 100000 in
theorem mc_has (hZ : yZok D dA Z) (a : Nat) (ha : a < 6) (q : Int32)  (h : yH) (hR : yMR dA ad m0 (S) h) : yM Z D yX9_has cX9_has 5 (some .boolean) 0 0 0 [.ref m0, .int (nI a), .int q] h (fun r h' => r = some (.int (bI (m_has S a q))) ∧ yMR dA ad m0 (S) h') := by
  refine yM_of hZ (by decide) rfl (Nat.le_of_ble_eq_true rfl) ?_
  intro p l e s m args below meth c A C hr hin
  show yW p l e (yR 0 0 0) s m args below meth c 5 D A 0 0 _ 0 [some (.ref m0), some (.int (nI a)), some (.int q), none, none] [] h
  refine yr_iconst 1 C (0) dX9_has_0 rfl rfl ?_
  refine yr_istore3 2 C dX9_has_1 (by decide) rfl ?_
  refine yr_iconst 3 C (0) dX9_has_2 rfl rfl ?_
  refine yr_istore4 5 C dX9_has_3 (by decide) rfl ?_
  have loop5 : ∀ (j i : Nat) (b : Bool), i + j = 4 → m_hasL S a q j i b = m_has S a q → ∀ h : yH, yMR dA ad m0 (S) h → yW p l e (yR 0 0 0) s m args below meth c 5 D A 0 0 (yF D A (fun r h' => r = some (.int (bI (m_has S a q))) ∧ yMR dA ad m0 (S) h') below args s 0 0) 5 [some (.ref m0), some (.int (nI a)), some (.int q), some (.int (bI b)), some (.int (nI i))] [] h := by
    intro j
    induction j with
    | zero =>
      intro i b hij he h hR
      obtain rfl : i = 4 := by omega
      refine yr_iload 7 C dX9_has_5 rfl rfl ?_
      refine yr_iconst 8 C (4) dX9_has_7 rfl rfl ?_
      refine yr_icmp_ge 40 11 C dX9_has_8 (by decide) rfl (fun c8 => ?_) (fun c8 => ?_)
      rotate_left
      · exact absurd (by decide) c8
      refine yr_iload_n 41 C dX9_has_40 rfl rfl ?_
      refine yr_zret C dX9_has_41 hr ?_ (Nat.le_of_ble_eq_true rfl) (Nat.le_of_ble_eq_true rfl) ?_
      · exact bI_or _
      refine ⟨?_, hR⟩
      rw [← he]
      rfl
    | succ j ih =>
      intro i b hij he h hR
      refine yr_iload 7 C dX9_has_5 rfl rfl ?_
      refine yr_iconst 8 C (4) dX9_has_7 rfl rfl ?_
      refine yr_icmp_ge 40 11 C dX9_has_8 (by decide) rfl (fun c8 => ?_) (fun c8 => ?_)
      · exact absurd c8 (nI_ge (b := 4) (by omega) (by decide))
      refine yr_iload_n 12 C dX9_has_11 rfl rfl ?_
      refine yr_aload_n 13 C dX9_has_12 rfl rfl rfl ?_
      refine ym_getA 16 C hR dX9_has_13 fl_X9_56 (by decide) rfl rfl ?_
      refine yr_iconst 17 C (4) dX9_has_16 rfl rfl ?_
      refine yr_iload_n 18 C dX9_has_17 rfl rfl ?_
      refine yr_imul 19 C dX9_has_18 rfl ?_
      refine yr_iload 21 C dX9_has_19 rfl rfl ?_
      refine yr_iadd 22 C dX9_has_21 rfl ?_
      rw [show (4 : Int32) * nI a + nI i = nI (4 * a + i) from ixm]
      refine ym_aldN 23 C hR dX9_has_22 (by decide) rfl rfl ?_ rfl ?_
      · simp only [mL]; omega
      refine yr_iload_n 24 C dX9_has_23 rfl rfl ?_
      refine yr_icmp_ne 31 27 C dX9_has_24 (by decide) rfl (fun c24 => ?_) (fun c24 => ?_)
      · refine yr_iconst 32 C (0) dX9_has_31 rfl rfl ?_
        refine yr_ior 33 C dX9_has_32 rfl ?_
        first | rw [show bI b ||| 1 = bI (b || decide (S 18 (4 * a + i) = q)) from by rw [bI_t, bI_or1]; simp [c24]] | rw [show bI b ||| 0 = bI (b || decide (S 18 (4 * a + i) = q)) from by rw [bI_f, bI_or1]; simp [c24]]
        refine yr_istore3 34 C dX9_has_33 (by decide) rfl ?_
        refine yr_iinc4 37 C (1) dX9_has_34 rfl (by decide) rfl ?_
        rw [nI_1]
        refine yr_goto 5 C dX9_has_37 (by decide) ?_
        exact ih (i + 1) _ (by omega) he h hR
      · skip
        refine yr_iconst 28 C (1) dX9_has_27 rfl rfl ?_
        refine yr_goto 32 C dX9_has_28 (by decide) ?_
        refine yr_ior 33 C dX9_has_32 rfl ?_
        first | rw [show bI b ||| 1 = bI (b || decide (S 18 (4 * a + i) = q)) from by rw [bI_t, bI_or1]; simp [c24]] | rw [show bI b ||| 0 = bI (b || decide (S 18 (4 * a + i) = q)) from by rw [bI_f, bI_or1]; simp [c24]]
        refine yr_istore3 34 C dX9_has_33 (by decide) rfl ?_
        refine yr_iinc4 37 C (1) dX9_has_34 rfl (by decide) rfl ?_
        rw [nI_1]
        refine yr_goto 5 C dX9_has_37 (by decide) ?_
        exact ih (i + 1) _ (by omega) he h hR
  exact loop5 4 0 false rfl rfl h hR
end M2
end
section
def ix (x : Int32) : Nat := x.toNatClampNeg
theorem ix_nI {j : Nat} (h : j < 2 ^ 31) : ix (nI j) = j := nI_clamp h
/-- NONE, or a number below b -/
def cO (x : Int32) (b : Nat) : Prop := x = -5 ∨ ∃ j : Nat, j < b ∧ x = nI j
/-- what always holds of the reference's state: np phases, ns stages, nd detectors, no orders, nr pairs, t seconds -/
def mJ (S : yS) (np ns nd no nr t : Nat) : Nat → Prop
  | 0 => S 1 0 = nI np ∧ np ≤ 8
  | 1 => S 17 0 = nI ns ∧ ns ≤ 6
  | 2 => S 19 0 = nI nd ∧ nd ≤ 12
  | 3 => S 23 0 = nI no ∧ no ≤ 16
  | 4 => S 29 0 = nI nr ∧ nr ≤ 6
  | 5 => S 0 0 = nI t
  | 6 => ∀ p, p < np → ∃ k, k ≤ 4 ∧ S 2 p = nI k
  | 7 => ∀ p, p < np → cO (S 4 p) nd
  | 8 => ∀ d, d < nd → cO (S 20 d) 201
  | 9 => ∀ s, s < ns → ∀ k, k < 4 → cO (S 18 (4 * s + k)) np
  | 10 => ∀ k, k < no → ∃ p, p < np ∧ S 24 k = nI p
  | 11 => ∀ k, k < nr → (∃ d, d < nd ∧ S 30 k = nI d) ∧ ∃ d, d < nd ∧ S 31 k = nI d
  | 12 => cO (S 34 0) ns
  | 13 => cO (S 39 0) ns
  | 14 => S 38 0 = -1 ∨ ∃ s, s < ns ∧ S 38 0 = nI s
  | 15 => ∃ b, b ≤ t ∧ S 35 0 = nI b
  | 16 => ∀ p, p < np → (S 14 p = 0 ∨ S 14 p = 1) ∧ (S 15 p = 0 ∨ S 15 p = 1)
  | 17 => S 40 0 = 0 ∨ S 40 0 = 1
  | 18 => ∀ p, p < np → cO (S 10 p) (t + 1)
  | 19 => ∀ p, p < np → (∃ k, k ≤ 60 ∧ S 11 p = nI k) ∧ (∃ k, k ≤ 120 ∧ S 12 p = nI k) ∧ ∃ k, k ≤ 9 ∧ S 13 p = nI k
  | 20 => ∀ k, k < no → (∃ i, i ≤ 60 ∧ S 25 k = nI i) ∧ (∃ i, i ≤ 120 ∧ S 26 k = nI i) ∧ ∃ i, i ≤ 9 ∧ S 27 k = nI i
  | 21 => ∀ p, p < 8 → ∀ q, q < 8 → ∃ c, c ≤ 21 ∧ S 16 (8 * p + q) = nI c ∧ (p = q → c = 0) ∧ (np ≤ p → c = 0) ∧ (np ≤ q → c = 0)
  | 22 => ∀ p, p < 8 → ∀ q, q < 8 → (0 < S 16 (8 * p + q) ↔ 0 < S 16 (8 * q + p))
  | 23 => ∀ s, s < ns → ∃ k, k < 4 ∧ S 18 (4 * s + k) ≠ -5
  | 24 => ∀ s, s < ns → S 34 0 = nI s → ∀ k, k < 4 → ∀ p, S 18 (4 * s + k) = nI p → p < np → S 3 p = 1 ∧ S 10 p = -5
  | 25 => ∀ s, s < ns → S 39 0 = nI s → S 34 0 ≠ nI s
  | 26 => S 44 0 = 0 ∨ (S 44 0 = 1 ∧ ∃ u, S 42 0 = nI u ∧ u < t ∧ t ≤ u + 3) ∨ (S 44 0 = 2 ∧ ∃ u, S 42 0 = nI u ∧ u + 3 < t)
  | 27 => S 43 0 = S 45 0
  | 28 => t = 0 → ∀ j, S 51 j = 0
  | 29 => ∀ p, np ≤ p → p < 8 → S 3 p = 0 ∧ S 4 p = -5 ∧ S 5 p = 0 ∧ S 6 p = 0 ∧ S 7 p = 0 ∧ S 8 p = -5 ∧ S 9 p = 0 ∧ S 10 p = -5 ∧ S 11 p = 5 ∧ S 12 p = 20 ∧ S 13 p = 3 ∧ S 14 p = 0 ∧ S 15 p = 0
  | _ => True
def mI (S : yS) (np ns nd no nr t : Nat) : Prop := ∀ i, mJ S np ns nd no nr t i
theorem m_in_ix {p : Int32} {n : Nat} (hn : n < 2 ^ 30) (h : m_in p 0 (nI n - 1) = true) : ∃ j : Nat, j < n ∧ p = nI j := by
  simp only [m_in, Bool.and_eq_true, Bool.not_eq_true', decide_eq_false_iff_not] at h
  obtain ⟨h1, h2⟩ := h
  obtain ⟨j, hj, rfl⟩ := nI_of h1
  refine ⟨j, ?_, rfl⟩
  rw [Int32.not_lt, Int32.le_iff_toInt_le, nI_toInt hj] at h2
  have e : (nI n - 1).toInt = (n : Int) - 1 := pk_sub_toInt (a := n) (b := 1) hn (by decide)
  omega
theorem m_in_of {j n : Nat} (hn : n < 2 ^ 30) (h : j < n) : m_in (nI j) 0 (nI n - 1) = true := by
  simp only [m_in, Bool.and_eq_true, Bool.not_eq_true', decide_eq_false_iff_not]
  refine ⟨nI_pos (by omega), ?_⟩
  rw [Int32.not_lt, Int32.le_iff_toInt_le, nI_toInt (by omega)]
  have e : (nI n - 1).toInt = (n : Int) - 1 := pk_sub_toInt (a := n) (b := 1) hn (by decide)
  omega
theorem m_isP_ix {S : yS} {np ns nd no nr t : Nat} (hI : mI S np ns nd no nr t) {p : Int32} (h : m_isP S p = true) : ∃ j : Nat, j < np ∧ p = nI j := by
  have h0 : S 1 0 = nI np ∧ np ≤ 8 := hI 0
  unfold m_isP at h
  rw [h0.1] at h
  exact m_in_ix (by omega) h
theorem m_isS_ix {S : yS} {np ns nd no nr t : Nat} (hI : mI S np ns nd no nr t) {p : Int32} (h : m_isS S p = true) : ∃ j : Nat, j < ns ∧ p = nI j := by
  have h0 : S 17 0 = nI ns ∧ ns ≤ 6 := hI 1
  unfold m_isS at h
  rw [h0.1] at h
  exact m_in_ix (by omega) h
theorem m_isD_ix {S : yS} {np ns nd no nr t : Nat} (hI : mI S np ns nd no nr t) {p : Int32} (h : m_isD S p = true) : ∃ j : Nat, j < nd ∧ p = nI j := by
  have h0 : S 19 0 = nI nd ∧ nd ≤ 12 := hI 2
  unfold m_isD at h
  rw [h0.1] at h
  exact m_in_ix (by omega) h
/-! what each call answers, and the state behind it: as the reference does it -/
def sp_phase (S : yS) (k : Int32) : Int32 × yS := if m_in k 0 4 then (if S 0 0 ≤ 0 then (if S 1 0 = 8 then (-2, S) else (S 1 0 + 1 - 1, mset (mset S 2 (ix (S 1 0)) k) 1 0 (S 1 0 + 1))) else (-3, S)) else (-1, S)
def sp_detector (S : yS) (p : Int32) : Int32 × yS := if m_isP S p then (if S 19 0 = 12 then (-2, S) else (S 19 0 + 1 - 1, mset (mset (mset S 4 (ix p) (S 19 0)) 20 (ix (S 19 0)) 0) 19 0 (S 19 0 + 1))) else (-1, S)
def sp_cut (S : yS) (d : Int32) : Int32 × yS := if m_isD S d then (if 0 ≤ S 20 (ix d) then (S 20 (ix d), mset S 20 (ix d) (-5)) else (-3, S)) else (-1, S)
def sp_passing (S : yS) (d a b : Int32) : Int32 × yS := if m_isD S d && m_in a (-128) 127 && m_in b 0 10000 then (if 0 ≤ S 20 (ix d) then (if S 20 (ix d) = 200 then (-2, S) else (S 20 (ix d) + 1, mset (mset (mset S 21 (200 * ix d + ix (S 20 (ix d))) a) 22 (200 * ix d + ix (S 20 (ix d))) b) 20 (ix d) (S 20 (ix d) + 1))) else (-3, S)) else (-1, S)
def sp_table (S : yS) (p a b c u : Int32) : Int32 × yS := if m_isP S p && m_in a 1 60 && m_in b a 120 && m_in c 0 9 && decide (S 0 0 ≤ u) then (if S 23 0 = 16 then (-2, S) else (S 23 0 + 1, mset (mset (mset (mset (mset (mset S 24 (ix (S 23 0)) p) 25 (ix (S 23 0)) a) 26 (ix (S 23 0)) b) 27 (ix (S 23 0)) c) 28 (ix (S 23 0)) u) 23 0 (S 23 0 + 1))) else (-1, S)
def sp_lamp (S : yS) (p out : Int32) : Int32 × yS := if m_isP S p then (if S 14 (ix p) = 0 then 0 else 1, mset S 14 (ix p) out) else (-1, S)
def sp_pair (S : yS) (d e k : Int32) : Int32 × yS := if m_isD S d && m_isD S e && !decide (d = e) && m_in k 1 60 then (if S 29 0 = 6 then (-2, S) else (S 29 0 + 1 - 1, mset (mset (mset (mset (mset S 30 (ix (S 29 0)) d) 31 (ix (S 29 0)) e) 32 (ix (S 29 0)) k) 33 (ix (S 29 0)) 0) 29 0 (S 29 0 + 1))) else (-1, S)
def sp_ask (S : yS) (p : Int32) : Int32 × yS := if m_isP S p then (if 0 ≤ S 10 (ix p) ∨ S 3 (ix p) = 1 then (0, S) else (1, mset S 10 (ix p) (S 0 0))) else (-1, S)
def sp_hurry (S : yS) (s : Int32) : Int32 × yS := if m_isS S s then (if S 44 0 ≤ 0 then (if s = S 34 0 then (0, S) else (1, mset S 39 0 s)) else (-3, S)) else (-1, S)
def sp_alarm (S : yS) : Int32 × yS := if S 44 0 ≤ 0 then (1, mset S 40 0 1) else (-3, S)
def sp_light (S : yS) (p : Int32) : Int32 × yS := (if m_isP S p then S 3 (ix p) else -1, S)
def sp_length (S : yS) (p : Int32) : Int32 × yS := (if m_isD S p then S 20 (ix p) else -1, S)
def sp_finding (S : yS) (q : Int32) : Int32 × yS := (if q = 0 then S 47 0 else if q = 1 then S 48 0 else -1, S)
def sp_trace (S : yS) : Int32 × yS := (S 50 0, S)
section M3
variable {Z : (Nat → Prop) → State → Prop} {D : va_G} {dA : Nat → ClassId} {ad : Nat → Nat} {m0 : Nat} {S : yS} {np ns nd no nr t : Nat}
set_option maxHeartbeats 4000000 in
set_option maxRecDepth 100000 in
theorem mc_phase (hZ : yZok D dA Z) (k : Int32) (hI : mI S np ns nd no nr t) (h : yH) (hR : yMR dA ad m0 (S) h) : yM Z D yX9_phase cX9_phase 2 (some .int) 1 0 0 [.ref m0, .int k] h (fun r h' => r = some (.int (sp_phase S k).1) ∧ yMR dA ad m0 ((sp_phase S k).2) h') := by
  refine yM_of hZ (by decide) rfl (Nat.le_of_ble_eq_true rfl) ?_
  intro p l e s m args below meth c A C hr hin
  show yW p l e (yR 1 0 0) s m args below meth c 2 D A 0 0 _ 0 [some (.ref m0), some (.int k)] [] h
  refine yr_iload_n 1 C dX9_phase_0 rfl rfl ?_
  refine yr_iconst 2 C (0) dX9_phase_1 rfl rfl ?_
  refine yr_iconst 3 C (4) dX9_phase_2 rfl rfl ?_
  refine yr_S3v 6 C (mc_in hZ _ _ _ _) dX9_phase_3 mt_X9_in ms_X9_in ml_X9_123 (Nat.le_of_ble_eq_true rfl) (Nat.le_of_ble_eq_true rfl) (Nat.le_of_ble_eq_true rfl) (Nat.le_of_ble_eq_true rfl) (Nat.le_of_ble_eq_true rfl) rfl (fun h e => ?_)
  subst e
  refine yb_ne 11 9 C dX9_phase_6 (by decide) rfl (fun c6 => ?_) (fun c6 => ?_)
  · refine yr_aload_n 12 C dX9_phase_11 rfl rfl rfl ?_
    refine ym_get 15 C hR dX9_phase_12 fl_X9_133 (by decide) rfl rfl ?_
    refine yr_if_le 21 18 C dX9_phase_15 (by decide) rfl (fun c15 => ?_) (fun c15 => ?_)
    · refine yr_aload_n 22 C dX9_phase_21 rfl rfl rfl ?_
      refine ym_get 25 C hR dX9_phase_22 fl_X9_120 (by decide) rfl rfl ?_
      refine yr_bipush 27 C (8) dX9_phase_25 rfl rfl ?_
      refine yr_icmp_ne 33 30 C dX9_phase_27 (by decide) rfl (fun c27 => ?_) (fun c27 => ?_)
      · have h0 : S 1 0 = nI np ∧ np ≤ 8 := hI 0
        have h8 : np < 8 := by
          have : np ≠ 8 := fun e => c27 (by rw [h0.1, e]; rfl)
          omega
        have e1 : ix (S 1 0) = np := by rw [h0.1]; exact ix_nI (by omega)
        have h9 := h0.1
        refine yr_aload_n 34 C dX9_phase_33 rfl rfl rfl ?_
        refine ym_getA 37 C hR dX9_phase_34 fl_X9_7 (by decide) rfl rfl ?_
        refine yr_aload_n 38 C dX9_phase_37 rfl rfl rfl ?_
        refine ym_get 41 C hR dX9_phase_38 fl_X9_120 (by decide) rfl rfl ?_
        rw [h9]
        refine yr_iload_n 42 C dX9_phase_41 rfl rfl ?_
        refine ym_astN 43 C hR dX9_phase_42 (by decide) rfl rfl ?_ rfl (fun h hR => ?_)
        · simp only [mL]; omega
        rw [← e1] at hR
        refine yr_aload_n 44 C dX9_phase_43 rfl rfl rfl ?_
        refine yr_dup 45 C dX9_phase_44 rfl rfl ?_
        refine ym_get 48 C hR dX9_phase_45 fl_X9_120 (by decide) rfl rfl ?_
        refine yr_iconst 49 C (1) dX9_phase_48 rfl rfl ?_
        refine yr_iadd 50 C dX9_phase_49 rfl ?_
        refine ym_put 53 C hR dX9_phase_50 fp_X9_120 (by decide) rfl rfl (fun h hR => ?_)
        refine yr_aload_n 54 C dX9_phase_53 rfl rfl rfl ?_
        refine ym_get 57 C hR dX9_phase_54 fl_X9_120 (by decide) rfl rfl ?_
        refine yr_iconst 58 C (1) dX9_phase_57 rfl rfl ?_
        refine yr_isub 59 C dX9_phase_58 rfl ?_
        refine yr_iret C dX9_phase_59 hr (Nat.le_of_ble_eq_true rfl) (Nat.le_of_ble_eq_true rfl) ?_
        refine ⟨?_, ?_⟩
        · simp [sp_phase, mset_ne, mset_same, c6, c15, c27]
        · simpa [sp_phase, mset_ne, mset_same, c6, c15, c27] using hR
      · refine yr_bipush 32 C (-2) dX9_phase_30 rfl rfl ?_
        refine yr_iret C dX9_phase_32 hr (Nat.le_of_ble_eq_true rfl) (Nat.le_of_ble_eq_true rfl) ?_
        exact ⟨by simp [sp_phase, mset_ne, mset_same, ix_nI, c6, c15, c27], by simpa [sp_phase, mset_ne, mset_same, ix_nI, c6, c15, c27] using hR⟩
    · refine yr_bipush 20 C (-3) dX9_phase_18 rfl rfl ?_
      refine yr_iret C dX9_phase_20 hr (Nat.le_of_ble_eq_true rfl) (Nat.le_of_ble_eq_true rfl) ?_
      exact ⟨by simp [sp_phase, mset_ne, mset_same, ix_nI, c6, c15], by simpa [sp_phase, mset_ne, mset_same, ix_nI, c6, c15] using hR⟩
  · refine yr_iconst 10 C (-1) dX9_phase_9 rfl rfl ?_
    refine yr_iret C dX9_phase_10 hr (Nat.le_of_ble_eq_true rfl) (Nat.le_of_ble_eq_true rfl) ?_
    exact ⟨by simp [sp_phase, mset_ne, mset_same, ix_nI, c6], by simpa [sp_phase, mset_ne, mset_same, ix_nI, c6] using hR⟩
set_option maxHeartbeats 4000000 in
set_option maxRecDepth 100000 in
theorem mc_detector (hZ : yZok D dA Z) (q : Int32) (hI : mI S np ns nd no nr t) (h : yH) (hR : yMR dA ad m0 (S) h) : yM Z D yX9_detector cX9_detector 2 (some .int) 2 0 0 [.ref m0, .int q] h (fun r h' => r = some (.int (sp_detector S q).1) ∧ yMR dA ad m0 ((sp_detector S q).2) h') := by
  refine yM_of hZ (by decide) rfl (Nat.le_of_ble_eq_true rfl) ?_
  intro p l e s m args below meth c A C hr hin
  show yW p l e (yR 2 0 0) s m args below meth c 2 D A 0 0 _ 0 [some (.ref m0), some (.int q)] [] h
  refine yr_aload_n 1 C dX9_detector_0 rfl rfl rfl ?_
  refine yr_iload_n 2 C dX9_detector_1 rfl rfl ?_
  refine yr_V1v 5 C (mc_isPhase hZ _ _ hR) dX9_detector_2 mt_X9_isPhase mv_X9_isPhase ml_X9_136 hR.1 rfl (Nat.le_of_ble_eq_true rfl) (Nat.le_of_ble_eq_true rfl) (Nat.le_of_ble_eq_true rfl) (Nat.le_of_ble_eq_true rfl) (Nat.le_of_ble_eq_true rfl) rfl (fun h hR => ?_)
  refine yb_ne 10 8 C dX9_detector_5 (by decide) rfl (fun c5 => ?_) (fun c5 => ?_)
  · obtain ⟨j, hj, rfl⟩ := m_isP_ix hI c5
    have h0 : S 1 0 = nI np ∧ np ≤ 8 := hI 0
    have e0 : ix (nI j) = j := ix_nI (by omega)
    refine yr_aload_n 11 C dX9_detector_10 rfl rfl rfl ?_
    refine ym_get 14 C hR dX9_detector_11 fl_X9_130 (by decide) rfl rfl ?_
    refine yr_bipush 16 C (12) dX9_detector_14 rfl rfl ?_
    refine yr_icmp_ne 22 19 C dX9_detector_16 (by decide) rfl (fun c16 => ?_) (fun c16 => ?_)
    · have h2 : S 19 0 = nI nd ∧ nd ≤ 12 := hI 2
      have h8 : nd < 12 := by
        have : nd ≠ 12 := fun e => c16 (by rw [h2.1, e]; rfl)
        omega
      have e1 : ix (S 19 0) = nd := by rw [h2.1]; exact ix_nI (by omega)
      refine yr_aload_n 23 C dX9_detector_22 rfl rfl rfl ?_
      refine ym_getA 26 C hR dX9_detector_23 fl_X9_16 (by decide) rfl rfl ?_
      refine yr_iload_n 27 C dX9_detector_26 rfl rfl ?_
      refine yr_aload_n 28 C dX9_detector_27 rfl rfl rfl ?_
      refine ym_get 31 C hR dX9_detector_28 fl_X9_130 (by decide) rfl rfl ?_
      refine ym_astN 32 C hR dX9_detector_31 (by decide) rfl rfl ?_ rfl (fun h hR => ?_)
      · simp only [mL]; omega
      refine yr_aload_n 33 C dX9_detector_32 rfl rfl rfl ?_
      refine ym_getA 36 C hR dX9_detector_33 fl_X9_59 (by decide) rfl rfl ?_
      refine yr_aload_n 37 C dX9_detector_36 rfl rfl rfl ?_
      refine ym_get 40 C hR dX9_detector_37 fl_X9_130 (by decide) rfl rfl ?_
      rw [mset_ne S _ (show 19 ≠ 4 by decide), h2.1]
      refine yr_iconst 41 C (0) dX9_detector_40 rfl rfl ?_
      refine ym_astN 42 C hR dX9_detector_41 (by decide) rfl rfl ?_ rfl (fun h hR => ?_)
      · simp only [mL]; omega
      rw [← e1, ← e0] at hR
      refine yr_aload_n 43 C dX9_detector_42 rfl rfl rfl ?_
      refine yr_dup 44 C dX9_detector_43 rfl rfl ?_
      refine ym_get 47 C hR dX9_detector_44 fl_X9_130 (by decide) rfl rfl ?_
      refine yr_iconst 48 C (1) dX9_detector_47 rfl rfl ?_
      refine yr_iadd 49 C dX9_detector_48 rfl ?_
      refine ym_put 52 C hR dX9_detector_49 fp_X9_130 (by decide) rfl rfl (fun h hR => ?_)
      refine yr_aload_n 53 C dX9_detector_52 rfl rfl rfl ?_
      refine ym_get 56 C hR dX9_detector_53 fl_X9_130 (by decide) rfl rfl ?_
      refine yr_iconst 57 C (1) dX9_detector_56 rfl rfl ?_
      refine yr_isub 58 C dX9_detector_57 rfl ?_
      refine yr_iret C dX9_detector_58 hr (Nat.le_of_ble_eq_true rfl) (Nat.le_of_ble_eq_true rfl) ?_
      refine ⟨?_, ?_⟩
      · simp [sp_detector, mset_ne, mset_same, c5, c16]
      · simpa [sp_detector, mset_ne, mset_same, c5, c16] using hR
    · refine yr_bipush 21 C (-2) dX9_detector_19 rfl rfl ?_
      refine yr_iret C dX9_detector_21 hr (Nat.le_of_ble_eq_true rfl) (Nat.le_of_ble_eq_true rfl) ?_
      exact ⟨by simp [sp_detector, mset_ne, mset_same, ix_nI, c5, c16], by simpa [sp_detector, mset_ne, mset_same, ix_nI, c5, c16] using hR⟩
  · refine yr_iconst 9 C (-1) dX9_detector_8 rfl rfl ?_
    refine yr_iret C dX9_detector_9 hr (Nat.le_of_ble_eq_true rfl) (Nat.le_of_ble_eq_true rfl) ?_
    exact ⟨by simp [sp_detector, mset_ne, mset_same, ix_nI, c5], by simpa [sp_detector, mset_ne, mset_same, ix_nI, c5] using hR⟩
set_option maxHeartbeats 4000000 in
set_option maxRecDepth 100000 in
theorem mc_cut (hZ : yZok D dA Z) (q : Int32) (hI : mI S np ns nd no nr t) (h : yH) (hR : yMR dA ad m0 (S) h) : yM Z D yX9_cut cX9_cut 3 (some .int) 2 0 0 [.ref m0, .int q] h (fun r h' => r = some (.int (sp_cut S q).1) ∧ yMR dA ad m0 ((sp_cut S q).2) h') := by
  refine yM_of hZ (by decide) rfl (Nat.le_of_ble_eq_true rfl) ?_
  intro p l e s m args below meth c A C hr hin
  show yW p l e (yR 2 0 0) s m args below meth c 3 D A 0 0 _ 0 [some (.ref m0), some (.int q), none] [] h
  refine yr_aload_n 1 C dX9_cut_0 rfl rfl rfl ?_
  refine yr_iload_n 2 C dX9_cut_1 rfl rfl ?_
  refine yr_V1v 5 C (mc_isDetector hZ _ _ hR) dX9_cut_2 mt_X9_isDetector mv_X9_isDetector ml_X9_147 hR.1 rfl (Nat.le_of_ble_eq_true rfl) (Nat.le_of_ble_eq_true rfl) (Nat.le_of_ble_eq_true rfl) (Nat.le_of_ble_eq_true rfl) (Nat.le_of_ble_eq_true rfl) rfl (fun h hR => ?_)
  refine yb_ne 10 8 C dX9_cut_5 (by decide) rfl (fun c5 => ?_) (fun c5 => ?_)
  · obtain ⟨j, hj, rfl⟩ := m_isD_ix hI c5
    have h0 : S 19 0 = nI nd ∧ nd ≤ 12 := hI 2
    have e0 : ix (nI j) = j := ix_nI (by omega)
    refine yr_aload_n 11 C dX9_cut_10 rfl rfl rfl ?_
    refine ym_getA 14 C hR dX9_cut_11 fl_X9_59 (by decide) rfl rfl ?_
    refine yr_iload_n 15 C dX9_cut_14 rfl rfl ?_
    refine ym_aldN 16 C hR dX9_cut_15 (by decide) rfl rfl ?_ rfl ?_
    · simp only [mL]; omega
    refine yr_if_ge 22 19 C dX9_cut_16 (by decide) rfl (fun c16 => ?_) (fun c16 => ?_)
    · refine yr_aload_n 23 C dX9_cut_22 rfl rfl rfl ?_
      refine ym_getA 26 C hR dX9_cut_23 fl_X9_59 (by decide) rfl rfl ?_
      refine yr_iload_n 27 C dX9_cut_26 rfl rfl ?_
      refine ym_aldN 28 C hR dX9_cut_27 (by decide) rfl rfl ?_ rfl ?_
      · simp only [mL]; omega
      refine yr_istore2 29 C dX9_cut_28 (by decide) rfl ?_
      refine yr_aload_n 30 C dX9_cut_29 rfl rfl rfl ?_
      refine ym_getA 33 C hR dX9_cut_30 fl_X9_59 (by decide) rfl rfl ?_
      refine yr_iload_n 34 C dX9_cut_33 rfl rfl ?_
      refine yr_bipush 36 C (-5) dX9_cut_34 rfl rfl ?_
      refine ym_astN 37 C hR dX9_cut_36 (by decide) rfl rfl ?_ rfl (fun h hR => ?_)
      · simp only [mL]; omega
      refine yr_iload_n 38 C dX9_cut_37 rfl rfl ?_
      refine yr_iret C dX9_cut_38 hr (Nat.le_of_ble_eq_true rfl) (Nat.le_of_ble_eq_true rfl) ?_
      refine ⟨?_, ?_⟩
      · simp [sp_cut, e0, c5, c16]
      · simpa [sp_cut, e0, c5, c16] using hR
    · refine yr_bipush 21 C (-3) dX9_cut_19 rfl rfl ?_
      refine yr_iret C dX9_cut_21 hr (Nat.le_of_ble_eq_true rfl) (Nat.le_of_ble_eq_true rfl) ?_
      refine ⟨?_, ?_⟩
      · simp [sp_cut, e0, c5, c16]
      · simpa [sp_cut, e0, c5, c16] using hR
  · refine yr_iconst 9 C (-1) dX9_cut_8 rfl rfl ?_
    refine yr_iret C dX9_cut_9 hr (Nat.le_of_ble_eq_true rfl) (Nat.le_of_ble_eq_true rfl) ?_
    refine ⟨?_, ?_⟩
    · simp [sp_cut, mset_ne, mset_same, ix_nI, c5]
    · simpa [sp_cut, mset_ne, mset_same, ix_nI, c5] using hR
set_option maxHeartbeats 4000000 in
set_option maxRecDepth 100000 in
theorem mc_alarm (hZ : yZok D dA Z)  (hI : mI S np ns nd no nr t) (h : yH) (hR : yMR dA ad m0 (S) h) : yM Z D yX9_alarm cX9_alarm 1 (some .int) 0 0 0 [.ref m0] h (fun r h' => r = some (.int (sp_alarm S).1) ∧ yMR dA ad m0 ((sp_alarm S).2) h') := by
  refine yM_of hZ (by decide) rfl (Nat.le_of_ble_eq_true rfl) ?_
  intro p l e s m args below meth c A C hr hin
  show yW p l e (yR 0 0 0) s m args below meth c 1 D A 0 0 _ 0 [some (.ref m0)] [] h
  refine yr_aload_n 1 C dX9_alarm_0 rfl rfl rfl ?_
  refine ym_get 4 C hR dX9_alarm_1 fl_X9_159 (by decide) rfl rfl ?_
  refine yr_if_le 10 7 C dX9_alarm_4 (by decide) rfl (fun c4 => ?_) (fun c4 => ?_)
  · refine yr_aload_n 11 C dX9_alarm_10 rfl rfl rfl ?_
    refine yr_iconst 12 C (1) dX9_alarm_11 rfl rfl ?_
    refine ym_putZ 15 C hR dX9_alarm_12 fp_X9_162 (by decide) rfl ?_ rfl (fun h hR => ?_)
    · exact Or.inr rfl
    refine yr_iconst 16 C (1) dX9_alarm_15 rfl rfl ?_
    refine yr_iret C dX9_alarm_16 hr (Nat.le_of_ble_eq_true rfl) (Nat.le_of_ble_eq_true rfl) ?_
    exact ⟨by simp [sp_alarm, mset_ne, mset_same, ix_nI, c4], by simpa [sp_alarm, mset_ne, mset_same, ix_nI, c4] using hR⟩
  · refine yr_bipush 9 C (-3) dX9_alarm_7 rfl rfl ?_
    refine yr_iret C dX9_alarm_9 hr (Nat.le_of_ble_eq_true rfl) (Nat.le_of_ble_eq_true rfl) ?_
    exact ⟨by simp [sp_alarm, mset_ne, mset_same, ix_nI, c4], by simpa [sp_alarm, mset_ne, mset_same, ix_nI, c4] using hR⟩
set_option maxHeartbeats 4000000 in
set_option maxRecDepth 100000 in
theorem mc_hurry (hZ : yZok D dA Z) (q : Int32) (hI : mI S np ns nd no nr t) (h : yH) (hR : yMR dA ad m0 (S) h) : yM Z D yX9_hurry cX9_hurry 2 (some .int) 2 0 0 [.ref m0, .int q] h (fun r h' => r = some (.int (sp_hurry S q).1) ∧ yMR dA ad m0 ((sp_hurry S q).2) h') := by
  refine yM_of hZ (by decide) rfl (Nat.le_of_ble_eq_true rfl) ?_
  intro p l e s m args below meth c A C hr hin
  show yW p l e (yR 2 0 0) s m args below meth c 2 D A 0 0 _ 0 [some (.ref m0), some (.int q)] [] h
  refine yr_aload_n 1 C dX9_hurry_0 rfl rfl rfl ?_
  refine yr_iload_n 2 C dX9_hurry_1 rfl rfl ?_
  refine yr_V1v 5 C (mc_isStage hZ _ _ hR) dX9_hurry_2 mt_X9_isStage mv_X9_isStage ml_X9_156 hR.1 rfl (Nat.le_of_ble_eq_true rfl) (Nat.le_of_ble_eq_true rfl) (Nat.le_of_ble_eq_true rfl) (Nat.le_of_ble_eq_true rfl) (Nat.le_of_ble_eq_true rfl) rfl (fun h hR => ?_)
  refine yb_ne 10 8 C dX9_hurry_5 (by decide) rfl (fun c5 => ?_) (fun c5 => ?_)
  · refine yr_aload_n 11 C dX9_hurry_10 rfl rfl rfl ?_
    refine ym_get 14 C hR dX9_hurry_11 fl_X9_159 (by decide) rfl rfl ?_
    refine yr_if_le 20 17 C dX9_hurry_14 (by decide) rfl (fun c14 => ?_) (fun c14 => ?_)
    · refine yr_iload_n 21 C dX9_hurry_20 rfl rfl ?_
      refine yr_aload_n 22 C dX9_hurry_21 rfl rfl rfl ?_
      refine ym_get 25 C hR dX9_hurry_22 fl_X9_95 (by decide) rfl rfl ?_
      refine yr_icmp_ne 30 28 C dX9_hurry_25 (by decide) rfl (fun c25 => ?_) (fun c25 => ?_)
      · refine yr_aload_n 31 C dX9_hurry_30 rfl rfl rfl ?_
        refine yr_iload_n 32 C dX9_hurry_31 rfl rfl ?_
        refine ym_put 35 C hR dX9_hurry_32 fp_X9_102 (by decide) rfl rfl (fun h hR => ?_)
        refine yr_iconst 36 C (1) dX9_hurry_35 rfl rfl ?_
        refine yr_iret C dX9_hurry_36 hr (Nat.le_of_ble_eq_true rfl) (Nat.le_of_ble_eq_true rfl) ?_
        exact ⟨by simp [sp_hurry, mset_ne, mset_same, ix_nI, c5, c14, c25], by simpa [sp_hurry, mset_ne, mset_same, ix_nI, c5, c14, c25] using hR⟩
      · refine yr_iconst 29 C (0) dX9_hurry_28 rfl rfl ?_
        refine yr_iret C dX9_hurry_29 hr (Nat.le_of_ble_eq_true rfl) (Nat.le_of_ble_eq_true rfl) ?_
        subst c25
        exact ⟨by simp [sp_hurry, c5, c14], by simpa [sp_hurry, c5, c14] using hR⟩
    · refine yr_bipush 19 C (-3) dX9_hurry_17 rfl rfl ?_
      refine yr_iret C dX9_hurry_19 hr (Nat.le_of_ble_eq_true rfl) (Nat.le_of_ble_eq_true rfl) ?_
      exact ⟨by simp [sp_hurry, mset_ne, mset_same, ix_nI, c5, c14], by simpa [sp_hurry, mset_ne, mset_same, ix_nI, c5, c14] using hR⟩
  · refine yr_iconst 9 C (-1) dX9_hurry_8 rfl rfl ?_
    refine yr_iret C dX9_hurry_9 hr (Nat.le_of_ble_eq_true rfl) (Nat.le_of_ble_eq_true rfl) ?_
    exact ⟨by simp [sp_hurry, mset_ne, mset_same, ix_nI, c5], by simpa [sp_hurry, mset_ne, mset_same, ix_nI, c5] using hR⟩
set_option maxHeartbeats 4000000 in
set_option maxRecDepth 100000 in
theorem mc_light (hZ : yZok D dA Z) (q : Int32) (hI : mI S np ns nd no nr t) (h : yH) (hR : yMR dA ad m0 (S) h) : yM Z D yX9_light cX9_light 2 (some .int) 2 0 0 [.ref m0, .int q] h (fun r h' => r = some (.int (sp_light S q).1) ∧ yMR dA ad m0 ((sp_light S q).2) h') := by
  refine yM_of hZ (by decide) rfl (Nat.le_of_ble_eq_true rfl) ?_
  intro p l e s m args below meth c A C hr hin
  show yW p l e (yR 2 0 0) s m args below meth c 2 D A 0 0 _ 0 [some (.ref m0), some (.int q)] [] h
  refine yr_aload_n 1 C dX9_light_0 rfl rfl rfl ?_
  refine yr_iload_n 2 C dX9_light_1 rfl rfl ?_
  refine yr_V1v 5 C (mc_isPhase hZ _ _ hR) dX9_light_2 mt_X9_isPhase mv_X9_isPhase ml_X9_136 hR.1 rfl (Nat.le_of_ble_eq_true rfl) (Nat.le_of_ble_eq_true rfl) (Nat.le_of_ble_eq_true rfl) (Nat.le_of_ble_eq_true rfl) (Nat.le_of_ble_eq_true rfl) rfl (fun h hR => ?_)
  refine yb_eq 17 8 C dX9_light_5 (by decide) rfl (fun c5 => ?_) (fun c5 => ?_)
  · refine yr_iconst 18 C (-1) dX9_light_17 rfl rfl ?_
    refine yr_iret C dX9_light_18 hr (Nat.le_of_ble_eq_true rfl) (Nat.le_of_ble_eq_true rfl) ?_
    refine ⟨?_, hR⟩
    first | (simp [sp_light, e0, c5]; done) | simp [sp_light, c5]
  · obtain ⟨j, hj, rfl⟩ := m_isP_ix hI c5
    have h0 : S 1 0 = nI np ∧ np ≤ 8 := hI 0
    have e0 : ix (nI j) = j := ix_nI (by omega)
    refine yr_aload_n 9 C dX9_light_8 rfl rfl rfl ?_
    refine ym_getA 12 C hR dX9_light_9 fl_X9_13 (by decide) rfl rfl ?_
    refine yr_iload_n 13 C dX9_light_12 rfl rfl ?_
    refine ym_aldN 14 C hR dX9_light_13 (by decide) rfl rfl ?_ rfl ?_
    · simp only [mL]; omega
    refine yr_goto 18 C dX9_light_14 (by decide) ?_
    refine yr_iret C dX9_light_18 hr (Nat.le_of_ble_eq_true rfl) (Nat.le_of_ble_eq_true rfl) ?_
    refine ⟨?_, hR⟩
    first | (simp [sp_light, e0, c5]; done) | simp [sp_light, c5]
set_option maxHeartbeats 4000000 in
set_option maxRecDepth 100000 in
theorem mc_length (hZ : yZok D dA Z) (q : Int32) (hI : mI S np ns nd no nr t) (h : yH) (hR : yMR dA ad m0 (S) h) : yM Z D yX9_length cX9_length 2 (some .int) 2 0 0 [.ref m0, .int q] h (fun r h' => r = some (.int (sp_length S q).1) ∧ yMR dA ad m0 ((sp_length S q).2) h') := by
  refine yM_of hZ (by decide) rfl (Nat.le_of_ble_eq_true rfl) ?_
  intro p l e s m args below meth c A C hr hin
  show yW p l e (yR 2 0 0) s m args below meth c 2 D A 0 0 _ 0 [some (.ref m0), some (.int q)] [] h
  refine yr_aload_n 1 C dX9_length_0 rfl rfl rfl ?_
  refine yr_iload_n 2 C dX9_length_1 rfl rfl ?_
  refine yr_V1v 5 C (mc_isDetector hZ _ _ hR) dX9_length_2 mt_X9_isDetector mv_X9_isDetector ml_X9_147 hR.1 rfl (Nat.le_of_ble_eq_true rfl) (Nat.le_of_ble_eq_true rfl) (Nat.le_of_ble_eq_true rfl) (Nat.le_of_ble_eq_true rfl) (Nat.le_of_ble_eq_true rfl) rfl (fun h hR => ?_)
  refine yb_eq 17 8 C dX9_length_5 (by decide) rfl (fun c5 => ?_) (fun c5 => ?_)
  · refine yr_iconst 18 C (-1) dX9_length_17 rfl rfl ?_
    refine yr_iret C dX9_length_18 hr (Nat.le_of_ble_eq_true rfl) (Nat.le_of_ble_eq_true rfl) ?_
    refine ⟨?_, hR⟩
    first | (simp [sp_length, e0, c5]; done) | simp [sp_length, c5]
  · obtain ⟨j, hj, rfl⟩ := m_isD_ix hI c5
    have h0 : S 19 0 = nI nd ∧ nd ≤ 12 := hI 2
    have e0 : ix (nI j) = j := ix_nI (by omega)
    refine yr_aload_n 9 C dX9_length_8 rfl rfl rfl ?_
    refine ym_getA 12 C hR dX9_length_9 fl_X9_59 (by decide) rfl rfl ?_
    refine yr_iload_n 13 C dX9_length_12 rfl rfl ?_
    refine ym_aldN 14 C hR dX9_length_13 (by decide) rfl rfl ?_ rfl ?_
    · simp only [mL]; omega
    refine yr_goto 18 C dX9_length_14 (by decide) ?_
    refine yr_iret C dX9_length_18 hr (Nat.le_of_ble_eq_true rfl) (Nat.le_of_ble_eq_true rfl) ?_
    refine ⟨?_, hR⟩
    first | (simp [sp_length, e0, c5]; done) | simp [sp_length, c5]
set_option maxHeartbeats 4000000 in
set_option maxRecDepth 100000 in
theorem mc_finding (hZ : yZok D dA Z) (q : Int32) (hI : mI S np ns nd no nr t) (h : yH) (hR : yMR dA ad m0 (S) h) : yM Z D yX9_finding cX9_finding 2 (some .int) 0 0 0 [.ref m0, .int q] h (fun r h' => r = some (.int (sp_finding S q).1) ∧ yMR dA ad m0 ((sp_finding S q).2) h') := by
  refine yM_of hZ (by decide) rfl (Nat.le_of_ble_eq_true rfl) ?_
  intro p l e s m args below meth c A C hr hin
  show yW p l e (yR 0 0 0) s m args below meth c 2 D A 0 0 _ 0 [some (.ref m0), some (.int q)] [] h
  refine yr_iload_n 1 C dX9_finding_0 rfl rfl ?_
  refine yr_if_ne 11 4 C dX9_finding_1 (by decide) rfl (fun c1 => ?_) (fun c1 => ?_)
  · refine yr_iload_n 12 C dX9_finding_11 rfl rfl ?_
    refine yr_iconst 13 C (1) dX9_finding_12 rfl rfl ?_
    refine yr_icmp_ne 23 16 C dX9_finding_13 (by decide) rfl (fun c13 => ?_) (fun c13 => ?_)
    · refine yr_iconst 24 C (-1) dX9_finding_23 rfl rfl ?_
      refine yr_iret C dX9_finding_24 hr (Nat.le_of_ble_eq_true rfl) (Nat.le_of_ble_eq_true rfl) ?_
      refine ⟨?_, hR⟩
      simp [sp_finding, c1, c13]
    · refine yr_aload_n 17 C dX9_finding_16 rfl rfl rfl ?_
      refine ym_get 20 C hR dX9_finding_17 fl_X9_111 (by decide) rfl rfl ?_
      refine yr_goto 24 C dX9_finding_20 (by decide) ?_
      refine yr_iret C dX9_finding_24 hr (Nat.le_of_ble_eq_true rfl) (Nat.le_of_ble_eq_true rfl) ?_
      refine ⟨?_, hR⟩
      simp [sp_finding, c1, c13]
  · refine yr_aload_n 5 C dX9_finding_4 rfl rfl rfl ?_
    refine ym_get 8 C hR dX9_finding_5 fl_X9_166 (by decide) rfl rfl ?_
    refine yr_goto 24 C dX9_finding_8 (by decide) ?_
    refine yr_iret C dX9_finding_24 hr (Nat.le_of_ble_eq_true rfl) (Nat.le_of_ble_eq_true rfl) ?_
    refine ⟨?_, hR⟩
    simp [sp_finding, c1]
set_option maxHeartbeats 4000000 in
set_option maxRecDepth 100000 in
theorem mc_lamp (hZ : yZok D dA Z) (q : Int32) (out : Int32) (ho : out = 0 ∨ out = 1) (hI : mI S np ns nd no nr t) (h : yH) (hR : yMR dA ad m0 (S) h) : yM Z D yX9_lamp cX9_lamp 4 (some .int) 2 0 0 [.ref m0, .int q, .int out] h (fun r h' => r = some (.int (sp_lamp S q out).1) ∧ yMR dA ad m0 ((sp_lamp S q out).2) h') := by
  refine yM_of hZ (by decide) rfl (Nat.le_of_ble_eq_true rfl) ?_
  intro p l e s m args below meth c A C hr hin
  show yW p l e (yR 2 0 0) s m args below meth c 4 D A 0 0 _ 0 [some (.ref m0), some (.int q), some (.int out), none] [] h
  refine yr_aload_n 1 C dX9_lamp_0 rfl rfl rfl ?_
  refine yr_iload_n 2 C dX9_lamp_1 rfl rfl ?_
  refine yr_V1v 5 C (mc_isPhase hZ _ _ hR) dX9_lamp_2 mt_X9_isPhase mv_X9_isPhase ml_X9_136 hR.1 rfl (Nat.le_of_ble_eq_true rfl) (Nat.le_of_ble_eq_true rfl) (Nat.le_of_ble_eq_true rfl) (Nat.le_of_ble_eq_true rfl) (Nat.le_of_ble_eq_true rfl) rfl (fun h hR => ?_)
  refine yb_ne 10 8 C dX9_lamp_5 (by decide) rfl (fun c5 => ?_) (fun c5 => ?_)
  · obtain ⟨j, hj, rfl⟩ := m_isP_ix hI c5
    have h0 : S 1 0 = nI np ∧ np ≤ 8 := hI 0
    have e0 : ix (nI j) = j := ix_nI (by omega)
    refine yr_aload_n 11 C dX9_lamp_10 rfl rfl rfl ?_
    refine ym_getA 14 C hR dX9_lamp_11 fl_X9_46 (by decide) rfl rfl ?_
    refine yr_iload_n 15 C dX9_lamp_14 rfl rfl ?_
    refine ym_zaldN 16 C hR dX9_lamp_15 (by decide) rfl rfl ?_ rfl ?_
    · simp only [mL]; omega
    refine yr_if_eq 23 19 C dX9_lamp_16 (by decide) rfl (fun c16 => ?_) (fun c16 => ?_)
    · refine yr_iconst 24 C (0) dX9_lamp_23 rfl rfl ?_
      refine yr_istore3 25 C dX9_lamp_24 (by decide) rfl ?_
      refine yr_aload_n 26 C dX9_lamp_25 rfl rfl rfl ?_
      refine ym_getA 29 C hR dX9_lamp_26 fl_X9_46 (by decide) rfl rfl ?_
      refine yr_iload_n 30 C dX9_lamp_29 rfl rfl ?_
      refine yr_iload_n 31 C dX9_lamp_30 rfl rfl ?_
      refine ym_zastN 32 C hR dX9_lamp_31 (by decide) rfl rfl ?_ ?_ rfl (fun h hR => ?_)
      · simp only [mL]; omega
      · exact ho
      refine yr_iload_n 33 C dX9_lamp_32 rfl rfl ?_
      refine yr_iret C dX9_lamp_33 hr (Nat.le_of_ble_eq_true rfl) (Nat.le_of_ble_eq_true rfl) ?_
      refine ⟨?_, ?_⟩
      · first | (simp [sp_lamp, e0, c5, c16]; done) | simp [sp_lamp, c5, c16]
      · first | (simpa [sp_lamp, e0, c5, c16] using hR) | simpa [sp_lamp, c5, c16] using hR
    · refine yr_iconst 20 C (1) dX9_lamp_19 rfl rfl ?_
      refine yr_goto 24 C dX9_lamp_20 (by decide) ?_
      refine yr_istore3 25 C dX9_lamp_24 (by decide) rfl ?_
      refine yr_aload_n 26 C dX9_lamp_25 rfl rfl rfl ?_
      refine ym_getA 29 C hR dX9_lamp_26 fl_X9_46 (by decide) rfl rfl ?_
      refine yr_iload_n 30 C dX9_lamp_29 rfl rfl ?_
      refine yr_iload_n 31 C dX9_lamp_30 rfl rfl ?_
      refine ym_zastN 32 C hR dX9_lamp_31 (by decide) rfl rfl ?_ ?_ rfl (fun h hR => ?_)
      · simp only [mL]; omega
      · exact ho
      refine yr_iload_n 33 C dX9_lamp_32 rfl rfl ?_
      refine yr_iret C dX9_lamp_33 hr (Nat.le_of_ble_eq_true rfl) (Nat.le_of_ble_eq_true rfl) ?_
      refine ⟨?_, ?_⟩
      · first | (simp [sp_lamp, e0, c5, c16]; done) | simp [sp_lamp, c5, c16]
      · first | (simpa [sp_lamp, e0, c5, c16] using hR) | simpa [sp_lamp, c5, c16] using hR
  · refine yr_iconst 9 C (-1) dX9_lamp_8 rfl rfl ?_
    refine yr_iret C dX9_lamp_9 hr (Nat.le_of_ble_eq_true rfl) (Nat.le_of_ble_eq_true rfl) ?_
    refine ⟨?_, ?_⟩
    · first | (simp [sp_lamp, e0, c5]; done) | simp [sp_lamp, c5]
    · first | (simpa [sp_lamp, e0, c5] using hR) | simpa [sp_lamp, c5] using hR
set_option maxHeartbeats 4000000 in
set_option maxRecDepth 100000 in
theorem mc_ask (hZ : yZok D dA Z) (q : Int32) (hI : mI S np ns nd no nr t) (h : yH) (hR : yMR dA ad m0 (S) h) : yM Z D yX9_ask cX9_ask 2 (some .int) 2 0 0 [.ref m0, .int q] h (fun r h' => r = some (.int (sp_ask S q).1) ∧ yMR dA ad m0 ((sp_ask S q).2) h') := by
  refine yM_of hZ (by decide) rfl (Nat.le_of_ble_eq_true rfl) ?_
  intro p l e s m args below meth c A C hr hin
  show yW p l e (yR 2 0 0) s m args below meth c 2 D A 0 0 _ 0 [some (.ref m0), some (.int q)] [] h
  refine yr_aload_n 1 C dX9_ask_0 rfl rfl rfl ?_
  refine yr_iload_n 2 C dX9_ask_1 rfl rfl ?_
  refine yr_V1v 5 C (mc_isPhase hZ _ _ hR) dX9_ask_2 mt_X9_isPhase mv_X9_isPhase ml_X9_136 hR.1 rfl (Nat.le_of_ble_eq_true rfl) (Nat.le_of_ble_eq_true rfl) (Nat.le_of_ble_eq_true rfl) (Nat.le_of_ble_eq_true rfl) (Nat.le_of_ble_eq_true rfl) rfl (fun h hR => ?_)
  refine yb_ne 10 8 C dX9_ask_5 (by decide) rfl (fun c5 => ?_) (fun c5 => ?_)
  · obtain ⟨j, hj, rfl⟩ := m_isP_ix hI c5
    have h0 : S 1 0 = nI np ∧ np ≤ 8 := hI 0
    have e0 : ix (nI j) = j := ix_nI (by omega)
    refine yr_aload_n 11 C dX9_ask_10 rfl rfl rfl ?_
    refine ym_getA 14 C hR dX9_ask_11 fl_X9_34 (by decide) rfl rfl ?_
    refine yr_iload_n 15 C dX9_ask_14 rfl rfl ?_
    refine ym_aldN 16 C hR dX9_ask_15 (by decide) rfl rfl ?_ rfl ?_
    · simp only [mL]; omega
    refine yr_if_ge 29 19 C dX9_ask_16 (by decide) rfl (fun c16 => ?_) (fun c16 => ?_)
    · refine yr_iconst 30 C (0) dX9_ask_29 rfl rfl ?_
      refine yr_iret C dX9_ask_30 hr (Nat.le_of_ble_eq_true rfl) (Nat.le_of_ble_eq_true rfl) ?_
      refine ⟨?_, ?_⟩
      · first | (simp [sp_ask, e0, c5, c16]; done) | simp [sp_ask, c5, c16]
      · first | (simpa [sp_ask, e0, c5, c16] using hR) | simpa [sp_ask, c5, c16] using hR
    · refine yr_aload_n 20 C dX9_ask_19 rfl rfl rfl ?_
      refine ym_getA 23 C hR dX9_ask_20 fl_X9_13 (by decide) rfl rfl ?_
      refine yr_iload_n 24 C dX9_ask_23 rfl rfl ?_
      refine ym_aldN 25 C hR dX9_ask_24 (by decide) rfl rfl ?_ rfl ?_
      · simp only [mL]; omega
      refine yr_iconst 26 C (1) dX9_ask_25 rfl rfl ?_
      refine yr_icmp_ne 31 29 C dX9_ask_26 (by decide) rfl (fun c26 => ?_) (fun c26 => ?_)
      · refine yr_aload_n 32 C dX9_ask_31 rfl rfl rfl ?_
        refine ym_getA 35 C hR dX9_ask_32 fl_X9_34 (by decide) rfl rfl ?_
        refine yr_iload_n 36 C dX9_ask_35 rfl rfl ?_
        refine yr_aload_n 37 C dX9_ask_36 rfl rfl rfl ?_
        refine ym_get 40 C hR dX9_ask_37 fl_X9_133 (by decide) rfl rfl ?_
        refine ym_astN 41 C hR dX9_ask_40 (by decide) rfl rfl ?_ rfl (fun h hR => ?_)
        · simp only [mL]; omega
        refine yr_iconst 42 C (1) dX9_ask_41 rfl rfl ?_
        refine yr_iret C dX9_ask_42 hr (Nat.le_of_ble_eq_true rfl) (Nat.le_of_ble_eq_true rfl) ?_
        refine ⟨?_, ?_⟩
        · first | (simp [sp_ask, e0, c5, c16, c26]; done) | simp [sp_ask, c5, c16, c26]
        · first | (simpa [sp_ask, e0, c5, c16, c26] using hR) | simpa [sp_ask, c5, c16, c26] using hR
      · refine yr_iconst 30 C (0) dX9_ask_29 rfl rfl ?_
        refine yr_iret C dX9_ask_30 hr (Nat.le_of_ble_eq_true rfl) (Nat.le_of_ble_eq_true rfl) ?_
        refine ⟨?_, ?_⟩
        · first | (simp [sp_ask, e0, c5, c16, c26]; done) | simp [sp_ask, c5, c16, c26]
        · first | (simpa [sp_ask, e0, c5, c16, c26] using hR) | simpa [sp_ask, c5, c16, c26] using hR
  · refine yr_iconst 9 C (-1) dX9_ask_8 rfl rfl ?_
    refine yr_iret C dX9_ask_9 hr (Nat.le_of_ble_eq_true rfl) (Nat.le_of_ble_eq_true rfl) ?_
    refine ⟨?_, ?_⟩
    · first | (simp [sp_ask, e0, c5]; done) | simp [sp_ask, c5]
    · first | (simpa [sp_ask, e0, c5] using hR) | simpa [sp_ask, c5] using hR
set_option maxHeartbeats 4000000 in
set_option maxRecDepth 100000 in
theorem mc_trace (hZ : yZok D dA Z)  (hI : mI S np ns nd no nr t) (h : yH) (hR : yMR dA ad m0 (S) h) : yM Z D yX9_trace cX9_trace 1 (some .int) 0 0 0 [.ref m0] h (fun r h' => r = some (.int (sp_trace S).1) ∧ yMR dA ad m0 ((sp_trace S).2) h') := by
  refine yM_of hZ (by decide) rfl (Nat.le_of_ble_eq_true rfl) ?_
  intro p l e s m args below meth c A C hr hin
  show yW p l e (yR 0 0 0) s m args below meth c 1 D A 0 0 _ 0 [some (.ref m0)] [] h
  refine yr_aload_n 1 C dX9_trace_0 rfl rfl rfl ?_
  refine ym_get 4 C hR dX9_trace_1 fl_X9_173 (by decide) rfl rfl ?_
  refine yr_iret C dX9_trace_4 hr (Nat.le_of_ble_eq_true rfl) (Nat.le_of_ble_eq_true rfl) ?_
  exact ⟨rfl, hR⟩
set_option maxHeartbeats 4000000 in
set_option maxRecDepth 100000 in
theorem mc_passing (hZ : yZok D dA Z) (q a b : Int32) (hI : mI S np ns nd no nr t) (h : yH) (hR : yMR dA ad m0 (S) h) : yM Z D yX9_passing cX9_passing 4 (some .int) 2 0 0 [.ref m0, .int q, .int a, .int b] h (fun r h' => r = some (.int (sp_passing S q a b).1) ∧ yMR dA ad m0 ((sp_passing S q a b).2) h') := by
  refine yM_of hZ (by decide) rfl (Nat.le_of_ble_eq_true rfl) ?_
  intro p l e s m args below meth c A C hr hin
  show yW p l e (yR 2 0 0) s m args below meth c 4 D A 0 0 _ 0 [some (.ref m0), some (.int q), some (.int a), some (.int b)] [] h
  refine yr_aload_n 1 C dX9_passing_0 rfl rfl rfl ?_
  refine yr_iload_n 2 C dX9_passing_1 rfl rfl ?_
  refine yr_V1v 5 C (mc_isDetector hZ _ _ hR) dX9_passing_2 mt_X9_isDetector mv_X9_isDetector ml_X9_147 hR.1 rfl (Nat.le_of_ble_eq_true rfl) (Nat.le_of_ble_eq_true rfl) (Nat.le_of_ble_eq_true rfl) (Nat.le_of_ble_eq_true rfl) (Nat.le_of_ble_eq_true rfl) rfl (fun h hR => ?_)
  refine yb_eq 30 8 C dX9_passing_5 (by decide) rfl (fun c5 => ?_) (fun c5 => ?_)
  · refine yr_iconst 31 C (-1) dX9_passing_30 rfl rfl ?_
    refine yr_iret C dX9_passing_31 hr (Nat.le_of_ble_eq_true rfl) (Nat.le_of_ble_eq_true rfl) ?_
    refine ⟨?_, ?_⟩
    · first | (simp [sp_passing, e0, c5]; done) | simp [sp_passing, c5]
    · first | (simpa [sp_passing, e0, c5] using hR) | simpa [sp_passing, c5] using hR
  · refine yr_iload_n 9 C dX9_passing_8 rfl rfl ?_
    refine yr_bipush 11 C (-128) dX9_passing_9 rfl rfl ?_
    refine yr_bipush 13 C (127) dX9_passing_11 rfl rfl ?_
    refine yr_S3v 16 C (mc_in hZ _ _ _ _) dX9_passing_13 mt_X9_in ms_X9_in ml_X9_123 (Nat.le_of_ble_eq_true rfl) (Nat.le_of_ble_eq_true rfl) (Nat.le_of_ble_eq_true rfl) (Nat.le_of_ble_eq_true rfl) (Nat.le_of_ble_eq_true rfl) rfl (fun h e => ?_)
    subst e
    refine yb_eq 30 19 C dX9_passing_16 (by decide) rfl (fun c16 => ?_) (fun c16 => ?_)
    · refine yr_iconst 31 C (-1) dX9_passing_30 rfl rfl ?_
      refine yr_iret C dX9_passing_31 hr (Nat.le_of_ble_eq_true rfl) (Nat.le_of_ble_eq_true rfl) ?_
      refine ⟨?_, ?_⟩
      · first | (simp [sp_passing, e0, c5, c16]; done) | simp [sp_passing, c5, c16]
      · first | (simpa [sp_passing, e0, c5, c16] using hR) | simpa [sp_passing, c5, c16] using hR
    · refine yr_iload_n 20 C dX9_passing_19 rfl rfl ?_
      refine yr_iconst 21 C (0) dX9_passing_20 rfl rfl ?_
      refine yr_sipush 24 C (10000) dX9_passing_21 rfl rfl ?_
      refine yr_S3v 27 C (mc_in hZ _ _ _ _) dX9_passing_24 mt_X9_in ms_X9_in ml_X9_123 (Nat.le_of_ble_eq_true rfl) (Nat.le_of_ble_eq_true rfl) (Nat.le_of_ble_eq_true rfl) (Nat.le_of_ble_eq_true rfl) (Nat.le_of_ble_eq_true rfl) rfl (fun h e => ?_)
      subst e
      refine yb_ne 32 30 C dX9_passing_27 (by decide) rfl (fun c27 => ?_) (fun c27 => ?_)
      · obtain ⟨j, hj, rfl⟩ := m_isD_ix hI c5
        have h0 : S 19 0 = nI nd ∧ nd ≤ 12 := hI 2
        have e0 : ix (nI j) = j := ix_nI (by omega)
        refine yr_aload_n 33 C dX9_passing_32 rfl rfl rfl ?_
        refine ym_getA 36 C hR dX9_passing_33 fl_X9_59 (by decide) rfl rfl ?_
        refine yr_iload_n 37 C dX9_passing_36 rfl rfl ?_
        refine ym_aldN 38 C hR dX9_passing_37 (by decide) rfl rfl ?_ rfl ?_
        · simp only [mL]; omega
        refine yr_if_ge 44 41 C dX9_passing_38 (by decide) rfl (fun c38 => ?_) (fun c38 => ?_)
        · refine yr_aload_n 45 C dX9_passing_44 rfl rfl rfl ?_
          refine ym_getA 48 C hR dX9_passing_45 fl_X9_59 (by decide) rfl rfl ?_
          refine yr_iload_n 49 C dX9_passing_48 rfl rfl ?_
          refine ym_aldN 50 C hR dX9_passing_49 (by decide) rfl rfl ?_ rfl ?_
          · simp only [mL]; omega
          refine yr_sipush 53 C (200) dX9_passing_50 rfl rfl ?_
          refine yr_icmp_ne 59 56 C dX9_passing_53 (by decide) rfl (fun c53 => ?_) (fun c53 => ?_)
          · have h8 : cO (S 20 j) 201 := (show ∀ d, d < nd → cO (S 20 d) 201 from hI 8) j hj
            obtain ⟨k, hk, ek⟩ : ∃ k : Nat, k < 200 ∧ S 20 j = nI k := by
              rcases h8 with e | ⟨k, hk, e⟩
              · rw [e] at c38; exact absurd c38 (by decide)
              · refine ⟨k, ?_, e⟩
                have : k ≠ 200 := fun z => c53 (by rw [e, z]; rfl)
                omega
            have e1 : ix (S 20 j) = k := by rw [ek]; exact ix_nI (by omega)
            refine yr_aload_n 60 C dX9_passing_59 rfl rfl rfl ?_
            refine ym_getA 63 C hR dX9_passing_60 fl_X9_62 (by decide) rfl rfl ?_
            refine yr_sipush 66 C (200) dX9_passing_63 rfl rfl ?_
            refine yr_iload_n 67 C dX9_passing_66 rfl rfl ?_
            refine yr_imul 68 C dX9_passing_67 rfl ?_
            refine yr_aload_n 69 C dX9_passing_68 rfl rfl rfl ?_
            refine ym_getA 72 C hR dX9_passing_69 fl_X9_59 (by decide) rfl rfl ?_
            refine yr_iload_n 73 C dX9_passing_72 rfl rfl ?_
            refine ym_aldN 74 C hR dX9_passing_73 (by decide) rfl rfl ?_ rfl ?_
            · simp only [mL]; omega
            rw [ek]
            refine yr_iadd 75 C dX9_passing_74 rfl ?_
            rw [show (200 : Int32) * nI j + nI k = nI (200 * j + k) from ixm]
            refine yr_iload_n 76 C dX9_passing_75 rfl rfl ?_
            refine ym_astN 77 C hR dX9_passing_76 (by decide) rfl rfl ?_ rfl (fun h hR => ?_)
            · simp only [mL]; omega
            refine yr_aload_n 78 C dX9_passing_77 rfl rfl rfl ?_
            refine ym_getA 81 C hR dX9_passing_78 fl_X9_65 (by decide) rfl rfl ?_
            refine yr_sipush 84 C (200) dX9_passing_81 rfl rfl ?_
            refine yr_iload_n 85 C dX9_passing_84 rfl rfl ?_
            refine yr_imul 86 C dX9_passing_85 rfl ?_
            refine yr_aload_n 87 C dX9_passing_86 rfl rfl rfl ?_
            refine ym_getA 90 C hR dX9_passing_87 fl_X9_59 (by decide) rfl rfl ?_
            refine yr_iload_n 91 C dX9_passing_90 rfl rfl ?_
            refine ym_aldN 92 C hR dX9_passing_91 (by decide) rfl rfl ?_ rfl ?_
            · simp only [mL]; omega
            rw [mset_ne S _ (show 20 ≠ 21 by decide), ek]
            refine yr_iadd 93 C dX9_passing_92 rfl ?_
            rw [show (200 : Int32) * nI j + nI k = nI (200 * j + k) from ixm]
            refine yr_iload_n 94 C dX9_passing_93 rfl rfl ?_
            refine ym_astN 95 C hR dX9_passing_94 (by decide) rfl rfl ?_ rfl (fun h hR => ?_)
            · simp only [mL]; omega
            refine yr_aload_n 96 C dX9_passing_95 rfl rfl rfl ?_
            refine ym_getA 99 C hR dX9_passing_96 fl_X9_59 (by decide) rfl rfl ?_
            refine yr_iload_n 100 C dX9_passing_99 rfl rfl ?_
            refine yr_dup2 101 C dX9_passing_100 rfl rfl rfl ?_
            refine ym_aldN 102 C hR dX9_passing_101 (by decide) rfl rfl ?_ rfl ?_
            · simp only [mL]; omega
            refine yr_iconst 103 C (1) dX9_passing_102 rfl rfl ?_
            refine yr_iadd 104 C dX9_passing_103 rfl ?_
            refine ym_astN 105 C hR dX9_passing_104 (by decide) rfl rfl ?_ rfl (fun h hR => ?_)
            · simp only [mL]; omega
            refine yr_aload_n 106 C dX9_passing_105 rfl rfl rfl ?_
            refine ym_getA 109 C hR dX9_passing_106 fl_X9_59 (by decide) rfl rfl ?_
            refine yr_iload_n 110 C dX9_passing_109 rfl rfl ?_
            refine ym_aldN 111 C hR dX9_passing_110 (by decide) rfl rfl ?_ rfl ?_
            · simp only [mL]; omega
            refine yr_iret C dX9_passing_111 hr (Nat.le_of_ble_eq_true rfl) (Nat.le_of_ble_eq_true rfl) ?_
            simp only [mset_ne _ _ (show 20 ≠ 21 by decide), mset_ne _ _ (show 20 ≠ 22 by decide), mset_same] at hR ⊢
            refine ⟨?_, ?_⟩
            · simp [sp_passing, e0, c5, c16, c27, c38, c53]
            · simpa [sp_passing, e0, e1, c5, c16, c27, c38, c53] using hR
          · refine yr_bipush 58 C (-2) dX9_passing_56 rfl rfl ?_
            refine yr_iret C dX9_passing_58 hr (Nat.le_of_ble_eq_true rfl) (Nat.le_of_ble_eq_true rfl) ?_
            refine ⟨?_, ?_⟩
            · first | (simp [sp_passing, e0, c5, c16, c27, c38, c53]; done) | simp [sp_passing, c5, c16, c27, c38, c53]
            · first | (simpa [sp_passing, e0, c5, c16, c27, c38, c53] using hR) | simpa [sp_passing, c5, c16, c27, c38, c53] using hR
        · refine yr_bipush 43 C (-3) dX9_passing_41 rfl rfl ?_
          refine yr_iret C dX9_passing_43 hr (Nat.le_of_ble_eq_true rfl) (Nat.le_of_ble_eq_true rfl) ?_
          refine ⟨?_, ?_⟩
          · first | (simp [sp_passing, e0, c5, c16, c27, c38]; done) | simp [sp_passing, c5, c16, c27, c38]
          · first | (simpa [sp_passing, e0, c5, c16, c27, c38] using hR) | simpa [sp_passing, c5, c16, c27, c38] using hR
      · refine yr_iconst 31 C (-1) dX9_passing_30 rfl rfl ?_
        refine yr_iret C dX9_passing_31 hr (Nat.le_of_ble_eq_true rfl) (Nat.le_of_ble_eq_true rfl) ?_
        refine ⟨?_, ?_⟩
        · first | (simp [sp_passing, e0, c5, c16, c27]; done) | simp [sp_passing, c5, c16, c27]
        · first | (simpa [sp_passing, e0, c5, c16, c27] using hR) | simpa [sp_passing, c5, c16, c27] using hR
set_option maxHeartbeats 4000000 in
set_option maxRecDepth 100000 in
theorem mc_table (hZ : yZok D dA Z) (q a b f u : Int32) (hI : mI S np ns nd no nr t) (h : yH) (hR : yMR dA ad m0 (S) h) : yM Z D yX9_table cX9_table 6 (some .int) 2 0 0 [.ref m0, .int q, .int a, .int b, .int f, .int u] h (fun r h' => r = some (.int (sp_table S q a b f u).1) ∧ yMR dA ad m0 ((sp_table S q a b f u).2) h') := by
  refine yM_of hZ (by decide) rfl (Nat.le_of_ble_eq_true rfl) ?_
  intro p l e s m args below meth c A C hr hin
  show yW p l e (yR 2 0 0) s m args below meth c 6 D A 0 0 _ 0 [some (.ref m0), some (.int q), some (.int a), some (.int b), some (.int f), some (.int u)] [] h
  refine yr_aload_n 1 C dX9_table_0 rfl rfl rfl ?_
  refine yr_iload_n 2 C dX9_table_1 rfl rfl ?_
  refine yr_V1v 5 C (mc_isPhase hZ _ _ hR) dX9_table_2 mt_X9_isPhase mv_X9_isPhase ml_X9_136 hR.1 rfl (Nat.le_of_ble_eq_true rfl) (Nat.le_of_ble_eq_true rfl) (Nat.le_of_ble_eq_true rfl) (Nat.le_of_ble_eq_true rfl) (Nat.le_of_ble_eq_true rfl) rfl (fun h hR => ?_)
  refine yb_eq 48 8 C dX9_table_5 (by decide) rfl (fun c5 => ?_) (fun c5 => ?_)
  · refine yr_iconst 49 C (-1) dX9_table_48 rfl rfl ?_
    refine yr_iret C dX9_table_49 hr (Nat.le_of_ble_eq_true rfl) (Nat.le_of_ble_eq_true rfl) ?_
    refine ⟨?_, ?_⟩
    · simp [sp_table, c5]
    · simpa [sp_table, c5] using hR
  · refine yr_iload_n 9 C dX9_table_8 rfl rfl ?_
    refine yr_iconst 10 C (1) dX9_table_9 rfl rfl ?_
    refine yr_bipush 12 C (60) dX9_table_10 rfl rfl ?_
    refine yr_S3v 15 C (mc_in hZ _ _ _ _) dX9_table_12 mt_X9_in ms_X9_in ml_X9_123 (Nat.le_of_ble_eq_true rfl) (Nat.le_of_ble_eq_true rfl) (Nat.le_of_ble_eq_true rfl) (Nat.le_of_ble_eq_true rfl) (Nat.le_of_ble_eq_true rfl) rfl (fun h e => ?_)
    subst e
    refine yb_eq 48 18 C dX9_table_15 (by decide) rfl (fun c15 => ?_) (fun c15 => ?_)
    · refine yr_iconst 49 C (-1) dX9_table_48 rfl rfl ?_
      refine yr_iret C dX9_table_49 hr (Nat.le_of_ble_eq_true rfl) (Nat.le_of_ble_eq_true rfl) ?_
      refine ⟨?_, ?_⟩
      · simp [sp_table, c5, c15]
      · simpa [sp_table, c5, c15] using hR
    · refine yr_iload_n 19 C dX9_table_18 rfl rfl ?_
      refine yr_iload_n 20 C dX9_table_19 rfl rfl ?_
      refine yr_bipush 22 C (120) dX9_table_20 rfl rfl ?_
      refine yr_S3v 25 C (mc_in hZ _ _ _ _) dX9_table_22 mt_X9_in ms_X9_in ml_X9_123 (Nat.le_of_ble_eq_true rfl) (Nat.le_of_ble_eq_true rfl) (Nat.le_of_ble_eq_true rfl) (Nat.le_of_ble_eq_true rfl) (Nat.le_of_ble_eq_true rfl) rfl (fun h e => ?_)
      subst e
      refine yb_eq 48 28 C dX9_table_25 (by decide) rfl (fun c25 => ?_) (fun c25 => ?_)
      · refine yr_iconst 49 C (-1) dX9_table_48 rfl rfl ?_
        refine yr_iret C dX9_table_49 hr (Nat.le_of_ble_eq_true rfl) (Nat.le_of_ble_eq_true rfl) ?_
        refine ⟨?_, ?_⟩
        · simp [sp_table, c5, c15, c25]
        · simpa [sp_table, c5, c15, c25] using hR
      · refine yr_iload 30 C dX9_table_28 rfl rfl ?_
        refine yr_iconst 31 C (0) dX9_table_30 rfl rfl ?_
        refine yr_bipush 33 C (9) dX9_table_31 rfl rfl ?_
        refine yr_S3v 36 C (mc_in hZ _ _ _ _) dX9_table_33 mt_X9_in ms_X9_in ml_X9_123 (Nat.le_of_ble_eq_true rfl) (Nat.le_of_ble_eq_true rfl) (Nat.le_of_ble_eq_true rfl) (Nat.le_of_ble_eq_true rfl) (Nat.le_of_ble_eq_true rfl) rfl (fun h e => ?_)
        subst e
        refine yb_eq 48 39 C dX9_table_36 (by decide) rfl (fun c36 => ?_) (fun c36 => ?_)
        · refine yr_iconst 49 C (-1) dX9_table_48 rfl rfl ?_
          refine yr_iret C dX9_table_49 hr (Nat.le_of_ble_eq_true rfl) (Nat.le_of_ble_eq_true rfl) ?_
          refine ⟨?_, ?_⟩
          · simp [sp_table, c5, c15, c25, c36]
          · simpa [sp_table, c5, c15, c25, c36] using hR
        · refine yr_iload 41 C dX9_table_39 rfl rfl ?_
          refine yr_aload_n 42 C dX9_table_41 rfl rfl rfl ?_
          refine ym_get 45 C hR dX9_table_42 fl_X9_133 (by decide) rfl rfl ?_
          refine yr_icmp_ge 50 48 C dX9_table_45 (by decide) rfl (fun c45 => ?_) (fun c45 => ?_)
          · refine yr_aload_n 51 C dX9_table_50 rfl rfl rfl ?_
            refine ym_get 54 C hR dX9_table_51 fl_X9_150 (by decide) rfl rfl ?_
            refine yr_bipush 56 C (16) dX9_table_54 rfl rfl ?_
            refine yr_icmp_ne 62 59 C dX9_table_56 (by decide) rfl (fun c56 => ?_) (fun c56 => ?_)
            · have h3 : S 23 0 = nI no ∧ no ≤ 16 := hI 3
              have h8 : no < 16 := by
                have : no ≠ 16 := fun e => c56 (by rw [h3.1, e]; rfl)
                omega
              have e1 : ix (S 23 0) = no := by rw [h3.1]; exact ix_nI (by omega)
              refine yr_aload_n 63 C dX9_table_62 rfl rfl rfl ?_
              refine ym_getA 66 C hR dX9_table_63 fl_X9_68 (by decide) rfl rfl ?_
              refine yr_aload_n 67 C dX9_table_66 rfl rfl rfl ?_
              refine ym_get 70 C hR dX9_table_67 fl_X9_150 (by decide) rfl rfl ?_
              rw [h3.1]
              refine yr_iload_n 71 C dX9_table_70 rfl rfl ?_
              refine ym_astN 72 C hR dX9_table_71 (by decide) rfl rfl ?_ rfl (fun h hR => ?_)
              · simp only [mL]; omega
              refine yr_aload_n 73 C dX9_table_72 rfl rfl rfl ?_
              refine ym_getA 76 C hR dX9_table_73 fl_X9_71 (by decide) rfl rfl ?_
              refine yr_aload_n 77 C dX9_table_76 rfl rfl rfl ?_
              refine ym_get 80 C hR dX9_table_77 fl_X9_150 (by decide) rfl rfl ?_
              simp only [mset_ne _ _ (show 23 ≠ 24 by decide), h3.1]
              refine yr_iload_n 81 C dX9_table_80 rfl rfl ?_
              refine ym_astN 82 C hR dX9_table_81 (by decide) rfl rfl ?_ rfl (fun h hR => ?_)
              · simp only [mL]; omega
              refine yr_aload_n 83 C dX9_table_82 rfl rfl rfl ?_
              refine ym_getA 86 C hR dX9_table_83 fl_X9_74 (by decide) rfl rfl ?_
              refine yr_aload_n 87 C dX9_table_86 rfl rfl rfl ?_
              refine ym_get 90 C hR dX9_table_87 fl_X9_150 (by decide) rfl rfl ?_
              simp only [mset_ne _ _ (show 23 ≠ 25 by decide), mset_ne _ _ (show 23 ≠ 24 by decide), h3.1]
              refine yr_iload_n 91 C dX9_table_90 rfl rfl ?_
              refine ym_astN 92 C hR dX9_table_91 (by decide) rfl rfl ?_ rfl (fun h hR => ?_)
              · simp only [mL]; omega
              refine yr_aload_n 93 C dX9_table_92 rfl rfl rfl ?_
              refine ym_getA 96 C hR dX9_table_93 fl_X9_77 (by decide) rfl rfl ?_
              refine yr_aload_n 97 C dX9_table_96 rfl rfl rfl ?_
              refine ym_get 100 C hR dX9_table_97 fl_X9_150 (by decide) rfl rfl ?_
              simp only [mset_ne _ _ (show 23 ≠ 26 by decide), mset_ne _ _ (show 23 ≠ 25 by decide), mset_ne _ _ (show 23 ≠ 24 by decide), h3.1]
              refine yr_iload 102 C dX9_table_100 rfl rfl ?_
              refine ym_astN 103 C hR dX9_table_102 (by decide) rfl rfl ?_ rfl (fun h hR => ?_)
              · simp only [mL]; omega
              refine yr_aload_n 104 C dX9_table_103 rfl rfl rfl ?_
              refine ym_getA 107 C hR dX9_table_104 fl_X9_80 (by decide) rfl rfl ?_
              refine yr_aload_n 108 C dX9_table_107 rfl rfl rfl ?_
              refine ym_get 111 C hR dX9_table_108 fl_X9_150 (by decide) rfl rfl ?_
              simp only [mset_ne _ _ (show 23 ≠ 27 by decide), mset_ne _ _ (show 23 ≠ 26 by decide), mset_ne _ _ (show 23 ≠ 25 by decide), mset_ne _ _ (show 23 ≠ 24 by decide), h3.1]
              refine yr_iload 113 C dX9_table_111 rfl rfl ?_
              refine ym_astN 114 C hR dX9_table_113 (by decide) rfl rfl ?_ rfl (fun h hR => ?_)
              · simp only [mL]; omega
              refine yr_aload_n 115 C dX9_table_114 rfl rfl rfl ?_
              refine yr_dup 116 C dX9_table_115 rfl rfl ?_
              refine ym_get 119 C hR dX9_table_116 fl_X9_150 (by decide) rfl rfl ?_
              refine yr_iconst 120 C (1) dX9_table_119 rfl rfl ?_
              refine yr_iadd 121 C dX9_table_120 rfl ?_
              refine ym_put 124 C hR dX9_table_121 fp_X9_150 (by decide) rfl rfl (fun h hR => ?_)
              refine yr_aload_n 125 C dX9_table_124 rfl rfl rfl ?_
              refine ym_get 128 C hR dX9_table_125 fl_X9_150 (by decide) rfl rfl ?_
              refine yr_iret C dX9_table_128 hr (Nat.le_of_ble_eq_true rfl) (Nat.le_of_ble_eq_true rfl) ?_
              simp only [mset_ne _ _ (show 23 ≠ 24 by decide), mset_ne _ _ (show 23 ≠ 25 by decide), mset_ne _ _ (show 23 ≠ 26 by decide), mset_ne _ _ (show 23 ≠ 27 by decide), mset_ne _ _ (show 23 ≠ 28 by decide), mset_same] at hR ⊢
              refine ⟨?_, ?_⟩
              · simp [sp_table, c5, c15, c25, c36, c45, c56]
              · simpa [sp_table, e1, c5, c15, c25, c36, c45, c56] using hR
            · refine yr_bipush 61 C (-2) dX9_table_59 rfl rfl ?_
              refine yr_iret C dX9_table_61 hr (Nat.le_of_ble_eq_true rfl) (Nat.le_of_ble_eq_true rfl) ?_
              refine ⟨?_, ?_⟩
              · simp [sp_table, c5, c15, c25, c36, c45, c56]
              · simpa [sp_table, c5, c15, c25, c36, c45, c56] using hR
          · refine yr_iconst 49 C (-1) dX9_table_48 rfl rfl ?_
            refine yr_iret C dX9_table_49 hr (Nat.le_of_ble_eq_true rfl) (Nat.le_of_ble_eq_true rfl) ?_
            refine ⟨?_, ?_⟩
            · simp [sp_table, c5, c15, c25, c36, c45]
            · simpa [sp_table, c5, c15, c25, c36, c45] using hR
set_option maxHeartbeats 4000000 in
set_option maxRecDepth 100000 in
theorem mc_pair (hZ : yZok D dA Z) (q a b : Int32) (hI : mI S np ns nd no nr t) (h : yH) (hR : yMR dA ad m0 (S) h) : yM Z D yX9_pair cX9_pair 4 (some .int) 2 0 0 [.ref m0, .int q, .int a, .int b] h (fun r h' => r = some (.int (sp_pair S q a b).1) ∧ yMR dA ad m0 ((sp_pair S q a b).2) h') := by
  refine yM_of hZ (by decide) rfl (Nat.le_of_ble_eq_true rfl) ?_
  intro p l e s m args below meth c A C hr hin
  show yW p l e (yR 2 0 0) s m args below meth c 4 D A 0 0 _ 0 [some (.ref m0), some (.int q), some (.int a), some (.int b)] [] h
  refine yr_aload_n 1 C dX9_pair_0 rfl rfl rfl ?_
  refine yr_iload_n 2 C dX9_pair_1 rfl rfl ?_
  refine yr_V1v 5 C (mc_isDetector hZ _ _ hR) dX9_pair_2 mt_X9_isDetector mv_X9_isDetector ml_X9_147 hR.1 rfl (Nat.le_of_ble_eq_true rfl) (Nat.le_of_ble_eq_true rfl) (Nat.le_of_ble_eq_true rfl) (Nat.le_of_ble_eq_true rfl) (Nat.le_of_ble_eq_true rfl) rfl (fun h hR => ?_)
  refine yb_eq 31 8 C dX9_pair_5 (by decide) rfl (fun c5 => ?_) (fun c5 => ?_)
  · refine yr_iconst 32 C (-1) dX9_pair_31 rfl rfl ?_
    refine yr_iret C dX9_pair_32 hr (Nat.le_of_ble_eq_true rfl) (Nat.le_of_ble_eq_true rfl) ?_
    refine ⟨?_, ?_⟩
    · simp [sp_pair, c5]
    · simpa [sp_pair, c5] using hR
  · refine yr_aload_n 9 C dX9_pair_8 rfl rfl rfl ?_
    refine yr_iload_n 10 C dX9_pair_9 rfl rfl ?_
    refine yr_V1v 13 C (mc_isDetector hZ _ _ hR) dX9_pair_10 mt_X9_isDetector mv_X9_isDetector ml_X9_147 hR.1 rfl (Nat.le_of_ble_eq_true rfl) (Nat.le_of_ble_eq_true rfl) (Nat.le_of_ble_eq_true rfl) (Nat.le_of_ble_eq_true rfl) (Nat.le_of_ble_eq_true rfl) rfl (fun h hR => ?_)
    refine yb_eq 31 16 C dX9_pair_13 (by decide) rfl (fun c13 => ?_) (fun c13 => ?_)
    · refine yr_iconst 32 C (-1) dX9_pair_31 rfl rfl ?_
      refine yr_iret C dX9_pair_32 hr (Nat.le_of_ble_eq_true rfl) (Nat.le_of_ble_eq_true rfl) ?_
      refine ⟨?_, ?_⟩
      · simp [sp_pair, c5, c13]
      · simpa [sp_pair, c5, c13] using hR
    · refine yr_iload_n 17 C dX9_pair_16 rfl rfl ?_
      refine yr_iload_n 18 C dX9_pair_17 rfl rfl ?_
      refine yr_icmp_eq 31 21 C dX9_pair_18 (by decide) rfl (fun c18 => ?_) (fun c18 => ?_)
      · refine yr_iconst 32 C (-1) dX9_pair_31 rfl rfl ?_
        refine yr_iret C dX9_pair_32 hr (Nat.le_of_ble_eq_true rfl) (Nat.le_of_ble_eq_true rfl) ?_
        refine ⟨?_, ?_⟩
        · simp [sp_pair, c5, c13, c18]
        · simpa [sp_pair, c5, c13, c18] using hR
      · refine yr_iload_n 22 C dX9_pair_21 rfl rfl ?_
        refine yr_iconst 23 C (1) dX9_pair_22 rfl rfl ?_
        refine yr_bipush 25 C (60) dX9_pair_23 rfl rfl ?_
        refine yr_S3v 28 C (mc_in hZ _ _ _ _) dX9_pair_25 mt_X9_in ms_X9_in ml_X9_123 (Nat.le_of_ble_eq_true rfl) (Nat.le_of_ble_eq_true rfl) (Nat.le_of_ble_eq_true rfl) (Nat.le_of_ble_eq_true rfl) (Nat.le_of_ble_eq_true rfl) rfl (fun h e => ?_)
        subst e
        refine yb_ne 33 31 C dX9_pair_28 (by decide) rfl (fun c28 => ?_) (fun c28 => ?_)
        · refine yr_aload_n 34 C dX9_pair_33 rfl rfl rfl ?_
          refine ym_get 37 C hR dX9_pair_34 fl_X9_153 (by decide) rfl rfl ?_
          refine yr_bipush 39 C (6) dX9_pair_37 rfl rfl ?_
          refine yr_icmp_ne 45 42 C dX9_pair_39 (by decide) rfl (fun c39 => ?_) (fun c39 => ?_)
          · have h3 : S 29 0 = nI nr ∧ nr ≤ 6 := hI 4
            have h8 : nr < 6 := by
              have : nr ≠ 6 := fun e => c39 (by rw [h3.1, e]; rfl)
              omega
            have e1 : ix (S 29 0) = nr := by rw [h3.1]; exact ix_nI (by omega)
            refine yr_aload_n 46 C dX9_pair_45 rfl rfl rfl ?_
            refine ym_getA 49 C hR dX9_pair_46 fl_X9_83 (by decide) rfl rfl ?_
            refine yr_aload_n 50 C dX9_pair_49 rfl rfl rfl ?_
            refine ym_get 53 C hR dX9_pair_50 fl_X9_153 (by decide) rfl rfl ?_
            rw [h3.1]
            refine yr_iload_n 54 C dX9_pair_53 rfl rfl ?_
            refine ym_astN 55 C hR dX9_pair_54 (by decide) rfl rfl ?_ rfl (fun h hR => ?_)
            · simp only [mL]; omega
            refine yr_aload_n 56 C dX9_pair_55 rfl rfl rfl ?_
            refine ym_getA 59 C hR dX9_pair_56 fl_X9_86 (by decide) rfl rfl ?_
            refine yr_aload_n 60 C dX9_pair_59 rfl rfl rfl ?_
            refine ym_get 63 C hR dX9_pair_60 fl_X9_153 (by decide) rfl rfl ?_
            simp only [mset_ne _ _ (show 29 ≠ 30 by decide), h3.1]
            refine yr_iload_n 64 C dX9_pair_63 rfl rfl ?_
            refine ym_astN 65 C hR dX9_pair_64 (by decide) rfl rfl ?_ rfl (fun h hR => ?_)
            · simp only [mL]; omega
            refine yr_aload_n 66 C dX9_pair_65 rfl rfl rfl ?_
            refine ym_getA 69 C hR dX9_pair_66 fl_X9_89 (by decide) rfl rfl ?_
            refine yr_aload_n 70 C dX9_pair_69 rfl rfl rfl ?_
            refine ym_get 73 C hR dX9_pair_70 fl_X9_153 (by decide) rfl rfl ?_
            simp only [mset_ne _ _ (show 29 ≠ 31 by decide), mset_ne _ _ (show 29 ≠ 30 by decide), h3.1]
            refine yr_iload_n 74 C dX9_pair_73 rfl rfl ?_
            refine ym_astN 75 C hR dX9_pair_74 (by decide) rfl rfl ?_ rfl (fun h hR => ?_)
            · simp only [mL]; omega
            refine yr_aload_n 76 C dX9_pair_75 rfl rfl rfl ?_
            refine ym_getA 79 C hR dX9_pair_76 fl_X9_92 (by decide) rfl rfl ?_
            refine yr_aload_n 80 C dX9_pair_79 rfl rfl rfl ?_
            refine ym_get 83 C hR dX9_pair_80 fl_X9_153 (by decide) rfl rfl ?_
            simp only [mset_ne _ _ (show 29 ≠ 32 by decide), mset_ne _ _ (show 29 ≠ 31 by decide), mset_ne _ _ (show 29 ≠ 30 by decide), h3.1]
            refine yr_iconst 84 C (0) dX9_pair_83 rfl rfl ?_
            refine ym_astN 85 C hR dX9_pair_84 (by decide) rfl rfl ?_ rfl (fun h hR => ?_)
            · simp only [mL]; omega
            refine yr_aload_n 86 C dX9_pair_85 rfl rfl rfl ?_
            refine yr_dup 87 C dX9_pair_86 rfl rfl ?_
            refine ym_get 90 C hR dX9_pair_87 fl_X9_153 (by decide) rfl rfl ?_
            refine yr_iconst 91 C (1) dX9_pair_90 rfl rfl ?_
            refine yr_iadd 92 C dX9_pair_91 rfl ?_
            refine ym_put 95 C hR dX9_pair_92 fp_X9_153 (by decide) rfl rfl (fun h hR => ?_)
            refine yr_aload_n 96 C dX9_pair_95 rfl rfl rfl ?_
            refine ym_get 99 C hR dX9_pair_96 fl_X9_153 (by decide) rfl rfl ?_
            refine yr_iconst 100 C (1) dX9_pair_99 rfl rfl ?_
            refine yr_isub 101 C dX9_pair_100 rfl ?_
            refine yr_iret C dX9_pair_101 hr (Nat.le_of_ble_eq_true rfl) (Nat.le_of_ble_eq_true rfl) ?_
            simp only [mset_ne _ _ (show 29 ≠ 33 by decide), mset_ne _ _ (show 29 ≠ 32 by decide), mset_ne _ _ (show 29 ≠ 31 by decide), mset_ne _ _ (show 29 ≠ 30 by decide), mset_same] at hR ⊢
            refine ⟨?_, ?_⟩
            · simp [sp_pair, c5, c13, c18, c28, c39]
            · simpa [sp_pair, e1, c5, c13, c18, c28, c39] using hR
          · refine yr_bipush 44 C (-2) dX9_pair_42 rfl rfl ?_
            refine yr_iret C dX9_pair_44 hr (Nat.le_of_ble_eq_true rfl) (Nat.le_of_ble_eq_true rfl) ?_
            refine ⟨?_, ?_⟩
            · simp [sp_pair, c5, c13, c18, c28, c39]
            · simpa [sp_pair, c5, c13, c18, c28, c39] using hR
        · refine yr_iconst 32 C (-1) dX9_pair_31 rfl rfl ?_
          refine yr_iret C dX9_pair_32 hr (Nat.le_of_ble_eq_true rfl) (Nat.le_of_ble_eq_true rfl) ?_
          refine ⟨?_, ?_⟩
          · simp [sp_pair, c5, c13, c18, c28]
          · simpa [sp_pair, c5, c13, c18, c28] using hR
end M3
end
section
/-- what the reference's inner methods need, and leave as it is -/
def mK (S : yS) (np ns nd nr t : Nat) : Nat → Prop
  | 0 => S 1 0 = nI np ∧ np ≤ 8
  | 1 => S 17 0 = nI ns ∧ ns ≤ 6
  | 2 => S 29 0 = nI nr ∧ nr ≤ 6
  | 3 => S 0 0 = nI t ∧ t < 2 ^ 20 ∧ nd ≤ 12
  | 4 => ∀ p, p < np → ∃ k, k ≤ 4 ∧ S 2 p = nI k
  | 5 => ∀ p, p < np → cO (S 4 p) nd
  | 6 => ∀ d, d < nd → cO (S 20 d) 201
  | 7 => ∀ s, s < ns → ∀ k, k < 4 → cO (S 18 (4 * s + k)) np
  | 8 => ∀ k, k < nr → (∃ d, d < nd ∧ S 30 k = nI d) ∧ ∃ d, d < nd ∧ S 31 k = nI d
  | 9 => ∃ b, b ≤ t ∧ S 35 0 = nI b
  | _ => True
def mB (S : yS) (np ns nd nr t : Nat) : Prop := ∀ i, mK S np ns nd nr t i
/-- the rows that mB speaks of are the same -/
def mFr (S S' : yS) : Prop := S' 0 = S 0 ∧ S' 1 = S 1 ∧ S' 2 = S 2 ∧ S' 4 = S 4 ∧ S' 17 = S 17 ∧ S' 18 = S 18 ∧ S' 20 = S 20 ∧ S' 29 = S 29 ∧ S' 30 = S 30 ∧ S' 31 = S 31 ∧ S' 35 = S 35
theorem mB_fr {S S' : yS} {np ns nd nr t : Nat} (hB : mB S np ns nd nr t) (hf : mFr S S') : mB S' np ns nd nr t := by
  obtain ⟨e0, e1, e2, e4, e17, e18, e20, e29, e30, e31, e35⟩ := hf
  intro i
  have := hB i
  unfold mK at this ⊢
  split <;> simp_all
theorem mFr_rf (S : yS) : mFr S S := ⟨rfl, rfl, rfl, rfl, rfl, rfl, rfl, rfl, rfl, rfl, rfl⟩
theorem mFr_tr {S S' S'' : yS} (h : mFr S S') (h' : mFr S' S'') : mFr S S'' := by
  obtain ⟨e0, e1, e2, e4, e17, e18, e20, e29, e30, e31, e35⟩ := h
  obtain ⟨f0, f1, f2, f4, f17, f18, f20, f29, f30, f31, f35⟩ := h'
  exact ⟨f0.trans e0, f1.trans e1, f2.trans e2, f4.trans e4, f17.trans e17, f18.trans e18, f20.trans e20, f29.trans e29, f30.trans e30, f31.trans e31, f35.trans e35⟩
def mFk (k : Nat) : Bool := !([0, 1, 2, 4, 17, 18, 20, 29, 30, 31, 35].contains k)
theorem mFr_set (S : yS) {k : Nat} (j : Nat) (v : Int32) (hk : mFk k = true) : mFr S (mset S k j v) := by
  have h : ∀ i, mFk i = false → mset S k j v i = S i := fun i hi => mset_ne S v (fun e => by rw [e, hk] at hi; cases hi)
  exact ⟨h 0 rfl, h 1 rfl, h 2 rfl, h 4 rfl, h 17 rfl, h 18 rfl, h 20 rfl, h 29 rfl, h 30 rfl, h 31 rfl, h 35 rfl⟩
theorem m_found_fr (S : yS) (a : Nat) (p : Int32) : mFr S (m_found S a p) := mFr_tr (mFr_tr (mFr_set S _ _ rfl) (mFr_set _ _ _ rfl)) (mFr_set _ _ _ rfl)
theorem cO_lt {x : Int32} {b : Nat} (hb : b ≤ 2 ^ 30) (h : cO x b) (hn : ¬ x < 0) : ∃ j : Nat, j < b ∧ x = nI j := by
  rcases h with e | h
  · exact absurd (by rw [e]; decide) hn
  · exact h
theorem cO_neg {x : Int32} {b : Nat} (hb : b ≤ 2 ^ 30) (h : cO x b) (hn : x < 0) : x = -5 := by
  rcases h with e | ⟨j, hj, e⟩
  · exact e
  · rw [e] at hn; exact absurd hn (nI_pos (by omega))
def m_readAt (S : yS) (p : Nat) : Int32 × yS := if S 4 p < 0 then (-1, m_found S 1 (nI p)) else if 0 ≤ S 20 (ix (S 4 p)) then (if S 0 0 < S 20 (ix (S 4 p)) then (200 * S 4 p + S 0 0, S) else (-1, m_found S 2 (nI p))) else (-1, m_found S 1 (nI p))
def m_tr (S : yS) (v : Int32) : yS := mset S 50 0 (S 50 0 + v)
theorem m_tr_ne (S : yS) (v : Int32) {k : Nat} (h : k ≠ 50) : m_tr S v k = S k := mset_ne S _ h
def m_car (S : yS) (a : Nat) : Bool := decide (0 < S 21 a) || !decide (S 22 a < 5000)
theorem m_car_tr (S : yS) (v : Int32) (a : Nat) : m_car (m_tr S v) a = m_car S a := by unfold m_car; rw [m_tr_ne S v (show 21 ≠ 50 by decide), m_tr_ne S v (show 22 ≠ 50 by decide)]
def m_asks (S : yS) (k : Int32) (a : Nat) : Bool × yS := if k = 0 then (m_car S a, m_tr S 1) else if k = 1 then (if 2000 ≤ S 22 a then (true, m_tr S 10) else (m_car S a, m_tr (m_tr S 10) 1)) else if k = 2 then (!decide (S 21 a ≤ 0), m_tr S 100) else (!decide (S 21 a = 0), m_tr S 1000)
def m_doesAsk (S : yS) (p : Nat) : Bool × yS := if 0 ≤ (m_readAt S p).1 then m_asks S (S 2 p) (ix (m_readAt S p).1) else (true, (m_readAt S p).2)
def m_holdK (S : yS) (k : Int32) (a : Nat) : Bool × yS := if k = 0 ∨ k = 1 then (!decide (S 21 a ≤ 0), m_tr S 5) else if k = 2 then (false, m_tr S 50) else (!decide (S 21 a = 0), m_tr S 500)
def m_doesHold (S : yS) (p : Nat) : Bool × yS := if S 2 p = 4 then (true, m_tr S 5000) else if 0 ≤ (m_readAt S p).1 then m_holdK S (S 2 p) (ix (m_readAt S p).1) else (true, (m_readAt S p).2)
/-- the sum of the passings: j places from i on -/
def m_sumL (S : yS) (d : Nat) : Nat → Nat → Int32 → Int32
  | 0, _, a => a
  | j + 1, i, a => m_sumL S d j (i + 1) (a + S 21 (200 * d + i))
def m_gap (S : yS) (p : Nat) : Int32 × yS := if S 2 p = 4 then (0, S) else if S 4 p < 0 then (0, m_found S 1 (nI p)) else if 0 ≤ S 20 (ix (S 4 p)) then (if S 0 0 ≤ S 20 (ix (S 4 p)) then (if m_sumL S (ix (S 4 p)) (ix (S 0 0) - ix (S 35 0)) (ix (S 35 0)) 0 = 0 then (0, m_found S 3 (nI p)) else ((S 0 0 - S 35 0) / m_sumL S (ix (S 4 p)) (ix (S 0 0) - ix (S 35 0)) (ix (S 35 0)) 0, S)) else (0, m_found S 2 (nI p))) else (0, m_found S 1 (nI p))
theorem m_gap_fr (S : yS) (p : Nat) : mFr S (m_gap S p).2 := by
  unfold m_gap
  repeat' split
  all_goals first | exact mFr_rf S | exact m_found_fr S _ _
def m_chg0 (S : yS) (p : Nat) : yS := mset S 5 p (S 5 p + 1)
def m_chg1 (S : yS) (p : Nat) : yS := if S 3 p = 1 then mset (m_gap S p).2 6 p (m_gap S p).1 else S
def m_chg2 (S : yS) (p : Nat) (to : Int32) : yS := mset (mset S 3 p to) 49 0 (S 49 0 + 1)
def m_change (S : yS) (p : Nat) (to : Int32) : yS := m_chg2 (m_chg1 (m_chg0 S p) p) p to
theorem m_change_fr (S : yS) (p : Nat) (to : Int32) : mFr S (m_change S p to) := by
  refine mFr_tr (S' := m_chg0 S p) (mFr_set S p _ (show mFk 5 = true from rfl)) (mFr_tr (S' := m_chg1 (m_chg0 S p) p) ?_ (mFr_tr (mFr_set _ p to (show mFk 3 = true from rfl)) (mFr_set _ 0 _ (show mFk 49 = true from rfl))))
  unfold m_chg1
  split
  · exact mFr_tr (m_gap_fr _ _) (mFr_set _ _ _ rfl)
  · exact mFr_rf _
def m_free (S : yS) (p q : Nat) (u : Int32) : yS := if S 16 (8 * p + q) ≤ 0 then S else if u + S 16 (8 * p + q) - 1 ≤ S 9 q then S else mset S 9 q (u + S 16 (8 * p + q) - 1)
def m_endL (p : Nat) (u : Int32) : Nat → Nat → yS → yS
  | 0, _, S => S
  | j + 1, i, S => m_endL p u j (i + 1) (m_free S p i u)
def m_endsIn (S : yS) (np p : Nat) (u : Int32) : yS := m_endL p u np 0 (mset S 8 p u)
theorem m_free_fr (S : yS) (p q : Nat) (u : Int32) : mFr S (m_free S p q u) := by
  unfold m_free
  split
  · exact mFr_rf S
  · split
    · exact mFr_rf S
    · exact mFr_set S _ _ rfl
theorem m_endL_fr (p : Nat) (u : Int32) : ∀ (j i : Nat) (S : yS), mFr S (m_endL p u j i S)
  | 0, _, S => mFr_rf S
  | j + 1, i, S => mFr_tr (m_free_fr S p i u) (m_endL_fr p u j (i + 1) _)
theorem m_endsIn_fr (S : yS) (np p : Nat) (u : Int32) : mFr S (m_endsIn S np p u) := mFr_tr (mFr_set S p u (show mFk 8 = true from rfl)) (m_endL_fr p u np 0 _)
section M4
variable {Z : (Nat → Prop) → State → Prop} {D : va_G} {dA : Nat → ClassId} {ad : Nat → Nat} {m0 : Nat} {S : yS} {np ns nd nr t : Nat}
set_option maxHeartbeats 4000000 in
set_option maxRecDepth 100000 in
theorem mc_readAt (hZ : yZok D dA Z) (a : Nat) (ha : a < np) (hB : mB S np ns nd nr t) (h : yH) (hR : yMR dA ad m0 (S) h) : yM Z D yX9_readAt cX9_readAt 3 (some .int) 1 0 0 [.ref m0, .int (nI a)] h (fun r h' => r = some (.int (m_readAt S a).1) ∧ yMR dA ad m0 ((m_readAt S a).2) h') := by
  refine yM_of hZ (by decide) rfl (Nat.le_of_ble_eq_true rfl) ?_
  intro p l e s m args below meth c A C hr hin
  show yW p l e (yR 1 0 0) s m args below meth c 3 D A 0 0 _ 0 [some (.ref m0), some (.int (nI a)), none] [] h
  have k0 : S 1 0 = nI np ∧ np ≤ 8 := hB 0
  have k3 : S 0 0 = nI t ∧ t < 2 ^ 20 ∧ nd ≤ 12 := hB 3
  have k5 : cO (S 4 a) nd := (show ∀ p, p < np → cO (S 4 p) nd from hB 5) a ha
  refine yr_aload_n 1 C dX9_readAt_0 rfl rfl rfl ?_
  refine ym_getA 4 C hR dX9_readAt_1 fl_X9_16 (by decide) rfl rfl ?_
  refine yr_iload_n 5 C dX9_readAt_4 rfl rfl ?_
  refine ym_aldN 6 C hR dX9_readAt_5 (by decide) rfl rfl ?_ rfl ?_
  · simp only [mL]; omega
  refine yr_istore2 7 C dX9_readAt_6 (by decide) rfl ?_
  refine yr_iload_n 8 C dX9_readAt_7 rfl rfl ?_
  refine yr_if_lt 20 11 C dX9_readAt_8 (by decide) rfl (fun c8 => ?_) (fun c8 => ?_)
  · refine yr_aload_n 21 C dX9_readAt_20 rfl rfl rfl ?_
    refine yr_iconst 22 C (1) dX9_readAt_21 rfl rfl ?_
    refine yr_iload_n 23 C dX9_readAt_22 rfl rfl ?_
    refine yr_V2u 26 C (mc_found hZ _ (by decide) _ _ hR) dX9_readAt_23 mt_X9_found mv_X9_found ml_X9_169 hR.1 rfl (Nat.le_of_ble_eq_true rfl) (Nat.le_of_ble_eq_true rfl) (Nat.le_of_ble_eq_true rfl) (Nat.le_of_ble_eq_true rfl) (Nat.le_of_ble_eq_true rfl) rfl (fun h hR => ?_)
    refine yr_iconst 27 C (-1) dX9_readAt_26 rfl rfl ?_
    refine yr_iret C dX9_readAt_27 hr (Nat.le_of_ble_eq_true rfl) (Nat.le_of_ble_eq_true rfl) ?_
    refine ⟨?_, ?_⟩
    · first | (simp [m_readAt, c8]; done) | (simp [m_readAt, e0, ed, c8]; done) | (simp [m_readAt, e0, ← ed, c8]; done)
    · first | (simpa [m_readAt, c8] using hR) | (simpa [m_readAt, e0, c8] using hR) | (simpa [m_readAt, e0, ed, c8] using hR)
  · obtain ⟨d, hd, ed⟩ := cO_lt (by omega) k5 c8
    have e0 : ix (S 4 a) = d := by rw [ed]; exact ix_nI (by omega)
    have k6 : cO (S 20 d) 201 := (show ∀ d, d < nd → cO (S 20 d) 201 from hB 6) d hd
    refine yr_aload_n 12 C dX9_readAt_11 rfl rfl rfl ?_
    refine ym_getA 15 C hR dX9_readAt_12 fl_X9_59 (by decide) rfl rfl ?_
    refine yr_iload_n 16 C dX9_readAt_15 rfl rfl ?_
    rw [ed]
    refine ym_aldN 17 C hR dX9_readAt_16 (by decide) rfl rfl ?_ rfl ?_
    · simp only [mL]; omega
    refine yr_if_ge 28 20 C dX9_readAt_17 (by decide) rfl (fun c17 => ?_) (fun c17 => ?_)
    · refine yr_aload_n 29 C dX9_readAt_28 rfl rfl rfl ?_
      refine ym_getA 32 C hR dX9_readAt_29 fl_X9_59 (by decide) rfl rfl ?_
      refine yr_iload_n 33 C dX9_readAt_32 rfl rfl ?_
      refine ym_aldN 34 C hR dX9_readAt_33 (by decide) rfl rfl ?_ rfl ?_
      · simp only [mL]; omega
      refine yr_aload_n 35 C dX9_readAt_34 rfl rfl rfl ?_
      refine ym_get 38 C hR dX9_readAt_35 fl_X9_133 (by decide) rfl rfl ?_
      refine yr_icmp_gt 49 41 C dX9_readAt_38 (by decide) rfl (fun c38 => ?_) (fun c38 => ?_)
      · refine yr_sipush 52 C (200) dX9_readAt_49 rfl rfl ?_
        refine yr_iload_n 53 C dX9_readAt_52 rfl rfl ?_
        refine yr_imul 54 C dX9_readAt_53 rfl ?_
        refine yr_aload_n 55 C dX9_readAt_54 rfl rfl rfl ?_
        refine ym_get 58 C hR dX9_readAt_55 fl_X9_133 (by decide) rfl rfl ?_
        refine yr_iadd 59 C dX9_readAt_58 rfl ?_
        refine yr_iret C dX9_readAt_59 hr (Nat.le_of_ble_eq_true rfl) (Nat.le_of_ble_eq_true rfl) ?_
        refine ⟨?_, ?_⟩
        · first | (simp [m_readAt, c8, c17, c38]; done) | (simp [m_readAt, e0, ed, c8, c17, c38]; done) | (simp [m_readAt, e0, ← ed, c8, c17, c38]; done)
        · first | (simpa [m_readAt, c8, c17, c38] using hR) | (simpa [m_readAt, e0, c8, c17, c38] using hR) | (simpa [m_readAt, e0, ed, c8, c17, c38] using hR)
      · refine yr_aload_n 42 C dX9_readAt_41 rfl rfl rfl ?_
        refine yr_iconst 43 C (2) dX9_readAt_42 rfl rfl ?_
        refine yr_iload_n 44 C dX9_readAt_43 rfl rfl ?_
        refine yr_V2u 47 C (mc_found hZ _ (by decide) _ _ hR) dX9_readAt_44 mt_X9_found mv_X9_found ml_X9_169 hR.1 rfl (Nat.le_of_ble_eq_true rfl) (Nat.le_of_ble_eq_true rfl) (Nat.le_of_ble_eq_true rfl) (Nat.le_of_ble_eq_true rfl) (Nat.le_of_ble_eq_true rfl) rfl (fun h hR => ?_)
        refine yr_iconst 48 C (-1) dX9_readAt_47 rfl rfl ?_
        refine yr_iret C dX9_readAt_48 hr (Nat.le_of_ble_eq_true rfl) (Nat.le_of_ble_eq_true rfl) ?_
        refine ⟨?_, ?_⟩
        · first | (simp [m_readAt, c8, c17, c38]; done) | (simp [m_readAt, e0, ed, c8, c17, c38]; done) | (simp [m_readAt, e0, ← ed, c8, c17, c38]; done)
        · first | (simpa [m_readAt, c8, c17, c38] using hR) | (simpa [m_readAt, e0, c8, c17, c38] using hR) | (simpa [m_readAt, e0, ed, c8, c17, c38] using hR)
    · refine yr_aload_n 21 C dX9_readAt_20 rfl rfl rfl ?_
      refine yr_iconst 22 C (1) dX9_readAt_21 rfl rfl ?_
      refine yr_iload_n 23 C dX9_readAt_22 rfl rfl ?_
      refine yr_V2u 26 C (mc_found hZ _ (by decide) _ _ hR) dX9_readAt_23 mt_X9_found mv_X9_found ml_X9_169 hR.1 rfl (Nat.le_of_ble_eq_true rfl) (Nat.le_of_ble_eq_true rfl) (Nat.le_of_ble_eq_true rfl) (Nat.le_of_ble_eq_true rfl) (Nat.le_of_ble_eq_true rfl) rfl (fun h hR => ?_)
      refine yr_iconst 27 C (-1) dX9_readAt_26 rfl rfl ?_
      refine yr_iret C dX9_readAt_27 hr (Nat.le_of_ble_eq_true rfl) (Nat.le_of_ble_eq_true rfl) ?_
      refine ⟨?_, ?_⟩
      · first | (simp [m_readAt, c8, c17]; done) | (simp [m_readAt, e0, ed, c8, c17]; done) | (simp [m_readAt, e0, ← ed, c8, c17]; done)
      · first | (simpa [m_readAt, c8, c17] using hR) | (simpa [m_readAt, e0, c8, c17] using hR) | (simpa [m_readAt, e0, ed, c8, c17] using hR)
set_option maxHeartbeats 4000000 in
set_option maxRecDepth 100000 in
theorem mc_asksOfCar (hZ : yZok D dA Z) (a : Nat) (ha : a < 2400)  (h : yH) (hR : yMR dA ad m0 (S) h) : yM Z D yX9_asksOfCar cX9_asksOfCar 2 (some .boolean) 0 0 0 [.ref m0, .int (nI a)] h (fun r h' => r = some (.int (bI (m_car S a))) ∧ yMR dA ad m0 (m_tr S 1) h') := by
  refine yM_of hZ (by decide) rfl (Nat.le_of_ble_eq_true rfl) ?_
  intro p l e s m args below meth c A C hr hin
  show yW p l e (yR 0 0 0) s m args below meth c 2 D A 0 0 _ 0 [some (.ref m0), some (.int (nI a))] [] h
  refine yr_aload_n 1 C dX9_asksOfCar_0 rfl rfl rfl ?_
  refine yr_dup 2 C dX9_asksOfCar_1 rfl rfl ?_
  refine ym_get 5 C hR dX9_asksOfCar_2 fl_X9_173 (by decide) rfl rfl ?_
  refine yr_iconst 6 C (1) dX9_asksOfCar_5 rfl rfl ?_
  refine yr_iadd 7 C dX9_asksOfCar_6 rfl ?_
  refine ym_put 10 C hR dX9_asksOfCar_7 fp_X9_173 (by decide) rfl rfl (fun h hR => ?_)
  refine yr_aload_n 11 C dX9_asksOfCar_10 rfl rfl rfl ?_
  refine ym_getA 14 C hR dX9_asksOfCar_11 fl_X9_62 (by decide) rfl rfl ?_
  refine yr_iload_n 15 C dX9_asksOfCar_14 rfl rfl ?_
  refine ym_aldN 16 C hR dX9_asksOfCar_15 (by decide) rfl rfl ?_ rfl ?_
  · simp only [mL]; omega
  rw [mset_ne _ _ (show 21 ≠ 50 by decide)]
  refine yr_if_gt 31 19 C dX9_asksOfCar_16 (by decide) rfl (fun c16 => ?_) (fun c16 => ?_)
  · refine yr_iconst 32 C (1) dX9_asksOfCar_31 rfl rfl ?_
    refine yr_goto 36 C dX9_asksOfCar_32 (by decide) ?_
    refine yr_zret C dX9_asksOfCar_36 hr ?_ (Nat.le_of_ble_eq_true rfl) (Nat.le_of_ble_eq_true rfl) ?_
    · first | exact Or.inl rfl | exact Or.inr rfl
    refine ⟨?_, hR⟩
    simp [m_car, bI, c16]
  · refine yr_aload_n 20 C dX9_asksOfCar_19 rfl rfl rfl ?_
    refine ym_getA 23 C hR dX9_asksOfCar_20 fl_X9_65 (by decide) rfl rfl ?_
    refine yr_iload_n 24 C dX9_asksOfCar_23 rfl rfl ?_
    refine ym_aldN 25 C hR dX9_asksOfCar_24 (by decide) rfl rfl ?_ rfl ?_
    · simp only [mL]; omega
    rw [mset_ne _ _ (show 22 ≠ 50 by decide)]
    refine yr_sipush 28 C (5000) dX9_asksOfCar_25 rfl rfl ?_
    refine yr_icmp_lt 35 31 C dX9_asksOfCar_28 (by decide) rfl (fun c28 => ?_) (fun c28 => ?_)
    · refine yr_iconst 36 C (0) dX9_asksOfCar_35 rfl rfl ?_
      refine yr_zret C dX9_asksOfCar_36 hr ?_ (Nat.le_of_ble_eq_true rfl) (Nat.le_of_ble_eq_true rfl) ?_
      · first | exact Or.inl rfl | exact Or.inr rfl
      refine ⟨?_, hR⟩
      simp [m_car, bI, c16, c28]
    · refine yr_iconst 32 C (1) dX9_asksOfCar_31 rfl rfl ?_
      refine yr_goto 36 C dX9_asksOfCar_32 (by decide) ?_
      refine yr_zret C dX9_asksOfCar_36 hr ?_ (Nat.le_of_ble_eq_true rfl) (Nat.le_of_ble_eq_true rfl) ?_
      · first | exact Or.inl rfl | exact Or.inr rfl
      refine ⟨?_, hR⟩
      simp [m_car, bI, c16, c28]
theorem m_readAt_at (hB : mB S np ns nd nr t) {a : Nat} (ha : a < np) (h : 0 ≤ (m_readAt S a).1) : ∃ y : Nat, y < 2400 ∧ (m_readAt S a).1 = nI y ∧ (m_readAt S a).2 = S := by
  have k3 : S 0 0 = nI t ∧ t < 2 ^ 20 ∧ nd ≤ 12 := hB 3
  have k5 : cO (S 4 a) nd := (show ∀ p, p < np → cO (S 4 p) nd from hB 5) a ha
  by_cases c1 : S 4 a < 0
  · simp only [m_readAt, if_pos c1] at h
    exact absurd h (by decide)
  obtain ⟨d, hd, ed⟩ := cO_lt (by omega) k5 c1
  have e0 : ix (S 4 a) = d := by rw [ed]; exact ix_nI (by omega)
  have k6 : cO (S 20 d) 201 := (show ∀ d, d < nd → cO (S 20 d) 201 from hB 6) d hd
  simp only [m_readAt, if_neg c1, e0] at h ⊢
  by_cases c2 : 0 ≤ S 20 d
  · simp only [if_pos c2] at h ⊢
    by_cases c3 : S 0 0 < S 20 d
    · simp only [if_pos c3] at h ⊢
      rcases k6 with e | ⟨n, hn, e⟩
      · rw [e] at c2; exact absurd c2 (by decide)
      · rw [e, k3.1] at c3
        have hlt : t < n := (nI_ltI (by omega) (by omega)).mp c3
        refine ⟨200 * d + t, by omega, ?_, trivial⟩
        rw [ed, k3.1]
        exact ixm
    · simp only [if_neg c3] at h
      exact absurd h (by decide)
  · simp only [if_neg c2] at h
    exact absurd h (by decide)
theorem sw_out {x : Int32} (hi : Nat) (hh : hi < 2 ^ 30) (h : ∀ i : Nat, i ≤ hi → ¬ x = nI i) : x.toInt < 0 ∨ (hi : Int) < x.toInt := by
  by_cases c : x.toInt < 0
  · exact Or.inl c
  · right
    have hx : ¬ x < 0 := fun q => c (by rw [Int32.lt_iff_toInt_lt] at q; exact q)
    obtain ⟨j, hj, rfl⟩ := nI_of hx
    rw [nI_toInt hj]
    have : ¬ j ≤ hi := fun q => h j q rfl
    omega
set_option maxHeartbeats 4000000 in
set_option maxRecDepth 100000 in
theorem mc_doesAsk (hZ : yZok D dA Z) (a : Nat) (ha : a < np) (hB : mB S np ns nd nr t) (h : yH) (hR : yMR dA ad m0 (S) h) : yM Z D yX9_doesAsk cX9_doesAsk 3 (some .boolean) 2 0 0 [.ref m0, .int (nI a)] h (fun r h' => r = some (.int (bI (m_doesAsk S a).1)) ∧ yMR dA ad m0 ((m_doesAsk S a).2) h') := by
  refine yM_of hZ (by decide) rfl (Nat.le_of_ble_eq_true rfl) ?_
  intro p l e s m args below meth c A C hr hin
  show yW p l e (yR 2 0 0) s m args below meth c 3 D A 0 0 _ 0 [some (.ref m0), some (.int (nI a)), none] [] h
  refine yr_aload_n 1 C dX9_doesAsk_0 rfl rfl rfl ?_
  refine yr_iload_n 2 C dX9_doesAsk_1 rfl rfl ?_
  refine yr_V1v 5 C (mc_readAt hZ _ ha hB _ hR) dX9_doesAsk_2 mt_X9_readAt mv_X9_readAt ml_X9_176 hR.1 rfl (Nat.le_of_ble_eq_true rfl) (Nat.le_of_ble_eq_true rfl) (Nat.le_of_ble_eq_true rfl) (Nat.le_of_ble_eq_true rfl) (Nat.le_of_ble_eq_true rfl) rfl (fun h hR => ?_)
  refine yr_istore2 6 C dX9_doesAsk_5 (by decide) rfl ?_
  skip
  refine yr_iload_n 7 C dX9_doesAsk_6 rfl rfl ?_
  refine yr_if_ge 12 10 C dX9_doesAsk_7 (by decide) rfl (fun c7 => ?_) (fun c7 => ?_)
  · have k4 : ∃ k, k ≤ 4 ∧ S 2 a = nI k := (show ∀ p, p < np → ∃ k, k ≤ 4 ∧ S 2 p = nI k from hB 4) a ha
    have hr1 := m_readAt_at hB ha c7
    obtain ⟨y, hy, ey, eS⟩ := hr1
    have e9 : ix (m_readAt S a).1 = y := by rw [ey]; exact ix_nI (by omega)
    rw [eS] at hR
    rw [ey]
    refine yr_aload_n 13 C dX9_doesAsk_12 rfl rfl rfl ?_
    refine ym_getA 16 C hR dX9_doesAsk_13 fl_X9_7 (by decide) rfl rfl ?_
    refine yr_iload_n 17 C dX9_doesAsk_16 rfl rfl ?_
    refine ym_aldN 18 C hR dX9_doesAsk_17 (by decide) rfl rfl ?_ rfl ?_
    · simp only [mL]; have := (show S 1 0 = nI np ∧ np ≤ 8 from hB 0); omega
    by_cases z18_0 : S 2 a = 0
    · rw [z18_0]
      refine yr_tabIn (off := 26) 44 C dX9_doesAsk_18 (by decide) (by decide) rfl (by decide) ?_
      refine yr_aload_n 45 C dX9_doesAsk_44 rfl rfl rfl ?_
      refine yr_iload_n 46 C dX9_doesAsk_45 rfl rfl ?_
      refine yr_V1v 49 C (mc_asksOfCar hZ _ (by omega) _ hR) dX9_doesAsk_46 mt_X9_asksOfCar mv_X9_asksOfCar ml_X9_180 hR.1 rfl (Nat.le_of_ble_eq_true rfl) (Nat.le_of_ble_eq_true rfl) (Nat.le_of_ble_eq_true rfl) (Nat.le_of_ble_eq_true rfl) (Nat.le_of_ble_eq_true rfl) rfl (fun h hR => ?_)
      refine yr_zret C dX9_doesAsk_49 hr ?_ (Nat.le_of_ble_eq_true rfl) (Nat.le_of_ble_eq_true rfl) ?_
      · exact bI_or _
      try rw [m_car_tr] at c78
      refine ⟨?_, ?_⟩
      · simp [m_doesAsk, m_asks, bI, e9, c7, z18_0]
      · simpa [m_doesAsk, m_asks, e9, c7, z18_0] using hR
    by_cases z18_1 : S 2 a = 1
    · rw [z18_1]
      refine yr_tabIn (off := 32) 50 C dX9_doesAsk_18 (by decide) (by decide) rfl (by decide) ?_
      refine yr_aload_n 51 C dX9_doesAsk_50 rfl rfl rfl ?_
      refine yr_dup 52 C dX9_doesAsk_51 rfl rfl ?_
      refine ym_get 55 C hR dX9_doesAsk_52 fl_X9_173 (by decide) rfl rfl ?_
      refine yr_bipush 57 C (10) dX9_doesAsk_55 rfl rfl ?_
      refine yr_iadd 58 C dX9_doesAsk_57 rfl ?_
      refine ym_put 61 C hR dX9_doesAsk_58 fp_X9_173 (by decide) rfl rfl (fun h hR => ?_)
      rw [show mset S 50 0 (S 50 0 + 10) = m_tr S 10 from rfl] at hR
      refine yr_aload_n 62 C dX9_doesAsk_61 rfl rfl rfl ?_
      refine ym_getA 65 C hR dX9_doesAsk_62 fl_X9_65 (by decide) rfl rfl ?_
      refine yr_iload_n 66 C dX9_doesAsk_65 rfl rfl ?_
      refine ym_aldN 67 C hR dX9_doesAsk_66 (by decide) rfl rfl ?_ rfl ?_
      · simp only [mL]; omega
      rw [m_tr_ne _ _ (show 22 ≠ 50 by decide)]
      refine yr_sipush 70 C (2000) dX9_doesAsk_67 rfl rfl ?_
      refine yr_icmp_ge 81 73 C dX9_doesAsk_70 (by decide) rfl (fun c70 => ?_) (fun c70 => ?_)
      · refine yr_iconst 82 C (1) dX9_doesAsk_81 rfl rfl ?_
        refine yr_goto 86 C dX9_doesAsk_82 (by decide) ?_
        refine yr_zret C dX9_doesAsk_86 hr ?_ (Nat.le_of_ble_eq_true rfl) (Nat.le_of_ble_eq_true rfl) ?_
        · first | exact Or.inl rfl | exact Or.inr rfl
        try rw [m_car_tr] at c78
        refine ⟨?_, ?_⟩
        · simp [m_doesAsk, m_asks, bI, e9, c7, z18_0, z18_1, c70]
        · simpa [m_doesAsk, m_asks, e9, c7, z18_0, z18_1, c70] using hR
      · refine yr_aload_n 74 C dX9_doesAsk_73 rfl rfl rfl ?_
        refine yr_iload_n 75 C dX9_doesAsk_74 rfl rfl ?_
        refine yr_V1v 78 C (mc_asksOfCar hZ _ (by omega) _ hR) dX9_doesAsk_75 mt_X9_asksOfCar mv_X9_asksOfCar ml_X9_180 hR.1 rfl (Nat.le_of_ble_eq_true rfl) (Nat.le_of_ble_eq_true rfl) (Nat.le_of_ble_eq_true rfl) (Nat.le_of_ble_eq_true rfl) (Nat.le_of_ble_eq_true rfl) rfl (fun h hR => ?_)
        refine yb_eq 85 81 C dX9_doesAsk_78 (by decide) rfl (fun c78 => ?_) (fun c78 => ?_)
        · refine yr_iconst 86 C (0) dX9_doesAsk_85 rfl rfl ?_
          refine yr_zret C dX9_doesAsk_86 hr ?_ (Nat.le_of_ble_eq_true rfl) (Nat.le_of_ble_eq_true rfl) ?_
          · first | exact Or.inl rfl | exact Or.inr rfl
          try rw [m_car_tr] at c78
          refine ⟨?_, ?_⟩
          · simp [m_doesAsk, m_asks, bI, e9, c7, z18_0, z18_1, c70, c78]
          · simpa [m_doesAsk, m_asks, e9, c7, z18_0, z18_1, c70, c78] using hR
        · refine yr_iconst 82 C (1) dX9_doesAsk_81 rfl rfl ?_
          refine yr_goto 86 C dX9_doesAsk_82 (by decide) ?_
          refine yr_zret C dX9_doesAsk_86 hr ?_ (Nat.le_of_ble_eq_true rfl) (Nat.le_of_ble_eq_true rfl) ?_
          · first | exact Or.inl rfl | exact Or.inr rfl
          try rw [m_car_tr] at c78
          refine ⟨?_, ?_⟩
          · simp [m_doesAsk, m_asks, bI, e9, c7, z18_0, z18_1, c70, c78]
          · simpa [m_doesAsk, m_asks, e9, c7, z18_0, z18_1, c70, c78] using hR
    by_cases z18_2 : S 2 a = 2
    · rw [z18_2]
      refine yr_tabIn (off := 69) 87 C dX9_doesAsk_18 (by decide) (by decide) rfl (by decide) ?_
      refine yr_aload_n 88 C dX9_doesAsk_87 rfl rfl rfl ?_
      refine yr_dup 89 C dX9_doesAsk_88 rfl rfl ?_
      refine ym_get 92 C hR dX9_doesAsk_89 fl_X9_173 (by decide) rfl rfl ?_
      refine yr_bipush 94 C (100) dX9_doesAsk_92 rfl rfl ?_
      refine yr_iadd 95 C dX9_doesAsk_94 rfl ?_
      refine ym_put 98 C hR dX9_doesAsk_95 fp_X9_173 (by decide) rfl rfl (fun h hR => ?_)
      rw [show mset S 50 0 (S 50 0 + 100) = m_tr S 100 from rfl] at hR
      refine yr_aload_n 99 C dX9_doesAsk_98 rfl rfl rfl ?_
      refine ym_getA 102 C hR dX9_doesAsk_99 fl_X9_62 (by decide) rfl rfl ?_
      refine yr_iload_n 103 C dX9_doesAsk_102 rfl rfl ?_
      refine ym_aldN 104 C hR dX9_doesAsk_103 (by decide) rfl rfl ?_ rfl ?_
      · simp only [mL]; omega
      rw [m_tr_ne _ _ (show 21 ≠ 50 by decide)]
      refine yr_if_le 111 107 C dX9_doesAsk_104 (by decide) rfl (fun c104 => ?_) (fun c104 => ?_)
      · refine yr_iconst 112 C (0) dX9_doesAsk_111 rfl rfl ?_
        refine yr_zret C dX9_doesAsk_112 hr ?_ (Nat.le_of_ble_eq_true rfl) (Nat.le_of_ble_eq_true rfl) ?_
        · first | exact Or.inl rfl | exact Or.inr rfl
        try rw [m_car_tr] at c78
        refine ⟨?_, ?_⟩
        · simp [m_doesAsk, m_asks, bI, e9, c7, z18_0, z18_1, z18_2, c104]
        · simpa [m_doesAsk, m_asks, e9, c7, z18_0, z18_1, z18_2, c104] using hR
      · refine yr_iconst 108 C (1) dX9_doesAsk_107 rfl rfl ?_
        refine yr_goto 112 C dX9_doesAsk_108 (by decide) ?_
        refine yr_zret C dX9_doesAsk_112 hr ?_ (Nat.le_of_ble_eq_true rfl) (Nat.le_of_ble_eq_true rfl) ?_
        · first | exact Or.inl rfl | exact Or.inr rfl
        try rw [m_car_tr] at c78
        refine ⟨?_, ?_⟩
        · simp [m_doesAsk, m_asks, bI, e9, c7, z18_0, z18_1, z18_2, c104]
        · simpa [m_doesAsk, m_asks, e9, c7, z18_0, z18_1, z18_2, c104] using hR
    refine yr_tabOut 113 C dX9_doesAsk_18 (sw_out 2 (by decide) (fun i hi => match i, hi with | 0, _ => z18_0 | 1, _ => z18_1 | 2, _ => z18_2 | (n + 3), q => absurd q (by omega))) (by decide) ?_
    refine yr_aload_n 114 C dX9_doesAsk_113 rfl rfl rfl ?_
    refine yr_dup 115 C dX9_doesAsk_114 rfl rfl ?_
    refine ym_get 118 C hR dX9_doesAsk_115 fl_X9_173 (by decide) rfl rfl ?_
    refine yr_sipush 121 C (1000) dX9_doesAsk_118 rfl rfl ?_
    refine yr_iadd 122 C dX9_doesAsk_121 rfl ?_
    refine ym_put 125 C hR dX9_doesAsk_122 fp_X9_173 (by decide) rfl rfl (fun h hR => ?_)
    rw [show mset S 50 0 (S 50 0 + 1000) = m_tr S 1000 from rfl] at hR
    refine yr_aload_n 126 C dX9_doesAsk_125 rfl rfl rfl ?_
    refine ym_getA 129 C hR dX9_doesAsk_126 fl_X9_62 (by decide) rfl rfl ?_
    refine yr_iload_n 130 C dX9_doesAsk_129 rfl rfl ?_
    refine ym_aldN 131 C hR dX9_doesAsk_130 (by decide) rfl rfl ?_ rfl ?_
    · simp only [mL]; omega
    rw [m_tr_ne _ _ (show 21 ≠ 50 by decide)]
    refine yr_if_eq 138 134 C dX9_doesAsk_131 (by decide) rfl (fun c131 => ?_) (fun c131 => ?_)
    · refine yr_iconst 139 C (0) dX9_doesAsk_138 rfl rfl ?_
      refine yr_zret C dX9_doesAsk_139 hr ?_ (Nat.le_of_ble_eq_true rfl) (Nat.le_of_ble_eq_true rfl) ?_
      · first | exact Or.inl rfl | exact Or.inr rfl
      try rw [m_car_tr] at c78
      refine ⟨?_, ?_⟩
      · simp [m_doesAsk, m_asks, bI, e9, c7, z18_0, z18_1, z18_2, c131]
      · simpa [m_doesAsk, m_asks, e9, c7, z18_0, z18_1, z18_2, c131] using hR
    · refine yr_iconst 135 C (1) dX9_doesAsk_134 rfl rfl ?_
      refine yr_goto 139 C dX9_doesAsk_135 (by decide) ?_
      refine yr_zret C dX9_doesAsk_139 hr ?_ (Nat.le_of_ble_eq_true rfl) (Nat.le_of_ble_eq_true rfl) ?_
      · first | exact Or.inl rfl | exact Or.inr rfl
      try rw [m_car_tr] at c78
      refine ⟨?_, ?_⟩
      · simp [m_doesAsk, m_asks, bI, e9, c7, z18_0, z18_1, z18_2, c131]
      · simpa [m_doesAsk, m_asks, e9, c7, z18_0, z18_1, z18_2, c131] using hR
  · refine yr_iconst 11 C (1) dX9_doesAsk_10 rfl rfl ?_
    refine yr_zret C dX9_doesAsk_11 hr ?_ (Nat.le_of_ble_eq_true rfl) (Nat.le_of_ble_eq_true rfl) ?_
    · first | exact Or.inl rfl | exact Or.inr rfl
    refine ⟨?_, ?_⟩
    · simp [m_doesAsk, bI, c7]
    · simpa [m_doesAsk, c7] using hR
set_option maxHeartbeats 4000000 in
set_option maxRecDepth 100000 in
theorem mc_doesHold (hZ : yZok D dA Z) (a : Nat) (ha : a < np) (hB : mB S np ns nd nr t) (h : yH) (hR : yMR dA ad m0 (S) h) : yM Z D yX9_doesHold cX9_doesHold 3 (some .boolean) 2 0 0 [.ref m0, .int (nI a)] h (fun r h' => r = some (.int (bI (m_doesHold S a).1)) ∧ yMR dA ad m0 ((m_doesHold S a).2) h') := by
  refine yM_of hZ (by decide) rfl (Nat.le_of_ble_eq_true rfl) ?_
  intro p l e s m args below meth c A C hr hin
  show yW p l e (yR 2 0 0) s m args below meth c 3 D A 0 0 _ 0 [some (.ref m0), some (.int (nI a)), none] [] h
  have k0 : S 1 0 = nI np ∧ np ≤ 8 := hB 0
  refine yr_aload_n 1 C dX9_doesHold_0 rfl rfl rfl ?_
  refine ym_getA 4 C hR dX9_doesHold_1 fl_X9_7 (by decide) rfl rfl ?_
  refine yr_iload_n 5 C dX9_doesHold_4 rfl rfl ?_
  refine ym_aldN 6 C hR dX9_doesHold_5 (by decide) rfl rfl ?_ rfl ?_
  · simp only [mL]; omega
  refine yr_iconst 7 C (4) dX9_doesHold_6 rfl rfl ?_
  refine yr_icmp_ne 24 10 C dX9_doesHold_7 (by decide) rfl (fun c7 => ?_) (fun c7 => ?_)
  · refine yr_aload_n 25 C dX9_doesHold_24 rfl rfl rfl ?_
    refine yr_iload_n 26 C dX9_doesHold_25 rfl rfl ?_
    refine yr_V1v 29 C (mc_readAt hZ _ ha hB _ hR) dX9_doesHold_26 mt_X9_readAt mv_X9_readAt ml_X9_176 hR.1 rfl (Nat.le_of_ble_eq_true rfl) (Nat.le_of_ble_eq_true rfl) (Nat.le_of_ble_eq_true rfl) (Nat.le_of_ble_eq_true rfl) (Nat.le_of_ble_eq_true rfl) rfl (fun h hR => ?_)
    refine yr_istore2 30 C dX9_doesHold_29 (by decide) rfl ?_
    refine yr_iload_n 31 C dX9_doesHold_30 rfl rfl ?_
    refine yr_if_ge 36 34 C dX9_doesHold_31 (by decide) rfl (fun c31 => ?_) (fun c31 => ?_)
    · have k4 : ∃ k, k ≤ 4 ∧ S 2 a = nI k := (show ∀ p, p < np → ∃ k, k ≤ 4 ∧ S 2 p = nI k from hB 4) a ha
      have hr1 := m_readAt_at hB ha c31
      obtain ⟨y, hy, ey, eS⟩ := hr1
      have e9 : ix (m_readAt S a).1 = y := by rw [ey]; exact ix_nI (by omega)
      rw [eS] at hR
      rw [ey]
      refine yr_aload_n 37 C dX9_doesHold_36 rfl rfl rfl ?_
      refine ym_getA 40 C hR dX9_doesHold_37 fl_X9_7 (by decide) rfl rfl ?_
      refine yr_iload_n 41 C dX9_doesHold_40 rfl rfl ?_
      refine ym_aldN 42 C hR dX9_doesHold_41 (by decide) rfl rfl ?_ rfl ?_
      · simp only [mL]; omega
      by_cases z42_0 : S 2 a = 0
      · rw [z42_0]
        refine yr_tabIn (off := 26) 68 C dX9_doesHold_42 (by decide) (by decide) rfl (by decide) ?_
        refine yr_aload_n 69 C dX9_doesHold_68 rfl rfl rfl ?_
        refine yr_dup 70 C dX9_doesHold_69 rfl rfl ?_
        refine ym_get 73 C hR dX9_doesHold_70 fl_X9_173 (by decide) rfl rfl ?_
        refine yr_iconst 74 C (5) dX9_doesHold_73 rfl rfl ?_
        refine yr_iadd 75 C dX9_doesHold_74 rfl ?_
        refine ym_put 78 C hR dX9_doesHold_75 fp_X9_173 (by decide) rfl rfl (fun h hR => ?_)
        rw [show mset S 50 0 (S 50 0 + 5) = m_tr S 5 from rfl] at hR
        refine yr_aload_n 79 C dX9_doesHold_78 rfl rfl rfl ?_
        refine ym_getA 82 C hR dX9_doesHold_79 fl_X9_62 (by decide) rfl rfl ?_
        refine yr_iload_n 83 C dX9_doesHold_82 rfl rfl ?_
        refine ym_aldN 84 C hR dX9_doesHold_83 (by decide) rfl rfl ?_ rfl ?_
        · simp only [mL]; omega
        rw [m_tr_ne _ _ (show 21 ≠ 50 by decide)]
        refine yr_if_le 91 87 C dX9_doesHold_84 (by decide) rfl (fun c84 => ?_) (fun c84 => ?_)
        · refine yr_iconst 92 C (0) dX9_doesHold_91 rfl rfl ?_
          refine yr_zret C dX9_doesHold_92 hr ?_ (Nat.le_of_ble_eq_true rfl) (Nat.le_of_ble_eq_true rfl) ?_
          · first | exact Or.inl rfl | exact Or.inr rfl
          refine ⟨?_, ?_⟩
          · simp [m_doesHold, m_holdK, bI, e9, c7, c31, z42_0, c84]
          · simpa [m_doesHold, m_holdK, e9, c7, c31, z42_0, c84] using hR
        · refine yr_iconst 88 C (1) dX9_doesHold_87 rfl rfl ?_
          refine yr_goto 92 C dX9_doesHold_88 (by decide) ?_
          refine yr_zret C dX9_doesHold_92 hr ?_ (Nat.le_of_ble_eq_true rfl) (Nat.le_of_ble_eq_true rfl) ?_
          · first | exact Or.inl rfl | exact Or.inr rfl
          refine ⟨?_, ?_⟩
          · simp [m_doesHold, m_holdK, bI, e9, c7, c31, z42_0, c84]
          · simpa [m_doesHold, m_holdK, e9, c7, c31, z42_0, c84] using hR
      by_cases z42_1 : S 2 a = 1
      · rw [z42_1]
        refine yr_tabIn (off := 26) 68 C dX9_doesHold_42 (by decide) (by decide) rfl (by decide) ?_
        refine yr_aload_n 69 C dX9_doesHold_68 rfl rfl rfl ?_
        refine yr_dup 70 C dX9_doesHold_69 rfl rfl ?_
        refine ym_get 73 C hR dX9_doesHold_70 fl_X9_173 (by decide) rfl rfl ?_
        refine yr_iconst 74 C (5) dX9_doesHold_73 rfl rfl ?_
        refine yr_iadd 75 C dX9_doesHold_74 rfl ?_
        refine ym_put 78 C hR dX9_doesHold_75 fp_X9_173 (by decide) rfl rfl (fun h hR => ?_)
        rw [show mset S 50 0 (S 50 0 + 5) = m_tr S 5 from rfl] at hR
        refine yr_aload_n 79 C dX9_doesHold_78 rfl rfl rfl ?_
        refine ym_getA 82 C hR dX9_doesHold_79 fl_X9_62 (by decide) rfl rfl ?_
        refine yr_iload_n 83 C dX9_doesHold_82 rfl rfl ?_
        refine ym_aldN 84 C hR dX9_doesHold_83 (by decide) rfl rfl ?_ rfl ?_
        · simp only [mL]; omega
        rw [m_tr_ne _ _ (show 21 ≠ 50 by decide)]
        refine yr_if_le 91 87 C dX9_doesHold_84 (by decide) rfl (fun c84 => ?_) (fun c84 => ?_)
        · refine yr_iconst 92 C (0) dX9_doesHold_91 rfl rfl ?_
          refine yr_zret C dX9_doesHold_92 hr ?_ (Nat.le_of_ble_eq_true rfl) (Nat.le_of_ble_eq_true rfl) ?_
          · first | exact Or.inl rfl | exact Or.inr rfl
          refine ⟨?_, ?_⟩
          · simp [m_doesHold, m_holdK, bI, e9, c7, c31, z42_0, z42_1, c84]
          · simpa [m_doesHold, m_holdK, e9, c7, c31, z42_0, z42_1, c84] using hR
        · refine yr_iconst 88 C (1) dX9_doesHold_87 rfl rfl ?_
          refine yr_goto 92 C dX9_doesHold_88 (by decide) ?_
          refine yr_zret C dX9_doesHold_92 hr ?_ (Nat.le_of_ble_eq_true rfl) (Nat.le_of_ble_eq_true rfl) ?_
          · first | exact Or.inl rfl | exact Or.inr rfl
          refine ⟨?_, ?_⟩
          · simp [m_doesHold, m_holdK, bI, e9, c7, c31, z42_0, z42_1, c84]
          · simpa [m_doesHold, m_holdK, e9, c7, c31, z42_0, z42_1, c84] using hR
      by_cases z42_2 : S 2 a = 2
      · rw [z42_2]
        refine yr_tabIn (off := 51) 93 C dX9_doesHold_42 (by decide) (by decide) rfl (by decide) ?_
        refine yr_aload_n 94 C dX9_doesHold_93 rfl rfl rfl ?_
        refine yr_dup 95 C dX9_doesHold_94 rfl rfl ?_
        refine ym_get 98 C hR dX9_doesHold_95 fl_X9_173 (by decide) rfl rfl ?_
        refine yr_bipush 100 C (50) dX9_doesHold_98 rfl rfl ?_
        refine yr_iadd 101 C dX9_doesHold_100 rfl ?_
        refine ym_put 104 C hR dX9_doesHold_101 fp_X9_173 (by decide) rfl rfl (fun h hR => ?_)
        rw [show mset S 50 0 (S 50 0 + 50) = m_tr S 50 from rfl] at hR
        refine yr_iconst 105 C (0) dX9_doesHold_104 rfl rfl ?_
        refine yr_zret C dX9_doesHold_105 hr ?_ (Nat.le_of_ble_eq_true rfl) (Nat.le_of_ble_eq_true rfl) ?_
        · first | exact Or.inl rfl | exact Or.inr rfl
        refine ⟨?_, ?_⟩
        · simp [m_doesHold, m_holdK, bI, e9, c7, c31, z42_0, z42_1, z42_2]
        · simpa [m_doesHold, m_holdK, e9, c7, c31, z42_0, z42_1, z42_2] using hR
      refine yr_tabOut 106 C dX9_doesHold_42 (sw_out 2 (by decide) (fun i hi => match i, hi with | 0, _ => z42_0 | 1, _ => z42_1 | 2, _ => z42_2 | (n + 3), q => absurd q (by omega))) (by decide) ?_
      refine yr_aload_n 107 C dX9_doesHold_106 rfl rfl rfl ?_
      refine yr_dup 108 C dX9_doesHold_107 rfl rfl ?_
      refine ym_get 111 C hR dX9_doesHold_108 fl_X9_173 (by decide) rfl rfl ?_
      refine yr_sipush 114 C (500) dX9_doesHold_111 rfl rfl ?_
      refine yr_iadd 115 C dX9_doesHold_114 rfl ?_
      refine ym_put 118 C hR dX9_doesHold_115 fp_X9_173 (by decide) rfl rfl (fun h hR => ?_)
      rw [show mset S 50 0 (S 50 0 + 500) = m_tr S 500 from rfl] at hR
      refine yr_aload_n 119 C dX9_doesHold_118 rfl rfl rfl ?_
      refine ym_getA 122 C hR dX9_doesHold_119 fl_X9_62 (by decide) rfl rfl ?_
      refine yr_iload_n 123 C dX9_doesHold_122 rfl rfl ?_
      refine ym_aldN 124 C hR dX9_doesHold_123 (by decide) rfl rfl ?_ rfl ?_
      · simp only [mL]; omega
      rw [m_tr_ne _ _ (show 21 ≠ 50 by decide)]
      refine yr_if_eq 131 127 C dX9_doesHold_124 (by decide) rfl (fun c124 => ?_) (fun c124 => ?_)
      · refine yr_iconst 132 C (0) dX9_doesHold_131 rfl rfl ?_
        refine yr_zret C dX9_doesHold_132 hr ?_ (Nat.le_of_ble_eq_true rfl) (Nat.le_of_ble_eq_true rfl) ?_
        · first | exact Or.inl rfl | exact Or.inr rfl
        refine ⟨?_, ?_⟩
        · simp [m_doesHold, m_holdK, bI, e9, c7, c31, z42_0, z42_1, z42_2, c124]
        · simpa [m_doesHold, m_holdK, e9, c7, c31, z42_0, z42_1, z42_2, c124] using hR
      · refine yr_iconst 128 C (1) dX9_doesHold_127 rfl rfl ?_
        refine yr_goto 132 C dX9_doesHold_128 (by decide) ?_
        refine yr_zret C dX9_doesHold_132 hr ?_ (Nat.le_of_ble_eq_true rfl) (Nat.le_of_ble_eq_true rfl) ?_
        · first | exact Or.inl rfl | exact Or.inr rfl
        refine ⟨?_, ?_⟩
        · simp [m_doesHold, m_holdK, bI, e9, c7, c31, z42_0, z42_1, z42_2, c124]
        · simpa [m_doesHold, m_holdK, e9, c7, c31, z42_0, z42_1, z42_2, c124] using hR
    · refine yr_iconst 35 C (1) dX9_doesHold_34 rfl rfl ?_
      refine yr_zret C dX9_doesHold_35 hr ?_ (Nat.le_of_ble_eq_true rfl) (Nat.le_of_ble_eq_true rfl) ?_
      · first | exact Or.inl rfl | exact Or.inr rfl
      refine ⟨?_, ?_⟩
      · simp [m_doesHold, bI, c7, c31]
      · simpa [m_doesHold, c7, c31] using hR
  · refine yr_aload_n 11 C dX9_doesHold_10 rfl rfl rfl ?_
    refine yr_dup 12 C dX9_doesHold_11 rfl rfl ?_
    refine ym_get 15 C hR dX9_doesHold_12 fl_X9_173 (by decide) rfl rfl ?_
    refine yr_sipush 18 C (5000) dX9_doesHold_15 rfl rfl ?_
    refine yr_iadd 19 C dX9_doesHold_18 rfl ?_
    refine ym_put 22 C hR dX9_doesHold_19 fp_X9_173 (by decide) rfl rfl (fun h hR => ?_)
    refine yr_iconst 23 C (1) dX9_doesHold_22 rfl rfl ?_
    refine yr_zret C dX9_doesHold_23 hr ?_ (Nat.le_of_ble_eq_true rfl) (Nat.le_of_ble_eq_true rfl) ?_
    · first | exact Or.inl rfl | exact Or.inr rfl
    refine ⟨?_, ?_⟩
    · simp [m_doesHold, bI, c7]
    · simpa [m_doesHold, m_tr, c7] using hR
end M4
end

section
-- ===== PART A: goes FIRST, ahead of the names: the tables' words, and 'selects' of the private methods out of them =====
/-- a private method of a class that the tables say can be made, by its rows of tables_1 -/
def lw_okq (q : MethodName × Nat) : Prop := (q.1.cls ≠ "java/lang/invoke/MethodHandle" ∧ q.1.cls ≠ "java/lang/invoke/VarHandle") ∧ Cond.instantiable q.1.cls q.2 ∈ tables_1 ∧ Cond.privateMethod q.1 ∈ tables_1 ∧ Cond.instanceMethod q.1 ∈ tables_1
theorem lw_p0 : lw_okq (⟨"ArmSignals", "knownIfDone", "(I)I"⟩, 12) := ⟨⟨by decide +kernel, by decide +kernel⟩, List.mem_of_getElem? (i := 16) (by decide +kernel), List.mem_of_getElem? (i := 335) (by decide +kernel), List.mem_of_getElem? (i := 336) (by decide +kernel)⟩
theorem lw_p1 : lw_okq (⟨"ArmSignals$Way", "weigh", "(LArmSignals$Station;)V"⟩, 6) := ⟨⟨by decide +kernel, by decide +kernel⟩, List.mem_of_getElem? (i := 96) (by decide +kernel), List.mem_of_getElem? (i := 416) (by decide +kernel), List.mem_of_getElem? (i := 417) (by decide +kernel)⟩
theorem lw_p2 : lw_okq (⟨"ArmSignals$Way", "effortBy", "(LArmSignals$Station;III)I"⟩, 6) := ⟨⟨by decide +kernel, by decide +kernel⟩, List.mem_of_getElem? (i := 96) (by decide +kernel), List.mem_of_getElem? (i := 420) (by decide +kernel), List.mem_of_getElem? (i := 421) (by decide +kernel)⟩
theorem lw_p3 : lw_okq (⟨"ArmSignals$Way", "dirOf", "(II)I"⟩, 6) := ⟨⟨by decide +kernel, by decide +kernel⟩, List.mem_of_getElem? (i := 96) (by decide +kernel), List.mem_of_getElem? (i := 424) (by decide +kernel), List.mem_of_getElem? (i := 425) (by decide +kernel)⟩
theorem lw_p4 : lw_okq (⟨"ArmSignals$Way", "choose", "(LArmSignals$Station;)V"⟩, 6) := ⟨⟨by decide +kernel, by decide +kernel⟩, List.mem_of_getElem? (i := 96) (by decide +kernel), List.mem_of_getElem? (i := 434) (by decide +kernel), List.mem_of_getElem? (i := 435) (by decide +kernel)⟩
theorem lw_p5 : lw_okq (⟨"ArmSignals$Shortening", "goOnByLetter", "(LArmSignals$Station;I)V"⟩, 5) := ⟨⟨by decide +kernel, by decide +kernel⟩, List.mem_of_getElem? (i := 121) (by decide +kernel), List.mem_of_getElem? (i := 481) (by decide +kernel), List.mem_of_getElem? (i := 482) (by decide +kernel)⟩
theorem lw_p6 : lw_okq (⟨"ArmSignals$Shortening", "reach", "(IIII)V"⟩, 5) := ⟨⟨by decide +kernel, by decide +kernel⟩, List.mem_of_getElem? (i := 121) (by decide +kernel), List.mem_of_getElem? (i := 494) (by decide +kernel), List.mem_of_getElem? (i := 495) (by decide +kernel)⟩
theorem lw_p7 : lw_okq (⟨"ArmSignals$Shortening", "goOnByWords", "(LArmSignals$Station;I)V"⟩, 5) := ⟨⟨by decide +kernel, by decide +kernel⟩, List.mem_of_getElem? (i := 121) (by decide +kernel), List.mem_of_getElem? (i := 499) (by decide +kernel), List.mem_of_getElem? (i := 500) (by decide +kernel)⟩
theorem lw_p8 : lw_okq (⟨"ArmSignals$Sight", "distanceTo", "(LArmSignals$Station;I)I"⟩, 6) := ⟨⟨by decide +kernel, by decide +kernel⟩, List.mem_of_getElem? (i := 143) (by decide +kernel), List.mem_of_getElem? (i := 534) (by decide +kernel), List.mem_of_getElem? (i := 535) (by decide +kernel)⟩
theorem lw_p9 : lw_okq (⟨"ArmSignals", "slipsToLetters", "()I"⟩, 12) := ⟨⟨by decide +kernel, by decide +kernel⟩, List.mem_of_getElem? (i := 16) (by decide +kernel), List.mem_of_getElem? (i := 544) (by decide +kernel), List.mem_of_getElem? (i := 545) (by decide +kernel)⟩
theorem lw_p10 : lw_okq (⟨"ArmSignals", "slipsStillNearest", "()I"⟩, 12) := ⟨⟨by decide +kernel, by decide +kernel⟩, List.mem_of_getElem? (i := 16) (by decide +kernel), List.mem_of_getElem? (i := 557) (by decide +kernel), List.mem_of_getElem? (i := 558) (by decide +kernel)⟩
theorem lw_p11 : lw_okq (⟨"ArmSignals", "tellsAt", "(IIII)I"⟩, 12) := ⟨⟨by decide +kernel, by decide +kernel⟩, List.mem_of_getElem? (i := 16) (by decide +kernel), List.mem_of_getElem? (i := 561) (by decide +kernel), List.mem_of_getElem? (i := 562) (by decide +kernel)⟩
theorem lw_p12 : lw_okq (⟨"ArmSignals$Odds", "measure", "(LArmSignals$Station;I)V"⟩, 5) := ⟨⟨by decide +kernel, by decide +kernel⟩, List.mem_of_getElem? (i := 171) (by decide +kernel), List.mem_of_getElem? (i := 574) (by decide +kernel), List.mem_of_getElem? (i := 575) (by decide +kernel)⟩
theorem lw_p13 : lw_okq (⟨"ArmSignals$Odds", "countTold", "(LArmSignals$Station;I)V"⟩, 5) := ⟨⟨by decide +kernel, by decide +kernel⟩, List.mem_of_getElem? (i := 171) (by decide +kernel), List.mem_of_getElem? (i := 583) (by decide +kernel), List.mem_of_getElem? (i := 584) (by decide +kernel)⟩
theorem lw_p14 : lw_okq (⟨"ArmSignals$Odds", "isTold", "(LArmSignals$Station;II)Z"⟩, 5) := ⟨⟨by decide +kernel, by decide +kernel⟩, List.mem_of_getElem? (i := 171) (by decide +kernel), List.mem_of_getElem? (i := 588) (by decide +kernel), List.mem_of_getElem? (i := 589) (by decide +kernel)⟩
theorem lw_p15 : lw_okq (⟨"ArmSignals$Odds", "distanceOf", "(III)I"⟩, 5) := ⟨⟨by decide +kernel, by decide +kernel⟩, List.mem_of_getElem? (i := 171) (by decide +kernel), List.mem_of_getElem? (i := 592) (by decide +kernel), List.mem_of_getElem? (i := 593) (by decide +kernel)⟩
def lw_privs_1 : List (MethodName × Nat) := [(⟨"ArmSignals", "knownIfDone", "(I)I"⟩, 12), (⟨"ArmSignals$Way", "weigh", "(LArmSignals$Station;)V"⟩, 6), (⟨"ArmSignals$Way", "effortBy", "(LArmSignals$Station;III)I"⟩, 6), (⟨"ArmSignals$Way", "dirOf", "(II)I"⟩, 6), (⟨"ArmSignals$Way", "choose", "(LArmSignals$Station;)V"⟩, 6), (⟨"ArmSignals$Shortening", "goOnByLetter", "(LArmSignals$Station;I)V"⟩, 5), (⟨"ArmSignals$Shortening", "reach", "(IIII)V"⟩, 5), (⟨"ArmSignals$Shortening", "goOnByWords", "(LArmSignals$Station;I)V"⟩, 5), (⟨"ArmSignals$Sight", "distanceTo", "(LArmSignals$Station;I)I"⟩, 6), (⟨"ArmSignals", "slipsToLetters", "()I"⟩, 12), (⟨"ArmSignals", "slipsStillNearest", "()I"⟩, 12), (⟨"ArmSignals", "tellsAt", "(IIII)I"⟩, 12), (⟨"ArmSignals$Odds", "measure", "(LArmSignals$Station;I)V"⟩, 5), (⟨"ArmSignals$Odds", "countTold", "(LArmSignals$Station;I)V"⟩, 5), (⟨"ArmSignals$Odds", "isTold", "(LArmSignals$Station;II)Z"⟩, 5), (⟨"ArmSignals$Odds", "distanceOf", "(III)I"⟩, 5)]
theorem lw_r1 : ∀ q ∈ lw_privs_1, lw_okq q := List.forall_mem_cons.mpr ⟨lw_p0, List.forall_mem_cons.mpr ⟨lw_p1, List.forall_mem_cons.mpr ⟨lw_p2, List.forall_mem_cons.mpr ⟨lw_p3, List.forall_mem_cons.mpr ⟨lw_p4, List.forall_mem_cons.mpr ⟨lw_p5, List.forall_mem_cons.mpr ⟨lw_p6, List.forall_mem_cons.mpr ⟨lw_p7, List.forall_mem_cons.mpr ⟨lw_p8, List.forall_mem_cons.mpr ⟨lw_p9, List.forall_mem_cons.mpr ⟨lw_p10, List.forall_mem_cons.mpr ⟨lw_p11, List.forall_mem_cons.mpr ⟨lw_p12, List.forall_mem_cons.mpr ⟨lw_p13, List.forall_mem_cons.mpr ⟨lw_p14, List.forall_mem_cons.mpr ⟨lw_p15, fun _ h => absurd h List.not_mem_nil⟩⟩⟩⟩⟩⟩⟩⟩⟩⟩⟩⟩⟩⟩⟩⟩
theorem lw_p16 : lw_okq (⟨"ArmSignals$Odds", "reduceBy", "(II)V"⟩, 5) := ⟨⟨by decide +kernel, by decide +kernel⟩, List.mem_of_getElem? (i := 171) (by decide +kernel), List.mem_of_getElem? (i := 605) (by decide +kernel), List.mem_of_getElem? (i := 606) (by decide +kernel)⟩
theorem lw_p17 : lw_okq (⟨"ArmSignals", "refusal", "(IIII)I"⟩, 12) := ⟨⟨by decide +kernel, by decide +kernel⟩, List.mem_of_getElem? (i := 16) (by decide +kernel), List.mem_of_getElem? (i := 688) (by decide +kernel), List.mem_of_getElem? (i := 689) (by decide +kernel)⟩
theorem lw_p18 : lw_okq (⟨"ArmSignalsModel", "low", "(I)I"⟩, 26) := ⟨⟨by decide +kernel, by decide +kernel⟩, List.mem_of_getElem? (i := 738) (by decide +kernel), List.mem_of_getElem? (i := 831) (by decide +kernel), List.mem_of_getElem? (i := 832) (by decide +kernel)⟩
theorem lw_p19 : lw_okq (⟨"ArmSignalsModel", "high", "(I)I"⟩, 26) := ⟨⟨by decide +kernel, by decide +kernel⟩, List.mem_of_getElem? (i := 738) (by decide +kernel), List.mem_of_getElem? (i := 835) (by decide +kernel), List.mem_of_getElem? (i := 836) (by decide +kernel)⟩
theorem lw_p20 : lw_okq (⟨"ArmSignalsModel", "turnedOf", "(I)I"⟩, 26) := ⟨⟨by decide +kernel, by decide +kernel⟩, List.mem_of_getElem? (i := 738) (by decide +kernel), List.mem_of_getElem? (i := 839) (by decide +kernel), List.mem_of_getElem? (i := 840) (by decide +kernel)⟩
theorem lw_p21 : lw_okq (⟨"ArmSignalsModel", "letterOf", "(II)I"⟩, 26) := ⟨⟨by decide +kernel, by decide +kernel⟩, List.mem_of_getElem? (i := 738) (by decide +kernel), List.mem_of_getElem? (i := 843) (by decide +kernel), List.mem_of_getElem? (i := 844) (by decide +kernel)⟩
theorem lw_p22 : lw_okq (⟨"ArmSignalsModel", "signOf", "(II)I"⟩, 26) := ⟨⟨by decide +kernel, by decide +kernel⟩, List.mem_of_getElem? (i := 738) (by decide +kernel), List.mem_of_getElem? (i := 847) (by decide +kernel), List.mem_of_getElem? (i := 848) (by decide +kernel)⟩
theorem lw_p23 : lw_okq (⟨"ArmSignalsModel", "holds", "()V"⟩, 26) := ⟨⟨by decide +kernel, by decide +kernel⟩, List.mem_of_getElem? (i := 738) (by decide +kernel), List.mem_of_getElem? (i := 871) (by decide +kernel), List.mem_of_getElem? (i := 872) (by decide +kernel)⟩
theorem lw_p24 : lw_okq (⟨"ArmSignalsModel", "says", "(I)I"⟩, 26) := ⟨⟨by decide +kernel, by decide +kernel⟩, List.mem_of_getElem? (i := 738) (by decide +kernel), List.mem_of_getElem? (i := 875) (by decide +kernel), List.mem_of_getElem? (i := 876) (by decide +kernel)⟩
theorem lw_p25 : lw_okq (⟨"ArmSignalsModel", "done", "(I)I"⟩, 26) := ⟨⟨by decide +kernel, by decide +kernel⟩, List.mem_of_getElem? (i := 738) (by decide +kernel), List.mem_of_getElem? (i := 879) (by decide +kernel), List.mem_of_getElem? (i := 880) (by decide +kernel)⟩
theorem lw_p26 : lw_okq (⟨"ArmSignalsModel", "notes", "()V"⟩, 26) := ⟨⟨by decide +kernel, by decide +kernel⟩, List.mem_of_getElem? (i := 738) (by decide +kernel), List.mem_of_getElem? (i := 883) (by decide +kernel), List.mem_of_getElem? (i := 884) (by decide +kernel)⟩
theorem lw_p27 : lw_okq (⟨"ArmSignalsModel", "takesBack", "()I"⟩, 26) := ⟨⟨by decide +kernel, by decide +kernel⟩, List.mem_of_getElem? (i := 738) (by decide +kernel), List.mem_of_getElem? (i := 891) (by decide +kernel), List.mem_of_getElem? (i := 892) (by decide +kernel)⟩
theorem lw_p28 : lw_okq (⟨"ArmSignalsModel", "at", "(I)I"⟩, 26) := ⟨⟨by decide +kernel, by decide +kernel⟩, List.mem_of_getElem? (i := 738) (by decide +kernel), List.mem_of_getElem? (i := 895) (by decide +kernel), List.mem_of_getElem? (i := 896) (by decide +kernel)⟩
theorem lw_p29 : lw_okq (⟨"ArmSignalsModel", "keeps", "()I"⟩, 26) := ⟨⟨by decide +kernel, by decide +kernel⟩, List.mem_of_getElem? (i := 738) (by decide +kernel), List.mem_of_getElem? (i := 903) (by decide +kernel), List.mem_of_getElem? (i := 904) (by decide +kernel)⟩
theorem lw_p30 : lw_okq (⟨"ArmSignalsModel", "loses", "(I)I"⟩, 26) := ⟨⟨by decide +kernel, by decide +kernel⟩, List.mem_of_getElem? (i := 738) (by decide +kernel), List.mem_of_getElem? (i := 912) (by decide +kernel), List.mem_of_getElem? (i := 913) (by decide +kernel)⟩
theorem lw_p31 : lw_okq (⟨"ArmSignalsModel", "isWord", "(I)Z"⟩, 26) := ⟨⟨by decide +kernel, by decide +kernel⟩, List.mem_of_getElem? (i := 738) (by decide +kernel), List.mem_of_getElem? (i := 916) (by decide +kernel), List.mem_of_getElem? (i := 917) (by decide +kernel)⟩
def lw_privs_2 : List (MethodName × Nat) := [(⟨"ArmSignals$Odds", "reduceBy", "(II)V"⟩, 5), (⟨"ArmSignals", "refusal", "(IIII)I"⟩, 12), (⟨"ArmSignalsModel", "low", "(I)I"⟩, 26), (⟨"ArmSignalsModel", "high", "(I)I"⟩, 26), (⟨"ArmSignalsModel", "turnedOf", "(I)I"⟩, 26), (⟨"ArmSignalsModel", "letterOf", "(II)I"⟩, 26), (⟨"ArmSignalsModel", "signOf", "(II)I"⟩, 26), (⟨"ArmSignalsModel", "holds", "()V"⟩, 26), (⟨"ArmSignalsModel", "says", "(I)I"⟩, 26), (⟨"ArmSignalsModel", "done", "(I)I"⟩, 26), (⟨"ArmSignalsModel", "notes", "()V"⟩, 26), (⟨"ArmSignalsModel", "takesBack", "()I"⟩, 26), (⟨"ArmSignalsModel", "at", "(I)I"⟩, 26), (⟨"ArmSignalsModel", "keeps", "()I"⟩, 26), (⟨"ArmSignalsModel", "loses", "(I)I"⟩, 26), (⟨"ArmSignalsModel", "isWord", "(I)Z"⟩, 26)]
theorem lw_r2 : ∀ q ∈ lw_privs_2, lw_okq q := List.forall_mem_cons.mpr ⟨lw_p16, List.forall_mem_cons.mpr ⟨lw_p17, List.forall_mem_cons.mpr ⟨lw_p18, List.forall_mem_cons.mpr ⟨lw_p19, List.forall_mem_cons.mpr ⟨lw_p20, List.forall_mem_cons.mpr ⟨lw_p21, List.forall_mem_cons.mpr ⟨lw_p22, List.forall_mem_cons.mpr ⟨lw_p23, List.forall_mem_cons.mpr ⟨lw_p24, List.forall_mem_cons.mpr ⟨lw_p25, List.forall_mem_cons.mpr ⟨lw_p26, List.forall_mem_cons.mpr ⟨lw_p27, List.forall_mem_cons.mpr ⟨lw_p28, List.forall_mem_cons.mpr ⟨lw_p29, List.forall_mem_cons.mpr ⟨lw_p30, List.forall_mem_cons.mpr ⟨lw_p31, fun _ h => absurd h List.not_mem_nil⟩⟩⟩⟩⟩⟩⟩⟩⟩⟩⟩⟩⟩⟩⟩⟩
theorem lw_p32 : lw_okq (⟨"ArmSignalsModel", "calls", "(I)I"⟩, 26) := ⟨⟨by decide +kernel, by decide +kernel⟩, List.mem_of_getElem? (i := 738) (by decide +kernel), List.mem_of_getElem? (i := 924) (by decide +kernel), List.mem_of_getElem? (i := 925) (by decide +kernel)⟩
theorem lw_p33 : lw_okq (⟨"ArmSignalsModel", "sizeOf", "(I)I"⟩, 26) := ⟨⟨by decide +kernel, by decide +kernel⟩, List.mem_of_getElem? (i := 738) (by decide +kernel), List.mem_of_getElem? (i := 928) (by decide +kernel), List.mem_of_getElem? (i := 929) (by decide +kernel)⟩
theorem lw_p34 : lw_okq (⟨"ArmSignalsModel", "ofWord", "(II)I"⟩, 26) := ⟨⟨by decide +kernel, by decide +kernel⟩, List.mem_of_getElem? (i := 738) (by decide +kernel), List.mem_of_getElem? (i := 932) (by decide +kernel), List.mem_of_getElem? (i := 933) (by decide +kernel)⟩
theorem lw_p35 : lw_okq (⟨"ArmSignalsModel", "tells", "(II)I"⟩, 26) := ⟨⟨by decide +kernel, by decide +kernel⟩, List.mem_of_getElem? (i := 738) (by decide +kernel), List.mem_of_getElem? (i := 940) (by decide +kernel), List.mem_of_getElem? (i := 941) (by decide +kernel)⟩
theorem lw_p36 : lw_okq (⟨"ArmSignalsModel", "goesThrough", "()V"⟩, 26) := ⟨⟨by decide +kernel, by decide +kernel⟩, List.mem_of_getElem? (i := 738) (by decide +kernel), List.mem_of_getElem? (i := 958) (by decide +kernel), List.mem_of_getElem? (i := 959) (by decide +kernel)⟩
theorem lw_p37 : lw_okq (⟨"ArmSignalsModel", "stepsOf", "(IZ)I"⟩, 26) := ⟨⟨by decide +kernel, by decide +kernel⟩, List.mem_of_getElem? (i := 738) (by decide +kernel), List.mem_of_getElem? (i := 962) (by decide +kernel), List.mem_of_getElem? (i := 963) (by decide +kernel)⟩
theorem lw_p38 : lw_okq (⟨"ArmSignalsModel", "leftAt", "(II)I"⟩, 26) := ⟨⟨by decide +kernel, by decide +kernel⟩, List.mem_of_getElem? (i := 738) (by decide +kernel), List.mem_of_getElem? (i := 966) (by decide +kernel), List.mem_of_getElem? (i := 967) (by decide +kernel)⟩
theorem lw_p39 : lw_okq (⟨"ArmSignalsModel", "rightAt", "(II)I"⟩, 26) := ⟨⟨by decide +kernel, by decide +kernel⟩, List.mem_of_getElem? (i := 738) (by decide +kernel), List.mem_of_getElem? (i := 970) (by decide +kernel), List.mem_of_getElem? (i := 971) (by decide +kernel)⟩
theorem lw_p40 : lw_okq (⟨"ArmSignalsModel", "goesOn", "(IIII)V"⟩, 26) := ⟨⟨by decide +kernel, by decide +kernel⟩, List.mem_of_getElem? (i := 738) (by decide +kernel), List.mem_of_getElem? (i := 983) (by decide +kernel), List.mem_of_getElem? (i := 984) (by decide +kernel)⟩
theorem lw_p41 : lw_okq (⟨"ArmSignalsModel", "side", "(II)I"⟩, 26) := ⟨⟨by decide +kernel, by decide +kernel⟩, List.mem_of_getElem? (i := 738) (by decide +kernel), List.mem_of_getElem? (i := 987) (by decide +kernel), List.mem_of_getElem? (i := 988) (by decide +kernel)⟩
theorem lw_p42 : lw_okq (⟨"ArmSignalsModel", "legOf", "(IIII)I"⟩, 26) := ⟨⟨by decide +kernel, by decide +kernel⟩, List.mem_of_getElem? (i := 738) (by decide +kernel), List.mem_of_getElem? (i := 991) (by decide +kernel), List.mem_of_getElem? (i := 992) (by decide +kernel)⟩
theorem lw_p43 : lw_okq (⟨"ArmSignalsModel", "lowers", "(II)V"⟩, 26) := ⟨⟨by decide +kernel, by decide +kernel⟩, List.mem_of_getElem? (i := 738) (by decide +kernel), List.mem_of_getElem? (i := 995) (by decide +kernel), List.mem_of_getElem? (i := 996) (by decide +kernel)⟩
theorem lw_p44 : lw_okq (⟨"ArmSignalsModel", "stands", "(II)Z"⟩, 26) := ⟨⟨by decide +kernel, by decide +kernel⟩, List.mem_of_getElem? (i := 738) (by decide +kernel), List.mem_of_getElem? (i := 999) (by decide +kernel), List.mem_of_getElem? (i := 1000) (by decide +kernel)⟩
theorem lw_p45 : lw_okq (⟨"ArmSignalsModel", "sees", "()V"⟩, 26) := ⟨⟨by decide +kernel, by decide +kernel⟩, List.mem_of_getElem? (i := 738) (by decide +kernel), List.mem_of_getElem? (i := 1008) (by decide +kernel), List.mem_of_getElem? (i := 1009) (by decide +kernel)⟩
theorem lw_p46 : lw_okq (⟨"ArmSignalsModel", "nears", "()V"⟩, 26) := ⟨⟨by decide +kernel, by decide +kernel⟩, List.mem_of_getElem? (i := 738) (by decide +kernel), List.mem_of_getElem? (i := 1012) (by decide +kernel), List.mem_of_getElem? (i := 1013) (by decide +kernel)⟩
theorem lw_p47 : lw_okq (⟨"ArmSignalsModel", "isText", "()Z"⟩, 26) := ⟨⟨by decide +kernel, by decide +kernel⟩, List.mem_of_getElem? (i := 738) (by decide +kernel), List.mem_of_getElem? (i := 1035) (by decide +kernel), List.mem_of_getElem? (i := 1036) (by decide +kernel)⟩
def lw_privs_3 : List (MethodName × Nat) := [(⟨"ArmSignalsModel", "calls", "(I)I"⟩, 26), (⟨"ArmSignalsModel", "sizeOf", "(I)I"⟩, 26), (⟨"ArmSignalsModel", "ofWord", "(II)I"⟩, 26), (⟨"ArmSignalsModel", "tells", "(II)I"⟩, 26), (⟨"ArmSignalsModel", "goesThrough", "()V"⟩, 26), (⟨"ArmSignalsModel", "stepsOf", "(IZ)I"⟩, 26), (⟨"ArmSignalsModel", "leftAt", "(II)I"⟩, 26), (⟨"ArmSignalsModel", "rightAt", "(II)I"⟩, 26), (⟨"ArmSignalsModel", "goesOn", "(IIII)V"⟩, 26), (⟨"ArmSignalsModel", "side", "(II)I"⟩, 26), (⟨"ArmSignalsModel", "legOf", "(IIII)I"⟩, 26), (⟨"ArmSignalsModel", "lowers", "(II)V"⟩, 26), (⟨"ArmSignalsModel", "stands", "(II)Z"⟩, 26), (⟨"ArmSignalsModel", "sees", "()V"⟩, 26), (⟨"ArmSignalsModel", "nears", "()V"⟩, 26), (⟨"ArmSignalsModel", "isText", "()Z"⟩, 26)]
theorem lw_r3 : ∀ q ∈ lw_privs_3, lw_okq q := List.forall_mem_cons.mpr ⟨lw_p32, List.forall_mem_cons.mpr ⟨lw_p33, List.forall_mem_cons.mpr ⟨lw_p34, List.forall_mem_cons.mpr ⟨lw_p35, List.forall_mem_cons.mpr ⟨lw_p36, List.forall_mem_cons.mpr ⟨lw_p37, List.forall_mem_cons.mpr ⟨lw_p38, List.forall_mem_cons.mpr ⟨lw_p39, List.forall_mem_cons.mpr ⟨lw_p40, List.forall_mem_cons.mpr ⟨lw_p41, List.forall_mem_cons.mpr ⟨lw_p42, List.forall_mem_cons.mpr ⟨lw_p43, List.forall_mem_cons.mpr ⟨lw_p44, List.forall_mem_cons.mpr ⟨lw_p45, List.forall_mem_cons.mpr ⟨lw_p46, List.forall_mem_cons.mpr ⟨lw_p47, fun _ h => absurd h List.not_mem_nil⟩⟩⟩⟩⟩⟩⟩⟩⟩⟩⟩⟩⟩⟩⟩⟩
theorem lw_p48 : lw_okq (⟨"ArmSignalsModel", "here", "()I"⟩, 26) := ⟨⟨by decide +kernel, by decide +kernel⟩, List.mem_of_getElem? (i := 738) (by decide +kernel), List.mem_of_getElem? (i := 1039) (by decide +kernel), List.mem_of_getElem? (i := 1040) (by decide +kernel)⟩
theorem lw_p49 : lw_okq (⟨"ArmSignalsModel", "word", "()Z"⟩, 26) := ⟨⟨by decide +kernel, by decide +kernel⟩, List.mem_of_getElem? (i := 738) (by decide +kernel), List.mem_of_getElem? (i := 1043) (by decide +kernel), List.mem_of_getElem? (i := 1044) (by decide +kernel)⟩
theorem lw_p50 : lw_okq (⟨"ArmSignalsModel", "why", "(IIII)I"⟩, 26) := ⟨⟨by decide +kernel, by decide +kernel⟩, List.mem_of_getElem? (i := 738) (by decide +kernel), List.mem_of_getElem? (i := 1089) (by decide +kernel), List.mem_of_getElem? (i := 1090) (by decide +kernel)⟩
def lw_privs_4 : List (MethodName × Nat) := [(⟨"ArmSignalsModel", "here", "()I"⟩, 26), (⟨"ArmSignalsModel", "word", "()Z"⟩, 26), (⟨"ArmSignalsModel", "why", "(IIII)I"⟩, 26)]
theorem lw_r4 : ∀ q ∈ lw_privs_4, lw_okq q := List.forall_mem_cons.mpr ⟨lw_p48, List.forall_mem_cons.mpr ⟨lw_p49, List.forall_mem_cons.mpr ⟨lw_p50, fun _ h => absurd h List.not_mem_nil⟩⟩⟩
def lw_privs : List (MethodName × Nat) := lw_privs_1 ++ (lw_privs_2 ++ (lw_privs_3 ++ (lw_privs_4)))
def lw_tbl : List Cond := k2_sels lw_privs ++ tables_1
theorem lw_privs_ok : ∀ q ∈ lw_privs, lw_okq q := by
  show ∀ q ∈ lw_privs_1 ++ (lw_privs_2 ++ (lw_privs_3 ++ (lw_privs_4))), lw_okq q
  exact List.forall_mem_append.mpr ⟨lw_r1, List.forall_mem_append.mpr ⟨lw_r2, List.forall_mem_append.mpr ⟨lw_r3, lw_r4⟩⟩⟩
end
section
def RX0 : String := "ArmSignals$Odds"
def TX0 : u_T := fun k => match k with
  | 0 => ("ArmSignals$Odds", "plain", "[I", true)
  | 1 => ("ArmSignals$Odds", "slipped", "[I", true)
  | 2 => ("ArmSignals$Odds", "told", "[I", true)
  | 3 => ("ArmSignals$Odds", "above", "I", false)
  | _ => ("ArmSignals$Odds", "below", "I", false)
def tyX0 : Nat → FieldType := fun k => match k with
  | 0 => .array .int
  | 1 => .array .int
  | 2 => .array .int
  | 3 => .int
  | _ => .int
abbrev wsX00 : List Cond := u_ws RX0 TX0 5
theorem nmX0 : ∀ a, a < 5 → ∀ b, b < 5 → a ≠ b → (TX0 a).2.1 ≠ (TX0 b).2.1 := by decide +kernel
theorem tyX0_ok : ∀ k, k < 5 → parseFieldDescriptor (TX0 k).2.2.1 = some (tyX0 k) := by decide +kernel
abbrev cX0_init : ByteArray := prog_2_method_1_code
def yX0_init : MethodName := ⟨RX0, "<init>", "()V"⟩
abbrev cX0_find : ByteArray := prog_2_method_2_code
def yX0_find : MethodName := ⟨RX0, "find", "(LArmSignals$Station;II)V"⟩
abbrev cX0_measure : ByteArray := prog_2_method_3_code
def yX0_measure : MethodName := ⟨RX0, "measure", "(LArmSignals$Station;I)V"⟩
abbrev cX0_countTold : ByteArray := prog_2_method_4_code
def yX0_countTold : MethodName := ⟨RX0, "countTold", "(LArmSignals$Station;I)V"⟩
abbrev cX0_isTold : ByteArray := prog_2_method_5_code
def yX0_isTold : MethodName := ⟨RX0, "isTold", "(LArmSignals$Station;II)Z"⟩
abbrev cX0_distanceOf : ByteArray := prog_2_method_6_code
def yX0_distanceOf : MethodName := ⟨RX0, "distanceOf", "(III)I"⟩
abbrev cX0_reduceBy : ByteArray := prog_2_method_7_code
def yX0_reduceBy : MethodName := ⟨RX0, "reduceBy", "(II)V"⟩
abbrev cX0_power : ByteArray := prog_2_method_8_code
def yX0_power : MethodName := ⟨RX0, "power", "(II)I"⟩
def RX1 : String := "ArmSignals$Paper"
def TX1 : u_T := fun k => match k with
  | 0 => ("ArmSignals$Paper", "held", "Z", false)
  | 1 => ("ArmSignals$Paper", "lane", "I", false)
  | 2 => ("ArmSignals$Paper", "size", "I", false)
  | _ => ("ArmSignals$Paper", "items", "[J", true)
def tyX1 : Nat → FieldType := fun k => match k with
  | 0 => .boolean
  | 1 => .int
  | 2 => .int
  | _ => .array .long
abbrev wsX10 : List Cond := u_ws RX1 TX1 4
theorem nmX1 : ∀ a, a < 4 → ∀ b, b < 4 → a ≠ b → (TX1 a).2.1 ≠ (TX1 b).2.1 := by decide +kernel
theorem tyX1_ok : ∀ k, k < 4 → parseFieldDescriptor (TX1 k).2.2.1 = some (tyX1 k) := by decide +kernel
abbrev cX1_init : ByteArray := prog_3_method_1_code
def yX1_init : MethodName := ⟨RX1, "<init>", "()V"⟩
abbrev cX1_begin : ByteArray := prog_3_method_2_code
def yX1_begin : MethodName := ⟨RX1, "begin", "(II)V"⟩
abbrev cX1_has : ByteArray := prog_3_method_3_code
def yX1_has : MethodName := ⟨RX1, "has", "(II)Z"⟩
def RX2 : String := "ArmSignals$Past"
def TX2 : u_T := fun k => match k with
  | 0 => ("ArmSignals$Past", "ahead", "[LArmSignals$Station;", true)
  | 1 => ("ArmSignals$Past", "oldest", "I", false)
  | _ => ("ArmSignals$Past", "known", "I", false)
def tyX2 : Nat → FieldType := fun k => match k with
  | 0 => .array (.object "ArmSignals$Station")
  | 1 => .int
  | _ => .int
abbrev wsX20 : List Cond := u_ws RX2 TX2 3
theorem nmX2 : ∀ a, a < 3 → ∀ b, b < 3 → a ≠ b → (TX2 a).2.1 ≠ (TX2 b).2.1 := by decide +kernel
theorem tyX2_ok : ∀ k, k < 3 → parseFieldDescriptor (TX2 k).2.2.1 = some (tyX2 k) := by decide +kernel
abbrev cX2_init : ByteArray := prog_4_method_1_code
def yX2_init : MethodName := ⟨RX2, "<init>", "()V"⟩
abbrev cX2_become : ByteArray := prog_4_method_2_code
def yX2_become : MethodName := ⟨RX2, "become", "(LArmSignals$Past;)V"⟩
abbrev cX2_add : ByteArray := prog_4_method_3_code
def yX2_add : MethodName := ⟨RX2, "add", "(LArmSignals$Station;)V"⟩
abbrev cX2_takeLatest : ByteArray := prog_4_method_4_code
def yX2_takeLatest : MethodName := ⟨RX2, "takeLatest", "(LArmSignals$Station;)Z"⟩
def RX3 : String := "ArmSignals$Shortening"
def TX3 : u_T := fun k => match k with
  | 0 => ("ArmSignals$Shortening", "left", "[I", true)
  | 1 => ("ArmSignals$Shortening", "right", "[I", true)
  | 2 => ("ArmSignals$Shortening", "price", "[I", true)
  | 3 => ("ArmSignals$Shortening", "callPrice", "[I", true)
  | _ => ("ArmSignals$Shortening", "best", "I", false)
def tyX3 : Nat → FieldType := fun k => match k with
  | 0 => .array .int
  | 1 => .array .int
  | 2 => .array .int
  | 3 => .array .int
  | _ => .int
abbrev wsX30 : List Cond := u_ws RX3 TX3 5
theorem nmX3 : ∀ a, a < 5 → ∀ b, b < 5 → a ≠ b → (TX3 a).2.1 ≠ (TX3 b).2.1 := by decide +kernel
theorem tyX3_ok : ∀ k, k < 5 → parseFieldDescriptor (TX3 k).2.2.1 = some (tyX3 k) := by decide +kernel
abbrev cX3_init : ByteArray := prog_5_method_1_code
def yX3_init : MethodName := ⟨RX3, "<init>", "()V"⟩
abbrev cX3_find : ByteArray := prog_5_method_2_code
def yX3_find : MethodName := ⟨RX3, "find", "(LArmSignals$Station;)V"⟩
abbrev cX3_effort : ByteArray := prog_5_method_3_code
def yX3_effort : MethodName := ⟨RX3, "effort", "()I"⟩
abbrev cX3_signs : ByteArray := prog_5_method_4_code
def yX3_signs : MethodName := ⟨RX3, "signs", "()I"⟩
abbrev cX3_goOnByLetter : ByteArray := prog_5_method_5_code
def yX3_goOnByLetter : MethodName := ⟨RX3, "goOnByLetter", "(LArmSignals$Station;I)V"⟩
abbrev cX3_goOnByWords : ByteArray := prog_5_method_6_code
def yX3_goOnByWords : MethodName := ⟨RX3, "goOnByWords", "(LArmSignals$Station;I)V"⟩
abbrev cX3_reach : ByteArray := prog_5_method_7_code
def yX3_reach : MethodName := ⟨RX3, "reach", "(IIII)V"⟩
abbrev cX3_priceOf : ByteArray := prog_5_method_8_code
def yX3_priceOf : MethodName := ⟨RX3, "priceOf", "(LArmSignals$Station;IIII)I"⟩
abbrev cX3_dirOf : ByteArray := prog_5_method_9_code
def yX3_dirOf : MethodName := ⟨RX3, "dirOf", "(II)I"⟩
def RX4 : String := "ArmSignals$Sight"
def TX4 : u_T := fun k => match k with
  | 0 => ("ArmSignals$Sight", "one", "[I", true)
  | 1 => ("ArmSignals$Sight", "other", "[I", true)
  | 2 => ("ArmSignals$Sight", "size", "I", false)
  | 3 => ("ArmSignals$Sight", "number", "I", false)
  | 4 => ("ArmSignals$Sight", "distance", "I", false)
  | _ => ("ArmSignals$Sight", "sure", "Z", false)
def tyX4 : Nat → FieldType := fun k => match k with
  | 0 => .array .int
  | 1 => .array .int
  | 2 => .int
  | 3 => .int
  | 4 => .int
  | _ => .boolean
abbrev wsX40 : List Cond := u_ws RX4 TX4 6
theorem nmX4 : ∀ a, a < 6 → ∀ b, b < 6 → a ≠ b → (TX4 a).2.1 ≠ (TX4 b).2.1 := by decide +kernel
theorem tyX4_ok : ∀ k, k < 6 → parseFieldDescriptor (TX4 k).2.2.1 = some (tyX4 k) := by decide +kernel
abbrev cX4_init : ByteArray := prog_6_method_1_code
def yX4_init : MethodName := ⟨RX4, "<init>", "()V"⟩
abbrev cX4_put : ByteArray := prog_6_method_2_code
def yX4_put : MethodName := ⟨RX4, "put", "(III)V"⟩
abbrev cX4_seeMessage : ByteArray := prog_6_method_3_code
def yX4_seeMessage : MethodName := ⟨RX4, "seeMessage", "(LArmSignals$Station;)V"⟩
abbrev cX4_seePaper : ByteArray := prog_6_method_4_code
def yX4_seePaper : MethodName := ⟨RX4, "seePaper", "(LArmSignals$Paper;II)Z"⟩
abbrev cX4_compare : ByteArray := prog_6_method_5_code
def yX4_compare : MethodName := ⟨RX4, "compare", "(LArmSignals$Station;)V"⟩
abbrev cX4_distanceTo : ByteArray := prog_6_method_6_code
def yX4_distanceTo : MethodName := ⟨RX4, "distanceTo", "(LArmSignals$Station;I)I"⟩
def RX5 : String := "ArmSignals$Station"
def TX5 : u_T := fun k => match k with
  | 0 => ("ArmSignals$Station", "message", "[I", true)
  | 1 => ("ArmSignals$Station", "length", "I", false)
  | 2 => ("ArmSignals$Station", "letters", "[I", true)
  | 3 => ("ArmSignals$Station", "lengths", "[I", true)
  | 4 => ("ArmSignals$Station", "words", "I", false)
  | 5 => ("ArmSignals$Station", "leftCost", "I", false)
  | 6 => ("ArmSignals$Station", "rightCost", "I", false)
  | _ => ("ArmSignals$Station", "draw", "I", false)
def tyX5 : Nat → FieldType := fun k => match k with
  | 0 => .array .int
  | 1 => .int
  | 2 => .array .int
  | 3 => .array .int
  | 4 => .int
  | 5 => .int
  | 6 => .int
  | _ => .int
abbrev wsX50 : List Cond := u_ws RX5 TX5 8
theorem nmX5 : ∀ a, a < 8 → ∀ b, b < 8 → a ≠ b → (TX5 a).2.1 ≠ (TX5 b).2.1 := by decide +kernel
theorem tyX5_ok : ∀ k, k < 8 → parseFieldDescriptor (TX5 k).2.2.1 = some (tyX5 k) := by decide +kernel
abbrev cX5_init : ByteArray := prog_7_method_1_code
def yX5_init : MethodName := ⟨RX5, "<init>", "()V"⟩
abbrev cX5_become : ByteArray := prog_7_method_2_code
def yX5_become : MethodName := ⟨RX5, "become", "(LArmSignals$Station;)V"⟩
abbrev cX5_forgetText : ByteArray := prog_7_method_3_code
def yX5_forgetText : MethodName := ⟨RX5, "forgetText", "()V"⟩
abbrev cX5_hasWord : ByteArray := prog_7_method_4_code
def yX5_hasWord : MethodName := ⟨RX5, "hasWord", "(I)Z"⟩
abbrev cX5_letterOf : ByteArray := prog_7_method_5_code
def yX5_letterOf : MethodName := ⟨RX5, "letterOf", "(II)I"⟩
abbrev cX5_addLetter : ByteArray := prog_7_method_6_code
def yX5_addLetter : MethodName := ⟨RX5, "addLetter", "(I)I"⟩
abbrev cX5_takeLetter : ByteArray := prog_7_method_7_code
def yX5_takeLetter : MethodName := ⟨RX5, "takeLetter", "()I"⟩
abbrev cX5_addWord : ByteArray := prog_7_method_8_code
def yX5_addWord : MethodName := ⟨RX5, "addWord", "()I"⟩
abbrev cX5_removeWord : ByteArray := prog_7_method_9_code
def yX5_removeWord : MethodName := ⟨RX5, "removeWord", "(I)I"⟩
abbrev cX5_addLettersOf : ByteArray := prog_7_method_10_code
def yX5_addLettersOf : MethodName := ⟨RX5, "addLettersOf", "(I)I"⟩
abbrev cX5_setCost : ByteArray := prog_7_method_11_code
def yX5_setCost : MethodName := ⟨RX5, "setCost", "(II)I"⟩
abbrev cX5_openWord : ByteArray := prog_7_method_12_code
def yX5_openWord : MethodName := ⟨RX5, "openWord", "(I)Z"⟩
abbrev cX5_lengthenWord : ByteArray := prog_7_method_13_code
def yX5_lengthenWord : MethodName := ⟨RX5, "lengthenWord", "(I)Z"⟩
abbrev cX5_turn : ByteArray := prog_7_method_14_code
def yX5_turn : MethodName := ⟨RX5, "turn", "()V"⟩
abbrev cX5_lettersFromBehind : ByteArray := prog_7_method_15_code
def yX5_lettersFromBehind : MethodName := ⟨RX5, "lettersFromBehind", "()I"⟩
abbrev cX5_hasWordAt : ByteArray := prog_7_method_16_code
def yX5_hasWordAt : MethodName := ⟨RX5, "hasWordAt", "(II)Z"⟩
abbrev cX5_effortOf : ByteArray := prog_7_method_17_code
def yX5_effortOf : MethodName := ⟨RX5, "effortOf", "(IIII)I"⟩
def RX6 : String := "ArmSignals$Tape"
def TX6 : u_T := fun k => match k with
  | 0 => ("ArmSignals$Tape", "typed", "[I", true)
  | _ => ("ArmSignals$Tape", "size", "I", false)
def tyX6 : Nat → FieldType := fun k => match k with
  | 0 => .array .int
  | _ => .int
abbrev wsX60 : List Cond := u_ws RX6 TX6 2
theorem nmX6 : ∀ a, a < 2 → ∀ b, b < 2 → a ≠ b → (TX6 a).2.1 ≠ (TX6 b).2.1 := by decide +kernel
theorem tyX6_ok : ∀ k, k < 2 → parseFieldDescriptor (TX6 k).2.2.1 = some (tyX6 k) := by decide +kernel
abbrev cX6_init : ByteArray := prog_8_method_1_code
def yX6_init : MethodName := ⟨RX6, "<init>", "()V"⟩
abbrev cX6_add : ByteArray := prog_8_method_2_code
def yX6_add : MethodName := ⟨RX6, "add", "(I)I"⟩
abbrev cX6_readInto : ByteArray := prog_8_method_3_code
def yX6_readInto : MethodName := ⟨RX6, "readInto", "(LArmSignals$Station;)I"⟩
abbrev cX6_behind : ByteArray := prog_8_method_4_code
def yX6_behind : MethodName := ⟨RX6, "behind", "(IILArmSignals$Station;)I"⟩
abbrev cX6_behindLetter : ByteArray := prog_8_method_5_code
def yX6_behindLetter : MethodName := ⟨RX6, "behindLetter", "(IILArmSignals$Station;)I"⟩
def RX7 : String := "ArmSignals$Way"
def TX7 : u_T := fun k => match k with
  | 0 => ("ArmSignals$Way", "lesser", "[I", true)
  | 1 => ("ArmSignals$Way", "greater", "[I", true)
  | 2 => ("ArmSignals$Way", "effort", "[I", true)
  | 3 => ("ArmSignals$Way", "ways", "[I", true)
  | 4 => ("ArmSignals$Way", "side", "[I", true)
  | _ => ("ArmSignals$Way", "last", "I", false)
def tyX7 : Nat → FieldType := fun k => match k with
  | 0 => .array .int
  | 1 => .array .int
  | 2 => .array .int
  | 3 => .array .int
  | 4 => .array .int
  | _ => .int
abbrev wsX70 : List Cond := u_ws RX7 TX7 6
theorem nmX7 : ∀ a, a < 6 → ∀ b, b < 6 → a ≠ b → (TX7 a).2.1 ≠ (TX7 b).2.1 := by decide +kernel
theorem tyX7_ok : ∀ k, k < 6 → parseFieldDescriptor (TX7 k).2.2.1 = some (tyX7 k) := by decide +kernel
abbrev cX7_init : ByteArray := prog_9_method_1_code
def yX7_init : MethodName := ⟨RX7, "<init>", "()V"⟩
abbrev cX7_find : ByteArray := prog_9_method_2_code
def yX7_find : MethodName := ⟨RX7, "find", "(LArmSignals$Station;)V"⟩
abbrev cX7_weigh : ByteArray := prog_9_method_3_code
def yX7_weigh : MethodName := ⟨RX7, "weigh", "(LArmSignals$Station;)V"⟩
abbrev cX7_choose : ByteArray := prog_9_method_4_code
def yX7_choose : MethodName := ⟨RX7, "choose", "(LArmSignals$Station;)V"⟩
abbrev cX7_effortBy : ByteArray := prog_9_method_5_code
def yX7_effortBy : MethodName := ⟨RX7, "effortBy", "(LArmSignals$Station;III)I"⟩
abbrev cX7_dirOf : ByteArray := prog_9_method_6_code
def yX7_dirOf : MethodName := ⟨RX7, "dirOf", "(II)I"⟩
abbrev cX7_leastEffort : ByteArray := prog_9_method_7_code
def yX7_leastEffort : MethodName := ⟨RX7, "leastEffort", "()I"⟩
abbrev cX7_howMany : ByteArray := prog_9_method_8_code
def yX7_howMany : MethodName := ⟨RX7, "howMany", "()I"⟩
abbrev cX7_leftAt : ByteArray := prog_9_method_9_code
def yX7_leftAt : MethodName := ⟨RX7, "leftAt", "(I)I"⟩
abbrev cX7_rightAt : ByteArray := prog_9_method_10_code
def yX7_rightAt : MethodName := ⟨RX7, "rightAt", "(I)I"⟩
abbrev cX7_leftSteps : ByteArray := prog_9_method_11_code
def yX7_leftSteps : MethodName := ⟨RX7, "leftSteps", "()I"⟩
abbrev cX7_rightSteps : ByteArray := prog_9_method_12_code
def yX7_rightSteps : MethodName := ⟨RX7, "rightSteps", "()I"⟩
def RX8 : String := "ArmSignals"
def TX8 : u_T := fun k => match k with
  | 0 => ("ArmSignals", "now", "LArmSignals$Station;", true)
  | 1 => ("ArmSignals", "past", "LArmSignals$Past;", true)
  | 2 => ("ArmSignals", "imageNow", "LArmSignals$Station;", true)
  | 3 => ("ArmSignals", "imagePast", "LArmSignals$Past;", true)
  | 4 => ("ArmSignals", "hasImage", "Z", false)
  | 5 => ("ArmSignals", "spare", "LArmSignals$Station;", true)
  | 6 => ("ArmSignals", "way", "LArmSignals$Way;", true)
  | 7 => ("ArmSignals", "shortening", "LArmSignals$Shortening;", true)
  | 8 => ("ArmSignals", "sight", "LArmSignals$Sight;", true)
  | 9 => ("ArmSignals", "odds", "LArmSignals$Odds;", true)
  | 10 => ("ArmSignals", "tape", "LArmSignals$Tape;", true)
  | _ => ("ArmSignals", "papers", "[LArmSignals$Paper;", true)
def tyX8 : Nat → FieldType := fun k => match k with
  | 0 => .object "ArmSignals$Station"
  | 1 => .object "ArmSignals$Past"
  | 2 => .object "ArmSignals$Station"
  | 3 => .object "ArmSignals$Past"
  | 4 => .boolean
  | 5 => .object "ArmSignals$Station"
  | 6 => .object "ArmSignals$Way"
  | 7 => .object "ArmSignals$Shortening"
  | 8 => .object "ArmSignals$Sight"
  | 9 => .object "ArmSignals$Odds"
  | 10 => .object "ArmSignals$Tape"
  | _ => .array (.object "ArmSignals$Paper")
abbrev wsX80 : List Cond := u_ws RX8 TX8 12
theorem nmX8 : ∀ a, a < 12 → ∀ b, b < 12 → a ≠ b → (TX8 a).2.1 ≠ (TX8 b).2.1 := by decide +kernel
theorem tyX8_ok : ∀ k, k < 12 → parseFieldDescriptor (TX8 k).2.2.1 = some (tyX8 k) := by decide +kernel
abbrev cX8_init : ByteArray := prog_1_method_1_code
def yX8_init : MethodName := ⟨RX8, "<init>", "()V"⟩
abbrev cX8_sign : ByteArray := prog_1_method_2_code
def yX8_sign : MethodName := ⟨RX8, "sign", "(II)I"⟩
abbrev cX8_letter : ByteArray := prog_1_method_3_code
def yX8_letter : MethodName := ⟨RX8, "letter", "(II)I"⟩
abbrev cX8_apart : ByteArray := prog_1_method_4_code
def yX8_apart : MethodName := ⟨RX8, "apart", "(II)I"⟩
abbrev cX8_say : ByteArray := prog_1_method_5_code
def yX8_say : MethodName := ⟨RX8, "say", "(I)I"⟩
abbrev cX8_back : ByteArray := prog_1_method_6_code
def yX8_back : MethodName := ⟨RX8, "back", "()I"⟩
abbrev cX8_keep : ByteArray := prog_1_method_7_code
def yX8_keep : MethodName := ⟨RX8, "keep", "()I"⟩
abbrev cX8_lose : ByteArray := prog_1_method_8_code
def yX8_lose : MethodName := ⟨RX8, "lose", "(I)I"⟩
abbrev cX8_call : ByteArray := prog_1_method_9_code
def yX8_call : MethodName := ⟨RX8, "call", "(I)I"⟩
abbrev cX8_tell : ByteArray := prog_1_method_10_code
def yX8_tell : MethodName := ⟨RX8, "tell", "(II)I"⟩
abbrev cX8_said : ByteArray := prog_1_method_11_code
def yX8_said : MethodName := ⟨RX8, "said", "(II)I"⟩
abbrev cX8_count : ByteArray := prog_1_method_12_code
def yX8_count : MethodName := ⟨RX8, "count", "(I)I"⟩
abbrev cX8_least : ByteArray := prog_1_method_13_code
def yX8_least : MethodName := ⟨RX8, "least", "(I)I"⟩
abbrev cX8_arm : ByteArray := prog_1_method_14_code
def yX8_arm : MethodName := ⟨RX8, "arm", "(II)I"⟩
abbrev cX8_brief : ByteArray := prog_1_method_15_code
def yX8_brief : MethodName := ⟨RX8, "brief", "(I)I"⟩
abbrev cX8_nearest : ByteArray := prog_1_method_16_code
def yX8_nearest : MethodName := ⟨RX8, "nearest", "(I)I"⟩
abbrev cX8_slips : ByteArray := prog_1_method_17_code
def yX8_slips : MethodName := ⟨RX8, "slips", "(I)I"⟩
abbrev cX8_still : ByteArray := prog_1_method_18_code
def yX8_still : MethodName := ⟨RX8, "still", "(III)I"⟩
abbrev cX8_type : ByteArray := prog_1_method_19_code
def yX8_type : MethodName := ⟨RX8, "type", "(I)I"⟩
abbrev cX8_read : ByteArray := prog_1_method_20_code
def yX8_read : MethodName := ⟨RX8, "read", "()I"⟩
abbrev cX8_drift : ByteArray := prog_1_method_21_code
def yX8_drift : MethodName := ⟨RX8, "drift", "(I)I"⟩
abbrev cX8_undo : ByteArray := prog_1_method_22_code
def yX8_undo : MethodName := ⟨RX8, "undo", "()I"⟩
abbrev cX8_seed : ByteArray := prog_1_method_23_code
def yX8_seed : MethodName := ⟨RX8, "seed", "(I)I"⟩
abbrev cX8_image : ByteArray := prog_1_method_24_code
def yX8_image : MethodName := ⟨RX8, "image", "()I"⟩
abbrev cX8_restore : ByteArray := prog_1_method_25_code
def yX8_restore : MethodName := ⟨RX8, "restore", "()I"⟩
abbrev cX8_seen : ByteArray := prog_1_method_26_code
def yX8_seen : MethodName := ⟨RX8, "seen", "(IIII)I"⟩
abbrev cX8_film : ByteArray := prog_1_method_27_code
def yX8_film : MethodName := ⟨RX8, "film", "(III)I"⟩
abbrev cX8_sheet : ByteArray := prog_1_method_28_code
def yX8_sheet : MethodName := ⟨RX8, "sheet", "(III)I"⟩
abbrev cX8_drop : ByteArray := prog_1_method_29_code
def yX8_drop : MethodName := ⟨RX8, "drop", "(I)I"⟩
abbrev cX8_item : ByteArray := prog_1_method_30_code
def yX8_item : MethodName := ⟨RX8, "item", "(IIIJ)I"⟩
abbrev cX8_copy : ByteArray := prog_1_method_31_code
def yX8_copy : MethodName := ⟨RX8, "copy", "(IIIII)I"⟩
abbrev cX8_knownIfDone : ByteArray := prog_1_method_32_code
def yX8_knownIfDone : MethodName := ⟨RX8, "knownIfDone", "(I)I"⟩
abbrev cX8_slipsToLetters : ByteArray := prog_1_method_33_code
def yX8_slipsToLetters : MethodName := ⟨RX8, "slipsToLetters", "()I"⟩
abbrev cX8_slipsStillNearest : ByteArray := prog_1_method_34_code
def yX8_slipsStillNearest : MethodName := ⟨RX8, "slipsStillNearest", "()I"⟩
abbrev cX8_tellsAt : ByteArray := prog_1_method_35_code
def yX8_tellsAt : MethodName := ⟨RX8, "tellsAt", "(IIII)I"⟩
abbrev cX8_refusal : ByteArray := prog_1_method_36_code
def yX8_refusal : MethodName := ⟨RX8, "refusal", "(IIII)I"⟩
abbrev cX8_isLetter : ByteArray := prog_1_method_37_code
def yX8_isLetter : MethodName := ⟨RX8, "isLetter", "(I)Z"⟩
abbrev cX8_isSign : ByteArray := prog_1_method_38_code
def yX8_isSign : MethodName := ⟨RX8, "isSign", "(I)Z"⟩
abbrev cX8_isDirection : ByteArray := prog_1_method_39_code
def yX8_isDirection : MethodName := ⟨RX8, "isDirection", "(J)Z"⟩
abbrev cX8_isSheet : ByteArray := prog_1_method_40_code
def yX8_isSheet : MethodName := ⟨RX8, "isSheet", "(I)Z"⟩
abbrev cX8_isLane : ByteArray := prog_1_method_41_code
def yX8_isLane : MethodName := ⟨RX8, "isLane", "(I)Z"⟩
abbrev cX8_lowestBits : ByteArray := prog_1_method_42_code
def yX8_lowestBits : MethodName := ⟨RX8, "lowestBits", "(IJ)J"⟩
abbrev cX8_oneOn : ByteArray := prog_1_method_43_code
def yX8_oneOn : MethodName := ⟨RX8, "oneOn", "(I)I"⟩
abbrev cX8_oneBack : ByteArray := prog_1_method_44_code
def yX8_oneBack : MethodName := ⟨RX8, "oneBack", "(I)I"⟩
abbrev cX8_fromBehind : ByteArray := prog_1_method_45_code
def yX8_fromBehind : MethodName := ⟨RX8, "fromBehind", "(I)I"⟩
abbrev cX8_stepsBetween : ByteArray := prog_1_method_46_code
def yX8_stepsBetween : MethodName := ⟨RX8, "stepsBetween", "(II)I"⟩
abbrev cX8_between : ByteArray := prog_1_method_47_code
def yX8_between : MethodName := ⟨RX8, "between", "(IIII)I"⟩
abbrev cX8_signOf : ByteArray := prog_1_method_48_code
def yX8_signOf : MethodName := ⟨RX8, "signOf", "(II)I"⟩
abbrev cX8_letterOrNot : ByteArray := prog_1_method_49_code
def yX8_letterOrNot : MethodName := ⟨RX8, "letterOrNot", "(II)I"⟩
abbrev cX8_turnedLetter : ByteArray := prog_1_method_50_code
def yX8_turnedLetter : MethodName := ⟨RX8, "turnedLetter", "(I)I"⟩
def RX9 : String := "ArmSignalsModel"
def TX9 : u_T := fun k => match k with
  | 0 => ("ArmSignalsModel", "signs", "[I", true)
  | 1 => ("ArmSignalsModel", "now", "[I", true)
  | 2 => ("ArmSignalsModel", "first", "[I", true)
  | 3 => ("ArmSignalsModel", "leastEffort", "I", false)
  | 4 => ("ArmSignalsModel", "leastWays", "I", false)
  | 5 => ("ArmSignalsModel", "leastWay", "I", false)
  | 6 => ("ArmSignalsModel", "costs", "[I", true)
  | 7 => ("ArmSignalsModel", "seenLow", "[I", true)
  | 8 => ("ArmSignalsModel", "seenHigh", "[I", true)
  | 9 => ("ArmSignalsModel", "seenMany", "I", false)
  | 10 => ("ArmSignalsModel", "nearWord", "I", false)
  | 11 => ("ArmSignalsModel", "nearApart", "I", false)
  | 12 => ("ArmSignalsModel", "nearSure", "Z", false)
  | 13 => ("ArmSignalsModel", "tape", "[I", true)
  | 14 => ("ArmSignalsModel", "taped", "I", false)
  | 15 => ("ArmSignalsModel", "place", "I", false)
  | 16 => ("ArmSignalsModel", "lastTold", "I", false)
  | 17 => ("ArmSignalsModel", "ahead", "[I", true)
  | 18 => ("ArmSignalsModel", "undos", "I", false)
  | 19 => ("ArmSignalsModel", "kept", "[I", true)
  | 20 => ("ArmSignalsModel", "keptAhead", "[I", true)
  | 21 => ("ArmSignalsModel", "keptUndos", "I", false)
  | 22 => ("ArmSignalsModel", "lanes", "[I", true)
  | 23 => ("ArmSignalsModel", "sizes", "[I", true)
  | 24 => ("ArmSignalsModel", "items", "[J", true)
  | _ => ("ArmSignalsModel", "moved", "[J", true)
def tyX9 : Nat → FieldType := fun k => match k with
  | 0 => .array .int
  | 1 => .array .int
  | 2 => .array .int
  | 3 => .int
  | 4 => .int
  | 5 => .int
  | 6 => .array .int
  | 7 => .array .int
  | 8 => .array .int
  | 9 => .int
  | 10 => .int
  | 11 => .int
  | 12 => .boolean
  | 13 => .array .int
  | 14 => .int
  | 15 => .int
  | 16 => .int
  | 17 => .array .int
  | 18 => .int
  | 19 => .array .int
  | 20 => .array .int
  | 21 => .int
  | 22 => .array .int
  | 23 => .array .int
  | 24 => .array .long
  | _ => .array .long
abbrev wsX90 : List Cond := u_ws RX9 TX9 26
theorem nmX9 : ∀ a, a < 26 → ∀ b, b < 26 → a ≠ b → (TX9 a).2.1 ≠ (TX9 b).2.1 := by decide +kernel
theorem tyX9_ok : ∀ k, k < 26 → parseFieldDescriptor (TX9 k).2.2.1 = some (tyX9 k) := by decide +kernel
abbrev cX9_in : ByteArray := prog_11_method_2_code
def yX9_in : MethodName := ⟨RX9, "in", "(JJJ)Z"⟩
abbrev cX9_init : ByteArray := prog_11_method_3_code
def yX9_init : MethodName := ⟨RX9, "<init>", "()V"⟩
abbrev cX9_steps : ByteArray := prog_11_method_4_code
def yX9_steps : MethodName := ⟨RX9, "steps", "(II)I"⟩
abbrev cX9_signOf : ByteArray := prog_11_method_5_code
def yX9_signOf : MethodName := ⟨RX9, "signOf", "(II)I"⟩
abbrev cX9_letterOf : ByteArray := prog_11_method_6_code
def yX9_letterOf : MethodName := ⟨RX9, "letterOf", "(II)I"⟩
abbrev cX9_low : ByteArray := prog_11_method_7_code
def yX9_low : MethodName := ⟨RX9, "low", "(I)I"⟩
abbrev cX9_high : ByteArray := prog_11_method_8_code
def yX9_high : MethodName := ⟨RX9, "high", "(I)I"⟩
abbrev cX9_turnedOf : ByteArray := prog_11_method_9_code
def yX9_turnedOf : MethodName := ⟨RX9, "turnedOf", "(I)I"⟩
abbrev cX9_apartOf : ByteArray := prog_11_method_10_code
def yX9_apartOf : MethodName := ⟨RX9, "apartOf", "(IIII)I"⟩
abbrev cX9_sign : ByteArray := prog_11_method_11_code
def yX9_sign : MethodName := ⟨RX9, "sign", "(II)I"⟩
abbrev cX9_letter : ByteArray := prog_11_method_12_code
def yX9_letter : MethodName := ⟨RX9, "letter", "(II)I"⟩
abbrev cX9_apart : ByteArray := prog_11_method_13_code
def yX9_apart : MethodName := ⟨RX9, "apart", "(II)I"⟩
abbrev cX9_at : ByteArray := prog_11_method_14_code
def yX9_at : MethodName := ⟨RX9, "at", "(I)I"⟩
abbrev cX9_sizeOf : ByteArray := prog_11_method_15_code
def yX9_sizeOf : MethodName := ⟨RX9, "sizeOf", "(I)I"⟩
abbrev cX9_ofWord : ByteArray := prog_11_method_16_code
def yX9_ofWord : MethodName := ⟨RX9, "ofWord", "(II)I"⟩
abbrev cX9_isWord : ByteArray := prog_11_method_17_code
def yX9_isWord : MethodName := ⟨RX9, "isWord", "(I)Z"⟩
abbrev cX9_says : ByteArray := prog_11_method_18_code
def yX9_says : MethodName := ⟨RX9, "says", "(I)I"⟩
abbrev cX9_takesBack : ByteArray := prog_11_method_19_code
def yX9_takesBack : MethodName := ⟨RX9, "takesBack", "()I"⟩
abbrev cX9_keeps : ByteArray := prog_11_method_20_code
def yX9_keeps : MethodName := ⟨RX9, "keeps", "()I"⟩
abbrev cX9_loses : ByteArray := prog_11_method_21_code
def yX9_loses : MethodName := ⟨RX9, "loses", "(I)I"⟩
abbrev cX9_calls : ByteArray := prog_11_method_22_code
def yX9_calls : MethodName := ⟨RX9, "calls", "(I)I"⟩
abbrev cX9_tells : ByteArray := prog_11_method_23_code
def yX9_tells : MethodName := ⟨RX9, "tells", "(II)I"⟩
abbrev cX9_holds : ByteArray := prog_11_method_24_code
def yX9_holds : MethodName := ⟨RX9, "holds", "()V"⟩
abbrev cX9_done : ByteArray := prog_11_method_25_code
def yX9_done : MethodName := ⟨RX9, "done", "(I)I"⟩
abbrev cX9_say : ByteArray := prog_11_method_26_code
def yX9_say : MethodName := ⟨RX9, "say", "(I)I"⟩
abbrev cX9_back : ByteArray := prog_11_method_27_code
def yX9_back : MethodName := ⟨RX9, "back", "()I"⟩
abbrev cX9_keep : ByteArray := prog_11_method_28_code
def yX9_keep : MethodName := ⟨RX9, "keep", "()I"⟩
abbrev cX9_lose : ByteArray := prog_11_method_29_code
def yX9_lose : MethodName := ⟨RX9, "lose", "(I)I"⟩
abbrev cX9_call : ByteArray := prog_11_method_30_code
def yX9_call : MethodName := ⟨RX9, "call", "(I)I"⟩
abbrev cX9_tell : ByteArray := prog_11_method_31_code
def yX9_tell : MethodName := ⟨RX9, "tell", "(II)I"⟩
abbrev cX9_said : ByteArray := prog_11_method_32_code
def yX9_said : MethodName := ⟨RX9, "said", "(II)I"⟩
abbrev cX9_count : ByteArray := prog_11_method_33_code
def yX9_count : MethodName := ⟨RX9, "count", "(I)I"⟩
abbrev cX9_leftAt : ByteArray := prog_11_method_34_code
def yX9_leftAt : MethodName := ⟨RX9, "leftAt", "(II)I"⟩
abbrev cX9_rightAt : ByteArray := prog_11_method_35_code
def yX9_rightAt : MethodName := ⟨RX9, "rightAt", "(II)I"⟩
abbrev cX9_stepsOf : ByteArray := prog_11_method_36_code
def yX9_stepsOf : MethodName := ⟨RX9, "stepsOf", "(IZ)I"⟩
abbrev cX9_goesThrough : ByteArray := prog_11_method_37_code
def yX9_goesThrough : MethodName := ⟨RX9, "goesThrough", "()V"⟩
abbrev cX9_least : ByteArray := prog_11_method_38_code
def yX9_least : MethodName := ⟨RX9, "least", "(I)I"⟩
abbrev cX9_arm : ByteArray := prog_11_method_39_code
def yX9_arm : MethodName := ⟨RX9, "arm", "(II)I"⟩
abbrev cX9_legOf : ByteArray := prog_11_method_40_code
def yX9_legOf : MethodName := ⟨RX9, "legOf", "(IIII)I"⟩
abbrev cX9_side : ByteArray := prog_11_method_41_code
def yX9_side : MethodName := ⟨RX9, "side", "(II)I"⟩
abbrev cX9_lowers : ByteArray := prog_11_method_42_code
def yX9_lowers : MethodName := ⟨RX9, "lowers", "(II)V"⟩
abbrev cX9_goesOn : ByteArray := prog_11_method_43_code
def yX9_goesOn : MethodName := ⟨RX9, "goesOn", "(IIII)V"⟩
abbrev cX9_stands : ByteArray := prog_11_method_44_code
def yX9_stands : MethodName := ⟨RX9, "stands", "(II)Z"⟩
abbrev cX9_brief : ByteArray := prog_11_method_45_code
def yX9_brief : MethodName := ⟨RX9, "brief", "(I)I"⟩
abbrev cX9_sees : ByteArray := prog_11_method_46_code
def yX9_sees : MethodName := ⟨RX9, "sees", "()V"⟩
abbrev cX9_nears : ByteArray := prog_11_method_47_code
def yX9_nears : MethodName := ⟨RX9, "nears", "()V"⟩
abbrev cX9_nearest : ByteArray := prog_11_method_48_code
def yX9_nearest : MethodName := ⟨RX9, "nearest", "(I)I"⟩
abbrev cX9_slips : ByteArray := prog_11_method_49_code
def yX9_slips : MethodName := ⟨RX9, "slips", "(I)I"⟩
abbrev cX9_still : ByteArray := prog_11_method_50_code
def yX9_still : MethodName := ⟨RX9, "still", "(III)I"⟩
abbrev cX9_type : ByteArray := prog_11_method_51_code
def yX9_type : MethodName := ⟨RX9, "type", "(I)I"⟩
abbrev cX9_here : ByteArray := prog_11_method_52_code
def yX9_here : MethodName := ⟨RX9, "here", "()I"⟩
abbrev cX9_word : ByteArray := prog_11_method_53_code
def yX9_word : MethodName := ⟨RX9, "word", "()Z"⟩
abbrev cX9_isText : ByteArray := prog_11_method_54_code
def yX9_isText : MethodName := ⟨RX9, "isText", "()Z"⟩
abbrev cX9_read : ByteArray := prog_11_method_55_code
def yX9_read : MethodName := ⟨RX9, "read", "()I"⟩
abbrev cX9_drift : ByteArray := prog_11_method_56_code
def yX9_drift : MethodName := ⟨RX9, "drift", "(I)I"⟩
abbrev cX9_seed : ByteArray := prog_11_method_57_code
def yX9_seed : MethodName := ⟨RX9, "seed", "(I)I"⟩
abbrev cX9_notes : ByteArray := prog_11_method_58_code
def yX9_notes : MethodName := ⟨RX9, "notes", "()V"⟩
abbrev cX9_undo : ByteArray := prog_11_method_59_code
def yX9_undo : MethodName := ⟨RX9, "undo", "()I"⟩
abbrev cX9_image : ByteArray := prog_11_method_60_code
def yX9_image : MethodName := ⟨RX9, "image", "()I"⟩
abbrev cX9_restore : ByteArray := prog_11_method_61_code
def yX9_restore : MethodName := ⟨RX9, "restore", "()I"⟩
abbrev cX9_isSheet : ByteArray := prog_11_method_62_code
def yX9_isSheet : MethodName := ⟨RX9, "isSheet", "(I)Z"⟩
abbrev cX9_cut : ByteArray := prog_11_method_63_code
def yX9_cut : MethodName := ⟨RX9, "cut", "(JI)J"⟩
abbrev cX9_sheet : ByteArray := prog_11_method_64_code
def yX9_sheet : MethodName := ⟨RX9, "sheet", "(III)I"⟩
abbrev cX9_drop : ByteArray := prog_11_method_65_code
def yX9_drop : MethodName := ⟨RX9, "drop", "(I)I"⟩
abbrev cX9_why : ByteArray := prog_11_method_66_code
def yX9_why : MethodName := ⟨RX9, "why", "(IIII)I"⟩
abbrev cX9_item : ByteArray := prog_11_method_67_code
def yX9_item : MethodName := ⟨RX9, "item", "(IIIJ)I"⟩
abbrev cX9_copy : ByteArray := prog_11_method_68_code
def yX9_copy : MethodName := ⟨RX9, "copy", "(IIIII)I"⟩
abbrev cX9_seen : ByteArray := prog_11_method_69_code
def yX9_seen : MethodName := ⟨RX9, "seen", "(IIII)I"⟩
abbrev cX9_film : ByteArray := prog_11_method_70_code
def yX9_film : MethodName := ⟨RX9, "film", "(III)I"⟩
def RJ6 : String := "java/lang/Integer"
abbrev cJ6_bitCount_0f7a4 : ByteArray := prog_12_method_49_code
def yJ6_bitCount_0f7a4 : MethodName := ⟨RJ6, "bitCount", "(I)I"⟩
def RJ9 : String := "java/lang/Math"
abbrev cJ9_max_7cf53 : ByteArray := prog_13_method_65_code
def yJ9_max_7cf53 : MethodName := ⟨RJ9, "max", "(II)I"⟩
abbrev cJ9_min_7cf53 : ByteArray := prog_13_method_69_code
def yJ9_min_7cf53 : MethodName := ⟨RJ9, "min", "(II)I"⟩
def RJ10 : String := "java/lang/System"
def RJ7 : String := "java/util/Arrays"
abbrev cJ7_fill_d0a16 : ByteArray := prog_15_method_101_code
def yJ7_fill_d0a16 : MethodName := ⟨RJ7, "fill", "([JJ)V"⟩
abbrev cJ7_fill_53178 : ByteArray := prog_15_method_103_code
def yJ7_fill_53178 : MethodName := ⟨RJ7, "fill", "([II)V"⟩
end
section
/-! THE LIGHT WALK: the machine's walk (W) with all that is the same for every method put aside; memory is numbers by cell and slot. -/
/-- the words of the tables that stay good in every later state -/
def tb : List Cond := lw_tbl.filter goodWord
theorem tb_of {w : Cond} (i : Nat) (h : lw_tbl[i]? = some w) (g : goodWord w = true) : w ∈ tb := List.mem_filter.mpr ⟨List.mem_of_getElem? h, g⟩
theorem tb_good {y : MethodName} {cc : ByteArray} {n : Nat} {r : Option FieldType} (h : Cond.code y cc n r ∈ tb) : GoodIn tb (Cond.code y cc n r :: tb) := fun w hw => by
  rcases List.mem_cons.mp hw with rfl | h1
  · exact ⟨h, good_of_word (List.mem_filter.mp h).2⟩
  · exact ⟨h1, good_of_word (List.mem_filter.mp h1).2⟩
/-- words on private members of a nest mate -/
def isNest : Cond → Bool
  | .fieldLinkNest _ _ _ _ _ _ => true
  | .methodLinkNest _ _ _ _ => true
  | _ => false
def nestW : List Cond := lw_tbl.filter isNest
theorem nest_of {w : Cond} (i : Nat) (h : lw_tbl[i]? = some w) (g : isNest w = true) : w ∈ nestW := List.mem_filter.mpr ⟨List.mem_of_getElem? h, g⟩
theorem nest_tab {w : Cond} (h : w ∈ nestW) : w.onTables = true := by
  have h2 := (List.mem_filter.mp h).2
  cases w <;> first | rfl | (simp [isNest] at h2)
theorem nest_warm {w : Cond} (h : w ∈ nestW) {s U : State} (hW : s.WarmedH U.vm) (hZ : va_Nw w s) : va_Nw w U := by
  have h2 := (List.mem_filter.mp h).2
  cases w <;> first | exact va_Nw.warmF hW hZ | exact va_Nw.warmM hW hZ | (simp [isNest] at h2)
abbrev cls10 : List vw_C := [(RX0, TX0, 5), (RX1, TX1, 4), (RX2, TX2, 3), (RX3, TX3, 5), (RX4, TX4, 6), (RX5, TX5, 8), (RX6, TX6, 2), (RX7, TX7, 6), (RX8, TX8, 12), (RX9, TX9, 26)]
/-- launch; first new address; class ids and slots; ids of the four kinds of arrays; addresses of the two static arrays; addresses of the cells -/
abbrev GC : Type := Launch × Nat × va_G × (Nat → ClassId) × Nat × Nat × (Nat → Nat)
abbrev gl (Γ : GC) : Launch := Γ.1
abbrev gB (Γ : GC) : Nat := Γ.2.1
abbrev gD (Γ : GC) : va_G := Γ.2.2.1
abbrev gC (Γ : GC) : Nat → ClassId := Γ.2.2.2.1
abbrev gtL (Γ : GC) : Nat := Γ.2.2.2.2.1
abbrev gtG (Γ : GC) : Nat := Γ.2.2.2.2.2.1
abbrev gad (Γ : GC) : Nat → Nat := Γ.2.2.2.2.2.2
abbrev gA (Γ : GC) : Nat → Prop := fun q => gB Γ ≤ q
abbrev gT (Γ : GC) : List (ClassId × FieldType) := [(gC Γ 0, .int), (gC Γ 1, .long), (gC Γ 2, .object "ArmSignals$Station"), (gC Γ 3, .object "ArmSignals$Paper")]
def tabL : List Int := [0, 0, 0, 0, 0, 0, 0, 1, 1, 4, 1, 1, 1, 1, 2, 2, 2, 2, 2, 3, 3, 4, 5, 5, 3, 6, 4]
def tabG : List Int := [1, 2, 3, 4, 5, 6, 7, 2, 3, 6, 4, 5, 6, 7, 3, 4, 5, 6, 7, 4, 5, 7, 6, 7, 6, 7, 5]
def tl (j : Nat) : Int := tabL.getD j 0
def tg (j : Nat) : Int := tabG.getD j 0
/-- numbers as the machine has them -/
def vi (z : Int) : Value := .int (Int32.ofInt z)
def vl (z : Int) : Value := .long (Int64.ofInt z)
def rf (Γ : GC) (k : Nat) : Value := .ref (gad Γ k)
abbrev Mm : Type := Nat → Nat → Int
def upM (M : Mm) (k : Nat) (f : Nat → Int) : Mm := fun a => if a = k then f else M a
def up1 (f : Nat → Int) (i : Nat) (z : Int) : Nat → Int := fun j => if j = i then z else f j
def up2 (M : Mm) (k i : Nat) (z : Int) : Mm := upM M k (up1 (M k) i z)
theorem upM_s {M : Mm} {k : Nat} {f : Nat → Int} : upM M k f k = f := if_pos rfl
theorem upM_n {M : Mm} {k a : Nat} {f : Nat → Int} (h : a ≠ k) : upM M k f a = M a := if_neg h
theorem up2_s {M : Mm} {k i : Nat} {z : Int} : up2 M k i z k i = z := by simp [up2, upM, up1]
theorem up2_i {M : Mm} {k i j : Nat} {z : Int} (h : j ≠ i) : up2 M k i z k j = M k j := by simp [up2, upM, up1, h]
theorem up2_n {M : Mm} {k i a j : Nat} {z : Int} (h : a ≠ k) : up2 M k i z a j = M a j := by simp [up2, upM, h]
theorem up2_c {M : Mm} {k i a : Nat} {z : Int} (h : a ≠ k) : up2 M k i z a = M a := by simp [up2, upM, h]
theorem up2_e (M : Mm) (k i a j : Nat) (z : Int) : up2 M k i z a j = if a = k ∧ j = i then z else M a j := by
  by_cases h : a = k
  · subst h
    by_cases h2 : j = i
    · subst h2; simp [up2, upM, up1]
    · simp [up2, upM, up1, h2]
  · simp [up2, upM, h]
/-- a cell's kind: (0, class, fields: none a number, some the cell that it refers to), (1, n, _) ints, (2, n, _) longs, (3, kind, cells) references -/
abbrev Sh : Type := Nat × Nat × List (Option Nat)
def mkF (ad : Nat → Nat) (f : Nat → Int) : Nat → List (Option Nat) → List Value
  | _, [] => []
  | j, none :: t => vi (f j) :: mkF ad f (j + 1) t
  | j, some r :: t => .ref (ad r) :: mkF ad f (j + 1) t
def mkE (Γ : GC) (q : Sh) (f : Nat → Int) : va_E := match q with
  | (0, ci, fs) => .inr (ci, mkF (gad Γ) f 0 fs)
  | (1, n, _) => .inl (gC Γ 0, n, .inl (fun j => Int32.ofInt (f j)))
  | (2, n, _) => .inl (gC Γ 1, n, .inr (.inl (fun j => Int64.ofInt (f j))))
  | (_, t, fs) => .inl (gC Γ t, fs.length, .inr (.inr (.inr (.inr (fun j => (fs.getD j none).map (gad Γ))))))
theorem mkF_len (ad : Nat → Nat) (f : Nat → Int) : ∀ (fs : List (Option Nat)) (j : Nat), (mkF ad f j fs).length = fs.length
  | [], _ => rfl
  | none :: t, j => by simp [mkF, mkF_len ad f t (j + 1)]
  | some r :: t, j => by simp [mkF, mkF_len ad f t (j + 1)]
theorem mkF_int (ad : Nat → Nat) (f : Nat → Int) : ∀ (fs : List (Option Nat)) (j k : Nat), fs[k]? = some none → (mkF ad f j fs)[k]? = some (vi (f (j + k)))
  | [], _, _, h => by simp at h
  | none :: t, j, 0, h => by simp [mkF]
  | some r :: t, j, 0, h => by simp at h
  | none :: t, j, k + 1, h => by
    have := mkF_int ad f t (j + 1) k (by simpa using h)
    simp only [mkF, List.getElem?_cons_succ, this]
    congr 3; omega
  | some r :: t, j, k + 1, h => by
    have := mkF_int ad f t (j + 1) k (by simpa using h)
    simp only [mkF, List.getElem?_cons_succ, this]
    congr 3; omega
theorem mkF_ref (ad : Nat → Nat) (f : Nat → Int) {r : Nat} : ∀ (fs : List (Option Nat)) (j k : Nat), fs[k]? = some (some r) → (mkF ad f j fs)[k]? = some (.ref (ad r))
  | [], _, _, h => by simp at h
  | none :: t, j, 0, h => by simp at h
  | some r' :: t, j, 0, h => by simp at h; subst h; simp [mkF]
  | none :: t, j, k + 1, h => by
    have := mkF_ref ad f t (j + 1) k (by simpa using h)
    simp only [mkF, List.getElem?_cons_succ, this]
  | some r' :: t, j, k + 1, h => by
    have := mkF_ref ad f t (j + 1) k (by simpa using h)
    simp only [mkF, List.getElem?_cons_succ, this]
theorem mkF_ext (ad : Nat → Nat) {f g : Nat → Int} : ∀ (fs : List (Option Nat)) (j : Nat), (∀ q, j ≤ q → f q = g q) → mkF ad f j fs = mkF ad g j fs
  | [], _, _ => rfl
  | none :: t, j, h => by simp only [mkF]; rw [h j (Nat.le_refl j), mkF_ext ad t (j + 1) (fun q hq => h q (by omega))]
  | some r :: t, j, h => by simp only [mkF]; rw [mkF_ext ad t (j + 1) (fun q hq => h q (by omega))]
theorem mkF_set (ad : Nat → Nat) (f : Nat → Int) (z : Int) : ∀ (fs : List (Option Nat)) (j k : Nat), fs[k]? = some none → (mkF ad f j fs).set k (vi z) = mkF ad (up1 f (j + k) z) j fs
  | [], _, _, h => by simp at h
  | none :: t, j, 0, h => by
    simp only [mkF, List.set_cons_zero]
    congr 1
    · simp [up1]
    · exact mkF_ext ad t (j + 1) (fun q hq => by simp only [up1]; rw [if_neg (by omega)])
  | some r :: t, j, 0, h => by simp at h
  | none :: t, j, k + 1, h => by
    have := mkF_set ad f z t (j + 1) k (by simpa using h)
    simp only [mkF, List.set_cons_succ, this]
    congr 1
    · simp only [up1]; rw [if_neg (by omega)]
    · rw [show j + 1 + k = j + (k + 1) by omega]
  | some r :: t, j, k + 1, h => by
    have := mkF_set ad f z t (j + 1) k (by simpa using h)
    simp only [mkF, List.set_cons_succ, this]
    rw [show j + 1 + k = j + (k + 1) by omega]
/-- the cells, as the two makers leave them: 0 the object, 1 now, 5 past, 31 and 35 the image, 61 spare, 65 way, 71 shortening, 76 sight, 79 odds, 83 tape, 85 papers; 94 the reference -/
def shT : List Sh := [(0, 8, [some 1, some 5, some 31, some 35, none, some 61, some 65, some 71, some 76, some 79, some 83, some 85]), (0, 5, [some 2, none, some 3, some 4, none, none, none, none]), (1, 12, []), (1, 36, []), (1, 6, []), (0, 2, [some 6, none, none]), (3, 2, [some 7, some 11, some 15, some 19, some 23, some 27]), (0, 5, [some 8, none, some 9, some 10, none, none, none, none]), (1, 12, []), (1, 36, []), (1, 6, []), (0, 5, [some 12, none, some 13, some 14, none, none, none, none]), (1, 12, []), (1, 36, []), (1, 6, []), (0, 5, [some 16, none, some 17, some 18, none, none, none, none]), (1, 12, []), (1, 36, []), (1, 6, []), (0, 5, [some 20, none, some 21, some 22, none, none, none, none]), (1, 12, []), (1, 36, []), (1, 6, []), (0, 5, [some 24, none, some 25, some 26, none, none, none, none]), (1, 12, []), (1, 36, []), (1, 6, []), (0, 5, [some 28, none, some 29, some 30, none, none, none, none]), (1, 12, []), (1, 36, []), (1, 6, []), (0, 5, [some 32, none, some 33, some 34, none, none, none, none]), (1, 12, []), (1, 36, []), (1, 6, []), (0, 2, [some 36, none, none]), (3, 2, [some 37, some 41, some 45, some 49, some 53, some 57]), (0, 5, [some 38, none, some 39, some 40, none, none, none, none]), (1, 12, []), (1, 36, []), (1, 6, []), (0, 5, [some 42, none, some 43, some 44, none, none, none, none]), (1, 12, []), (1, 36, []), (1, 6, []), (0, 5, [some 46, none, some 47, some 48, none, none, none, none]), (1, 12, []), (1, 36, []), (1, 6, []), (0, 5, [some 50, none, some 51, some 52, none, none, none, none]), (1, 12, []), (1, 36, []), (1, 6, []), (0, 5, [some 54, none, some 55, some 56, none, none, none, none]), (1, 12, []), (1, 36, []), (1, 6, []), (0, 5, [some 58, none, some 59, some 60, none, none, none, none]), (1, 12, []), (1, 36, []), (1, 6, []), (0, 5, [some 62, none, some 63, some 64, none, none, none, none]), (1, 12, []), (1, 36, []), (1, 6, []), (0, 7, [some 66, some 67, some 68, some 69, some 70, none]), (1, 13, []), (1, 13, []), (1, 26, []), (1, 26, []), (1, 13, []), (0, 3, [some 72, some 73, some 74, some 75, none]), (1, 182, []), (1, 182, []), (1, 182, []), (1, 2, []), (0, 4, [some 77, some 78, none, none, none, none]), (1, 12, []), (1, 12, []), (0, 0, [some 80, some 81, some 82, none, none]), (1, 36, []), (1, 36, []), (1, 7, []), (0, 6, [some 84, none]), (1, 90, []), (3, 3, [some 86, some 88, some 90, some 92]), (0, 1, [none, none, none, some 87]), (2, 24, []), (0, 1, [none, none, none, some 89]), (2, 24, []), (0, 1, [none, none, none, some 91]), (2, 24, []), (0, 1, [none, none, none, some 93]), (2, 24, []), (0, 9, [some 95, some 96, some 97, none, none, none, some 98, some 99, some 100, none, none, none, none, some 101, none, none, none, some 102, none, some 103, some 104, none, some 105, some 106, some 107, some 108]), (1, 27, []), (1, 59, []), (1, 59, []), (1, 702, []), (1, 12, []), (1, 12, []), (1, 90, []), (1, 354, []), (1, 59, []), (1, 354, []), (1, 4, []), (1, 4, []), (2, 96, []), (2, 24, [])]
abbrev NC : Nat := 109
def sh (k : Nat) : Sh := shT.getD k (9, 0, [])
theorem shT_len : shT.length = 109 := rfl
theorem sh_lt {k : Nat} {q : Sh} (h : sh k = q) (hq : q.1 ≠ 9) : k < NC := by
  rcases Nat.lt_or_ge k NC with h1 | h1
  · exact h1
  · exfalso
    apply hq
    rw [← h, sh, List.getD_eq_getElem?_getD, List.getElem?_eq_none (by rw [shT_len]; exact h1)]
    rfl
def cells (Γ : GC) (M : Mm) : va_W := (List.range NC).map (fun k => (gad Γ k, mkE Γ (sh k) (M k)))
theorem cells_at (Γ : GC) (M : Mm) {k : Nat} (h : k < NC) : (cells Γ M)[k]? = some (gad Γ k, mkE Γ (sh k) (M k)) := by
  simp [cells, List.getElem?_range, h]
theorem cells_set (Γ : GC) (M : Mm) {k : Nat} (h : k < NC) (f : Nat → Int) {e : va_E} (he : mkE Γ (sh k) f = e) : (cells Γ M).set k (gad Γ k, e) = cells Γ (upM M k f) := by
  subst he
  apply List.ext_getElem?
  intro i
  by_cases hi : i < NC
  · by_cases hk : k = i
    · subst hk
      rw [cells_at Γ _ hi, List.getElem?_set_self (by simp [cells, hi]), upM_s]
    · rw [List.getElem?_set_ne hk, cells_at Γ _ hi, cells_at Γ _ hi, upM_n (fun q => hk q.symm)]
  · rw [List.getElem?_eq_none (by simp [cells]; omega), List.getElem?_eq_none (by simp [cells]; omega)]
/-- the cells are apart, and new -/
def gok (Γ : GC) : Prop := (∀ i j : Nat, i < NC → j < NC → gad Γ i = gad Γ j → i = j) ∧ ∀ i : Nat, i < NC → gB Γ ≤ gad Γ i
theorem cells_D {Γ : GC} (h : gok Γ) (M : Mm) : va_D (gA Γ) (cells Γ M) := by
  have key : ∀ (i : Nat) (q : Nat × va_E), (cells Γ M)[i]? = some q → i < NC ∧ q.1 = gad Γ i := by
    intro i q hq
    have hi : i < NC := by
      have := (List.getElem?_eq_some_iff.mp hq).1
      simpa [cells] using this
    rw [cells_at Γ M hi] at hq
    cases hq
    exact ⟨hi, rfl⟩
  refine ⟨fun i j a b ha hb hab => ?_, fun k q hq => ?_⟩
  · obtain ⟨h1, h2⟩ := key i a ha
    obtain ⟨h3, h4⟩ := key j b hb
    exact h.1 i j h1 h3 (by rw [← h2, ← h4, hab])
  · obtain ⟨h1, h2⟩ := key k q hq
    show gB Γ ≤ q.1
    rw [h2]
    exact h.2 k h1
/-- what holds in every state: classes, the two static arrays, words on nest mates -/
def Wd (Γ : GC) (U : State) : Prop :=
  gok Γ ∧ va_K (gD Γ) cls10 (gT Γ) U ∧
  (va_Z "ArmSignals" "LESSER" "[I" (.ref (gtL Γ)) (gA Γ) U U.heap ∧ va_T .int (gtL Γ) 27 (fun j => vi (tl j)) (gA Γ) U U.heap) ∧
  (va_Z "ArmSignals" "GREATER" "[I" (.ref (gtG Γ)) (gA Γ) U U.heap ∧ va_T .int (gtG Γ) 27 (fun j => vi (tg j)) (gA Γ) U U.heap) ∧
  (∀ w ∈ nestW, va_Nw w U) ∧ gB Γ ≤ U.heap.size
theorem Wd.calling {Γ : GC} {U : State} (h : Wd Γ U) (g : JFrame) (mk : MethodId) (a : Array Value) : Wd Γ (U.calling g mk a) := by
  obtain ⟨h0, h1, ⟨h2, h3⟩, ⟨h4, h5⟩, h6, h7⟩ := h
  have hv : U.vm.Alike (U.calling g mk a).vm := Vm.Alike.refl U.vm
  exact ⟨h0, h1.moved hv, ⟨h2.moved (U := U.calling g mk a) hv, h3.moved (U := U.calling g mk a) hv⟩, ⟨h4.moved (U := U.calling g mk a) hv, h5.moved (U := U.calling g mk a) hv⟩, fun w hw => va_Nw.same (u := U) (U := U.calling g mk a) (nest_tab hw) rfl (h6 w hw), h7⟩
theorem Wd.later {Γ : GC} {s U : State} {locs : List Loc} (h : Wd Γ s) (hW : s.WarmedH U.vm) (hS : va_S (gA Γ) s.heap U.heap locs) : Wd Γ U := by
  obtain ⟨h0, h1, ⟨h2, h3⟩, ⟨h4, h5⟩, h6, h7⟩ := h
  have hv : s.vm.Alike U.vm := hW.alike
  exact ⟨h0, h1.moved hv, ⟨(h2.moved (U := U) hv).kept hS.2.1, (h3.moved (U := U) hv).kept hS.2.1⟩, ⟨(h4.moved (U := U) hv).kept hS.2.1, (h5.moved (U := U) hv).kept hS.2.1⟩, fun w hw => nest_warm hw hW (h6 w hw), Nat.le_trans h7 hS.1⟩
/-- a method: name, bytes, number of its own places, kind of answer, frames and words that its calls need -/
abbrev MI : Type := MethodName × ByteArray × Nat × Option FieldType × Nat × Nat
abbrev my (μ : MI) : MethodName := μ.1
abbrev mb (μ : MI) : ByteArray := μ.2.1
abbrev mn (μ : MI) : Nat := μ.2.2.1
abbrev mr (μ : MI) : Option FieldType := μ.2.2.2.1
abbrev mf (μ : MI) : Nat := μ.2.2.2.2.1
abbrev mo (μ : MI) : Nat := μ.2.2.2.2.2
abbrev room (μ : MI) : Room := { frames := mf μ, cells := 0, slots := 0, locals := mo μ }
abbrev mw (μ : MI) : List Cond := Cond.code (my μ) (mb μ) (mn μ) (mr μ) :: tb
def rv (r : Option FieldType) (z : Int) : Option Value := match r with
  | none => none
  | some .long => some (vl z)
  | some _ => some (vi z)
def Cx (Γ : GC) (μ : MI) (p : Program) (s : State) (m : MethodId) (args : Array Value) (meth : Method) (c : Code) : Prop :=
  p.tables.exec = Jvm.exec ∧ c.code = mb μ ∧ meth.sig.returnType = mr μ ∧ c.maxLocals = mn μ ∧ s.vm.findClass (my μ).cls = some m.cls ∧ (∀ w ∈ tb, w.before args s = true) ∧ meth.locks = false ∧ Wd Γ s
/-- the end of a method: an answer and a memory with Q, no older cell changed -/
def Qx (Γ : GC) (r : Option FieldType) (Q : Int → Mm → Prop) : Array Value → State → Outcome → State → Prop := fun _ st oc t =>
  (∃ (z : Int) (M : Mm), oc = .returned (rv r z) ∧ Q z M ∧ va_P (gD Γ) cls10 (cells Γ M) t.heap) ∧ va_F (gA Γ) st t
/-- from here on the method comes to its end with Q -/
def AW (Γ : GC) (μ : MI) (pc : Nat) (L : List (Nat × Value)) (st : List Value) (M : Mm) (Q : Int → Mm → Prop) : Prop :=
  ∀ (p : Program) (e : Env) (s : State) (m : MethodId) (args : Array Value) (below : List Frame) (meth : Method) (c : Code) (H : Heap) (locs : List Loc) (ls : Array Slot),
    Cx Γ μ p s m args meth c → va_P (gD Γ) cls10 (cells Γ M) H → va_S (gA Γ) s.heap H locs → lv_has ls (mn μ) L →
    W p (gl Γ) e (room μ) s m args below meth c H locs 0 0 (MQ below (Qx Γ (mr μ) Q) args s 0 0 (gA Γ)) (F0 m pc ls st)
/-- a method's contract -/
def Ct (Γ : GC) (μ : MI) (as : List Value) (M : Mm) (Q : Int → Mm → Prop) : Prop :=
  Met (gl Γ) (my μ) (mw μ) (room μ) (va_Pc as (fun U => va_P (gD Γ) cls10 (cells Γ M) U.heap ∧ Wd Γ U)) (Qx Γ (mr μ) Q) 0 0 (gA Γ)
theorem Ct.of {Γ : GC} {μ : MI} {as : List Value} {M : Mm} {Q : Int → Mm → Prop} (hy : plainName (my μ).cls = true) (hn : (lg_sl as).length ≤ mn μ) (k : AW Γ μ 0 (lv_args 0 as) [] M Q) : Ct Γ μ as M Q := by
  refine Met.ofW (cc := mb μ) (maxL := mn μ) (ret := mr μ) hy rfl ?_
  intro p e s m args below meth c s₁ B hml hv
  obtain ⟨rfl, hP, hWd⟩ := hv
  have hts := atoms_spec (ws := mw μ) B.pre
  rw [lg_entry_eq]
  exact k p e s m _ below meth c s.heap [] _ ⟨B.exec, B.bytes, B.returns, hml, findClass_of_methodNamed B.named, fun w hw => hts w (List.mem_cons_of_mem _ hw), B.notSynchronized, hWd⟩ hP va_S.rf (lv_entry as hn)
theorem Ct.mono {Γ : GC} {μ : MI} {as : List Value} {M : Mm} {Q Q' : Int → Mm → Prop} (h : Ct Γ μ as M Q) (hq : ∀ z M', Q z M' → Q' z M') : Ct Γ μ as M Q' := by
  intro p e ha hc hk s m args below hf hfit hP _
  obtain ⟨k, o, h1, h2, h3, ⟨⟨z, M', e1, e2, e3⟩, e4⟩, e5⟩ := h p e ha hc hk s m args below hf hfit hP trivial
  exact ⟨k, o, h1, h2, h3, ⟨⟨z, M', e1, hq z M' e2, e3⟩, e4⟩, e5⟩
end
section
/-! numbers: what the machine's ints and longs are of numbers -/
theorem i32_add (a b : Int) : Int32.ofInt a + Int32.ofInt b = Int32.ofInt (a + b) := (Int32.ofInt_add a b).symm
theorem i32_sub (a b : Int) : Int32.ofInt a - Int32.ofInt b = Int32.ofInt (a - b) := (Int32.ofInt_sub a b).symm
theorem i32_mul (a b : Int) : Int32.ofInt a * Int32.ofInt b = Int32.ofInt (a * b) := (Int32.ofInt_mul a b).symm
theorem i64_add (a b : Int) : Int64.ofInt a + Int64.ofInt b = Int64.ofInt (a + b) := (Int64.ofInt_add a b).symm
theorem i64_sub (a b : Int) : Int64.ofInt a - Int64.ofInt b = Int64.ofInt (a - b) := (Int64.ofInt_sub a b).symm
theorem i64_mul (a b : Int) : Int64.ofInt a * Int64.ofInt b = Int64.ofInt (a * b) := (Int64.ofInt_mul a b).symm
theorem i32_toInt {a : Int} (h : -2147483648 ≤ a ∧ a < 2147483648) : (Int32.ofInt a).toInt = a := by
  rw [Int32.toInt_ofInt, show Int32.size = 4294967296 from rfl]
  exact Int.bmod_eq_of_le (by omega) (by omega)
theorem i64_toInt {a : Int} (h : -9223372036854775808 ≤ a ∧ a < 9223372036854775808) : (Int64.ofInt a).toInt = a := by
  rw [Int64.toInt_ofInt, show Int64.size = 18446744073709551616 from rfl]
  exact Int.bmod_eq_of_le (by omega) (by omega)
theorem i32_le {a b : Int} (ha : -2147483648 ≤ a ∧ a < 2147483648) (hb : -2147483648 ≤ b ∧ b < 2147483648) : Int32.ofInt a ≤ Int32.ofInt b ↔ a ≤ b := by
  rw [Int32.le_iff_toInt_le, i32_toInt ha, i32_toInt hb]
theorem i32_lt {a b : Int} (ha : -2147483648 ≤ a ∧ a < 2147483648) (hb : -2147483648 ≤ b ∧ b < 2147483648) : Int32.ofInt a < Int32.ofInt b ↔ a < b := by
  rw [Int32.lt_iff_toInt_lt, i32_toInt ha, i32_toInt hb]
theorem i32_eq {a b : Int} (ha : -2147483648 ≤ a ∧ a < 2147483648) (hb : -2147483648 ≤ b ∧ b < 2147483648) : Int32.ofInt a = Int32.ofInt b ↔ a = b := by
  rw [← Int32.toInt_inj, i32_toInt ha, i32_toInt hb]
theorem i64_lt {a b : Int} (ha : -9223372036854775808 ≤ a ∧ a < 9223372036854775808) (hb : -9223372036854775808 ≤ b ∧ b < 9223372036854775808) : Int64.ofInt a < Int64.ofInt b ↔ a < b := by
  rw [Int64.lt_iff_toInt_lt, i64_toInt ha, i64_toInt hb]
theorem i64_eq {a b : Int} (ha : -9223372036854775808 ≤ a ∧ a < 9223372036854775808) (hb : -9223372036854775808 ≤ b ∧ b < 9223372036854775808) : Int64.ofInt a = Int64.ofInt b ↔ a = b := by
  rw [← Int64.toInt_inj, i64_toInt ha, i64_toInt hb]
theorem i32_0 : (0 : Int32) = Int32.ofInt 0 := rfl
theorem i32_nat {a : Int} (h : 0 ≤ a ∧ a < 2147483648) : (Int32.ofInt a).toNatClampNeg = a.toNat := by
  show (Int32.ofInt a).toInt.toNat = a.toNat
  rw [i32_toInt ⟨by omega, h.2⟩]
theorem i32_in {a : Int} {n : Nat} (h0 : 0 ≤ a) (h1 : a < n) (hn : n < 2147483648) : vp_in (Int32.ofInt a) n := by
  rw [vp_in_iff, i32_toInt ⟨by omega, by omega⟩]
  exact ⟨h0, h1⟩
theorem nI_i (n : Nat) : nI n = Int32.ofInt (n : Int) := rfl
theorem i32_nI {a : Int} (h : 0 ≤ a) : Int32.ofInt a = nI a.toNat := by
  obtain ⟨n, rfl⟩ := Int.eq_ofNat_of_zero_le h
  rfl
theorem i64_lN {a : Int} (h : 0 ≤ a) : Int64.ofInt a = lN a.toNat := by
  obtain ⟨n, rfl⟩ := Int.eq_ofNat_of_zero_le h
  rfl
theorem i32_div {a b : Int} (ha : 0 ≤ a ∧ a < 2147483648) (hb : 0 < b ∧ b < 2147483648) : Int32.ofInt a / Int32.ofInt b = Int32.ofInt (a / b) := by
  obtain ⟨n, rfl⟩ := Int.eq_ofNat_of_zero_le ha.1
  obtain ⟨d, rfl⟩ := Int.eq_ofNat_of_zero_le (Int.le_of_lt hb.1)
  exact pk_div (a := n) (d := d) (by omega) (by omega) (by omega)
theorem i32_rem {a b : Int} (ha : 0 ≤ a ∧ a < 2147483648) (hb : 0 < b ∧ b < 2147483648) : Int32.ofInt a - Int32.ofInt a / Int32.ofInt b * Int32.ofInt b = Int32.ofInt (a % b) := by
  obtain ⟨n, rfl⟩ := Int.eq_ofNat_of_zero_le ha.1
  obtain ⟨d, rfl⟩ := Int.eq_ofNat_of_zero_le (Int.le_of_lt hb.1)
  exact pk_rem (a := n) (d := d) (by omega) (by omega) (by omega)
theorem i64_div {a b : Int} (ha : 0 ≤ a ∧ a < 9223372036854775808) (hb : 0 < b ∧ b < 9223372036854775808) : Int64.ofInt a / Int64.ofInt b = Int64.ofInt (a / b) := by
  obtain ⟨n, rfl⟩ := Int.eq_ofNat_of_zero_le ha.1
  obtain ⟨d, rfl⟩ := Int.eq_ofNat_of_zero_le (Int.le_of_lt hb.1)
  exact pk_lDiv (a := n) (b := d) (by omega) (by omega) (by omega)
theorem i64_rem {a b : Int} (ha : 0 ≤ a ∧ a < 9223372036854775808) (hb : 0 < b ∧ b < 9223372036854775808) : Int64.ofInt a - Int64.ofInt a / Int64.ofInt b * Int64.ofInt b = Int64.ofInt (a % b) := by
  obtain ⟨n, rfl⟩ := Int.eq_ofNat_of_zero_le ha.1
  obtain ⟨d, rfl⟩ := Int.eq_ofNat_of_zero_le (Int.le_of_lt hb.1)
  exact pk_lRem (a := n) (b := d) (by omega) (by omega) (by omega)
theorem i32_ne0 {a : Int} (ha : 0 < a ∧ a < 2147483648) : ¬ Int32.ofInt a = 0 := by
  rw [i32_0, i32_eq ⟨by omega, by omega⟩ ⟨by omega, by omega⟩]
  omega
theorem i64_ne0 {a : Int} (ha : 0 < a ∧ a < 9223372036854775808) : ¬ Int64.ofInt a = 0 := by
  rw [show (0 : Int64) = Int64.ofInt 0 from rfl, i64_eq ⟨by omega, by omega⟩ ⟨by omega, by omega⟩]
  omega
theorem i32_i64 {a : Int} (h : -2147483648 ≤ a ∧ a < 2147483648) : (Int32.ofInt a).toInt64 = Int64.ofInt a := by
  rw [← Int64.toInt_inj, Int32.toInt_toInt64, i32_toInt h, i64_toInt ⟨by omega, by omega⟩]
theorem i64_i32 (a : Int) : (Int64.ofInt a).toInt32 = Int32.ofInt a := by
  rw [← Int32.toInt_inj, Int64.toInt_toInt32, Int64.toInt_ofInt, Int32.toInt_ofInt]
  exact Int.bmod_bmod_of_dvd (by decide)
theorem i32_i8 (a : Int) : (Int32.ofInt a).toInt8.toInt32 = Int32.ofInt (a.bmod 256) := by
  rw [← Int32.toInt_inj, Int8.toInt_toInt32, Int32.toInt_toInt8, Int32.toInt_ofInt, Int32.toInt_ofInt]
  rw [show (Int.bmod a (2 ^ 32)).bmod (2 ^ 8) = a.bmod 256 from Int.bmod_bmod_of_dvd (by decide)]
  rw [show Int32.size = 4294967296 from rfl, Int.bmod_eq_of_le (n := a.bmod 256) (m := 4294967296)]
  · have := Int.le_bmod (x := a) (m := 256) (by decide); omega
  · have := Int.bmod_lt (x := a) (m := 256) (by decide); omega
theorem i32_i16 (a : Int) : (Int32.ofInt a).toInt16.toInt32 = Int32.ofInt (a.bmod 65536) := by
  rw [← Int32.toInt_inj, Int16.toInt_toInt32, Int32.toInt_toInt16, Int32.toInt_ofInt, Int32.toInt_ofInt]
  rw [show (Int.bmod a (2 ^ 32)).bmod (2 ^ 16) = a.bmod 65536 from Int.bmod_bmod_of_dvd (by decide)]
  rw [show Int32.size = 4294967296 from rfl, Int.bmod_eq_of_le (n := a.bmod 65536) (m := 4294967296)]
  · have := Int.le_bmod (x := a) (m := 65536) (by decide); omega
  · have := Int.bmod_lt (x := a) (m := 65536) (by decide); omega
theorem i32_bits (a : Int) : (Int32.ofInt a).toBitVec.toNat = (a % 4294967296).toNat := by
  show (BitVec.ofInt 32 a).toNat = _
  rw [BitVec.toNat_ofInt]
  rfl
theorem i32_and (a : Int) (k : Nat) (hk : k ≤ 31) : Int32.ofInt a &&& Int32.ofInt (2 ^ k - 1) = Int32.ofInt (a % 2 ^ k) := by
  have hp : (2 : Nat) ^ k ≤ 2 ^ 31 := Nat.pow_le_pow_right (by decide) hk
  have h1 : (1 : Nat) ≤ 2 ^ k := Nat.one_le_two_pow
  have hm : (Int32.ofInt (2 ^ k - 1)).toBitVec.toNat = 2 ^ k - 1 := by
    rw [i32_bits]
    have : ((2 : Int) ^ k - 1) = (((2 ^ k - 1 : Nat)) : Int) := by rw [Int.ofNat_sub h1]; simp
    rw [this]
    rw [Int.emod_eq_of_lt (by omega) (by omega)]
    simp
  rw [pk_and _ k hm, i32_bits]
  rw [nI_i]
  congr 1
  have e1 : (((a % 4294967296).toNat % 2 ^ k : Nat) : Int) = (a % 4294967296) % 2 ^ k := by
    rw [Int.natCast_emod, Int.toNat_of_nonneg (Int.emod_nonneg _ (by decide))]
    simp
  rw [e1]
  apply Int.emod_emod_of_dvd
  have : (4294967296 : Int) = 2 ^ k * 2 ^ (32 - k) := by
    rw [← Int.pow_add, show k + (32 - k) = 32 by omega]
    rfl
  exact ⟨_, this⟩
theorem i32_shr {a : Int} {n : Nat} (ha : 0 ≤ a ∧ a < 2147483648) (hn : n < 32) : Int32.ofInt a >>> (Int32.ofInt n &&& 31) = Int32.ofInt (a / 2 ^ n) := by
  obtain ⟨x, rfl⟩ := Int.eq_ofNat_of_zero_le ha.1
  have hs : ((Int32.ofInt (n : Int) &&& 31).toBitVec.smod 32).toNat = n := by
    have : ∀ q : Nat, q < 32 → ((Int32.ofInt (q : Int) &&& 31).toBitVec.smod 32).toNat = q := by decide
    exact this n hn
  have h2 := pk_shrN (n := x) (by omega) (Int32.ofInt (n : Int) &&& 31) n hs
  rw [show Int32.ofInt (x : Int) = nI x from rfl, h2]
  rw [nI_i]
  congr 1
theorem i32_shl1 {n : Nat} (hn : n < 31) : Int32.ofInt 1 <<< (Int32.ofInt n &&& 31) = Int32.ofInt (2 ^ n) := by
  have : ∀ q : Nat, q < 31 → Int32.ofInt 1 <<< (Int32.ofInt (q : Int) &&& 31) = Int32.ofInt (2 ^ q) := by decide
  exact this n hn
end
section
/-! a row for each instruction -/
section AWrows
variable {Γ : GC} {μ : MI} {pc : Nat} {L : List (Nat × Value)} {st : List Value} {M : Mm} {Q : Int → Mm → Prop}
theorem AW.sub (ks : List Nat) {L' : List (Nat × Value)} (hL : lv_pick L ks = L') (k : AW Γ μ pc L' st M Q) : AW Γ μ pc L st M Q := fun p e s m args below meth c H locs ls C hP hS hl => k p e s m args below meth c H locs ls C hP hS (lv_sub hl ks hL)
theorem AW.top {a : Int} (k : ∀ z : Int, z = a → AW Γ μ pc L (vi z :: st) M Q) : AW Γ μ pc L (vi a :: st) M Q := k a rfl
theorem AW.topl {a : Int} (k : ∀ z : Int, z = a → AW Γ μ pc L (vl z :: st) M Q) : AW Γ μ pc L (vl a :: st) M Q := k a rfl
theorem AW.mem (k : ∀ M' : Mm, M' = M → AW Γ μ pc L st M' Q) : AW Γ μ pc L st M Q := k M rfl
theorem AW.eqt {a b : Int} (h : a = b) (k : AW Γ μ pc L (vi b :: st) M Q) : AW Γ μ pc L (vi a :: st) M Q := h ▸ k
theorem AW.eqm {M' : Mm} (h : M = M') (k : AW Γ μ pc L st M' Q) : AW Γ μ pc L st M Q := h ▸ k
theorem AW.mono {Q' : Int → Mm → Prop} (h : ∀ z M', Q' z M' → Q z M') (k : AW Γ μ pc L st M Q') : AW Γ μ pc L st M Q := by
  intro p e s m args below meth c H locs ls C hP hS hl T hT X
  obtain ⟨t, a, o, b1, b2, ⟨⟨z, M', e1, e2, e3⟩, e4⟩, e5⟩ := k p e s m args below meth c H locs ls C hP hS hl T hT X
  exact ⟨t, a, o, b1, b2, ⟨⟨z, M', e1, h z M' e2, e3⟩, e4⟩, e5⟩
theorem AW.iconst {n : Int} (hd : decode (mb μ) pc = .ok (.iconst n, 1)) (k : AW Γ μ (pc + 1) L (vi n :: st) M Q) : AW Γ μ pc L st M Q := fun p e s m args below meth c H locs ls C hP hS hl => lv_iconst C.1 C.2.1 hd rfl (k p e s m args below meth c H locs ls C hP hS hl)
theorem AW.bipush {n z : Int} (hd : decode (mb μ) pc = .ok (.bipush n, 2)) (hz : (Int8.ofInt n).toInt32 = Int32.ofInt z) (k : AW Γ μ (pc + 2) L (vi z :: st) M Q) : AW Γ μ pc L st M Q := fun p e s m args below meth c H locs ls C hP hS hl => lv_bipush C.1 C.2.1 hd hz (k p e s m args below meth c H locs ls C hP hS hl)
theorem AW.sipush {n z : Int} (hd : decode (mb μ) pc = .ok (.sipush n, 3)) (hz : (Int16.ofInt n).toInt32 = Int32.ofInt z) (k : AW Γ μ (pc + 3) L (vi z :: st) M Q) : AW Γ μ pc L st M Q := fun p e s m args below meth c H locs ls C hP hS hl => lv_sipush C.1 C.2.1 hd hz (k p e s m args below meth c H locs ls C hP hS hl)
theorem AW.lconst {n : Fin 2} {z : Int} (hd : decode (mb μ) pc = .ok (.lconst n, 1)) (hz : Int64.ofNat (n : Nat) = Int64.ofInt z) (k : AW Γ μ (pc + 1) L (vl z :: st) M Q) : AW Γ μ pc L st M Q := fun p e s m args below meth c H locs ls C hP hS hl => lv_lconst C.1 C.2.1 hd hz (k p e s m args below meth c H locs ls C hP hS hl)
theorem AW.ldc {idx : Nat} {v : Int32} {z : Int} (hd : decode (mb μ) pc = .ok (.ldc idx, 2)) (hw : Cond.constant (my μ).cls idx v ∈ tb) (hz : v = Int32.ofInt z) (k : AW Γ μ (pc + 2) L (vi z :: st) M Q) : AW Γ μ pc L st M Q := fun p e s m args below meth c H locs ls C hP hS hl => lv_ldc (v := Int32.ofInt z) C.1 C.2.1 C.2.2.2.2.1 (by rw [← hz]; exact C.2.2.2.2.2.1 _ hw) hd (k p e s m args below meth c H locs ls C hP hS hl)
theorem AW.ldcw {idx : Nat} {v : Int32} {z : Int} (hd : decode (mb μ) pc = .ok (.ldc_w idx, 3)) (hw : Cond.constant (my μ).cls idx v ∈ tb) (hz : v = Int32.ofInt z) (k : AW Γ μ (pc + 3) L (vi z :: st) M Q) : AW Γ μ pc L st M Q := fun p e s m args below meth c H locs ls C hP hS hl => lv_ldcw (v := Int32.ofInt z) C.1 C.2.1 C.2.2.2.2.1 (by rw [← hz]; exact C.2.2.2.2.2.1 _ hw) hd (k p e s m args below meth c H locs ls C hP hS hl)
theorem AW.ldc2 {idx : Nat} {v : Int64} {z : Int} (hd : decode (mb μ) pc = .ok (.ldc2_w idx, 3)) (hw : Cond.constantLong (my μ).cls idx v ∈ tb) (hz : v = Int64.ofInt z) (k : AW Γ μ (pc + 3) L (vl z :: st) M Q) : AW Γ μ pc L st M Q := fun p e s m args below meth c H locs ls C hP hS hl => lv_ldc2 (v := Int64.ofInt z) C.1 C.2.1 C.2.2.2.2.1 (by rw [← hz]; exact C.2.2.2.2.2.1 _ hw) hd (k p e s m args below meth c H locs ls C hP hS hl)
theorem AW.iload_n {n : Fin 4} {i : Nat} {a : Int} (hd : decode (mb μ) pc = .ok (.iload_n n, 1)) (q : Nat) (hq : L[q]? = some (i, vi a)) (hi : (n : Nat) = i) (k : AW Γ μ (pc + 1) L (vi a :: st) M Q) : AW Γ μ pc L st M Q := fun p e s m args below meth c H locs ls C hP hS hl => lv_iload_n C.1 C.2.1 hd hi (lv_at hl q hq) (k p e s m args below meth c H locs ls C hP hS hl)
theorem AW.iload {i : Nat} {a : Int} (hd : decode (mb μ) pc = .ok (.iload i, 2)) (q : Nat) (hq : L[q]? = some (i, vi a)) (k : AW Γ μ (pc + 2) L (vi a :: st) M Q) : AW Γ μ pc L st M Q := fun p e s m args below meth c H locs ls C hP hS hl => lv_iload C.1 C.2.1 hd (lv_at hl q hq) (k p e s m args below meth c H locs ls C hP hS hl)
theorem AW.lload_n {n : Fin 4} {i : Nat} {a : Int} (hd : decode (mb μ) pc = .ok (.lload_n n, 1)) (q : Nat) (hq : L[q]? = some (i, vl a)) (hi : (n : Nat) = i) (k : AW Γ μ (pc + 1) L (vl a :: st) M Q) : AW Γ μ pc L st M Q := fun p e s m args below meth c H locs ls C hP hS hl => lv_lload_n C.1 C.2.1 hd hi (lv_at hl q hq) (k p e s m args below meth c H locs ls C hP hS hl)
theorem AW.lload {i : Nat} {a : Int} (hd : decode (mb μ) pc = .ok (.lload i, 2)) (q : Nat) (hq : L[q]? = some (i, vl a)) (k : AW Γ μ (pc + 2) L (vl a :: st) M Q) : AW Γ μ pc L st M Q := fun p e s m args below meth c H locs ls C hP hS hl => lv_lload C.1 C.2.1 hd (lv_at hl q hq) (k p e s m args below meth c H locs ls C hP hS hl)
theorem AW.aload_n {n : Fin 4} {i : Nat} {a : Nat} (hd : decode (mb μ) pc = .ok (.aload_n n, 1)) (q : Nat) (hq : L[q]? = some (i, rf Γ a)) (hi : (n : Nat) = i) (k : AW Γ μ (pc + 1) L (rf Γ a :: st) M Q) : AW Γ μ pc L st M Q := fun p e s m args below meth c H locs ls C hP hS hl => lv_aload_n C.1 C.2.1 hd hi (lv_at hl q hq) (k p e s m args below meth c H locs ls C hP hS hl)
theorem AW.aload {i : Nat} {a : Nat} (hd : decode (mb μ) pc = .ok (.aload i, 2)) (q : Nat) (hq : L[q]? = some (i, rf Γ a)) (k : AW Γ μ (pc + 2) L (rf Γ a :: st) M Q) : AW Γ μ pc L st M Q := fun p e s m args below meth c H locs ls C hP hS hl => lv_aload C.1 C.2.1 hd (lv_at hl q hq) (k p e s m args below meth c H locs ls C hP hS hl)
theorem AW.istore_n {n : Fin 4} {i : Nat} {a : Int} (L' : List (Nat × Value)) (hd : decode (mb μ) pc = .ok (.istore_n n, 1)) (hi : (n : Nat) = i) (hn : i < mn μ) (hL : (i, vi a) :: L.filter (fun q => !(q.1 == i) && !(q.1 + 1 == i && q.2.category == 2)) = L') (k : AW Γ μ (pc + 1) L' st M Q) : AW Γ μ pc L (vi a :: st) M Q := fun p e s m args below meth c H locs ls C hP hS hl => lv_istore_n C.1 C.2.1 hd hi hl hn hL (fun ls hl => k p e s m args below meth c H locs ls C hP hS hl)
theorem AW.istore {i : Nat} {a : Int} (L' : List (Nat × Value)) (hd : decode (mb μ) pc = .ok (.istore i, 2)) (hn : i < mn μ) (hL : (i, vi a) :: L.filter (fun q => !(q.1 == i) && !(q.1 + 1 == i && q.2.category == 2)) = L') (k : AW Γ μ (pc + 2) L' st M Q) : AW Γ μ pc L (vi a :: st) M Q := fun p e s m args below meth c H locs ls C hP hS hl => lv_istore C.1 C.2.1 hd hl hn hL (fun ls hl => k p e s m args below meth c H locs ls C hP hS hl)
theorem AW.astore_n {n : Fin 4} {i : Nat} {a : Nat} (L' : List (Nat × Value)) (hd : decode (mb μ) pc = .ok (.astore_n n, 1)) (hi : (n : Nat) = i) (hn : i < mn μ) (hL : (i, rf Γ a) :: L.filter (fun q => !(q.1 == i) && !(q.1 + 1 == i && q.2.category == 2)) = L') (k : AW Γ μ (pc + 1) L' st M Q) : AW Γ μ pc L (rf Γ a :: st) M Q := fun p e s m args below meth c H locs ls C hP hS hl => lv_astore_n C.1 C.2.1 hd hi hl hn hL (fun ls hl => k p e s m args below meth c H locs ls C hP hS hl)
theorem AW.astore {i : Nat} {a : Nat} (L' : List (Nat × Value)) (hd : decode (mb μ) pc = .ok (.astore i, 2)) (hn : i < mn μ) (hL : (i, rf Γ a) :: L.filter (fun q => !(q.1 == i) && !(q.1 + 1 == i && q.2.category == 2)) = L') (k : AW Γ μ (pc + 2) L' st M Q) : AW Γ μ pc L (rf Γ a :: st) M Q := fun p e s m args below meth c H locs ls C hP hS hl => lv_astore C.1 C.2.1 hd hl hn hL (fun ls hl => k p e s m args below meth c H locs ls C hP hS hl)
theorem AW.lstore_n {n : Fin 4} {i : Nat} {a : Int} (L' : List (Nat × Value)) (hd : decode (mb μ) pc = .ok (.lstore_n n, 1)) (hi : (n : Nat) = i) (hn : i + 1 < mn μ) (hL : (i, vl a) :: L.filter (fun q => !(q.1 == i) && (!(q.1 == i + 1) && !(q.1 + 1 == i && q.2.category == 2))) = L') (k : AW Γ μ (pc + 1) L' st M Q) : AW Γ μ pc L (vl a :: st) M Q := fun p e s m args below meth c H locs ls C hP hS hl => lv_lstore_n C.1 C.2.1 hd hi hl hn hL (fun ls hl => k p e s m args below meth c H locs ls C hP hS hl)
theorem AW.lstore {i : Nat} {a : Int} (L' : List (Nat × Value)) (hd : decode (mb μ) pc = .ok (.lstore i, 2)) (hn : i + 1 < mn μ) (hL : (i, vl a) :: L.filter (fun q => !(q.1 == i) && (!(q.1 == i + 1) && !(q.1 + 1 == i && q.2.category == 2))) = L') (k : AW Γ μ (pc + 2) L' st M Q) : AW Γ μ pc L (vl a :: st) M Q := fun p e s m args below meth c H locs ls C hP hS hl => lv_lstore C.1 C.2.1 hd hl hn hL (fun ls hl => k p e s m args below meth c H locs ls C hP hS hl)
theorem AW.iinc {i : Nat} {n a : Int} (L' : List (Nat × Value)) (hd : decode (mb μ) pc = .ok (.iinc i n, 3)) (q : Nat) (hq : L[q]? = some (i, vi a)) (hn : i < mn μ) (z : Int) (hz : a + n = z) (hL : (i, vi z) :: L.filter (fun q => !(q.1 == i) && !(q.1 + 1 == i && q.2.category == 2)) = L') (k : AW Γ μ (pc + 3) L' st M Q) : AW Γ μ pc L st M Q := fun p e s m args below meth c H locs ls C hP hS hl => lv_iinc (v := Int32.ofInt z) C.1 C.2.1 hd hl hq (by rw [i32_add, hz]) hn hL (fun ls hl => k p e s m args below meth c H locs ls C hP hS hl)
theorem AW.iadd {a b : Int} (hd : decode (mb μ) pc = .ok (.iadd, 1)) (k : AW Γ μ (pc + 1) L (vi (a + b) :: st) M Q) : AW Γ μ pc L (vi b :: vi a :: st) M Q := fun p e s m args below meth c H locs ls C hP hS hl => lv_iadd C.1 C.2.1 hd (by rw [i32_add]; exact k p e s m args below meth c H locs ls C hP hS hl)
theorem AW.ladd {a b : Int} (hd : decode (mb μ) pc = .ok (.ladd, 1)) (k : AW Γ μ (pc + 1) L (vl (a + b) :: st) M Q) : AW Γ μ pc L (vl b :: vl a :: st) M Q := fun p e s m args below meth c H locs ls C hP hS hl => lv_ladd C.1 C.2.1 hd (by rw [i64_add]; exact k p e s m args below meth c H locs ls C hP hS hl)
theorem AW.isub {a b : Int} (hd : decode (mb μ) pc = .ok (.isub, 1)) (k : AW Γ μ (pc + 1) L (vi (a - b) :: st) M Q) : AW Γ μ pc L (vi b :: vi a :: st) M Q := fun p e s m args below meth c H locs ls C hP hS hl => lv_isub C.1 C.2.1 hd (by rw [i32_sub]; exact k p e s m args below meth c H locs ls C hP hS hl)
theorem AW.lsub {a b : Int} (hd : decode (mb μ) pc = .ok (.lsub, 1)) (k : AW Γ μ (pc + 1) L (vl (a - b) :: st) M Q) : AW Γ μ pc L (vl b :: vl a :: st) M Q := fun p e s m args below meth c H locs ls C hP hS hl => lv_lsub C.1 C.2.1 hd (by rw [i64_sub]; exact k p e s m args below meth c H locs ls C hP hS hl)
theorem AW.imul {a b : Int} (hd : decode (mb μ) pc = .ok (.imul, 1)) (k : AW Γ μ (pc + 1) L (vi (a * b) :: st) M Q) : AW Γ μ pc L (vi b :: vi a :: st) M Q := fun p e s m args below meth c H locs ls C hP hS hl => lv_imul C.1 C.2.1 hd (by rw [i32_mul]; exact k p e s m args below meth c H locs ls C hP hS hl)
theorem AW.lmul {a b : Int} (hd : decode (mb μ) pc = .ok (.lmul, 1)) (k : AW Γ μ (pc + 1) L (vl (a * b) :: st) M Q) : AW Γ μ pc L (vl b :: vl a :: st) M Q := fun p e s m args below meth c H locs ls C hP hS hl => lv_lmul C.1 C.2.1 hd (by rw [i64_mul]; exact k p e s m args below meth c H locs ls C hP hS hl)
theorem AW.idiv {a b : Int} (hd : decode (mb μ) pc = .ok (.idiv, 1)) (ha : 0 ≤ a ∧ a < 2147483648) (hb : 0 < b ∧ b < 2147483648) (k : AW Γ μ (pc + 1) L (vi (a / b) :: st) M Q) : AW Γ μ pc L (vi b :: vi a :: st) M Q := fun p e s m args below meth c H locs ls C hP hS hl => lv_idiv C.1 C.2.1 hd (i32_ne0 hb) (by rw [i32_div ha hb]; exact k p e s m args below meth c H locs ls C hP hS hl)
theorem AW.irem {a b : Int} (hd : decode (mb μ) pc = .ok (.irem, 1)) (ha : 0 ≤ a ∧ a < 2147483648) (hb : 0 < b ∧ b < 2147483648) (k : AW Γ μ (pc + 1) L (vi (a % b) :: st) M Q) : AW Γ μ pc L (vi b :: vi a :: st) M Q := fun p e s m args below meth c H locs ls C hP hS hl => lv_irem C.1 C.2.1 hd (i32_ne0 hb) (by rw [i32_rem ha hb]; exact k p e s m args below meth c H locs ls C hP hS hl)
theorem AW.ldiv {a b : Int} (hd : decode (mb μ) pc = .ok (.ldiv, 1)) (ha : 0 ≤ a ∧ a < 9223372036854775808) (hb : 0 < b ∧ b < 9223372036854775808) (k : AW Γ μ (pc + 1) L (vl (a / b) :: st) M Q) : AW Γ μ pc L (vl b :: vl a :: st) M Q := fun p e s m args below meth c H locs ls C hP hS hl => lv_ldiv C.1 C.2.1 hd (i64_ne0 hb) (by rw [i64_div ha hb]; exact k p e s m args below meth c H locs ls C hP hS hl)
theorem AW.lrem {a b : Int} (hd : decode (mb μ) pc = .ok (.lrem, 1)) (ha : 0 ≤ a ∧ a < 9223372036854775808) (hb : 0 < b ∧ b < 9223372036854775808) (k : AW Γ μ (pc + 1) L (vl (a % b) :: st) M Q) : AW Γ μ pc L (vl b :: vl a :: st) M Q := fun p e s m args below meth c H locs ls C hP hS hl => lv_lrem C.1 C.2.1 hd (i64_ne0 hb) (by rw [i64_rem ha hb]; exact k p e s m args below meth c H locs ls C hP hS hl)
theorem AW.iandk {a b : Int} (n : Nat) (hn : n ≤ 31) (hb : b = 2 ^ n - 1) (hd : decode (mb μ) pc = .ok (.iand, 1)) (k : AW Γ μ (pc + 1) L (vi (a % 2 ^ n) :: st) M Q) : AW Γ μ pc L (vi b :: vi a :: st) M Q := fun p e s m args below meth c H locs ls C hP hS hl => lv_iand C.1 C.2.1 hd (by rw [hb, i32_and a n hn]; exact k p e s m args below meth c H locs ls C hP hS hl)
theorem AW.iandw {a b z : Int} (hd : decode (mb μ) pc = .ok (.iand, 1)) (hz : Int32.ofInt a &&& Int32.ofInt b = Int32.ofInt z) (k : AW Γ μ (pc + 1) L (vi z :: st) M Q) : AW Γ μ pc L (vi b :: vi a :: st) M Q := fun p e s m args below meth c H locs ls C hP hS hl => lv_iand C.1 C.2.1 hd (by rw [hz]; exact k p e s m args below meth c H locs ls C hP hS hl)
theorem AW.iushrw {a b z : Int} (hd : decode (mb μ) pc = .ok (.iushr, 1)) (hz : ((Int32.ofInt a).toUInt32 >>> ((Int32.ofInt b).toUInt32 &&& Int32.toUInt32 31)).toInt32 = Int32.ofInt z) (k : AW Γ μ (pc + 1) L (vi z :: st) M Q) : AW Γ μ pc L (vi b :: vi a :: st) M Q := fun p e s m args below meth c H locs ls C hP hS hl => lv_iushr C.1 C.2.1 hd hz (k p e s m args below meth c H locs ls C hP hS hl)
theorem AW.ishr {a b : Int} (hd : decode (mb μ) pc = .ok (.ishr, 1)) (ha : 0 ≤ a ∧ a < 2147483648) (hb : 0 ≤ b ∧ b < 32) (k : AW Γ μ (pc + 1) L (vi (a / 2 ^ b.toNat) :: st) M Q) : AW Γ μ pc L (vi b :: vi a :: st) M Q := fun p e s m args below meth c H locs ls C hP hS hl => lv_ishr C.1 C.2.1 hd (by have e9 := i32_shr (n := b.toNat) ha (by omega); rw [Int.toNat_of_nonneg hb.1] at e9; rw [e9]; exact k p e s m args below meth c H locs ls C hP hS hl)
theorem AW.ishl1 {b : Int} (hd : decode (mb μ) pc = .ok (.ishl, 1)) (hb : 0 ≤ b ∧ b < 31) (k : AW Γ μ (pc + 1) L (vi (2 ^ b.toNat) :: st) M Q) : AW Γ μ pc L (vi b :: vi 1 :: st) M Q := fun p e s m args below meth c H locs ls C hP hS hl => lv_ishl C.1 C.2.1 hd (by have e9 := i32_shl1 (n := b.toNat) (by omega); rw [Int.toNat_of_nonneg hb.1] at e9; rw [e9]; exact k p e s m args below meth c H locs ls C hP hS hl)
theorem AW.i2l {a : Int} (hd : decode (mb μ) pc = .ok (.i2l, 1)) (ha : -2147483648 ≤ a ∧ a < 2147483648) (k : AW Γ μ (pc + 1) L (vl a :: st) M Q) : AW Γ μ pc L (vi a :: st) M Q := fun p e s m args below meth c H locs ls C hP hS hl => lv_i2l C.1 C.2.1 hd (i32_i64 ha) (k p e s m args below meth c H locs ls C hP hS hl)
theorem AW.l2i {a : Int} (hd : decode (mb μ) pc = .ok (.l2i, 1)) (k : AW Γ μ (pc + 1) L (vi a :: st) M Q) : AW Γ μ pc L (vl a :: st) M Q := fun p e s m args below meth c H locs ls C hP hS hl => lv_l2i C.1 C.2.1 hd (i64_i32 a) (k p e s m args below meth c H locs ls C hP hS hl)
theorem AW.i2b {a : Int} (hd : decode (mb μ) pc = .ok (.i2b, 1)) (k : AW Γ μ (pc + 1) L (vi (a.bmod 256) :: st) M Q) : AW Γ μ pc L (vi a :: st) M Q := fun p e s m args below meth c H locs ls C hP hS hl => lv_i2b C.1 C.2.1 hd (i32_i8 a) (k p e s m args below meth c H locs ls C hP hS hl)
theorem AW.i2s {a : Int} (hd : decode (mb μ) pc = .ok (.i2s, 1)) (k : AW Γ μ (pc + 1) L (vi (a.bmod 65536) :: st) M Q) : AW Γ μ pc L (vi a :: st) M Q := fun p e s m args below meth c H locs ls C hP hS hl => lv_i2s C.1 C.2.1 hd (i32_i16 a) (k p e s m args below meth c H locs ls C hP hS hl)
theorem AW.dup {v : Value} (hd : decode (mb μ) pc = .ok (.dup, 1)) (hv : v.category = 1) (k : AW Γ μ (pc + 1) L (v :: v :: st) M Q) : AW Γ μ pc L (v :: st) M Q := fun p e s m args below meth c H locs ls C hP hS hl => lv_dup C.1 C.2.1 hd hv (k p e s m args below meth c H locs ls C hP hS hl)
theorem AW.pop {v : Value} (hd : decode (mb μ) pc = .ok (.pop, 1)) (hv : v.category = 1) (k : AW Γ μ (pc + 1) L st M Q) : AW Γ μ pc L (v :: st) M Q := fun p e s m args below meth c H locs ls C hP hS hl => lv_pop C.1 C.2.1 hd hv (k p e s m args below meth c H locs ls C hP hS hl)
theorem AW.dup2 {v w : Value} (hd : decode (mb μ) pc = .ok (.dup2, 1)) (hv : v.category = 1) (hw : w.category = 1) (k : AW Γ μ (pc + 1) L (v :: w :: v :: w :: st) M Q) : AW Γ μ pc L (v :: w :: st) M Q := fun p e s m args below meth c H locs ls C hP hS hl => lv_dup2_11 C.1 C.2.1 hd hv hw (k p e s m args below meth c H locs ls C hP hS hl)
theorem AW.goto {off : Int} (tgt : Nat) (hd : decode (mb μ) pc = .ok (.goto off, 3)) (ht : (pc : Int) + off = (tgt : Int)) (k : AW Γ μ tgt L st M Q) : AW Γ μ pc L st M Q := fun p e s m args below meth c H locs ls C hP hS hl => lv_goto C.1 C.2.1 hd ht (k p e s m args below meth c H locs ls C hP hS hl)
theorem AW.icmp_eq {a b off : Int} (tgt : Nat) (hd : decode (mb μ) pc = .ok (.if_icmp .eq off, 3)) (ht : (pc : Int) + off = (tgt : Int)) (ha : -2147483648 ≤ a ∧ a < 2147483648) (hb : -2147483648 ≤ b ∧ b < 2147483648) (kt : a = b → AW Γ μ tgt L st M Q) (kf : ¬ a = b → AW Γ μ (pc + 3) L st M Q) : AW Γ μ pc L (vi b :: vi a :: st) M Q := fun p e s m args below meth c H locs ls C hP hS hl => lv_icmp_eq C.1 C.2.1 hd ht (fun h => kt (by first | exact (i32_eq ha hb).mp h | exact (i32_le hb ha).mp h | exact (i32_le ha hb).mp h | exact (i32_lt ha hb).mp h | exact (i32_lt hb ha).mp h | exact fun q => h ((i32_eq ha hb).mpr q)) p e s m args below meth c H locs ls C hP hS hl) (fun h => kf (by first | exact (i32_eq ha hb).mp h | exact fun q => h ((i32_eq ha hb).mpr q) | exact Int.not_le.mp (fun q => h ((i32_le hb ha).mpr q)) | exact Int.not_le.mp (fun q => h ((i32_le ha hb).mpr q)) | exact Int.not_lt.mp (fun q => h ((i32_lt ha hb).mpr q)) | exact Int.not_lt.mp (fun q => h ((i32_lt hb ha).mpr q)) | exact (i32_eq ha hb).mp (Decidable.not_not.mp h)) p e s m args below meth c H locs ls C hP hS hl)
theorem AW.icmp_ne {a b off : Int} (tgt : Nat) (hd : decode (mb μ) pc = .ok (.if_icmp .ne off, 3)) (ht : (pc : Int) + off = (tgt : Int)) (ha : -2147483648 ≤ a ∧ a < 2147483648) (hb : -2147483648 ≤ b ∧ b < 2147483648) (kt : ¬ a = b → AW Γ μ tgt L st M Q) (kf : a = b → AW Γ μ (pc + 3) L st M Q) : AW Γ μ pc L (vi b :: vi a :: st) M Q := fun p e s m args below meth c H locs ls C hP hS hl => lv_icmp_ne C.1 C.2.1 hd ht (fun h => kt (by first | exact (i32_eq ha hb).mp h | exact (i32_le hb ha).mp h | exact (i32_le ha hb).mp h | exact (i32_lt ha hb).mp h | exact (i32_lt hb ha).mp h | exact fun q => h ((i32_eq ha hb).mpr q)) p e s m args below meth c H locs ls C hP hS hl) (fun h => kf (by first | exact (i32_eq ha hb).mp h | exact fun q => h ((i32_eq ha hb).mpr q) | exact Int.not_le.mp (fun q => h ((i32_le hb ha).mpr q)) | exact Int.not_le.mp (fun q => h ((i32_le ha hb).mpr q)) | exact Int.not_lt.mp (fun q => h ((i32_lt ha hb).mpr q)) | exact Int.not_lt.mp (fun q => h ((i32_lt hb ha).mpr q)) | exact (i32_eq ha hb).mp (Decidable.not_not.mp h)) p e s m args below meth c H locs ls C hP hS hl)
theorem AW.icmp_lt {a b off : Int} (tgt : Nat) (hd : decode (mb μ) pc = .ok (.if_icmp .lt off, 3)) (ht : (pc : Int) + off = (tgt : Int)) (ha : -2147483648 ≤ a ∧ a < 2147483648) (hb : -2147483648 ≤ b ∧ b < 2147483648) (kt : a < b → AW Γ μ tgt L st M Q) (kf : b ≤ a → AW Γ μ (pc + 3) L st M Q) : AW Γ μ pc L (vi b :: vi a :: st) M Q := fun p e s m args below meth c H locs ls C hP hS hl => lv_icmp_lt C.1 C.2.1 hd ht (fun h => kt (by first | exact (i32_eq ha hb).mp h | exact (i32_le hb ha).mp h | exact (i32_le ha hb).mp h | exact (i32_lt ha hb).mp h | exact (i32_lt hb ha).mp h | exact fun q => h ((i32_eq ha hb).mpr q)) p e s m args below meth c H locs ls C hP hS hl) (fun h => kf (by first | exact (i32_eq ha hb).mp h | exact fun q => h ((i32_eq ha hb).mpr q) | exact Int.not_le.mp (fun q => h ((i32_le hb ha).mpr q)) | exact Int.not_le.mp (fun q => h ((i32_le ha hb).mpr q)) | exact Int.not_lt.mp (fun q => h ((i32_lt ha hb).mpr q)) | exact Int.not_lt.mp (fun q => h ((i32_lt hb ha).mpr q)) | exact (i32_eq ha hb).mp (Decidable.not_not.mp h)) p e s m args below meth c H locs ls C hP hS hl)
theorem AW.icmp_ge {a b off : Int} (tgt : Nat) (hd : decode (mb μ) pc = .ok (.if_icmp .ge off, 3)) (ht : (pc : Int) + off = (tgt : Int)) (ha : -2147483648 ≤ a ∧ a < 2147483648) (hb : -2147483648 ≤ b ∧ b < 2147483648) (kt : b ≤ a → AW Γ μ tgt L st M Q) (kf : a < b → AW Γ μ (pc + 3) L st M Q) : AW Γ μ pc L (vi b :: vi a :: st) M Q := fun p e s m args below meth c H locs ls C hP hS hl => lv_icmp_ge C.1 C.2.1 hd ht (fun h => kt (by first | exact (i32_eq ha hb).mp h | exact (i32_le hb ha).mp h | exact (i32_le ha hb).mp h | exact (i32_lt ha hb).mp h | exact (i32_lt hb ha).mp h | exact fun q => h ((i32_eq ha hb).mpr q)) p e s m args below meth c H locs ls C hP hS hl) (fun h => kf (by first | exact (i32_eq ha hb).mp h | exact fun q => h ((i32_eq ha hb).mpr q) | exact Int.not_le.mp (fun q => h ((i32_le hb ha).mpr q)) | exact Int.not_le.mp (fun q => h ((i32_le ha hb).mpr q)) | exact Int.not_lt.mp (fun q => h ((i32_lt ha hb).mpr q)) | exact Int.not_lt.mp (fun q => h ((i32_lt hb ha).mpr q)) | exact (i32_eq ha hb).mp (Decidable.not_not.mp h)) p e s m args below meth c H locs ls C hP hS hl)
theorem AW.icmp_gt {a b off : Int} (tgt : Nat) (hd : decode (mb μ) pc = .ok (.if_icmp .gt off, 3)) (ht : (pc : Int) + off = (tgt : Int)) (ha : -2147483648 ≤ a ∧ a < 2147483648) (hb : -2147483648 ≤ b ∧ b < 2147483648) (kt : b < a → AW Γ μ tgt L st M Q) (kf : a ≤ b → AW Γ μ (pc + 3) L st M Q) : AW Γ μ pc L (vi b :: vi a :: st) M Q := fun p e s m args below meth c H locs ls C hP hS hl => lv_icmp_gt C.1 C.2.1 hd ht (fun h => kt (by first | exact (i32_eq ha hb).mp h | exact (i32_le hb ha).mp h | exact (i32_le ha hb).mp h | exact (i32_lt ha hb).mp h | exact (i32_lt hb ha).mp h | exact fun q => h ((i32_eq ha hb).mpr q)) p e s m args below meth c H locs ls C hP hS hl) (fun h => kf (by first | exact (i32_eq ha hb).mp h | exact fun q => h ((i32_eq ha hb).mpr q) | exact Int.not_le.mp (fun q => h ((i32_le hb ha).mpr q)) | exact Int.not_le.mp (fun q => h ((i32_le ha hb).mpr q)) | exact Int.not_lt.mp (fun q => h ((i32_lt ha hb).mpr q)) | exact Int.not_lt.mp (fun q => h ((i32_lt hb ha).mpr q)) | exact (i32_eq ha hb).mp (Decidable.not_not.mp h)) p e s m args below meth c H locs ls C hP hS hl)
theorem AW.icmp_le {a b off : Int} (tgt : Nat) (hd : decode (mb μ) pc = .ok (.if_icmp .le off, 3)) (ht : (pc : Int) + off = (tgt : Int)) (ha : -2147483648 ≤ a ∧ a < 2147483648) (hb : -2147483648 ≤ b ∧ b < 2147483648) (kt : a ≤ b → AW Γ μ tgt L st M Q) (kf : b < a → AW Γ μ (pc + 3) L st M Q) : AW Γ μ pc L (vi b :: vi a :: st) M Q := fun p e s m args below meth c H locs ls C hP hS hl => lv_icmp_le C.1 C.2.1 hd ht (fun h => kt (by first | exact (i32_eq ha hb).mp h | exact (i32_le hb ha).mp h | exact (i32_le ha hb).mp h | exact (i32_lt ha hb).mp h | exact (i32_lt hb ha).mp h | exact fun q => h ((i32_eq ha hb).mpr q)) p e s m args below meth c H locs ls C hP hS hl) (fun h => kf (by first | exact (i32_eq ha hb).mp h | exact fun q => h ((i32_eq ha hb).mpr q) | exact Int.not_le.mp (fun q => h ((i32_le hb ha).mpr q)) | exact Int.not_le.mp (fun q => h ((i32_le ha hb).mpr q)) | exact Int.not_lt.mp (fun q => h ((i32_lt ha hb).mpr q)) | exact Int.not_lt.mp (fun q => h ((i32_lt hb ha).mpr q)) | exact (i32_eq ha hb).mp (Decidable.not_not.mp h)) p e s m args below meth c H locs ls C hP hS hl)
theorem AW.if_eq {a off : Int} (tgt : Nat) (hd : decode (mb μ) pc = .ok (.ifCond .eq off, 3)) (ht : (pc : Int) + off = (tgt : Int)) (ha : -2147483648 ≤ a ∧ a < 2147483648) (kt : a = 0 → AW Γ μ tgt L st M Q) (kf : ¬ a = 0 → AW Γ μ (pc + 3) L st M Q) : AW Γ μ pc L (vi a :: st) M Q := by
  have hb : -2147483648 ≤ (0 : Int) ∧ (0 : Int) < 2147483648 := ⟨by decide, by decide⟩
  exact fun p e s m args below meth c H locs ls C hP hS hl => lv_if_eq C.1 C.2.1 hd ht (fun h => kt (by first | exact (i32_eq ha hb).mp h | exact (i32_le hb ha).mp h | exact (i32_le ha hb).mp h | exact (i32_lt ha hb).mp h | exact (i32_lt hb ha).mp h | exact fun q => h ((i32_eq ha hb).mpr q)) p e s m args below meth c H locs ls C hP hS hl) (fun h => kf (by first | exact (i32_eq ha hb).mp h | exact fun q => h ((i32_eq ha hb).mpr q) | exact Int.not_le.mp (fun q => h ((i32_le hb ha).mpr q)) | exact Int.not_le.mp (fun q => h ((i32_le ha hb).mpr q)) | exact Int.not_lt.mp (fun q => h ((i32_lt ha hb).mpr q)) | exact Int.not_lt.mp (fun q => h ((i32_lt hb ha).mpr q)) | exact (i32_eq ha hb).mp (Decidable.not_not.mp h)) p e s m args below meth c H locs ls C hP hS hl)
theorem AW.if_ne {a off : Int} (tgt : Nat) (hd : decode (mb μ) pc = .ok (.ifCond .ne off, 3)) (ht : (pc : Int) + off = (tgt : Int)) (ha : -2147483648 ≤ a ∧ a < 2147483648) (kt : ¬ a = 0 → AW Γ μ tgt L st M Q) (kf : a = 0 → AW Γ μ (pc + 3) L st M Q) : AW Γ μ pc L (vi a :: st) M Q := by
  have hb : -2147483648 ≤ (0 : Int) ∧ (0 : Int) < 2147483648 := ⟨by decide, by decide⟩
  exact fun p e s m args below meth c H locs ls C hP hS hl => lv_if_ne C.1 C.2.1 hd ht (fun h => kt (by first | exact (i32_eq ha hb).mp h | exact (i32_le hb ha).mp h | exact (i32_le ha hb).mp h | exact (i32_lt ha hb).mp h | exact (i32_lt hb ha).mp h | exact fun q => h ((i32_eq ha hb).mpr q)) p e s m args below meth c H locs ls C hP hS hl) (fun h => kf (by first | exact (i32_eq ha hb).mp h | exact fun q => h ((i32_eq ha hb).mpr q) | exact Int.not_le.mp (fun q => h ((i32_le hb ha).mpr q)) | exact Int.not_le.mp (fun q => h ((i32_le ha hb).mpr q)) | exact Int.not_lt.mp (fun q => h ((i32_lt ha hb).mpr q)) | exact Int.not_lt.mp (fun q => h ((i32_lt hb ha).mpr q)) | exact (i32_eq ha hb).mp (Decidable.not_not.mp h)) p e s m args below meth c H locs ls C hP hS hl)
theorem AW.if_lt {a off : Int} (tgt : Nat) (hd : decode (mb μ) pc = .ok (.ifCond .lt off, 3)) (ht : (pc : Int) + off = (tgt : Int)) (ha : -2147483648 ≤ a ∧ a < 2147483648) (kt : a < 0 → AW Γ μ tgt L st M Q) (kf : 0 ≤ a → AW Γ μ (pc + 3) L st M Q) : AW Γ μ pc L (vi a :: st) M Q := by
  have hb : -2147483648 ≤ (0 : Int) ∧ (0 : Int) < 2147483648 := ⟨by decide, by decide⟩
  exact fun p e s m args below meth c H locs ls C hP hS hl => lv_if_lt C.1 C.2.1 hd ht (fun h => kt (by first | exact (i32_eq ha hb).mp h | exact (i32_le hb ha).mp h | exact (i32_le ha hb).mp h | exact (i32_lt ha hb).mp h | exact (i32_lt hb ha).mp h | exact fun q => h ((i32_eq ha hb).mpr q)) p e s m args below meth c H locs ls C hP hS hl) (fun h => kf (by first | exact (i32_eq ha hb).mp h | exact fun q => h ((i32_eq ha hb).mpr q) | exact Int.not_le.mp (fun q => h ((i32_le hb ha).mpr q)) | exact Int.not_le.mp (fun q => h ((i32_le ha hb).mpr q)) | exact Int.not_lt.mp (fun q => h ((i32_lt ha hb).mpr q)) | exact Int.not_lt.mp (fun q => h ((i32_lt hb ha).mpr q)) | exact (i32_eq ha hb).mp (Decidable.not_not.mp h)) p e s m args below meth c H locs ls C hP hS hl)
theorem AW.if_ge {a off : Int} (tgt : Nat) (hd : decode (mb μ) pc = .ok (.ifCond .ge off, 3)) (ht : (pc : Int) + off = (tgt : Int)) (ha : -2147483648 ≤ a ∧ a < 2147483648) (kt : 0 ≤ a → AW Γ μ tgt L st M Q) (kf : a < 0 → AW Γ μ (pc + 3) L st M Q) : AW Γ μ pc L (vi a :: st) M Q := by
  have hb : -2147483648 ≤ (0 : Int) ∧ (0 : Int) < 2147483648 := ⟨by decide, by decide⟩
  exact fun p e s m args below meth c H locs ls C hP hS hl => lv_if_ge C.1 C.2.1 hd ht (fun h => kt (by first | exact (i32_eq ha hb).mp h | exact (i32_le hb ha).mp h | exact (i32_le ha hb).mp h | exact (i32_lt ha hb).mp h | exact (i32_lt hb ha).mp h | exact fun q => h ((i32_eq ha hb).mpr q)) p e s m args below meth c H locs ls C hP hS hl) (fun h => kf (by first | exact (i32_eq ha hb).mp h | exact fun q => h ((i32_eq ha hb).mpr q) | exact Int.not_le.mp (fun q => h ((i32_le hb ha).mpr q)) | exact Int.not_le.mp (fun q => h ((i32_le ha hb).mpr q)) | exact Int.not_lt.mp (fun q => h ((i32_lt ha hb).mpr q)) | exact Int.not_lt.mp (fun q => h ((i32_lt hb ha).mpr q)) | exact (i32_eq ha hb).mp (Decidable.not_not.mp h)) p e s m args below meth c H locs ls C hP hS hl)
theorem AW.if_gt {a off : Int} (tgt : Nat) (hd : decode (mb μ) pc = .ok (.ifCond .gt off, 3)) (ht : (pc : Int) + off = (tgt : Int)) (ha : -2147483648 ≤ a ∧ a < 2147483648) (kt : 0 < a → AW Γ μ tgt L st M Q) (kf : a ≤ 0 → AW Γ μ (pc + 3) L st M Q) : AW Γ μ pc L (vi a :: st) M Q := by
  have hb : -2147483648 ≤ (0 : Int) ∧ (0 : Int) < 2147483648 := ⟨by decide, by decide⟩
  exact fun p e s m args below meth c H locs ls C hP hS hl => lv_if_gt C.1 C.2.1 hd ht (fun h => kt (by first | exact (i32_eq ha hb).mp h | exact (i32_le hb ha).mp h | exact (i32_le ha hb).mp h | exact (i32_lt ha hb).mp h | exact (i32_lt hb ha).mp h | exact fun q => h ((i32_eq ha hb).mpr q)) p e s m args below meth c H locs ls C hP hS hl) (fun h => kf (by first | exact (i32_eq ha hb).mp h | exact fun q => h ((i32_eq ha hb).mpr q) | exact Int.not_le.mp (fun q => h ((i32_le hb ha).mpr q)) | exact Int.not_le.mp (fun q => h ((i32_le ha hb).mpr q)) | exact Int.not_lt.mp (fun q => h ((i32_lt ha hb).mpr q)) | exact Int.not_lt.mp (fun q => h ((i32_lt hb ha).mpr q)) | exact (i32_eq ha hb).mp (Decidable.not_not.mp h)) p e s m args below meth c H locs ls C hP hS hl)
theorem AW.if_le {a off : Int} (tgt : Nat) (hd : decode (mb μ) pc = .ok (.ifCond .le off, 3)) (ht : (pc : Int) + off = (tgt : Int)) (ha : -2147483648 ≤ a ∧ a < 2147483648) (kt : a ≤ 0 → AW Γ μ tgt L st M Q) (kf : 0 < a → AW Γ μ (pc + 3) L st M Q) : AW Γ μ pc L (vi a :: st) M Q := by
  have hb : -2147483648 ≤ (0 : Int) ∧ (0 : Int) < 2147483648 := ⟨by decide, by decide⟩
  exact fun p e s m args below meth c H locs ls C hP hS hl => lv_if_le C.1 C.2.1 hd ht (fun h => kt (by first | exact (i32_eq ha hb).mp h | exact (i32_le hb ha).mp h | exact (i32_le ha hb).mp h | exact (i32_lt ha hb).mp h | exact (i32_lt hb ha).mp h | exact fun q => h ((i32_eq ha hb).mpr q)) p e s m args below meth c H locs ls C hP hS hl) (fun h => kf (by first | exact (i32_eq ha hb).mp h | exact fun q => h ((i32_eq ha hb).mpr q) | exact Int.not_le.mp (fun q => h ((i32_le hb ha).mpr q)) | exact Int.not_le.mp (fun q => h ((i32_le ha hb).mpr q)) | exact Int.not_lt.mp (fun q => h ((i32_lt ha hb).mpr q)) | exact Int.not_lt.mp (fun q => h ((i32_lt hb ha).mpr q)) | exact (i32_eq ha hb).mp (Decidable.not_not.mp h)) p e s m args below meth c H locs ls C hP hS hl)
theorem AW.tabIn {dflt lo hi off a : Int} {offs : Array Int} {len : Nat} (tgt : Nat) (hd : decode (mb μ) pc = .ok (.tableswitch dflt lo hi offs, len)) (ha : -2147483648 ≤ a ∧ a < 2147483648) (h1 : lo ≤ a) (h2 : a ≤ hi) (ho : offs[(a - lo).toNat]? = some off) (ht : (pc : Int) + off = (tgt : Int)) (k : AW Γ μ tgt L st M Q) : AW Γ μ pc L (vi a :: st) M Q := fun p e s m args below meth c H locs ls C hP hS hl => lv_tableIn C.1 C.2.1 hd (by rw [i32_toInt ha]; omega) (by rw [i32_toInt ha]; omega) (by rw [i32_toInt ha]; exact ho) ht (k p e s m args below meth c H locs ls C hP hS hl)
theorem AW.tabOut {dflt lo hi a : Int} {offs : Array Int} {len : Nat} (tgt : Nat) (hd : decode (mb μ) pc = .ok (.tableswitch dflt lo hi offs, len)) (ha : -2147483648 ≤ a ∧ a < 2147483648) (h : a < lo ∨ hi < a) (ht : (pc : Int) + dflt = (tgt : Int)) (k : AW Γ μ tgt L st M Q) : AW Γ μ pc L (vi a :: st) M Q := fun p e s m args below meth c H locs ls C hP hS hl => lv_tableOut C.1 C.2.1 hd (by rw [i32_toInt ha]; exact h) ht (k p e s m args below meth c H locs ls C hP hS hl)
theorem AW.look {dflt off a : Int} {ps : Array (Int × Int)} {len : Nat} (tgt : Nat) (hd : decode (mb μ) pc = .ok (.lookupswitch dflt ps, len)) (hp : (ps.toList.zip (ps.toList.drop 1)).all (fun (a, next) => a.1 < next.1) = true) (ha : -2147483648 ≤ a ∧ a < 2147483648) (ho : Op.lookupswitch.offset ps.toList dflt a = off) (ht : (pc : Int) + off = (tgt : Int)) (k : AW Γ μ tgt L st M Q) : AW Γ μ pc L (vi a :: st) M Q := fun p e s m args below meth c H locs ls C hP hS hl => lv_lookup C.1 C.2.1 hd hp (by rw [i32_toInt ha]; exact ho) ht (k p e s m args below meth c H locs ls C hP hS hl)
theorem AW.lcmp {a b : Int} (hd : decode (mb μ) pc = .ok (.lcmp, 1)) (ha : -9223372036854775808 ≤ a ∧ a < 9223372036854775808) (hb : -9223372036854775808 ≤ b ∧ b < 9223372036854775808) (k : AW Γ μ (pc + 1) L (vi (if a < b then -1 else if a = b then 0 else 1) :: st) M Q) : AW Γ μ pc L (vl b :: vl a :: st) M Q := by
  intro p e s m args below meth c H locs ls C hP hS hl
  refine W.lcmp C.1 C.2.1 hd ?_
  have e9 : lg_cmp (Int64.ofInt a) (Int64.ofInt b) = Int32.ofInt (if a < b then -1 else if a = b then 0 else 1) := by
    simp only [lg_cmp, i64_lt hb ha, i64_eq ha hb]
    rcases Int.lt_trichotomy a b with h | h | h
    · rw [if_neg (by omega), if_neg (by omega), if_pos h]; rfl
    · subst h; simp
    · rw [if_pos h, if_neg (by omega), if_neg (by omega)]; rfl
  rw [e9]
  exact k p e s m args below meth c H locs ls C hP hS hl
theorem AW.iret {a : Int} (hr0 : mr μ = some .int) (hd : decode (mb μ) pc = .ok (.ireturn, 1)) (q : Q a M) : AW Γ μ pc L [vi a] M Q := fun p e s m args below meth c H locs ls C hP hS hl => by
  have hr := C.2.2.1
  have hlocks : meth.locks = false := C.2.2.2.2.2.2.1
  rw [hr0] at hr
  rw [hr0]
  exact W.iret (v := Int32.ofInt a) C.1 C.2.1 hr (fun t ht hW => ⟨⟨a, M, rfl, q, by rw [ht]; exact hP⟩, hS.F ht⟩) hS.2.2 hd hlocks
theorem AW.zret {a : Int} (hr0 : mr μ = some .boolean) (hd : decode (mb μ) pc = .ok (.ireturn, 1)) (h01 : a = 0 ∨ a = 1) (q : Q a M) : AW Γ μ pc L [vi a] M Q := fun p e s m args below meth c H locs ls C hP hS hl => by
  have hr := C.2.2.1
  have hlocks : meth.locks = false := C.2.2.2.2.2.2.1
  rw [hr0] at hr
  rw [hr0]
  exact W.zret (v := Int32.ofInt a) C.1 C.2.1 hr (by rcases h01 with rfl | rfl <;> rfl) (fun t ht hW => ⟨⟨a, M, rfl, q, by rw [ht]; exact hP⟩, hS.F ht⟩) hS.2.2 hd hlocks
theorem AW.lret {a : Int} (hr0 : mr μ = some .long) (hd : decode (mb μ) pc = .ok (.lreturn, 1)) (q : Q a M) : AW Γ μ pc L [vl a] M Q := fun p e s m args below meth c H locs ls C hP hS hl => by
  have hr := C.2.2.1
  have hlocks : meth.locks = false := C.2.2.2.2.2.2.1
  rw [hr0] at hr
  rw [hr0]
  exact W.lret (v := Int64.ofInt a) C.1 C.2.1 hr (fun t ht hW => ⟨⟨a, M, rfl, q, by rw [ht]; exact hP⟩, hS.F ht⟩) hS.2.2 hd hlocks
theorem AW.vret (hr0 : mr μ = none) (hd : decode (mb μ) pc = .ok (.return_, 1)) (q : Q 0 M) : AW Γ μ pc L [] M Q := fun p e s m args below meth c H locs ls C hP hS hl => by
  have hr := C.2.2.1
  have hlocks : meth.locks = false := C.2.2.2.2.2.2.1
  rw [hr0] at hr
  rw [hr0]
  exact W.vret C.1 C.2.1 hr (fun t ht hW => ⟨⟨0, M, rfl, q, by rw [ht]; exact hP⟩, hS.F ht⟩) hS.2.2 hd hlocks
end AWrows
end
section
/-! rows that read and write cells; calls -/
/-- a link to a field: its class's place, the field's place -/
def FL (own : String) (idx ci j : Nat) : Prop := ∃ (C : String) (T : u_T) (N : Nat), cls10[ci]? = some (C, T, N) ∧ j < N ∧ Cond.fieldLink own idx C (T j).2.1 (T j).2.2.1 ∈ tb ∧ (∀ w ∈ u_ws C T N, w ∈ tb) ∧ (T j).1 = C
/-- and it may be written -/
def FP (own : String) (idx ci j : Nat) (ty : FieldType) : Prop := ∃ (C : String) (T : u_T) (N : Nat), cls10[ci]? = some (C, T, N) ∧ j < N ∧ Cond.fieldLink own idx C (T j).2.1 (T j).2.2.1 ∈ tb ∧ (∀ w ∈ u_ws C T N, w ∈ tb) ∧ (T j).1 = C ∧ (∃ ty0 : Nat → FieldType, ∀ k, k < N → parseFieldDescriptor (T k).2.2.1 = some (ty0 k)) ∧ (∀ a, a < N → ∀ b, b < N → a ≠ b → (T a).2.1 ≠ (T b).2.1) ∧ (T j).2.2.2 = false ∧ parseFieldDescriptor (T j).2.2.1 = some ty
def MS (own : String) (idx : Nat) (μ' : MI) (n : Nat) : Prop := Cond.methodLink own idx (my μ') ∈ tb ∧ Cond.static (my μ') ∈ tb ∧ Cond.initialized (my μ').cls ∈ tb ∧ Cond.code (my μ') (mb μ') (mn μ') (mr μ') ∈ tb ∧ ((my μ').cls ≠ "java/lang/invoke/MethodHandle" ∧ (my μ').cls ≠ "java/lang/invoke/VarHandle" ∧ (parseMethodDescriptor (my μ').desc).map (fun d => d.parameters.length) = some n)
def MV (own : String) (idx : Nat) (μ' : MI) (ci n : Nat) : Prop := Cond.methodLink own idx (my μ') ∈ tb ∧ Cond.instanceMethod (my μ') ∈ tb ∧ Cond.selects (my μ').cls (my μ') (my μ') ∈ tb ∧ Cond.initialized (my μ').cls ∈ tb ∧ Cond.code (my μ') (mb μ') (mn μ') (mr μ') ∈ tb ∧ ((my μ').cls ≠ "java/lang/invoke/MethodHandle" ∧ (my μ').cls ≠ "java/lang/invoke/VarHandle" ∧ (parseMethodDescriptor (my μ').desc).map (fun d => d.parameters.length) = some n) ∧ ∃ (T : u_T) (N : Nat), cls10[ci]? = some ((my μ').cls, T, N)
def MN (own : String) (idx : Nat) (μ' : MI) (n : Nat) : Prop := Cond.methodLinkNest own idx (my μ') "ArmSignals" ∈ nestW ∧ Cond.static (my μ') ∈ tb ∧ Cond.initialized (my μ').cls ∈ tb ∧ Cond.code (my μ') (mb μ') (mn μ') (mr μ') ∈ tb ∧ ((my μ').cls ≠ "java/lang/invoke/MethodHandle" ∧ (my μ').cls ≠ "java/lang/invoke/VarHandle" ∧ (parseMethodDescriptor (my μ').desc).map (fun d => d.parameters.length) = some n)
theorem cells_obj (Γ : GC) (M : Mm) {k ci : Nat} {fs : List (Option Nat)} (hs : sh k = (0, ci, fs)) : (cells Γ M)[k]? = some (gad Γ k, .inr (ci, mkF (gad Γ) (M k) 0 fs)) := by
  rw [cells_at Γ M (sh_lt hs (by simp)), hs]; rfl
theorem cells_int (Γ : GC) (M : Mm) {k n : Nat} {fs : List (Option Nat)} (hs : sh k = (1, n, fs)) : (cells Γ M)[k]? = some (gad Γ k, .inl (gC Γ 0, n, .inl (fun j => Int32.ofInt (M k j)))) := by
  rw [cells_at Γ M (sh_lt hs (by simp)), hs]; rfl
theorem cells_long (Γ : GC) (M : Mm) {k n : Nat} {fs : List (Option Nat)} (hs : sh k = (2, n, fs)) : (cells Γ M)[k]? = some (gad Γ k, .inl (gC Γ 1, n, .inr (.inl (fun j => Int64.ofInt (M k j))))) := by
  rw [cells_at Γ M (sh_lt hs (by simp)), hs]; rfl
theorem cells_rfs (Γ : GC) (M : Mm) {k t : Nat} {fs : List (Option Nat)} (hs : sh k = (3, t, fs)) : (cells Γ M)[k]? = some (gad Γ k, .inl (gC Γ t, fs.length, .inr (.inr (.inr (.inr (fun j => (fs.getD j none).map (gad Γ))))))) := by
  rw [cells_at Γ M (sh_lt hs (by simp)), hs]; rfl
theorem cells_sobj (Γ : GC) (M : Mm) {k ci j : Nat} {fs : List (Option Nat)} (z : Int) (hs : sh k = (0, ci, fs)) (hj : fs[j]? = some none) : (cells Γ M).set k (gad Γ k, .inr (ci, (mkF (gad Γ) (M k) 0 fs).set j (vi z))) = cells Γ (up2 M k j z) := by
  refine cells_set Γ M (sh_lt hs (by simp)) (up1 (M k) j z) ?_
  rw [hs, mkF_set _ _ _ _ _ _ hj, Nat.zero_add]; rfl
theorem cells_sint (Γ : GC) (M : Mm) {k n : Nat} {fs : List (Option Nat)} (hs : sh k = (1, n, fs)) (f : Nat → Int) : (cells Γ M).set k (gad Γ k, .inl (gC Γ 0, n, .inl (fun j => Int32.ofInt (f j)))) = cells Γ (upM M k f) := by
  refine cells_set Γ M (sh_lt hs (by simp)) f ?_
  rw [hs]; rfl
theorem cells_slong (Γ : GC) (M : Mm) {k n : Nat} {fs : List (Option Nat)} (hs : sh k = (2, n, fs)) (f : Nat → Int) : (cells Γ M).set k (gad Γ k, .inl (gC Γ 1, n, .inr (.inl (fun j => Int64.ofInt (f j))))) = cells Γ (upM M k f) := by
  refine cells_set Γ M (sh_lt hs (by simp)) f ?_
  rw [hs]; rfl
theorem upd_i (f : Nat → Int) (i : Nat) (z : Int) : upd (fun j => Int32.ofInt (f j)) i (Int32.ofInt z) = fun j => Int32.ofInt (up1 f i z j) := by
  funext j; simp only [upd, up1]; split <;> rfl
theorem upd_l (f : Nat → Int) (i : Nat) (z : Int) : vp_updL (fun j => Int64.ofInt (f j)) i (Int64.ofInt z) = fun j => Int64.ofInt (up1 f i z j) := by
  funext j; simp only [vp_updL, up1]; split <;> rfl
theorem cpy_i (f g : Nat → Int) (a b n : Nat) : va_cpy (fun j => Int32.ofInt (f j)) (fun j => Int32.ofInt (g j)) a b n = fun j => Int32.ofInt (va_cpy f g a b n j) := by
  funext j; simp only [va_cpy]; split <;> rfl
theorem cpy_l (f g : Nat → Int) (a b n : Nat) : va_cpy (fun j => Int64.ofInt (f j)) (fun j => Int64.ofInt (g j)) a b n = fun j => Int64.ofInt (va_cpy f g a b n j) := by
  funext j; simp only [va_cpy]; split <;> rfl
section AWheap
variable {Γ : GC} {μ : MI} {pc : Nat} {L : List (Nat × Value)} {st : List Value} {M : Mm} {Q : Int → Mm → Prop}
theorem Cx.own {p : Program} {s : State} {m : MethodId} {args : Array Value} {meth : Method} {c : Code} (C : Cx Γ μ p s m args meth c) : s.vm.findClass (my μ).cls = some m.cls := C.2.2.2.2.1
theorem Cx.ts {p : Program} {s : State} {m : MethodId} {args : Array Value} {meth : Method} {c : Code} (C : Cx Γ μ p s m args meth c) : ∀ w ∈ tb, w.before args s = true := C.2.2.2.2.2.1
theorem Cx.wd {p : Program} {s : State} {m : MethodId} {args : Array Value} {meth : Method} {c : Code} (C : Cx Γ μ p s m args meth c) : Wd Γ s := C.2.2.2.2.2.2.2
theorem AW.getI {idx ci j k : Nat} {fs : List (Option Nat)} (hd : decode (mb μ) pc = .ok (.getfield idx, 3)) (hF : FL (my μ).cls idx ci j) (hs : sh k = (0, ci, fs)) (hj : fs[j]? = some none) (kk : AW Γ μ (pc + 3) L (vi (M k j) :: st) M Q) : AW Γ μ pc L (rf Γ k :: st) M Q := by
  intro p e s m args below meth c H locs ls C hP hS hl
  obtain ⟨C0, T, N, h1, h2, h3, h4, h5⟩ := hF
  refine va_get (D := gD Γ) (ci := ci) (v := vi (M k j)) C.1 C.2.1 C.ts h4 C.own C.wd.2.1 hP k (cells_obj Γ M hs) h1 j h2 (C.ts _ h3) (fun x hx => by rw [← h5]; exact hx) (by rw [mkF_int _ _ _ _ _ hj, Nat.zero_add]) hd (kk p e s m args below meth c H locs ls C hP hS hl)
theorem AW.getR {idx ci j k r : Nat} {fs : List (Option Nat)} (hd : decode (mb μ) pc = .ok (.getfield idx, 3)) (hF : FL (my μ).cls idx ci j) (hs : sh k = (0, ci, fs)) (hj : fs[j]? = some (some r)) (kk : AW Γ μ (pc + 3) L (rf Γ r :: st) M Q) : AW Γ μ pc L (rf Γ k :: st) M Q := by
  intro p e s m args below meth c H locs ls C hP hS hl
  obtain ⟨C0, T, N, h1, h2, h3, h4, h5⟩ := hF
  refine va_get (D := gD Γ) (ci := ci) (v := rf Γ r) C.1 C.2.1 C.ts h4 C.own C.wd.2.1 hP k (cells_obj Γ M hs) h1 j h2 (C.ts _ h3) (fun x hx => by rw [← h5]; exact hx) (by rw [mkF_ref _ _ _ _ _ hj]; rfl) hd (kk p e s m args below meth c H locs ls C hP hS hl)
theorem AW.put {idx ci j k : Nat} {ty : FieldType} {fs : List (Option Nat)} {z : Int} (hd : decode (mb μ) pc = .ok (.putfield idx, 3)) (hF : FP (my μ).cls idx ci j ty) (hs : sh k = (0, ci, fs)) (hj : fs[j]? = some none) (hn : narrow ty (vi z) = vi z) (hfit : fits ty (vi z) = true) (kk : AW Γ μ (pc + 3) L st (up2 M k j z) Q) : AW Γ μ pc L (vi z :: rf Γ k :: st) M Q := by
  intro p e s m args below meth c H locs ls C hP hS hl
  obtain ⟨C0, T, N, h1, h2, h3, h4, h5, ⟨ty0, h6⟩, h7, h8, h9⟩ := hF
  refine va_put (D := gD Γ) (ci := ci) (v := vi z) (ty := ty) C.1 C.2.1 C.ts h4 ty0 h6 h7 C.own C.wd.2.1 hP (cells_D C.wd.1 M) hS k (cells_obj Γ M hs) h1 j h2 (C.ts _ h3) (fun x hx => by rw [← h5]; exact hx) h8 h9 hn hfit (by rw [mkF_len]; exact (List.getElem?_eq_some_iff.mp hj).1) hd (fun H1 locs1 hP1 hD1 hS1 => ?_)
  rw [cells_sobj Γ M z hs hj] at hP1
  exact kk p e s m args below meth c H1 locs1 ls C hP1 hS1 hl
theorem AW.putI {idx ci j k : Nat} {fs : List (Option Nat)} {z : Int} (hd : decode (mb μ) pc = .ok (.putfield idx, 3)) (hF : FP (my μ).cls idx ci j .int) (hs : sh k = (0, ci, fs)) (hj : fs[j]? = some none) (kk : AW Γ μ (pc + 3) L st (up2 M k j z) Q) : AW Γ μ pc L (vi z :: rf Γ k :: st) M Q := AW.put hd hF hs hj rfl rfl kk
theorem AW.putZ {idx ci j k : Nat} {fs : List (Option Nat)} {z : Int} (hd : decode (mb μ) pc = .ok (.putfield idx, 3)) (hF : FP (my μ).cls idx ci j .boolean) (hs : sh k = (0, ci, fs)) (hj : fs[j]? = some none) (hz : z = 0 ∨ z = 1) (kk : AW Γ μ (pc + 3) L st (up2 M k j z) Q) : AW Γ μ pc L (vi z :: rf Γ k :: st) M Q := AW.put hd hF hs hj (by rcases hz with rfl | rfl <;> rfl) (by rcases hz with rfl | rfl <;> rfl) kk
theorem AW.iald {n k : Nat} {i : Int} {fs : List (Option Nat)} (hd : decode (mb μ) pc = .ok (.iaload, 1)) (hs : sh k = (1, n, fs)) (h0 : 0 ≤ i) (h1 : i < n) (hn : n < 2147483648) (kk : AW Γ μ (pc + 1) L (vi (M k i.toNat) :: st) M Q) : AW Γ μ pc L (vi i :: rf Γ k :: st) M Q := by
  intro p e s m args below meth c H locs ls C hP hS hl
  refine va_iald (D := gD Γ) C.1 C.2.1 C.wd.2.1 hP k 0 (cells_int Γ M hs) rfl (i32_in h0 h1 hn) hd ?_
  rw [i32_nat ⟨h0, by omega⟩]
  exact kk p e s m args below meth c H locs ls C hP hS hl
theorem AW.iast {n k : Nat} {i z : Int} {fs : List (Option Nat)} (hd : decode (mb μ) pc = .ok (.iastore, 1)) (hs : sh k = (1, n, fs)) (h0 : 0 ≤ i) (h1 : i < n) (hn : n < 2147483648) (kk : AW Γ μ (pc + 1) L st (up2 M k i.toNat z) Q) : AW Γ μ pc L (vi z :: vi i :: rf Γ k :: st) M Q := by
  intro p e s m args below meth c H locs ls C hP hS hl
  refine va_iast (D := gD Γ) C.1 C.2.1 C.wd.2.1 hP (cells_D C.wd.1 M) hS k 0 (cells_int Γ M hs) rfl (i32_in h0 h1 hn) hd (fun H1 locs1 hP1 hD1 hS1 => ?_)
  rw [i32_nat ⟨h0, by omega⟩, upd_i, cells_sint Γ M hs] at hP1
  exact kk p e s m args below meth c H1 locs1 ls C hP1 hS1 hl
theorem AW.lald {n k : Nat} {i : Int} {fs : List (Option Nat)} (hd : decode (mb μ) pc = .ok (.laload, 1)) (hs : sh k = (2, n, fs)) (h0 : 0 ≤ i) (h1 : i < n) (hn : n < 2147483648) (kk : AW Γ μ (pc + 1) L (vl (M k i.toNat) :: st) M Q) : AW Γ μ pc L (vi i :: rf Γ k :: st) M Q := by
  intro p e s m args below meth c H locs ls C hP hS hl
  refine va_lald (D := gD Γ) C.1 C.2.1 C.wd.2.1 hP k 1 (cells_long Γ M hs) rfl (i32_in h0 h1 hn) hd ?_
  rw [i32_nat ⟨h0, by omega⟩]
  exact kk p e s m args below meth c H locs ls C hP hS hl
theorem AW.last {n k : Nat} {i z : Int} {fs : List (Option Nat)} (hd : decode (mb μ) pc = .ok (.lastore, 1)) (hs : sh k = (2, n, fs)) (h0 : 0 ≤ i) (h1 : i < n) (hn : n < 2147483648) (kk : AW Γ μ (pc + 1) L st (up2 M k i.toNat z) Q) : AW Γ μ pc L (vl z :: vi i :: rf Γ k :: st) M Q := by
  intro p e s m args below meth c H locs ls C hP hS hl
  refine va_last (D := gD Γ) C.1 C.2.1 C.wd.2.1 hP (cells_D C.wd.1 M) hS k 1 (cells_long Γ M hs) rfl (i32_in h0 h1 hn) hd (fun H1 locs1 hP1 hD1 hS1 => ?_)
  rw [i32_nat ⟨h0, by omega⟩, upd_l, cells_slong Γ M hs] at hP1
  exact kk p e s m args below meth c H1 locs1 ls C hP1 hS1 hl
theorem AW.aald2 {k r : Nat} {i : Int} {fs : List (Option Nat)} (hd : decode (mb μ) pc = .ok (.aaload, 1)) (hs : sh k = (3, 2, fs)) (h0 : 0 ≤ i) (h1 : i < fs.length) (hn : fs.length < 2147483648) (hr : fs[i.toNat]? = some (some r)) (kk : AW Γ μ (pc + 1) L (rf Γ r :: st) M Q) : AW Γ μ pc L (vi i :: rf Γ k :: st) M Q := by
  intro p e s m args below meth c H locs ls C hP hS hl
  refine va_aldq (D := gD Γ) C.1 C.2.1 C.wd.2.1 hP k 2 (cells_rfs Γ M hs) rfl (i32_in h0 h1 hn) hd ?_
  rw [i32_nat ⟨h0, by omega⟩, List.getD_eq_getElem?_getD, hr]
  exact kk p e s m args below meth c H locs ls C hP hS hl
theorem AW.aald3 {k r : Nat} {i : Int} {fs : List (Option Nat)} (hd : decode (mb μ) pc = .ok (.aaload, 1)) (hs : sh k = (3, 3, fs)) (h0 : 0 ≤ i) (h1 : i < fs.length) (hn : fs.length < 2147483648) (hr : fs[i.toNat]? = some (some r)) (kk : AW Γ μ (pc + 1) L (rf Γ r :: st) M Q) : AW Γ μ pc L (vi i :: rf Γ k :: st) M Q := by
  intro p e s m args below meth c H locs ls C hP hS hl
  refine va_aldq (D := gD Γ) C.1 C.2.1 C.wd.2.1 hP k 3 (cells_rfs Γ M hs) rfl (i32_in h0 h1 hn) hd ?_
  rw [i32_nat ⟨h0, by omega⟩, List.getD_eq_getElem?_getD, hr]
  exact kk p e s m args below meth c H locs ls C hP hS hl
theorem AW.ilen {n k : Nat} {fs : List (Option Nat)} (hd : decode (mb μ) pc = .ok (.arraylength, 1)) (hs : sh k = (1, n, fs)) (kk : AW Γ μ (pc + 1) L (vi n :: st) M Q) : AW Γ μ pc L (rf Γ k :: st) M Q := by
  intro p e s m args below meth c H locs ls C hP hS hl
  exact va_alen (D := gD Γ) (v := Int32.ofInt n) C.1 C.2.1 C.wd.2.1 hP k 0 (cells_int Γ M hs) (ty := .int) rfl rfl hd (kk p e s m args below meth c H locs ls C hP hS hl)
theorem AW.llen {n k : Nat} {fs : List (Option Nat)} (hd : decode (mb μ) pc = .ok (.arraylength, 1)) (hs : sh k = (2, n, fs)) (kk : AW Γ μ (pc + 1) L (vi n :: st) M Q) : AW Γ μ pc L (rf Γ k :: st) M Q := by
  intro p e s m args below meth c H locs ls C hP hS hl
  exact va_alen (D := gD Γ) (v := Int32.ofInt n) C.1 C.2.1 C.wd.2.1 hP k 1 (cells_long Γ M hs) (ty := .long) rfl rfl hd (kk p e s m args below meth c H locs ls C hP hS hl)
/-- the two static arrays -/
theorem AW.getsL {idx : Nat} (hd : decode (mb μ) pc = .ok (.getstatic idx, 3)) (hw : Cond.fieldLink (my μ).cls idx "ArmSignals" "LESSER" "[I" ∈ tb) (kk : AW Γ μ (pc + 3) L (.ref (gtL Γ) :: st) M Q) : AW Γ μ pc L st M Q := by
  intro p e s m args below meth c H locs ls C hP hS hl
  exact va_gets C.1 C.2.1 C.wd.2.2.1.1 hS C.own (C.ts _ hw) (fun _ h => h) hd (kk p e s m args below meth c H locs ls C hP hS hl)
theorem AW.getsG {idx : Nat} (hd : decode (mb μ) pc = .ok (.getstatic idx, 3)) (hw : Cond.fieldLink (my μ).cls idx "ArmSignals" "GREATER" "[I" ∈ tb) (kk : AW Γ μ (pc + 3) L (.ref (gtG Γ) :: st) M Q) : AW Γ μ pc L st M Q := by
  intro p e s m args below meth c H locs ls C hP hS hl
  exact va_gets C.1 C.2.1 C.wd.2.2.2.1.1 hS C.own (C.ts _ hw) (fun _ h => h) hd (kk p e s m args below meth c H locs ls C hP hS hl)
theorem AW.getsLN {idx : Nat} (hd : decode (mb μ) pc = .ok (.getstatic idx, 3)) (hw : Cond.fieldLinkNest (my μ).cls idx "ArmSignals" "LESSER" "[I" "ArmSignals" ∈ nestW) (kk : AW Γ μ (pc + 3) L (.ref (gtL Γ) :: st) M Q) : AW Γ μ pc L st M Q := by
  intro p e s m args below meth c H locs ls C hP hS hl
  exact va_getsN C.1 C.2.1 C.wd.2.2.1.1 hS C.own (va_Nw.use rfl (C.wd.2.2.2.2.1 _ hw)) (fun _ h => h) hd (kk p e s m args below meth c H locs ls C hP hS hl)
theorem AW.getsGN {idx : Nat} (hd : decode (mb μ) pc = .ok (.getstatic idx, 3)) (hw : Cond.fieldLinkNest (my μ).cls idx "ArmSignals" "GREATER" "[I" "ArmSignals" ∈ nestW) (kk : AW Γ μ (pc + 3) L (.ref (gtG Γ) :: st) M Q) : AW Γ μ pc L st M Q := by
  intro p e s m args below meth c H locs ls C hP hS hl
  exact va_getsN C.1 C.2.1 C.wd.2.2.2.1.1 hS C.own (va_Nw.use rfl (C.wd.2.2.2.2.1 _ hw)) (fun _ h => h) hd (kk p e s m args below meth c H locs ls C hP hS hl)
theorem AW.taldL {i : Int} (hd : decode (mb μ) pc = .ok (.iaload, 1)) (h0 : 0 ≤ i) (h1 : i < 27) (kk : AW Γ μ (pc + 1) L (vi (tl i.toNat) :: st) M Q) : AW Γ μ pc L (vi i :: .ref (gtL Γ) :: st) M Q := by
  intro p e s m args below meth c H locs ls C hP hS hl
  exact va_ti (v := vi (tl i.toNat)) C.1 C.2.1 C.wd.2.2.1.2 hS (i32_in h0 h1 (by decide)) (by rw [i32_nat ⟨h0, by omega⟩]) hd (kk p e s m args below meth c H locs ls C hP hS hl)
theorem AW.taldG {i : Int} (hd : decode (mb μ) pc = .ok (.iaload, 1)) (h0 : 0 ≤ i) (h1 : i < 27) (kk : AW Γ μ (pc + 1) L (vi (tg i.toNat) :: st) M Q) : AW Γ μ pc L (vi i :: .ref (gtG Γ) :: st) M Q := by
  intro p e s m args below meth c H locs ls C hP hS hl
  exact va_ti (v := vi (tg i.toNat)) C.1 C.2.1 C.wd.2.2.2.1.2 hS (i32_in h0 h1 (by decide)) (by rw [i32_nat ⟨h0, by omega⟩]) hd (kk p e s m args below meth c H locs ls C hP hS hl)
/-- System.arraycopy, of ints, of longs -/
def AC (own : String) (idx : Nat) : Prop := Cond.methodLink own idx arraycopyName ∈ tb ∧ Cond.native arraycopyName ∈ tb ∧ Cond.static arraycopyName ∈ tb ∧ Cond.initialized "java/lang/System" ∈ tb
theorem AW.copyI {idx a b n0 n1 : Nat} {sp dp n : Int} {fa fb : List (Option Nat)} (hd : decode (mb μ) pc = .ok (.invokestatic idx, 3)) (hA : AC (my μ).cls idx) (ha : sh a = (1, n0, fa)) (hb : sh b = (1, n1, fb)) (h1 : 0 ≤ sp) (h2 : 0 ≤ dp) (h3 : 0 ≤ n) (h4 : sp + n ≤ n0) (h5 : dp + n ≤ n1) (hn0 : n0 < 2147483648) (hn1 : n1 < 2147483648) (hf : 1 ≤ mf μ) (hw : (st.map fun v => v.category).sum + (nativeFrameWords "java/lang/System" "arraycopy" 5 + 11) ≤ mo μ) (kk : AW Γ μ (pc + 3) L st (upM M b (va_cpy (M a) (M b) sp.toNat dp.toNat n.toNat)) Q) : AW Γ μ pc L (vi n :: vi dp :: rf Γ b :: vi sp :: rf Γ a :: st) M Q := by
  intro p e s m args below meth c H locs ls C hP hS hl
  have neg : ∀ z : Int, 0 ≤ z → z < 2147483648 → ¬ Int32.ofInt z < 0 := fun z g1 g2 q => by
    rw [i32_0, i32_lt ⟨by omega, g2⟩ ⟨by omega, by omega⟩] at q
    omega
  refine va_copyi (D := gD Γ) C.1 C.2.1 (C.2.2.2.1.trans hl.1.symm) C.own (C.ts _ hA.1) (C.ts _ hA.2.1) (C.ts _ hA.2.2.1) (C.ts _ hA.2.2.2) C.wd.2.1 hP (cells_D C.wd.1 M) hS a b 0 0 (cells_int Γ M ha) (cells_int Γ M hb) rfl rfl rfl (neg _ h1 (by omega)) (neg _ h2 (by omega)) (neg _ h3 (by omega)) ?_ ?_ (fun i hi => rfl) hf hw hd (fun H1 locs1 hP1 hD1 hS1 => ?_)
  · rw [i32_nat ⟨h1, by omega⟩, i32_nat ⟨h3, by omega⟩]; omega
  · rw [i32_nat ⟨h2, by omega⟩, i32_nat ⟨h3, by omega⟩]; omega
  · rw [i32_nat ⟨h1, by omega⟩, i32_nat ⟨h2, by omega⟩, i32_nat ⟨h3, by omega⟩, cpy_i, cells_sint Γ M hb] at hP1
    exact kk p e s m args below meth c H1 locs1 ls C hP1 hS1 hl
theorem AW.copyL {idx a b n0 n1 : Nat} {sp dp n : Int} {fa fb : List (Option Nat)} (hd : decode (mb μ) pc = .ok (.invokestatic idx, 3)) (hA : AC (my μ).cls idx) (ha : sh a = (2, n0, fa)) (hb : sh b = (2, n1, fb)) (h1 : 0 ≤ sp) (h2 : 0 ≤ dp) (h3 : 0 ≤ n) (h4 : sp + n ≤ n0) (h5 : dp + n ≤ n1) (hn0 : n0 < 2147483648) (hn1 : n1 < 2147483648) (hf : 1 ≤ mf μ) (hw : (st.map fun v => v.category).sum + (nativeFrameWords "java/lang/System" "arraycopy" 5 + 11) ≤ mo μ) (kk : AW Γ μ (pc + 3) L st (upM M b (va_cpy (M a) (M b) sp.toNat dp.toNat n.toNat)) Q) : AW Γ μ pc L (vi n :: vi dp :: rf Γ b :: vi sp :: rf Γ a :: st) M Q := by
  intro p e s m args below meth c H locs ls C hP hS hl
  have neg : ∀ z : Int, 0 ≤ z → z < 2147483648 → ¬ Int32.ofInt z < 0 := fun z g1 g2 q => by
    rw [i32_0, i32_lt ⟨by omega, g2⟩ ⟨by omega, by omega⟩] at q
    omega
  refine va_copyl (D := gD Γ) C.1 C.2.1 (C.2.2.2.1.trans hl.1.symm) C.own (C.ts _ hA.1) (C.ts _ hA.2.1) (C.ts _ hA.2.2.1) (C.ts _ hA.2.2.2) C.wd.2.1 hP (cells_D C.wd.1 M) hS a b 1 1 (cells_long Γ M ha) (cells_long Γ M hb) rfl rfl rfl (neg _ h1 (by omega)) (neg _ h2 (by omega)) (neg _ h3 (by omega)) ?_ ?_ (fun i hi => rfl) hf hw hd (fun H1 locs1 hP1 hD1 hS1 => ?_)
  · rw [i32_nat ⟨h1, by omega⟩, i32_nat ⟨h3, by omega⟩]; omega
  · rw [i32_nat ⟨h2, by omega⟩, i32_nat ⟨h3, by omega⟩]; omega
  · rw [i32_nat ⟨h1, by omega⟩, i32_nat ⟨h2, by omega⟩, i32_nat ⟨h3, by omega⟩, cpy_l, cells_slong Γ M hb] at hP1
    exact kk p e s m args below meth c H1 locs1 ls C hP1 hS1 hl
/-- calls -/
theorem ct_go {p : Program} {e : Env} {R : Room} {s : State} {m : MethodId} {args : Array Value} {below : List Frame} {meth : Method} {c : Code} {H : Heap} {locs : List Loc} {nc ns : Nat} {Qw : State → Prop} {ls : Array Slot} {st0 rest : List Value} {a : Array Value} {r : Option FieldType} {Qc : Int → Mm → Prop}
    (hr : va_Run p (gl Γ) e R s m args below meth c H locs nc ns 0 0 (F0 m pc ls st0) rest (Qx Γ r Qc a) (gA Γ)) (hS : va_S (gA Γ) s.heap H locs)
    (kk : ∀ (z : Int) (M' : Mm) (H1 : Heap) (locs1 : List Loc), Qc z M' → va_P (gD Γ) cls10 (cells Γ M') H1 → va_S (gA Γ) s.heap H1 locs1 → W p (gl Γ) e R s m args below meth c H1 locs1 nc ns Qw (F0 m (pc + 3) ls ((rv r z).toList ++ rest))) : W p (gl Γ) e R s m args below meth c H locs nc ns Qw (F0 m pc ls st0) := by
  intro T hT X
  obtain ⟨v, st₀, t, T', L', h0, X', hL, e1, e2, ⟨⟨z, M', hv, hq, hp⟩, hz, hk⟩, st⟩ := hr T hT X
  cases hv
  rw [h0] at hz hk
  obtain ⟨t2, a1, b1⟩ := kk z M' T'.heap (locs ++ L') hq (by rw [e1]; exact hp)
    ⟨Nat.le_trans hS.1 (by rw [e1]; exact hz), fun q h1 h2 => by rw [e1, hk q (Nat.lt_of_lt_of_le h1 hS.1) h2]; exact hS.2.1 q h1 h2, fun q hq => by
      rcases List.mem_append.mp hq with h | h
      · exact hS.2.2 q h
      · exact hL q h⟩ T' rfl X'
  exact ⟨t2, st t2 a1, b1⟩
theorem ct_pre {s : State} {H : Heap} {locs : List Loc} {as : List Value} (hP : va_P (gD Γ) cls10 (cells Γ M) H) (hW : Wd Γ s) (hS : va_S (gA Γ) s.heap H locs) : PreS s H (va_Pc as (fun U => va_P (gD Γ) cls10 (cells Γ M) U.heap ∧ Wd Γ U)) as :=
  ⟨fun a U g mk q => ⟨q.1, q.2.1, q.2.2.calling g mk a⟩, fun U hU hWm => ⟨rfl, by rw [hU]; exact hP, hW.later hWm (by rw [hU]; exact hS)⟩⟩
theorem AW.callS {μ' : MI} {as st0 : List Value} {idx : Nat} {Qc : Int → Mm → Prop} (hC : Ct Γ μ' as M Qc) (hd : decode (mb μ) pc = .ok (.invokestatic idx, 3)) (hM : MS (my μ).cls idx μ' as.length) (hst : st0 = as.reverse ++ st) (hR : mf μ' + 1 ≤ mf μ ∧ 8 + (mn μ' + 11) + mo μ' ≤ mo μ) (hw : (st.map fun v => v.category).sum ≤ 8) (kk : ∀ (z : Int) (M' : Mm), Qc z M' → AW Γ μ (pc + 3) L ((rv (mr μ') z).toList ++ st) M' Q) : AW Γ μ pc L st0 M Q := by
  intro p e s m args below meth c H locs ls C hP hS hl
  obtain ⟨h1, h2, h3, h4, h5⟩ := hM
  refine ct_go (va_runS (As := as) (rest := st) ⟨C.1, C.2.1, C.2.2.2.1, C.own, C.ts⟩ hC ⟨callB_of (ws' := tb) as.length C.ts (tb_good h4) rfl rfl rfl (C.ts _ h3) (C.ts _ h1) h5 hR, C.ts _ h2⟩ (ct_pre hP C.wd hS) rfl rfl hl.1 hst (lv_room hw) hd ⟨Nat.le_refl 0, Nat.le_refl 0⟩) hS (fun z M' H1 locs1 hq hP1 hS1 => kk z M' hq p e s m args below meth c H1 locs1 ls C hP1 hS1 hl)
theorem AW.callN {μ' : MI} {as st0 : List Value} {idx : Nat} {Qc : Int → Mm → Prop} (hC : Ct Γ μ' as M Qc) (hd : decode (mb μ) pc = .ok (.invokestatic idx, 3)) (hM : MN (my μ).cls idx μ' as.length) (hst : st0 = as.reverse ++ st) (hR : mf μ' + 1 ≤ mf μ ∧ 8 + (mn μ' + 11) + mo μ' ≤ mo μ) (hw : (st.map fun v => v.category).sum ≤ 8) (kk : ∀ (z : Int) (M' : Mm), Qc z M' → AW Γ μ (pc + 3) L ((rv (mr μ') z).toList ++ st) M' Q) : AW Γ μ pc L st0 M Q := by
  intro p e s m args below meth c H locs ls C hP hS hl
  obtain ⟨h1, h2, h3, h4, h5⟩ := hM
  refine ct_go (va_runSN (As := as) (rest := st) ⟨C.1, C.2.1, C.2.2.2.1, C.own, C.ts⟩ hC ⟨va_cnB (ws' := tb) as.length C.ts (tb_good h4) rfl rfl rfl (C.wd.2.2.2.2.1 _ h1) (C.ts _ h3) h5 hR, C.ts _ h2, trivial⟩ (ct_pre hP C.wd hS) rfl rfl hl.1 hst (lv_room hw) hd ⟨Nat.le_refl 0, Nat.le_refl 0⟩) hS (fun z M' H1 locs1 hq hP1 hS1 => kk z M' hq p e s m args below meth c H1 locs1 ls C hP1 hS1 hl)
theorem AW.callV {μ' : MI} {as st0 : List Value} {idx ci k : Nat} {fs : List (Option Nat)} {Qc : Int → Mm → Prop} (hC : Ct Γ μ' (rf Γ k :: as) M Qc) (hd : decode (mb μ) pc = .ok (.invokevirtual idx, 3)) (hM : MV (my μ).cls idx μ' ci as.length) (hs : sh k = (0, ci, fs)) (hst : st0 = as.reverse ++ rf Γ k :: st) (hR : mf μ' + 1 ≤ mf μ ∧ 8 + (mn μ' + 11) + mo μ' ≤ mo μ) (hw : (st.map fun v => v.category).sum ≤ 8) (kk : ∀ (z : Int) (M' : Mm), Qc z M' → AW Γ μ (pc + 3) L ((rv (mr μ') z).toList ++ st) M' Q) : AW Γ μ pc L st0 M Q := by
  intro p e s m args below meth c H locs ls C hP hS hl
  obtain ⟨h1, h2, h3, h4, h5, h6, T, N, h7⟩ := hM
  have hpre := ct_pre (as := rf Γ k :: as) hP C.wd hS
  refine ct_go (va_runV (As := as) (b := gad Γ k) (rest := st) (C := (my μ').cls) ⟨C.1, C.2.1, C.2.2.2.1, C.own, C.ts⟩ hC ⟨callB_of (ws' := tb) as.length C.ts (tb_good h5) rfl rfl rfl (C.ts _ h4) (C.ts _ h1) h6 hR, C.ts _ h2, C.ts _ h3⟩ ⟨hpre.1, va_recv C.wd.2.1 hP h7 (cells_obj Γ M hs), hpre.2⟩ rfl rfl hl.1 hst (lv_room hw) hd ⟨Nat.le_refl 0, Nat.le_refl 0⟩) hS (fun z M' H1 locs1 hq hP1 hS1 => kk z M' hq p e s m args below meth c H1 locs1 ls C hP1 hS1 hl)
end AWheap
end

section
/-- a private method of a class that the tables say can be made, by its rows of tables_1 -/
def lw_okq (q : MethodName × Nat) : Prop := (q.1.cls ≠ "java/lang/invoke/MethodHandle" ∧ q.1.cls ≠ "java/lang/invoke/VarHandle") ∧ Cond.instantiable q.1.cls q.2 ∈ tables_1 ∧ Cond.privateMethod q.1 ∈ tables_1 ∧ Cond.instanceMethod q.1 ∈ tables_1
theorem lw_p0 : lw_okq (⟨"TunnelPeace", "found", "(I)I"⟩, 8) := ⟨⟨by decide +kernel, by decide +kernel⟩, List.mem_of_getElem? (i := 16) (by decide +kernel), List.mem_of_getElem? (i := 199) (by decide +kernel), List.mem_of_getElem? (i := 200) (by decide +kernel)⟩
theorem lw_p1 : lw_okq (⟨"TunnelPeace$Person", "stopAheadOfStripe", "(I)V"⟩, 6) := ⟨⟨by decide +kernel, by decide +kernel⟩, List.mem_of_getElem? (i := 31) (by decide +kernel), List.mem_of_getElem? (i := 320) (by decide +kernel), List.mem_of_getElem? (i := 321) (by decide +kernel)⟩
theorem lw_p2 : lw_okq (⟨"TunnelPeace$Tunnel", "meetAll", "()V"⟩, 7) := ⟨⟨by decide +kernel, by decide +kernel⟩, List.mem_of_getElem? (i := 24) (by decide +kernel), List.mem_of_getElem? (i := 324) (by decide +kernel), List.mem_of_getElem? (i := 325) (by decide +kernel)⟩
theorem lw_p3 : lw_okq (⟨"TunnelPeace", "orNone", "(I)I"⟩, 8) := ⟨⟨by decide +kernel, by decide +kernel⟩, List.mem_of_getElem? (i := 16) (by decide +kernel), List.mem_of_getElem? (i := 406) (by decide +kernel), List.mem_of_getElem? (i := 407) (by decide +kernel)⟩
theorem lw_p4 : lw_okq (⟨"TunnelPeace$Forecast", "tryWith", "(III)V"⟩, 2) := ⟨⟨by decide +kernel, by decide +kernel⟩, List.mem_of_getElem? (i := 104) (by decide +kernel), List.mem_of_getElem? (i := 444) (by decide +kernel), List.mem_of_getElem? (i := 445) (by decide +kernel)⟩
theorem lw_p5 : lw_okq (⟨"TunnelPeace$Forecast", "keepsApart", "(II)Z"⟩, 2) := ⟨⟨by decide +kernel, by decide +kernel⟩, List.mem_of_getElem? (i := 104) (by decide +kernel), List.mem_of_getElem? (i := 481) (by decide +kernel), List.mem_of_getElem? (i := 482) (by decide +kernel)⟩
theorem lw_p6 : lw_okq (⟨"TunnelPeace", "toldFinding", "(II)I"⟩, 8) := ⟨⟨by decide +kernel, by decide +kernel⟩, List.mem_of_getElem? (i := 16) (by decide +kernel), List.mem_of_getElem? (i := 494) (by decide +kernel), List.mem_of_getElem? (i := 495) (by decide +kernel)⟩
theorem lw_p7 : lw_okq (⟨"TunnelPeace", "sheetFinding", "(I)I"⟩, 8) := ⟨⟨by decide +kernel, by decide +kernel⟩, List.mem_of_getElem? (i := 16) (by decide +kernel), List.mem_of_getElem? (i := 498) (by decide +kernel), List.mem_of_getElem? (i := 499) (by decide +kernel)⟩
theorem lw_p8 : lw_okq (⟨"TunnelPeace$Forecast", "goesAsTold", "(LTunnelPeace$Sheet;I)Z"⟩, 2) := ⟨⟨by decide +kernel, by decide +kernel⟩, List.mem_of_getElem? (i := 104) (by decide +kernel), List.mem_of_getElem? (i := 511) (by decide +kernel), List.mem_of_getElem? (i := 512) (by decide +kernel)⟩
theorem lw_p9 : lw_okq (⟨"TunnelPeace$Tunnel", "draw", "()I"⟩, 7) := ⟨⟨by decide +kernel, by decide +kernel⟩, List.mem_of_getElem? (i := 24) (by decide +kernel), List.mem_of_getElem? (i := 527) (by decide +kernel), List.mem_of_getElem? (i := 528) (by decide +kernel)⟩
theorem lw_p10 : lw_okq (⟨"TunnelPeace$Tunnel", "meetsSomebodyAt", "(II)Z"⟩, 7) := ⟨⟨by decide +kernel, by decide +kernel⟩, List.mem_of_getElem? (i := 24) (by decide +kernel), List.mem_of_getElem? (i := 542) (by decide +kernel), List.mem_of_getElem? (i := 543) (by decide +kernel)⟩
theorem lw_p11 : lw_okq (⟨"TunnelPeace$Tape", "advance", "()V"⟩, 6) := ⟨⟨by decide +kernel, by decide +kernel⟩, List.mem_of_getElem? (i := 117) (by decide +kernel), List.mem_of_getElem? (i := 579) (by decide +kernel), List.mem_of_getElem? (i := 580) (by decide +kernel)⟩
theorem lw_p12 : lw_okq (⟨"TunnelPeace$Tape", "takeWord", "(Ljava/lang/String;)Z"⟩, 6) := ⟨⟨by decide +kernel, by decide +kernel⟩, List.mem_of_getElem? (i := 117) (by decide +kernel), List.mem_of_getElem? (i := 588) (by decide +kernel), List.mem_of_getElem? (i := 589) (by decide +kernel)⟩
theorem lw_p13 : lw_okq (⟨"TunnelPeace$Tape", "takePlace", "(LTunnelPeace$Tunnel;)Z"⟩, 6) := ⟨⟨by decide +kernel, by decide +kernel⟩, List.mem_of_getElem? (i := 117) (by decide +kernel), List.mem_of_getElem? (i := 640) (by decide +kernel), List.mem_of_getElem? (i := 641) (by decide +kernel)⟩
theorem lw_p14 : lw_okq (⟨"TunnelPeace$Tape", "takeNumber", "(I)I"⟩, 6) := ⟨⟨by decide +kernel, by decide +kernel⟩, List.mem_of_getElem? (i := 117) (by decide +kernel), List.mem_of_getElem? (i := 644) (by decide +kernel), List.mem_of_getElem? (i := 645) (by decide +kernel)⟩
theorem lw_p15 : lw_okq (⟨"TunnelPeace$Tape", "takeGuns", "(LTunnelPeace$Tunnel;)Z"⟩, 6) := ⟨⟨by decide +kernel, by decide +kernel⟩, List.mem_of_getElem? (i := 117) (by decide +kernel), List.mem_of_getElem? (i := 649) (by decide +kernel), List.mem_of_getElem? (i := 650) (by decide +kernel)⟩
def lw_privs_1 : List (MethodName × Nat) := [(⟨"TunnelPeace", "found", "(I)I"⟩, 8), (⟨"TunnelPeace$Person", "stopAheadOfStripe", "(I)V"⟩, 6), (⟨"TunnelPeace$Tunnel", "meetAll", "()V"⟩, 7), (⟨"TunnelPeace", "orNone", "(I)I"⟩, 8), (⟨"TunnelPeace$Forecast", "tryWith", "(III)V"⟩, 2), (⟨"TunnelPeace$Forecast", "keepsApart", "(II)Z"⟩, 2), (⟨"TunnelPeace", "toldFinding", "(II)I"⟩, 8), (⟨"TunnelPeace", "sheetFinding", "(I)I"⟩, 8), (⟨"TunnelPeace$Forecast", "goesAsTold", "(LTunnelPeace$Sheet;I)Z"⟩, 2), (⟨"TunnelPeace$Tunnel", "draw", "()I"⟩, 7), (⟨"TunnelPeace$Tunnel", "meetsSomebodyAt", "(II)Z"⟩, 7), (⟨"TunnelPeace$Tape", "advance", "()V"⟩, 6), (⟨"TunnelPeace$Tape", "takeWord", "(Ljava/lang/String;)Z"⟩, 6), (⟨"TunnelPeace$Tape", "takePlace", "(LTunnelPeace$Tunnel;)Z"⟩, 6), (⟨"TunnelPeace$Tape", "takeNumber", "(I)I"⟩, 6), (⟨"TunnelPeace$Tape", "takeGuns", "(LTunnelPeace$Tunnel;)Z"⟩, 6)]
theorem lw_r1 : ∀ q ∈ lw_privs_1, lw_okq q := List.forall_mem_cons.mpr ⟨lw_p0, List.forall_mem_cons.mpr ⟨lw_p1, List.forall_mem_cons.mpr ⟨lw_p2, List.forall_mem_cons.mpr ⟨lw_p3, List.forall_mem_cons.mpr ⟨lw_p4, List.forall_mem_cons.mpr ⟨lw_p5, List.forall_mem_cons.mpr ⟨lw_p6, List.forall_mem_cons.mpr ⟨lw_p7, List.forall_mem_cons.mpr ⟨lw_p8, List.forall_mem_cons.mpr ⟨lw_p9, List.forall_mem_cons.mpr ⟨lw_p10, List.forall_mem_cons.mpr ⟨lw_p11, List.forall_mem_cons.mpr ⟨lw_p12, List.forall_mem_cons.mpr ⟨lw_p13, List.forall_mem_cons.mpr ⟨lw_p14, List.forall_mem_cons.mpr ⟨lw_p15, fun _ h => absurd h List.not_mem_nil⟩⟩⟩⟩⟩⟩⟩⟩⟩⟩⟩⟩⟩⟩⟩⟩
theorem lw_p16 : lw_okq (⟨"TunnelPeace$Tape", "takePerson", "(LTunnelPeace$Tunnel;)Z"⟩, 6) := ⟨⟨by decide +kernel, by decide +kernel⟩, List.mem_of_getElem? (i := 117) (by decide +kernel), List.mem_of_getElem? (i := 653) (by decide +kernel), List.mem_of_getElem? (i := 654) (by decide +kernel)⟩
theorem lw_p17 : lw_okq (⟨"TunnelPeace$Tape", "takeKind", "()I"⟩, 6) := ⟨⟨by decide +kernel, by decide +kernel⟩, List.mem_of_getElem? (i := 117) (by decide +kernel), List.mem_of_getElem? (i := 658) (by decide +kernel), List.mem_of_getElem? (i := 659) (by decide +kernel)⟩
theorem lw_p18 : lw_okq (⟨"TunnelPeace$Tape", "takeOption", "(Ljava/lang/String;LTunnelPeace$Person;I)Z"⟩, 6) := ⟨⟨by decide +kernel, by decide +kernel⟩, List.mem_of_getElem? (i := 117) (by decide +kernel), List.mem_of_getElem? (i := 674) (by decide +kernel), List.mem_of_getElem? (i := 675) (by decide +kernel)⟩
theorem lw_p19 : lw_okq (⟨"TunnelPeace$Tape", "takeSemicolon", "()Z"⟩, 6) := ⟨⟨by decide +kernel, by decide +kernel⟩, List.mem_of_getElem? (i := 117) (by decide +kernel), List.mem_of_getElem? (i := 683) (by decide +kernel), List.mem_of_getElem? (i := 684) (by decide +kernel)⟩
theorem lw_p20 : lw_okq (⟨"TunnelPeace", "allFindings", "()I"⟩, 8) := ⟨⟨by decide +kernel, by decide +kernel⟩, List.mem_of_getElem? (i := 16) (by decide +kernel), List.mem_of_getElem? (i := 773) (by decide +kernel), List.mem_of_getElem? (i := 774) (by decide +kernel)⟩
theorem lw_p21 : lw_okq (⟨"TunnelPeaceModel", "become", "(II)I"⟩, 20) := ⟨⟨by decide +kernel, by decide +kernel⟩, List.mem_of_getElem? (i := 777) (by decide +kernel), List.mem_of_getElem? (i := 863) (by decide +kernel), List.mem_of_getElem? (i := 864) (by decide +kernel)⟩
theorem lw_p22 : lw_okq (⟨"TunnelPeaceModel", "finding", "(I)I"⟩, 20) := ⟨⟨by decide +kernel, by decide +kernel⟩, List.mem_of_getElem? (i := 777) (by decide +kernel), List.mem_of_getElem? (i := 868) (by decide +kernel), List.mem_of_getElem? (i := 869) (by decide +kernel)⟩
theorem lw_p23 : lw_okq (⟨"TunnelPeaceModel", "comes", "(II)I"⟩, 20) := ⟨⟨by decide +kernel, by decide +kernel⟩, List.mem_of_getElem? (i := 777) (by decide +kernel), List.mem_of_getElem? (i := 894) (by decide +kernel), List.mem_of_getElem? (i := 895) (by decide +kernel)⟩
theorem lw_p24 : lw_okq (⟨"TunnelPeaceModel", "isPerson", "(I)Z"⟩, 20) := ⟨⟨by decide +kernel, by decide +kernel⟩, List.mem_of_getElem? (i := 777) (by decide +kernel), List.mem_of_getElem? (i := 908) (by decide +kernel), List.mem_of_getElem? (i := 909) (by decide +kernel)⟩
theorem lw_p25 : lw_okq (⟨"TunnelPeaceModel", "told", "(II)I"⟩, 20) := ⟨⟨by decide +kernel, by decide +kernel⟩, List.mem_of_getElem? (i := 777) (by decide +kernel), List.mem_of_getElem? (i := 912) (by decide +kernel), List.mem_of_getElem? (i := 913) (by decide +kernel)⟩
theorem lw_p26 : lw_okq (⟨"TunnelPeaceModel", "steps", "(I)I"⟩, 20) := ⟨⟨by decide +kernel, by decide +kernel⟩, List.mem_of_getElem? (i := 777) (by decide +kernel), List.mem_of_getElem? (i := 916) (by decide +kernel), List.mem_of_getElem? (i := 917) (by decide +kernel)⟩
theorem lw_p27 : lw_okq (⟨"TunnelPeaceModel", "personIs", "(II)I"⟩, 20) := ⟨⟨by decide +kernel, by decide +kernel⟩, List.mem_of_getElem? (i := 777) (by decide +kernel), List.mem_of_getElem? (i := 920) (by decide +kernel), List.mem_of_getElem? (i := 921) (by decide +kernel)⟩
theorem lw_p28 : lw_okq (⟨"TunnelPeaceModel", "crosses", "(I)Z"⟩, 20) := ⟨⟨by decide +kernel, by decide +kernel⟩, List.mem_of_getElem? (i := 777) (by decide +kernel), List.mem_of_getElem? (i := 925) (by decide +kernel), List.mem_of_getElem? (i := 926) (by decide +kernel)⟩
theorem lw_p29 : lw_okq (⟨"TunnelPeaceModel", "calms", "(I)I"⟩, 20) := ⟨⟨by decide +kernel, by decide +kernel⟩, List.mem_of_getElem? (i := 777) (by decide +kernel), List.mem_of_getElem? (i := 929) (by decide +kernel), List.mem_of_getElem? (i := 930) (by decide +kernel)⟩
theorem lw_p30 : lw_okq (⟨"TunnelPeaceModel", "tires", "(I)I"⟩, 20) := ⟨⟨by decide +kernel, by decide +kernel⟩, List.mem_of_getElem? (i := 777) (by decide +kernel), List.mem_of_getElem? (i := 933) (by decide +kernel), List.mem_of_getElem? (i := 934) (by decide +kernel)⟩
theorem lw_p31 : lw_okq (⟨"TunnelPeaceModel", "wouldMeet", "(II)Z"⟩, 20) := ⟨⟨by decide +kernel, by decide +kernel⟩, List.mem_of_getElem? (i := 777) (by decide +kernel), List.mem_of_getElem? (i := 952) (by decide +kernel), List.mem_of_getElem? (i := 953) (by decide +kernel)⟩
def lw_privs_2 : List (MethodName × Nat) := [(⟨"TunnelPeace$Tape", "takePerson", "(LTunnelPeace$Tunnel;)Z"⟩, 6), (⟨"TunnelPeace$Tape", "takeKind", "()I"⟩, 6), (⟨"TunnelPeace$Tape", "takeOption", "(Ljava/lang/String;LTunnelPeace$Person;I)Z"⟩, 6), (⟨"TunnelPeace$Tape", "takeSemicolon", "()Z"⟩, 6), (⟨"TunnelPeace", "allFindings", "()I"⟩, 8), (⟨"TunnelPeaceModel", "become", "(II)I"⟩, 20), (⟨"TunnelPeaceModel", "finding", "(I)I"⟩, 20), (⟨"TunnelPeaceModel", "comes", "(II)I"⟩, 20), (⟨"TunnelPeaceModel", "isPerson", "(I)Z"⟩, 20), (⟨"TunnelPeaceModel", "told", "(II)I"⟩, 20), (⟨"TunnelPeaceModel", "steps", "(I)I"⟩, 20), (⟨"TunnelPeaceModel", "personIs", "(II)I"⟩, 20), (⟨"TunnelPeaceModel", "crosses", "(I)Z"⟩, 20), (⟨"TunnelPeaceModel", "calms", "(I)I"⟩, 20), (⟨"TunnelPeaceModel", "tires", "(I)I"⟩, 20), (⟨"TunnelPeaceModel", "wouldMeet", "(II)Z"⟩, 20)]
theorem lw_r2 : ∀ q ∈ lw_privs_2, lw_okq q := List.forall_mem_cons.mpr ⟨lw_p16, List.forall_mem_cons.mpr ⟨lw_p17, List.forall_mem_cons.mpr ⟨lw_p18, List.forall_mem_cons.mpr ⟨lw_p19, List.forall_mem_cons.mpr ⟨lw_p20, List.forall_mem_cons.mpr ⟨lw_p21, List.forall_mem_cons.mpr ⟨lw_p22, List.forall_mem_cons.mpr ⟨lw_p23, List.forall_mem_cons.mpr ⟨lw_p24, List.forall_mem_cons.mpr ⟨lw_p25, List.forall_mem_cons.mpr ⟨lw_p26, List.forall_mem_cons.mpr ⟨lw_p27, List.forall_mem_cons.mpr ⟨lw_p28, List.forall_mem_cons.mpr ⟨lw_p29, List.forall_mem_cons.mpr ⟨lw_p30, List.forall_mem_cons.mpr ⟨lw_p31, fun _ h => absurd h List.not_mem_nil⟩⟩⟩⟩⟩⟩⟩⟩⟩⟩⟩⟩⟩⟩⟩⟩
theorem lw_p32 : lw_okq (⟨"TunnelPeaceModel", "daysGo", "(I)V"⟩, 20) := ⟨⟨by decide +kernel, by decide +kernel⟩, List.mem_of_getElem? (i := 777) (by decide +kernel), List.mem_of_getElem? (i := 962) (by decide +kernel), List.mem_of_getElem? (i := 963) (by decide +kernel)⟩
theorem lw_p33 : lw_okq (⟨"TunnelPeaceModel", "day", "()V"⟩, 20) := ⟨⟨by decide +kernel, by decide +kernel⟩, List.mem_of_getElem? (i := 777) (by decide +kernel), List.mem_of_getElem? (i := 966) (by decide +kernel), List.mem_of_getElem? (i := 967) (by decide +kernel)⟩
theorem lw_p34 : lw_okq (⟨"TunnelPeaceModel", "placeNow", "()I"⟩, 20) := ⟨⟨by decide +kernel, by decide +kernel⟩, List.mem_of_getElem? (i := 777) (by decide +kernel), List.mem_of_getElem? (i := 970) (by decide +kernel), List.mem_of_getElem? (i := 971) (by decide +kernel)⟩
theorem lw_p35 : lw_okq (⟨"TunnelPeaceModel", "walks", "(II)V"⟩, 20) := ⟨⟨by decide +kernel, by decide +kernel⟩, List.mem_of_getElem? (i := 777) (by decide +kernel), List.mem_of_getElem? (i := 974) (by decide +kernel), List.mem_of_getElem? (i := 975) (by decide +kernel)⟩
theorem lw_p36 : lw_okq (⟨"TunnelPeaceModel", "meet", "(II)V"⟩, 20) := ⟨⟨by decide +kernel, by decide +kernel⟩, List.mem_of_getElem? (i := 777) (by decide +kernel), List.mem_of_getElem? (i := 982) (by decide +kernel), List.mem_of_getElem? (i := 983) (by decide +kernel)⟩
theorem lw_p37 : lw_okq (⟨"TunnelPeaceModel", "more", "(III)V"⟩, 20) := ⟨⟨by decide +kernel, by decide +kernel⟩, List.mem_of_getElem? (i := 777) (by decide +kernel), List.mem_of_getElem? (i := 986) (by decide +kernel), List.mem_of_getElem? (i := 987) (by decide +kernel)⟩
theorem lw_p38 : lw_okq (⟨"TunnelPeaceModel", "metInAll", "()I"⟩, 20) := ⟨⟨by decide +kernel, by decide +kernel⟩, List.mem_of_getElem? (i := 777) (by decide +kernel), List.mem_of_getElem? (i := 994) (by decide +kernel), List.mem_of_getElem? (i := 995) (by decide +kernel)⟩
theorem lw_p39 : lw_okq (⟨"TunnelPeaceModel", "strangers", "()I"⟩, 20) := ⟨⟨by decide +kernel, by decide +kernel⟩, List.mem_of_getElem? (i := 777) (by decide +kernel), List.mem_of_getElem? (i := 998) (by decide +kernel), List.mem_of_getElem? (i := 999) (by decide +kernel)⟩
theorem lw_p40 : lw_okq (⟨"TunnelPeaceModel", "subscribers", "()I"⟩, 20) := ⟨⟨by decide +kernel, by decide +kernel⟩, List.mem_of_getElem? (i := 777) (by decide +kernel), List.mem_of_getElem? (i := 1002) (by decide +kernel), List.mem_of_getElem? (i := 1003) (by decide +kernel)⟩
theorem lw_p41 : lw_okq (⟨"TunnelPeaceModel", "cellsOf", "()I"⟩, 20) := ⟨⟨by decide +kernel, by decide +kernel⟩, List.mem_of_getElem? (i := 777) (by decide +kernel), List.mem_of_getElem? (i := 1006) (by decide +kernel), List.mem_of_getElem? (i := 1007) (by decide +kernel)⟩
theorem lw_p42 : lw_okq (⟨"TunnelPeaceModel", "pairs", "()I"⟩, 20) := ⟨⟨by decide +kernel, by decide +kernel⟩, List.mem_of_getElem? (i := 777) (by decide +kernel), List.mem_of_getElem? (i := 1010) (by decide +kernel), List.mem_of_getElem? (i := 1011) (by decide +kernel)⟩
theorem lw_p43 : lw_okq (⟨"TunnelPeaceModel", "metMost", "()I"⟩, 20) := ⟨⟨by decide +kernel, by decide +kernel⟩, List.mem_of_getElem? (i := 777) (by decide +kernel), List.mem_of_getElem? (i := 1014) (by decide +kernel), List.mem_of_getElem? (i := 1015) (by decide +kernel)⟩
theorem lw_p44 : lw_okq (⟨"TunnelPeaceModel", "putBack", "(I)I"⟩, 20) := ⟨⟨by decide +kernel, by decide +kernel⟩, List.mem_of_getElem? (i := 777) (by decide +kernel), List.mem_of_getElem? (i := 1025) (by decide +kernel), List.mem_of_getElem? (i := 1026) (by decide +kernel)⟩
theorem lw_p45 : lw_okq (⟨"TunnelPeaceModel", "behind", "(II)I"⟩, 20) := ⟨⟨by decide +kernel, by decide +kernel⟩, List.mem_of_getElem? (i := 777) (by decide +kernel), List.mem_of_getElem? (i := 1033) (by decide +kernel), List.mem_of_getElem? (i := 1034) (by decide +kernel)⟩
theorem lw_p46 : lw_okq (⟨"TunnelPeaceModel", "daysTo", "(III)I"⟩, 20) := ⟨⟨by decide +kernel, by decide +kernel⟩, List.mem_of_getElem? (i := 777) (by decide +kernel), List.mem_of_getElem? (i := 1041) (by decide +kernel), List.mem_of_getElem? (i := 1042) (by decide +kernel)⟩
theorem lw_p47 : lw_okq (⟨"TunnelPeaceModel", "orNone", "(I)I"⟩, 20) := ⟨⟨by decide +kernel, by decide +kernel⟩, List.mem_of_getElem? (i := 777) (by decide +kernel), List.mem_of_getElem? (i := 1045) (by decide +kernel), List.mem_of_getElem? (i := 1046) (by decide +kernel)⟩
def lw_privs_3 : List (MethodName × Nat) := [(⟨"TunnelPeaceModel", "daysGo", "(I)V"⟩, 20), (⟨"TunnelPeaceModel", "day", "()V"⟩, 20), (⟨"TunnelPeaceModel", "placeNow", "()I"⟩, 20), (⟨"TunnelPeaceModel", "walks", "(II)V"⟩, 20), (⟨"TunnelPeaceModel", "meet", "(II)V"⟩, 20), (⟨"TunnelPeaceModel", "more", "(III)V"⟩, 20), (⟨"TunnelPeaceModel", "metInAll", "()I"⟩, 20), (⟨"TunnelPeaceModel", "strangers", "()I"⟩, 20), (⟨"TunnelPeaceModel", "subscribers", "()I"⟩, 20), (⟨"TunnelPeaceModel", "cellsOf", "()I"⟩, 20), (⟨"TunnelPeaceModel", "pairs", "()I"⟩, 20), (⟨"TunnelPeaceModel", "metMost", "()I"⟩, 20), (⟨"TunnelPeaceModel", "putBack", "(I)I"⟩, 20), (⟨"TunnelPeaceModel", "behind", "(II)I"⟩, 20), (⟨"TunnelPeaceModel", "daysTo", "(III)I"⟩, 20), (⟨"TunnelPeaceModel", "orNone", "(I)I"⟩, 20)]
theorem lw_r3 : ∀ q ∈ lw_privs_3, lw_okq q := List.forall_mem_cons.mpr ⟨lw_p32, List.forall_mem_cons.mpr ⟨lw_p33, List.forall_mem_cons.mpr ⟨lw_p34, List.forall_mem_cons.mpr ⟨lw_p35, List.forall_mem_cons.mpr ⟨lw_p36, List.forall_mem_cons.mpr ⟨lw_p37, List.forall_mem_cons.mpr ⟨lw_p38, List.forall_mem_cons.mpr ⟨lw_p39, List.forall_mem_cons.mpr ⟨lw_p40, List.forall_mem_cons.mpr ⟨lw_p41, List.forall_mem_cons.mpr ⟨lw_p42, List.forall_mem_cons.mpr ⟨lw_p43, List.forall_mem_cons.mpr ⟨lw_p44, List.forall_mem_cons.mpr ⟨lw_p45, List.forall_mem_cons.mpr ⟨lw_p46, List.forall_mem_cons.mpr ⟨lw_p47, fun _ h => absurd h List.not_mem_nil⟩⟩⟩⟩⟩⟩⟩⟩⟩⟩⟩⟩⟩⟩⟩⟩
theorem lw_p48 : lw_okq (⟨"TunnelPeaceModel", "calmest", "(III)I"⟩, 20) := ⟨⟨by decide +kernel, by decide +kernel⟩, List.mem_of_getElem? (i := 777) (by decide +kernel), List.mem_of_getElem? (i := 1065) (by decide +kernel), List.mem_of_getElem? (i := 1066) (by decide +kernel)⟩
theorem lw_p49 : lw_okq (⟨"TunnelPeaceModel", "firstFor", "(IIIIII)I"⟩, 20) := ⟨⟨by decide +kernel, by decide +kernel⟩, List.mem_of_getElem? (i := 777) (by decide +kernel), List.mem_of_getElem? (i := 1077) (by decide +kernel), List.mem_of_getElem? (i := 1078) (by decide +kernel)⟩
theorem lw_p50 : lw_okq (⟨"TunnelPeaceModel", "nobodyMeets", "(II)Z"⟩, 20) := ⟨⟨by decide +kernel, by decide +kernel⟩, List.mem_of_getElem? (i := 777) (by decide +kernel), List.mem_of_getElem? (i := 1092) (by decide +kernel), List.mem_of_getElem? (i := 1093) (by decide +kernel)⟩
theorem lw_p51 : lw_okq (⟨"TunnelPeaceModel", "lacks", "(IZ)I"⟩, 20) := ⟨⟨by decide +kernel, by decide +kernel⟩, List.mem_of_getElem? (i := 777) (by decide +kernel), List.mem_of_getElem? (i := 1100) (by decide +kernel), List.mem_of_getElem? (i := 1101) (by decide +kernel)⟩
theorem lw_p52 : lw_okq (⟨"TunnelPeaceModel", "fitting", "(IIII)I"⟩, 20) := ⟨⟨by decide +kernel, by decide +kernel⟩, List.mem_of_getElem? (i := 777) (by decide +kernel), List.mem_of_getElem? (i := 1108) (by decide +kernel), List.mem_of_getElem? (i := 1109) (by decide +kernel)⟩
theorem lw_p53 : lw_okq (⟨"TunnelPeaceModel", "isSo", "(II)Z"⟩, 20) := ⟨⟨by decide +kernel, by decide +kernel⟩, List.mem_of_getElem? (i := 777) (by decide +kernel), List.mem_of_getElem? (i := 1112) (by decide +kernel), List.mem_of_getElem? (i := 1113) (by decide +kernel)⟩
theorem lw_p54 : lw_okq (⟨"TunnelPeaceModel", "drawn", "()I"⟩, 20) := ⟨⟨by decide +kernel, by decide +kernel⟩, List.mem_of_getElem? (i := 777) (by decide +kernel), List.mem_of_getElem? (i := 1124) (by decide +kernel), List.mem_of_getElem? (i := 1125) (by decide +kernel)⟩
theorem lw_p55 : lw_okq (⟨"TunnelPeaceModel", "meetsSomebodyAt", "(II)Z"⟩, 20) := ⟨⟨by decide +kernel, by decide +kernel⟩, List.mem_of_getElem? (i := 777) (by decide +kernel), List.mem_of_getElem? (i := 1133) (by decide +kernel), List.mem_of_getElem? (i := 1134) (by decide +kernel)⟩
theorem lw_p56 : lw_okq (⟨"TunnelPeaceModel", "token", "()V"⟩, 20) := ⟨⟨by decide +kernel, by decide +kernel⟩, List.mem_of_getElem? (i := 777) (by decide +kernel), List.mem_of_getElem? (i := 1153) (by decide +kernel), List.mem_of_getElem? (i := 1154) (by decide +kernel)⟩
theorem lw_p57 : lw_okq (⟨"TunnelPeaceModel", "byteAt", "(I)I"⟩, 20) := ⟨⟨by decide +kernel, by decide +kernel⟩, List.mem_of_getElem? (i := 777) (by decide +kernel), List.mem_of_getElem? (i := 1157) (by decide +kernel), List.mem_of_getElem? (i := 1158) (by decide +kernel)⟩
theorem lw_p58 : lw_okq (⟨"TunnelPeaceModel", "readItem", "()V"⟩, 20) := ⟨⟨by decide +kernel, by decide +kernel⟩, List.mem_of_getElem? (i := 777) (by decide +kernel), List.mem_of_getElem? (i := 1161) (by decide +kernel), List.mem_of_getElem? (i := 1162) (by decide +kernel)⟩
theorem lw_p59 : lw_okq (⟨"TunnelPeaceModel", "isWord", "(Ljava/lang/String;)Z"⟩, 20) := ⟨⟨by decide +kernel, by decide +kernel⟩, List.mem_of_getElem? (i := 777) (by decide +kernel), List.mem_of_getElem? (i := 1165) (by decide +kernel), List.mem_of_getElem? (i := 1166) (by decide +kernel)⟩
theorem lw_p60 : lw_okq (⟨"TunnelPeaceModel", "readPerson", "(I)V"⟩, 20) := ⟨⟨by decide +kernel, by decide +kernel⟩, List.mem_of_getElem? (i := 777) (by decide +kernel), List.mem_of_getElem? (i := 1171) (by decide +kernel), List.mem_of_getElem? (i := 1172) (by decide +kernel)⟩
theorem lw_p61 : lw_okq (⟨"TunnelPeaceModel", "must", "(Z)V"⟩, 20) := ⟨⟨by decide +kernel, by decide +kernel⟩, List.mem_of_getElem? (i := 777) (by decide +kernel), List.mem_of_getElem? (i := 1175) (by decide +kernel), List.mem_of_getElem? (i := 1176) (by decide +kernel)⟩
theorem lw_p62 : lw_okq (⟨"TunnelPeaceModel", "number", "(II)I"⟩, 20) := ⟨⟨by decide +kernel, by decide +kernel⟩, List.mem_of_getElem? (i := 777) (by decide +kernel), List.mem_of_getElem? (i := 1179) (by decide +kernel), List.mem_of_getElem? (i := 1180) (by decide +kernel)⟩
theorem lw_p63 : lw_okq (⟨"TunnelPeaceModel", "takesWord", "(Ljava/lang/String;)Z"⟩, 20) := ⟨⟨by decide +kernel, by decide +kernel⟩, List.mem_of_getElem? (i := 777) (by decide +kernel), List.mem_of_getElem? (i := 1184) (by decide +kernel), List.mem_of_getElem? (i := 1185) (by decide +kernel)⟩
def lw_privs_4 : List (MethodName × Nat) := [(⟨"TunnelPeaceModel", "calmest", "(III)I"⟩, 20), (⟨"TunnelPeaceModel", "firstFor", "(IIIIII)I"⟩, 20), (⟨"TunnelPeaceModel", "nobodyMeets", "(II)Z"⟩, 20), (⟨"TunnelPeaceModel", "lacks", "(IZ)I"⟩, 20), (⟨"TunnelPeaceModel", "fitting", "(IIII)I"⟩, 20), (⟨"TunnelPeaceModel", "isSo", "(II)Z"⟩, 20), (⟨"TunnelPeaceModel", "drawn", "()I"⟩, 20), (⟨"TunnelPeaceModel", "meetsSomebodyAt", "(II)Z"⟩, 20), (⟨"TunnelPeaceModel", "token", "()V"⟩, 20), (⟨"TunnelPeaceModel", "byteAt", "(I)I"⟩, 20), (⟨"TunnelPeaceModel", "readItem", "()V"⟩, 20), (⟨"TunnelPeaceModel", "isWord", "(Ljava/lang/String;)Z"⟩, 20), (⟨"TunnelPeaceModel", "readPerson", "(I)V"⟩, 20), (⟨"TunnelPeaceModel", "must", "(Z)V"⟩, 20), (⟨"TunnelPeaceModel", "number", "(II)I"⟩, 20), (⟨"TunnelPeaceModel", "takesWord", "(Ljava/lang/String;)Z"⟩, 20)]
theorem lw_r4 : ∀ q ∈ lw_privs_4, lw_okq q := List.forall_mem_cons.mpr ⟨lw_p48, List.forall_mem_cons.mpr ⟨lw_p49, List.forall_mem_cons.mpr ⟨lw_p50, List.forall_mem_cons.mpr ⟨lw_p51, List.forall_mem_cons.mpr ⟨lw_p52, List.forall_mem_cons.mpr ⟨lw_p53, List.forall_mem_cons.mpr ⟨lw_p54, List.forall_mem_cons.mpr ⟨lw_p55, List.forall_mem_cons.mpr ⟨lw_p56, List.forall_mem_cons.mpr ⟨lw_p57, List.forall_mem_cons.mpr ⟨lw_p58, List.forall_mem_cons.mpr ⟨lw_p59, List.forall_mem_cons.mpr ⟨lw_p60, List.forall_mem_cons.mpr ⟨lw_p61, List.forall_mem_cons.mpr ⟨lw_p62, List.forall_mem_cons.mpr ⟨lw_p63, fun _ h => absurd h List.not_mem_nil⟩⟩⟩⟩⟩⟩⟩⟩⟩⟩⟩⟩⟩⟩⟩⟩
theorem lw_p64 : lw_okq (⟨"TunnelPeaceModel", "addItem", "(IIIIII)V"⟩, 20) := ⟨⟨by decide +kernel, by decide +kernel⟩, List.mem_of_getElem? (i := 777) (by decide +kernel), List.mem_of_getElem? (i := 1191) (by decide +kernel), List.mem_of_getElem? (i := 1192) (by decide +kernel)⟩
theorem lw_p65 : lw_okq (⟨"TunnelPeaceModel", "isToldSo", "(I)V"⟩, 20) := ⟨⟨by decide +kernel, by decide +kernel⟩, List.mem_of_getElem? (i := 777) (by decide +kernel), List.mem_of_getElem? (i := 1197) (by decide +kernel), List.mem_of_getElem? (i := 1198) (by decide +kernel)⟩
def lw_privs_5 : List (MethodName × Nat) := [(⟨"TunnelPeaceModel", "addItem", "(IIIIII)V"⟩, 20), (⟨"TunnelPeaceModel", "isToldSo", "(I)V"⟩, 20)]
theorem lw_r5 : ∀ q ∈ lw_privs_5, lw_okq q := List.forall_mem_cons.mpr ⟨lw_p64, List.forall_mem_cons.mpr ⟨lw_p65, fun _ h => absurd h List.not_mem_nil⟩⟩
def lw_privs : List (MethodName × Nat) := lw_privs_1 ++ (lw_privs_2 ++ (lw_privs_3 ++ (lw_privs_4 ++ (lw_privs_5))))
def lw_tbl : List Cond := k2_sels lw_privs ++ tables_1
theorem lw_privs_ok : ∀ q ∈ lw_privs, lw_okq q := by
  show ∀ q ∈ lw_privs_1 ++ (lw_privs_2 ++ (lw_privs_3 ++ (lw_privs_4 ++ (lw_privs_5)))), lw_okq q
  exact List.forall_mem_append.mpr ⟨lw_r1, List.forall_mem_append.mpr ⟨lw_r2, List.forall_mem_append.mpr ⟨lw_r3, List.forall_mem_append.mpr ⟨lw_r4, lw_r5⟩⟩⟩⟩

def TT : List Cond := lw_tbl.filter goodWord
theorem tt_l {w : Cond} (j : Nat) (h : lw_tbl[j]? = some w) (hg : goodWord w = true) : w ∈ TT := List.mem_filter.mpr ⟨List.mem_of_getElem? h, hg⟩
theorem tt_i {w : Cond} (i : Nat) (h : tables_1[i]? = some w) (hg : goodWord w = true) : w ∈ TT := List.mem_filter.mpr ⟨List.mem_append_right _ (List.mem_of_getElem? h), hg⟩
theorem tt_sub {w : Cond} (h : w ∈ TT) : w ∈ lw_tbl := (List.mem_filter.mp h).1
theorem tt_good {Ts : List Cond} (hT : ∀ w ∈ TT, w ∈ Ts) {ws : List Cond} (h : ∀ w ∈ ws, w ∈ TT) : GoodIn Ts ws := fun w hw => ⟨hT w (h w hw), good_of_word (List.mem_filter.mp (h w hw)).2⟩
end
section
def T_Fo : u_T := fun k => match k with
  | 0 => ("TunnelPeace$Forecast", "now", "LTunnelPeace$Tunnel;", true)
  | _ => ("TunnelPeace$Forecast", "trial", "LTunnelPeace$Tunnel;", true)
def ty_Fo : Nat → FieldType := fun k => match k with
  | 0 => .object "TunnelPeace$Tunnel"
  | _ => .object "TunnelPeace$Tunnel"
theorem nm_Fo : ∀ a, a < 2 → ∀ b, b < 2 → a ≠ b → (T_Fo a).2.1 ≠ (T_Fo b).2.1 := by decide +kernel
theorem tyok_Fo : ∀ k, k < 2 → parseFieldDescriptor (T_Fo k).2.2.1 = some (ty_Fo k) := by decide +kernel
def T_Pe : u_T := fun k => match k with
  | 0 => ("TunnelPeace$Person", "kind", "I", false)
  | 1 => ("TunnelPeace$Person", "side", "I", false)
  | 2 => ("TunnelPeace$Person", "cell", "I", false)
  | 3 => ("TunnelPeace$Person", "season", "I", false)
  | 4 => ("TunnelPeace$Person", "bags", "I", false)
  | _ => ("TunnelPeace$Person", "met", "I", false)
def ty_Pe : Nat → FieldType := fun k => match k with
  | 0 => .int
  | 1 => .int
  | 2 => .int
  | 3 => .int
  | 4 => .int
  | _ => .int
theorem nm_Pe : ∀ a, a < 6 → ∀ b, b < 6 → a ≠ b → (T_Pe a).2.1 ≠ (T_Pe b).2.1 := by decide +kernel
theorem tyok_Pe : ∀ k, k < 6 → parseFieldDescriptor (T_Pe k).2.2.1 = some (ty_Pe k) := by decide +kernel
def T_Sh : u_T := fun k => match k with
  | 0 => ("TunnelPeace$Sheet", "bits", "I", false)
  | 1 => ("TunnelPeace$Sheet", "length", "I", false)
  | _ => ("TunnelPeace$Sheet", "numbers", "[I", true)
def ty_Sh : Nat → FieldType := fun k => match k with
  | 0 => .int
  | 1 => .int
  | _ => .array (.int)
theorem nm_Sh : ∀ a, a < 3 → ∀ b, b < 3 → a ≠ b → (T_Sh a).2.1 ≠ (T_Sh b).2.1 := by decide +kernel
theorem tyok_Sh : ∀ k, k < 3 → parseFieldDescriptor (T_Sh k).2.2.1 = some (ty_Sh k) := by decide +kernel
def T_Ta : u_T := fun k => match k with
  | 0 => ("TunnelPeace$Tape", "length", "I", false)
  | 1 => ("TunnelPeace$Tape", "bytes", "[B", true)
  | 2 => ("TunnelPeace$Tape", "token", "I", false)
  | 3 => ("TunnelPeace$Tape", "begin", "I", false)
  | 4 => ("TunnelPeace$Tape", "end", "I", false)
  | _ => ("TunnelPeace$Tape", "number", "I", false)
def ty_Ta : Nat → FieldType := fun k => match k with
  | 0 => .int
  | 1 => .array (.byte)
  | 2 => .int
  | 3 => .int
  | 4 => .int
  | _ => .int
theorem nm_Ta : ∀ a, a < 6 → ∀ b, b < 6 → a ≠ b → (T_Ta a).2.1 ≠ (T_Ta b).2.1 := by decide +kernel
theorem tyok_Ta : ∀ k, k < 6 → parseFieldDescriptor (T_Ta k).2.2.1 = some (ty_Ta k) := by decide +kernel
def T_Tu : u_T := fun k => match k with
  | 0 => ("TunnelPeace$Tunnel", "day", "I", false)
  | 1 => ("TunnelPeace$Tunnel", "guns", "I", false)
  | 2 => ("TunnelPeace$Tunnel", "z", "I", false)
  | 3 => ("TunnelPeace$Tunnel", "size", "I", false)
  | 4 => ("TunnelPeace$Tunnel", "list", "[I", true)
  | 5 => ("TunnelPeace$Tunnel", "people", "[LTunnelPeace$Person;", true)
  | _ => ("TunnelPeace$Tunnel", "spots", "[I", true)
def ty_Tu : Nat → FieldType := fun k => match k with
  | 0 => .int
  | 1 => .int
  | 2 => .int
  | 3 => .int
  | 4 => .array (.int)
  | 5 => .array (.object "TunnelPeace$Person")
  | _ => .array (.int)
theorem nm_Tu : ∀ a, a < 7 → ∀ b, b < 7 → a ≠ b → (T_Tu a).2.1 ≠ (T_Tu b).2.1 := by decide +kernel
theorem tyok_Tu : ∀ k, k < 7 → parseFieldDescriptor (T_Tu k).2.2.1 = some (ty_Tu k) := by decide +kernel
def T_TP : u_T := fun k => match k with
  | 0 => ("TunnelPeace", "tunnel", "LTunnelPeace$Tunnel;", true)
  | 1 => ("TunnelPeace", "trial", "LTunnelPeace$Tunnel;", true)
  | 2 => ("TunnelPeace", "kept", "LTunnelPeace$Tunnel;", true)
  | 3 => ("TunnelPeace", "keeps", "Z", false)
  | 4 => ("TunnelPeace", "forecast", "LTunnelPeace$Forecast;", true)
  | 5 => ("TunnelPeace", "tape", "LTunnelPeace$Tape;", true)
  | 6 => ("TunnelPeace", "sheets", "[LTunnelPeace$Sheet;", true)
  | _ => ("TunnelPeace", "findings", "[I", true)
def ty_TP : Nat → FieldType := fun k => match k with
  | 0 => .object "TunnelPeace$Tunnel"
  | 1 => .object "TunnelPeace$Tunnel"
  | 2 => .object "TunnelPeace$Tunnel"
  | 3 => .boolean
  | 4 => .object "TunnelPeace$Forecast"
  | 5 => .object "TunnelPeace$Tape"
  | 6 => .array (.object "TunnelPeace$Sheet")
  | _ => .array (.int)
theorem nm_TP : ∀ a, a < 8 → ∀ b, b < 8 → a ≠ b → (T_TP a).2.1 ≠ (T_TP b).2.1 := by decide +kernel
theorem tyok_TP : ∀ k, k < 8 → parseFieldDescriptor (T_TP k).2.2.1 = some (ty_TP k) := by decide +kernel
def T_Mo : u_T := fun k => match k with
  | 0 => ("TunnelPeaceModel", "now", "[I", true)
  | 1 => ("TunnelPeaceModel", "kept", "[I", true)
  | 2 => ("TunnelPeaceModel", "aside", "[I", true)
  | 3 => ("TunnelPeaceModel", "isKept", "Z", false)
  | 4 => ("TunnelPeaceModel", "found", "[I", true)
  | 5 => ("TunnelPeaceModel", "tape", "[I", true)
  | 6 => ("TunnelPeaceModel", "taped", "I", false)
  | 7 => ("TunnelPeaceModel", "begins", "I", false)
  | 8 => ("TunnelPeaceModel", "ends", "I", false)
  | 9 => ("TunnelPeaceModel", "sort", "I", false)
  | 10 => ("TunnelPeaceModel", "value", "I", false)
  | 11 => ("TunnelPeaceModel", "isWrong", "Z", false)
  | 12 => ("TunnelPeaceModel", "kindNames", "[Ljava/lang/String;", true)
  | 13 => ("TunnelPeaceModel", "items", "[I", true)
  | 14 => ("TunnelPeaceModel", "itemMany", "I", false)
  | 15 => ("TunnelPeaceModel", "peopleThen", "I", false)
  | 16 => ("TunnelPeaceModel", "widths", "[I", true)
  | 17 => ("TunnelPeaceModel", "sizes", "[I", true)
  | 18 => ("TunnelPeaceModel", "numbers", "[I", true)
  | _ => ("TunnelPeaceModel", "moved", "[I", true)
def ty_Mo : Nat → FieldType := fun k => match k with
  | 0 => .array (.int)
  | 1 => .array (.int)
  | 2 => .array (.int)
  | 3 => .boolean
  | 4 => .array (.int)
  | 5 => .array (.int)
  | 6 => .int
  | 7 => .int
  | 8 => .int
  | 9 => .int
  | 10 => .int
  | 11 => .boolean
  | 12 => .array (.object "java/lang/String")
  | 13 => .array (.int)
  | 14 => .int
  | 15 => .int
  | 16 => .array (.int)
  | 17 => .array (.int)
  | 18 => .array (.int)
  | _ => .array (.int)
theorem nm_Mo : ∀ a, a < 20 → ∀ b, b < 20 → a ≠ b → (T_Mo a).2.1 ≠ (T_Mo b).2.1 := by decide +kernel
theorem tyok_Mo : ∀ k, k < 20 → parseFieldDescriptor (T_Mo k).2.2.1 = some (ty_Mo k) := by decide +kernel
abbrev cls : List vw_C := [("TunnelPeace$Forecast", T_Fo, 2), ("TunnelPeace$Person", T_Pe, 6), ("TunnelPeace$Sheet", T_Sh, 3), ("TunnelPeace$Tape", T_Ta, 6), ("TunnelPeace$Tunnel", T_Tu, 7), ("TunnelPeace", T_TP, 8), ("TunnelPeaceModel", T_Mo, 20)]
def y_TP_init : MethodName := ⟨"TunnelPeace", "<init>", "()V"⟩
abbrev b_TP_init : ByteArray := prog_1_method_1_code
def y_Tu_init : MethodName := ⟨"TunnelPeace$Tunnel", "<init>", "()V"⟩
abbrev b_Tu_init : ByteArray := prog_6_method_1_code
def y_Pe_init : MethodName := ⟨"TunnelPeace$Person", "<init>", "()V"⟩
abbrev b_Pe_init : ByteArray := prog_3_method_1_code
def y_Fo_init : MethodName := ⟨"TunnelPeace$Forecast", "<init>", "(LTunnelPeace$Tunnel;LTunnelPeace$Tunnel;)V"⟩
abbrev b_Fo_init : ByteArray := prog_2_method_1_code
def y_Ta_init : MethodName := ⟨"TunnelPeace$Tape", "<init>", "()V"⟩
abbrev b_Ta_init : ByteArray := prog_5_method_1_code
def y_Sh_init : MethodName := ⟨"TunnelPeace$Sheet", "<init>", "()V"⟩
abbrev b_Sh_init : ByteArray := prog_4_method_1_code
def y_TP_guns : MethodName := ⟨"TunnelPeace", "guns", "(I)I"⟩
abbrev b_TP_guns : ByteArray := prog_1_method_2_code
def y_TP_within : MethodName := ⟨"TunnelPeace", "within", "(II)Z"⟩
abbrev b_TP_within : ByteArray := prog_1_method_42_code
def y_TP_found : MethodName := ⟨"TunnelPeace", "found", "(I)I"⟩
abbrev b_TP_found : ByteArray := prog_1_method_43_code
def y_TP_place : MethodName := ⟨"TunnelPeace", "place", "(II)I"⟩
abbrev b_TP_place : ByteArray := prog_1_method_3_code
def y_TP_listed : MethodName := ⟨"TunnelPeace", "listed", "(I)I"⟩
abbrev b_TP_listed : ByteArray := prog_1_method_4_code
def y_TP_person : MethodName := ⟨"TunnelPeace", "person", "(II)I"⟩
abbrev b_TP_person : ByteArray := prog_1_method_5_code
def y_Tu_isFull : MethodName := ⟨"TunnelPeace$Tunnel", "isFull", "()Z"⟩
abbrev b_Tu_isFull : ByteArray := prog_6_method_4_code
def y_Tu_add : MethodName := ⟨"TunnelPeace$Tunnel", "add", "(II)I"⟩
abbrev b_Tu_add : ByteArray := prog_6_method_5_code
def y_Pe_begin : MethodName := ⟨"TunnelPeace$Person", "begin", "(II)V"⟩
abbrev b_Pe_begin : ByteArray := prog_3_method_2_code
def y_Pe_lift : MethodName := ⟨"TunnelPeace$Person", "lift", "()I"⟩
abbrev b_Pe_lift : ByteArray := prog_3_method_5_code
def y_TP_of : MethodName := ⟨"TunnelPeace", "of", "(II)I"⟩
abbrev b_TP_of : ByteArray := prog_1_method_6_code
def y_Tu_has : MethodName := ⟨"TunnelPeace$Tunnel", "has", "(I)Z"⟩
abbrev b_Tu_has : ByteArray := prog_6_method_3_code
def y_Tu_told : MethodName := ⟨"TunnelPeace$Tunnel", "told", "(II)I"⟩
abbrev b_Tu_told : ByteArray := prog_6_method_6_code
def y_Pe_steps : MethodName := ⟨"TunnelPeace$Person", "steps", "(I)I"⟩
abbrev b_Pe_steps : ByteArray := prog_3_method_8_code
def y_JM_max : MethodName := ⟨"java/lang/Math", "max", "(II)I"⟩
abbrev b_JM_max : ByteArray := prog_10_method_65_code
def y_Pe_crosses : MethodName := ⟨"TunnelPeace$Person", "crosses", "(I)Z"⟩
abbrev b_Pe_crosses : ByteArray := prog_3_method_9_code
def y_Pe_calms : MethodName := ⟨"TunnelPeace$Person", "calms", "()I"⟩
abbrev b_Pe_calms : ByteArray := prog_3_method_10_code
def y_Pe_tires : MethodName := ⟨"TunnelPeace$Person", "tires", "(I)I"⟩
abbrev b_Pe_tires : ByteArray := prog_3_method_11_code
def y_TP_change : MethodName := ⟨"TunnelPeace", "change", "(III)I"⟩
abbrev b_TP_change : ByteArray := prog_1_method_7_code
def y_Pe_set : MethodName := ⟨"TunnelPeace$Person", "set", "(II)V"⟩
abbrev b_Pe_set : ByteArray := prog_3_method_4_code
def y_TP_who : MethodName := ⟨"TunnelPeace", "who", "(I)I"⟩
abbrev b_TP_who : ByteArray := prog_1_method_8_code
def y_Tu_peopleAt : MethodName := ⟨"TunnelPeace$Tunnel", "peopleAt", "(I)I"⟩
abbrev b_Tu_peopleAt : ByteArray := prog_6_method_14_code
def y_TP_two : MethodName := ⟨"TunnelPeace", "two", "(II)I"⟩
abbrev b_TP_two : ByteArray := prog_1_method_9_code
def y_Pe_wouldMeet : MethodName := ⟨"TunnelPeace$Person", "wouldMeet", "(LTunnelPeace$Person;)Z"⟩
abbrev b_Pe_wouldMeet : ByteArray := prog_3_method_14_code
def y_Pe_wouldMeetAt : MethodName := ⟨"TunnelPeace$Person", "wouldMeetAt", "(ILTunnelPeace$Person;)Z"⟩
abbrev b_Pe_wouldMeetAt : ByteArray := prog_3_method_15_code
def y_TP_go : MethodName := ⟨"TunnelPeace", "go", "(I)I"⟩
abbrev b_TP_go : ByteArray := prog_1_method_10_code
def y_Tu_hasDays : MethodName := ⟨"TunnelPeace$Tunnel", "hasDays", "(I)Z"⟩
abbrev b_Tu_hasDays : ByteArray := prog_6_method_7_code
def y_Tu_passDays : MethodName := ⟨"TunnelPeace$Tunnel", "passDays", "(I)V"⟩
abbrev b_Tu_passDays : ByteArray := prog_6_method_8_code
def y_Tu_passDay : MethodName := ⟨"TunnelPeace$Tunnel", "passDay", "()V"⟩
abbrev b_Tu_passDay : ByteArray := prog_6_method_9_code
def y_Pe_walk : MethodName := ⟨"TunnelPeace$Person", "walk", "(III)V"⟩
abbrev b_Pe_walk : ByteArray := prog_3_method_12_code
def y_JM_min : MethodName := ⟨"java/lang/Math", "min", "(II)I"⟩
abbrev b_JM_min : ByteArray := prog_10_method_69_code
def y_Pe_stopAheadOfStripe : MethodName := ⟨"TunnelPeace$Person", "stopAheadOfStripe", "(I)V"⟩
abbrev b_Pe_stopAheadOfStripe : ByteArray := prog_3_method_13_code
def y_Tu_meetAll : MethodName := ⟨"TunnelPeace$Tunnel", "meetAll", "()V"⟩
abbrev b_Tu_meetAll : ByteArray := prog_6_method_10_code
def y_Pe_countMeeting : MethodName := ⟨"TunnelPeace$Person", "countMeeting", "()V"⟩
abbrev b_Pe_countMeeting : ByteArray := prog_3_method_16_code
def y_Pe_endDay : MethodName := ⟨"TunnelPeace$Person", "endDay", "(I)V"⟩
abbrev b_Pe_endDay : ByteArray := prog_3_method_17_code
def y_TP_now : MethodName := ⟨"TunnelPeace", "now", "(I)I"⟩
abbrev b_TP_now : ByteArray := prog_1_method_11_code
def y_Tu_allMet : MethodName := ⟨"TunnelPeace$Tunnel", "allMet", "()I"⟩
abbrev b_Tu_allMet : ByteArray := prog_6_method_13_code
def y_Tu_peopleAbroad : MethodName := ⟨"TunnelPeace$Tunnel", "peopleAbroad", "()I"⟩
abbrev b_Tu_peopleAbroad : ByteArray := prog_6_method_15_code
def y_Pe_isAbroad : MethodName := ⟨"TunnelPeace$Person", "isAbroad", "()Z"⟩
abbrev b_Pe_isAbroad : ByteArray := prog_3_method_6_code
def y_Tu_peopleWithSeason : MethodName := ⟨"TunnelPeace$Tunnel", "peopleWithSeason", "()I"⟩
abbrev b_Tu_peopleWithSeason : ByteArray := prog_6_method_16_code
def y_Tu_cellsTaken : MethodName := ⟨"TunnelPeace$Tunnel", "cellsTaken", "()I"⟩
abbrev b_Tu_cellsTaken : ByteArray := prog_6_method_17_code
def y_Tu_pairsMeeting : MethodName := ⟨"TunnelPeace$Tunnel", "pairsMeeting", "()I"⟩
abbrev b_Tu_pairsMeeting : ByteArray := prog_6_method_18_code
def y_Tu_whoMetMost : MethodName := ⟨"TunnelPeace$Tunnel", "whoMetMost", "()I"⟩
abbrev b_Tu_whoMetMost : ByteArray := prog_6_method_19_code
def y_TP_ahead : MethodName := ⟨"TunnelPeace", "ahead", "(III)I"⟩
abbrev b_TP_ahead : ByteArray := prog_1_method_12_code
def y_Fo_behind : MethodName := ⟨"TunnelPeace$Forecast", "behind", "(I)LTunnelPeace$Tunnel;"⟩
abbrev b_Fo_behind : ByteArray := prog_2_method_2_code
def y_Tu_become : MethodName := ⟨"TunnelPeace$Tunnel", "become", "(LTunnelPeace$Tunnel;)V"⟩
abbrev b_Tu_become : ByteArray := prog_6_method_2_code
def y_Pe_become : MethodName := ⟨"TunnelPeace$Person", "become", "(LTunnelPeace$Person;)V"⟩
abbrev b_Pe_become : ByteArray := prog_3_method_3_code
def y_TP_noise : MethodName := ⟨"TunnelPeace", "noise", "(I)I"⟩
abbrev b_TP_noise : ByteArray := prog_1_method_13_code
def y_TP_stills : MethodName := ⟨"TunnelPeace", "stills", "(I)I"⟩
abbrev b_TP_stills : ByteArray := prog_1_method_14_code
def y_Fo_daysTillGuns : MethodName := ⟨"TunnelPeace$Forecast", "daysTillGuns", "(I)I"⟩
abbrev b_Fo_daysTillGuns : ByteArray := prog_2_method_3_code
def y_TP_orNone : MethodName := ⟨"TunnelPeace", "orNone", "(I)I"⟩
abbrev b_TP_orNone : ByteArray := prog_1_method_44_code
def y_TP_meets : MethodName := ⟨"TunnelPeace", "meets", "(II)I"⟩
abbrev b_TP_meets : ByteArray := prog_1_method_15_code
def y_Fo_daysTillMet : MethodName := ⟨"TunnelPeace$Forecast", "daysTillMet", "(II)I"⟩
abbrev b_Fo_daysTillMet : ByteArray := prog_2_method_4_code
def y_TP_lapses : MethodName := ⟨"TunnelPeace", "lapses", "()I"⟩
abbrev b_TP_lapses : ByteArray := prog_1_method_16_code
def y_Fo_daysTillNoSeason : MethodName := ⟨"TunnelPeace$Forecast", "daysTillNoSeason", "()I"⟩
abbrev b_Fo_daysTillNoSeason : ByteArray := prog_2_method_5_code
def y_TP_placeFor : MethodName := ⟨"TunnelPeace", "placeFor", "(II)I"⟩
abbrev b_TP_placeFor : ByteArray := prog_1_method_17_code
def y_Fo_stillestCell : MethodName := ⟨"TunnelPeace$Forecast", "stillestCell", "(II)I"⟩
abbrev b_Fo_stillestCell : ByteArray := prog_2_method_6_code
def y_TP_kindFor : MethodName := ⟨"TunnelPeace", "kindFor", "(II)I"⟩
abbrev b_TP_kindFor : ByteArray := prog_1_method_18_code
def y_Fo_stillestKind : MethodName := ⟨"TunnelPeace$Forecast", "stillestKind", "(II)I"⟩
abbrev b_Fo_stillestKind : ByteArray := prog_2_method_7_code
def y_Fo_tryWith : MethodName := ⟨"TunnelPeace$Forecast", "tryWith", "(III)V"⟩
abbrev b_Fo_tryWith : ByteArray := prog_2_method_14_code
def y_TP_seasonFor : MethodName := ⟨"TunnelPeace", "seasonFor", "(III)I"⟩
abbrev b_TP_seasonFor : ByteArray := prog_1_method_19_code
def y_Fo_leastSeason : MethodName := ⟨"TunnelPeace$Forecast", "leastSeason", "(III)I"⟩
abbrev b_Fo_leastSeason : ByteArray := prog_2_method_8_code
def y_TP_bagsFor : MethodName := ⟨"TunnelPeace", "bagsFor", "(II)I"⟩
abbrev b_TP_bagsFor : ByteArray := prog_1_method_20_code
def y_Fo_mostBags : MethodName := ⟨"TunnelPeace$Forecast", "mostBags", "(II)I"⟩
abbrev b_Fo_mostBags : ByteArray := prog_2_method_9_code
def y_TP_leaveOut : MethodName := ⟨"TunnelPeace", "leaveOut", "(I)I"⟩
abbrev b_TP_leaveOut : ByteArray := prog_1_method_21_code
def y_Fo_fewestLeftOut : MethodName := ⟨"TunnelPeace$Forecast", "fewestLeftOut", "(I)I"⟩
abbrev b_Fo_fewestLeftOut : ByteArray := prog_2_method_10_code
def y_JI_bitCount : MethodName := ⟨"java/lang/Integer", "bitCount", "(I)I"⟩
abbrev b_JI_bitCount : ByteArray := prog_9_method_49_code
def y_Fo_keepsApart : MethodName := ⟨"TunnelPeace$Forecast", "keepsApart", "(II)Z"⟩
abbrev b_Fo_keepsApart : ByteArray := prog_2_method_11_code
def y_Tu_endSeasons : MethodName := ⟨"TunnelPeace$Tunnel", "endSeasons", "(I)V"⟩
abbrev b_Tu_endSeasons : ByteArray := prog_6_method_23_code
def y_TP_fits : MethodName := ⟨"TunnelPeace", "fits", "(II)I"⟩
abbrev b_TP_fits : ByteArray := prog_1_method_22_code
def y_TP_toldFinding : MethodName := ⟨"TunnelPeace", "toldFinding", "(II)I"⟩
abbrev b_TP_toldFinding : ByteArray := prog_1_method_47_code
def y_TP_sheetFinding : MethodName := ⟨"TunnelPeace", "sheetFinding", "(I)I"⟩
abbrev b_TP_sheetFinding : ByteArray := prog_1_method_46_code
def y_Sh_isMissing : MethodName := ⟨"TunnelPeace$Sheet", "isMissing", "()Z"⟩
abbrev b_Sh_isMissing : ByteArray := prog_4_method_2_code
def y_Fo_valuesAsTold : MethodName := ⟨"TunnelPeace$Forecast", "valuesAsTold", "(LTunnelPeace$Sheet;II)I"⟩
abbrev b_Fo_valuesAsTold : ByteArray := prog_2_method_12_code
def y_Fo_goesAsTold : MethodName := ⟨"TunnelPeace$Forecast", "goesAsTold", "(LTunnelPeace$Sheet;I)Z"⟩
abbrev b_Fo_goesAsTold : ByteArray := prog_2_method_13_code
def y_TP_kinds : MethodName := ⟨"TunnelPeace", "kinds", "(II)I"⟩
abbrev b_TP_kinds : ByteArray := prog_1_method_23_code
def y_TP_stroll : MethodName := ⟨"TunnelPeace", "stroll", "(I)I"⟩
abbrev b_TP_stroll : ByteArray := prog_1_method_24_code
def y_Tu_passDrawnDay : MethodName := ⟨"TunnelPeace$Tunnel", "passDrawnDay", "()V"⟩
abbrev b_Tu_passDrawnDay : ByteArray := prog_6_method_11_code
def y_Tu_draw : MethodName := ⟨"TunnelPeace$Tunnel", "draw", "()I"⟩
abbrev b_Tu_draw : ByteArray := prog_6_method_12_code
def y_TP_odds : MethodName := ⟨"TunnelPeace", "odds", "(III)J"⟩
abbrev b_TP_odds : ByteArray := prog_1_method_25_code
def y_Tu_cellsToMeetAt : MethodName := ⟨"TunnelPeace$Tunnel", "cellsToMeetAt", "(I)I"⟩
abbrev b_Tu_cellsToMeetAt : ByteArray := prog_6_method_20_code
def y_Tu_meetsSomebodyAt : MethodName := ⟨"TunnelPeace$Tunnel", "meetsSomebodyAt", "(II)Z"⟩
abbrev b_Tu_meetsSomebodyAt : ByteArray := prog_6_method_21_code
def y_TP_commonDivisor : MethodName := ⟨"TunnelPeace", "commonDivisor", "(II)I"⟩
abbrev b_TP_commonDivisor : ByteArray := prog_1_method_48_code
def y_TP_power : MethodName := ⟨"TunnelPeace", "power", "(JI)J"⟩
abbrev b_TP_power : ByteArray := prog_1_method_49_code
def y_TP_seed : MethodName := ⟨"TunnelPeace", "seed", "(I)I"⟩
abbrev b_TP_seed : ByteArray := prog_1_method_26_code
def y_TP_feed : MethodName := ⟨"TunnelPeace", "feed", "(II)I"⟩
abbrev b_TP_feed : ByteArray := prog_1_method_27_code
def y_Ta_append : MethodName := ⟨"TunnelPeace$Tape", "append", "(II)V"⟩
abbrev b_Ta_append : ByteArray := prog_5_method_2_code
def y_TP_wipe : MethodName := ⟨"TunnelPeace", "wipe", "()I"⟩
abbrev b_TP_wipe : ByteArray := prog_1_method_28_code
def y_TP_text : MethodName := ⟨"TunnelPeace", "text", "()I"⟩
abbrev b_TP_text : ByteArray := prog_1_method_29_code
def y_Ta_readInto : MethodName := ⟨"TunnelPeace$Tape", "readInto", "(LTunnelPeace$Tunnel;)I"⟩
abbrev b_Ta_readInto : ByteArray := prog_5_method_3_code
def y_Ta_advance : MethodName := ⟨"TunnelPeace$Tape", "advance", "()V"⟩
abbrev b_Ta_advance : ByteArray := prog_5_method_13_code
def y_Ta_tokenOf : MethodName := ⟨"TunnelPeace$Tape", "tokenOf", "(B)I"⟩
abbrev b_Ta_tokenOf : ByteArray := prog_5_method_14_code
def y_Ta_takeWord : MethodName := ⟨"TunnelPeace$Tape", "takeWord", "(Ljava/lang/String;)Z"⟩
abbrev b_Ta_takeWord : ByteArray := prog_5_method_10_code
def y_JS_length : MethodName := ⟨"java/lang/String", "length", "()I"⟩
abbrev b_JS_length : ByteArray := prog_11_method_54_code
def y_JS_coder : MethodName := ⟨"java/lang/String", "coder", "()B"⟩
abbrev b_JS_coder : ByteArray := prog_11_method_152_code
def y_JS_charAt : MethodName := ⟨"java/lang/String", "charAt", "(I)C"⟩
abbrev b_JS_charAt : ByteArray := prog_11_method_56_code
def y_JS_isLatin1 : MethodName := ⟨"java/lang/String", "isLatin1", "()Z"⟩
abbrev b_JS_isLatin1 : ByteArray := prog_11_method_154_code
def y_JL_charAt : MethodName := ⟨"java/lang/StringLatin1", "charAt", "([BI)C"⟩
abbrev b_JL_charAt : ByteArray := prog_12_method_2_code
def y_JS_checkIndex : MethodName := ⟨"java/lang/String", "checkIndex", "(II)V"⟩
abbrev b_JS_checkIndex : ByteArray := prog_11_method_155_code
def y_JP_checkIndex : MethodName := ⟨"jdk/internal/util/Preconditions", "checkIndex", "(IILjava/util/function/BiFunction;)I"⟩
abbrev b_JP_checkIndex : ByteArray := prog_15_method_11_code
def y_JU_charAt : MethodName := ⟨"java/lang/StringUTF16", "charAt", "([BI)C"⟩
abbrev b_JU_charAt : ByteArray := prog_13_method_83_code
def y_JU_checkIndex : MethodName := ⟨"java/lang/StringUTF16", "checkIndex", "(I[B)V"⟩
abbrev b_JU_checkIndex : ByteArray := prog_13_method_91_code
def y_JU_length : MethodName := ⟨"java/lang/StringUTF16", "length", "([B)I"⟩
abbrev b_JU_length : ByteArray := prog_13_method_6_code
def y_JU_getChar : MethodName := ⟨"java/lang/StringUTF16", "getChar", "([BI)C"⟩
abbrev b_JU_getChar : ByteArray := prog_13_method_5_code
def y_Ta_takePlace : MethodName := ⟨"TunnelPeace$Tape", "takePlace", "(LTunnelPeace$Tunnel;)Z"⟩
abbrev b_Ta_takePlace : ByteArray := prog_5_method_4_code
def y_Ta_takeNumber : MethodName := ⟨"TunnelPeace$Tape", "takeNumber", "(I)I"⟩
abbrev b_Ta_takeNumber : ByteArray := prog_5_method_11_code
def y_Ta_takeGuns : MethodName := ⟨"TunnelPeace$Tape", "takeGuns", "(LTunnelPeace$Tunnel;)Z"⟩
abbrev b_Ta_takeGuns : ByteArray := prog_5_method_5_code
def y_Ta_takePerson : MethodName := ⟨"TunnelPeace$Tape", "takePerson", "(LTunnelPeace$Tunnel;)Z"⟩
abbrev b_Ta_takePerson : ByteArray := prog_5_method_6_code
def y_Ta_takeKind : MethodName := ⟨"TunnelPeace$Tape", "takeKind", "()I"⟩
abbrev b_Ta_takeKind : ByteArray := prog_5_method_7_code
def y_Ta_kindWord : MethodName := ⟨"TunnelPeace$Tape", "kindWord", "(I)Ljava/lang/String;"⟩
abbrev b_Ta_kindWord : ByteArray := prog_5_method_8_code
def y_Ta_takeOption : MethodName := ⟨"TunnelPeace$Tape", "takeOption", "(Ljava/lang/String;LTunnelPeace$Person;I)Z"⟩
abbrev b_Ta_takeOption : ByteArray := prog_5_method_9_code
def y_Ta_takeSemicolon : MethodName := ⟨"TunnelPeace$Tape", "takeSemicolon", "()Z"⟩
abbrev b_Ta_takeSemicolon : ByteArray := prog_5_method_12_code
def y_TP_hold : MethodName := ⟨"TunnelPeace", "hold", "(II)I"⟩
abbrev b_TP_hold : ByteArray := prog_1_method_30_code
def y_TP_as : MethodName := ⟨"TunnelPeace", "as", "(II)I"⟩
abbrev b_TP_as : ByteArray := prog_1_method_31_code
def y_Pe_isA : MethodName := ⟨"TunnelPeace$Person", "isA", "(I)Z"⟩
abbrev b_Pe_isA : ByteArray := prog_3_method_7_code
def y_TP_sheet : MethodName := ⟨"TunnelPeace", "sheet", "(III)I"⟩
abbrev b_TP_sheet : ByteArray := prog_1_method_32_code
def y_Sh_begin : MethodName := ⟨"TunnelPeace$Sheet", "begin", "(II)V"⟩
abbrev b_Sh_begin : ByteArray := prog_4_method_3_code
def y_TP_write : MethodName := ⟨"TunnelPeace", "write", "(III)I"⟩
abbrev b_TP_write : ByteArray := prog_1_method_33_code
def y_Sh_put : MethodName := ⟨"TunnelPeace$Sheet", "put", "(II)V"⟩
abbrev b_Sh_put : ByteArray := prog_4_method_4_code
def y_TP_copy : MethodName := ⟨"TunnelPeace", "copy", "(IIIII)I"⟩
abbrev b_TP_copy : ByteArray := prog_1_method_34_code
def y_Sh_hasRange : MethodName := ⟨"TunnelPeace$Sheet", "hasRange", "(II)Z"⟩
abbrev b_Sh_hasRange : ByteArray := prog_4_method_5_code
def y_TP_load : MethodName := ⟨"TunnelPeace", "load", "(I)I"⟩
abbrev b_TP_load : ByteArray := prog_1_method_35_code
def y_Sh_giveSeasons : MethodName := ⟨"TunnelPeace$Sheet", "giveSeasons", "(LTunnelPeace$Tunnel;)I"⟩
abbrev b_Sh_giveSeasons : ByteArray := prog_4_method_6_code
def y_TP_judge : MethodName := ⟨"TunnelPeace", "judge", "(I)I"⟩
abbrev b_TP_judge : ByteArray := prog_1_method_36_code
def y_Sh_firstWrongCell : MethodName := ⟨"TunnelPeace$Sheet", "firstWrongCell", "(LTunnelPeace$Tunnel;)I"⟩
abbrev b_Sh_firstWrongCell : ByteArray := prog_4_method_7_code
def y_TP_image : MethodName := ⟨"TunnelPeace", "image", "()I"⟩
abbrev b_TP_image : ByteArray := prog_1_method_37_code
def y_TP_undo : MethodName := ⟨"TunnelPeace", "undo", "()I"⟩
abbrev b_TP_undo : ByteArray := prog_1_method_38_code
def y_TP_tear : MethodName := ⟨"TunnelPeace", "tear", "()I"⟩
abbrev b_TP_tear : ByteArray := prog_1_method_39_code
def y_TP_count : MethodName := ⟨"TunnelPeace", "count", "(I)I"⟩
abbrev b_TP_count : ByteArray := prog_1_method_40_code
def y_Tu_spotsTaken : MethodName := ⟨"TunnelPeace$Tunnel", "spotsTaken", "()I"⟩
abbrev b_Tu_spotsTaken : ByteArray := prog_6_method_22_code
def y_TP_status : MethodName := ⟨"TunnelPeace", "status", "(I)I"⟩
abbrev b_TP_status : ByteArray := prog_1_method_41_code
def y_TP_allFindings : MethodName := ⟨"TunnelPeace", "allFindings", "()I"⟩
abbrev b_TP_allFindings : ByteArray := prog_1_method_45_code
def y_Mo_init : MethodName := ⟨"TunnelPeaceModel", "<init>", "()V"⟩
abbrev b_Mo_init : ByteArray := prog_8_method_1_code
def y_Mo_guns : MethodName := ⟨"TunnelPeaceModel", "guns", "(I)I"⟩
abbrev b_Mo_guns : ByteArray := prog_8_method_11_code
def y_Mo_isMany : MethodName := ⟨"TunnelPeaceModel", "isMany", "(I)Z"⟩
abbrev b_Mo_isMany : ByteArray := prog_8_method_10_code
def y_Mo_within : MethodName := ⟨"TunnelPeaceModel", "within", "(III)Z"⟩
abbrev b_Mo_within : ByteArray := prog_8_method_3_code
def y_Mo_become : MethodName := ⟨"TunnelPeaceModel", "become", "(II)I"⟩
abbrev b_Mo_become : ByteArray := prog_8_method_4_code
def y_Mo_finding : MethodName := ⟨"TunnelPeaceModel", "finding", "(I)I"⟩
abbrev b_Mo_finding : ByteArray := prog_8_method_2_code
def y_Mo_place : MethodName := ⟨"TunnelPeaceModel", "place", "(II)I"⟩
abbrev b_Mo_place : ByteArray := prog_8_method_13_code
def y_Mo_isPlace : MethodName := ⟨"TunnelPeaceModel", "isPlace", "(I)Z"⟩
abbrev b_Mo_isPlace : ByteArray := prog_8_method_12_code
def y_Mo_isCell : MethodName := ⟨"TunnelPeaceModel", "isCell", "(I)Z"⟩
abbrev b_Mo_isCell : ByteArray := prog_8_method_9_code
def y_Mo_listed : MethodName := ⟨"TunnelPeaceModel", "listed", "(I)I"⟩
abbrev b_Mo_listed : ByteArray := prog_8_method_14_code
def y_Mo_person : MethodName := ⟨"TunnelPeaceModel", "person", "(II)I"⟩
abbrev b_Mo_person : ByteArray := prog_8_method_22_code
def y_Mo_isKind : MethodName := ⟨"TunnelPeaceModel", "isKind", "(I)Z"⟩
abbrev b_Mo_isKind : ByteArray := prog_8_method_19_code
def y_Mo_comes : MethodName := ⟨"TunnelPeaceModel", "comes", "(II)I"⟩
abbrev b_Mo_comes : ByteArray := prog_8_method_21_code
def y_Mo_personAt : MethodName := ⟨"TunnelPeaceModel", "personAt", "(II)I"⟩
abbrev b_Mo_personAt : ByteArray := prog_8_method_16_code
def y_Mo_liftOf : MethodName := ⟨"TunnelPeaceModel", "liftOf", "(I)I"⟩
abbrev b_Mo_liftOf : ByteArray := prog_8_method_20_code
def y_Mo_of : MethodName := ⟨"TunnelPeaceModel", "of", "(II)I"⟩
abbrev b_Mo_of : ByteArray := prog_8_method_28_code
def y_Mo_isPerson : MethodName := ⟨"TunnelPeaceModel", "isPerson", "(I)Z"⟩
abbrev b_Mo_isPerson : ByteArray := prog_8_method_18_code
def y_Mo_told : MethodName := ⟨"TunnelPeaceModel", "told", "(II)I"⟩
abbrev b_Mo_told : ByteArray := prog_8_method_27_code
def y_Mo_steps : MethodName := ⟨"TunnelPeaceModel", "steps", "(I)I"⟩
abbrev b_Mo_steps : ByteArray := prog_8_method_23_code
def y_Mo_personIs : MethodName := ⟨"TunnelPeaceModel", "personIs", "(II)I"⟩
abbrev b_Mo_personIs : ByteArray := prog_8_method_17_code
def y_Mo_crosses : MethodName := ⟨"TunnelPeaceModel", "crosses", "(I)Z"⟩
abbrev b_Mo_crosses : ByteArray := prog_8_method_24_code
def y_Mo_calms : MethodName := ⟨"TunnelPeaceModel", "calms", "(I)I"⟩
abbrev b_Mo_calms : ByteArray := prog_8_method_25_code
def y_Mo_tires : MethodName := ⟨"TunnelPeaceModel", "tires", "(I)I"⟩
abbrev b_Mo_tires : ByteArray := prog_8_method_26_code
def y_Mo_change : MethodName := ⟨"TunnelPeaceModel", "change", "(III)I"⟩
abbrev b_Mo_change : ByteArray := prog_8_method_30_code
def y_Mo_isField : MethodName := ⟨"TunnelPeaceModel", "isField", "(II)Z"⟩
abbrev b_Mo_isField : ByteArray := prog_8_method_29_code
def y_Mo_who : MethodName := ⟨"TunnelPeaceModel", "who", "(I)I"⟩
abbrev b_Mo_who : ByteArray := prog_8_method_31_code
def y_Mo_two : MethodName := ⟨"TunnelPeaceModel", "two", "(II)I"⟩
abbrev b_Mo_two : ByteArray := prog_8_method_33_code
def y_Mo_wouldMeet : MethodName := ⟨"TunnelPeaceModel", "wouldMeet", "(II)Z"⟩
abbrev b_Mo_wouldMeet : ByteArray := prog_8_method_32_code
def y_Mo_go : MethodName := ⟨"TunnelPeaceModel", "go", "(I)I"⟩
abbrev b_Mo_go : ByteArray := prog_8_method_40_code
def y_Mo_daysGo : MethodName := ⟨"TunnelPeaceModel", "daysGo", "(I)V"⟩
abbrev b_Mo_daysGo : ByteArray := prog_8_method_39_code
def y_Mo_day : MethodName := ⟨"TunnelPeaceModel", "day", "()V"⟩
abbrev b_Mo_day : ByteArray := prog_8_method_38_code
def y_Mo_placeNow : MethodName := ⟨"TunnelPeaceModel", "placeNow", "()I"⟩
abbrev b_Mo_placeNow : ByteArray := prog_8_method_15_code
def y_Mo_walks : MethodName := ⟨"TunnelPeaceModel", "walks", "(II)V"⟩
abbrev b_Mo_walks : ByteArray := prog_8_method_36_code
def y_Mo_towards : MethodName := ⟨"TunnelPeaceModel", "towards", "(III)I"⟩
abbrev b_Mo_towards : ByteArray := prog_8_method_35_code
def y_Mo_meet : MethodName := ⟨"TunnelPeaceModel", "meet", "(II)V"⟩
abbrev b_Mo_meet : ByteArray := prog_8_method_37_code
def y_Mo_more : MethodName := ⟨"TunnelPeaceModel", "more", "(III)V"⟩
abbrev b_Mo_more : ByteArray := prog_8_method_34_code
def y_Mo_now : MethodName := ⟨"TunnelPeaceModel", "now", "(I)I"⟩
abbrev b_Mo_now : ByteArray := prog_8_method_47_code
def y_Mo_metInAll : MethodName := ⟨"TunnelPeaceModel", "metInAll", "()I"⟩
abbrev b_Mo_metInAll : ByteArray := prog_8_method_41_code
def y_Mo_strangers : MethodName := ⟨"TunnelPeaceModel", "strangers", "()I"⟩
abbrev b_Mo_strangers : ByteArray := prog_8_method_42_code
def y_Mo_subscribers : MethodName := ⟨"TunnelPeaceModel", "subscribers", "()I"⟩
abbrev b_Mo_subscribers : ByteArray := prog_8_method_43_code
def y_Mo_cellsOf : MethodName := ⟨"TunnelPeaceModel", "cellsOf", "()I"⟩
abbrev b_Mo_cellsOf : ByteArray := prog_8_method_44_code
def y_Mo_pairs : MethodName := ⟨"TunnelPeaceModel", "pairs", "()I"⟩
abbrev b_Mo_pairs : ByteArray := prog_8_method_45_code
def y_Mo_metMost : MethodName := ⟨"TunnelPeaceModel", "metMost", "()I"⟩
abbrev b_Mo_metMost : ByteArray := prog_8_method_46_code
def y_Mo_ahead : MethodName := ⟨"TunnelPeaceModel", "ahead", "(III)I"⟩
abbrev b_Mo_ahead : ByteArray := prog_8_method_49_code
def y_Mo_copyRow : MethodName := ⟨"TunnelPeaceModel", "copyRow", "([I[I)V"⟩
abbrev b_Mo_copyRow : ByteArray := prog_8_method_5_code
def y_Mo_putBack : MethodName := ⟨"TunnelPeaceModel", "putBack", "(I)I"⟩
abbrev b_Mo_putBack : ByteArray := prog_8_method_6_code
def y_Mo_noise : MethodName := ⟨"TunnelPeaceModel", "noise", "(I)I"⟩
abbrev b_Mo_noise : ByteArray := prog_8_method_50_code
def y_Mo_behind : MethodName := ⟨"TunnelPeaceModel", "behind", "(II)I"⟩
abbrev b_Mo_behind : ByteArray := prog_8_method_48_code
def y_Mo_stills : MethodName := ⟨"TunnelPeaceModel", "stills", "(I)I"⟩
abbrev b_Mo_stills : ByteArray := prog_8_method_52_code
def y_Mo_daysTo : MethodName := ⟨"TunnelPeaceModel", "daysTo", "(III)I"⟩
abbrev b_Mo_daysTo : ByteArray := prog_8_method_51_code
def y_Mo_orNone : MethodName := ⟨"TunnelPeaceModel", "orNone", "(I)I"⟩
abbrev b_Mo_orNone : ByteArray := prog_8_method_7_code
def y_Mo_meets : MethodName := ⟨"TunnelPeaceModel", "meets", "(II)I"⟩
abbrev b_Mo_meets : ByteArray := prog_8_method_53_code
def y_Mo_lapses : MethodName := ⟨"TunnelPeaceModel", "lapses", "()I"⟩
abbrev b_Mo_lapses : ByteArray := prog_8_method_54_code
def y_Mo_placeFor : MethodName := ⟨"TunnelPeaceModel", "placeFor", "(II)I"⟩
abbrev b_Mo_placeFor : ByteArray := prog_8_method_57_code
def y_Mo_isThought : MethodName := ⟨"TunnelPeaceModel", "isThought", "(I)Z"⟩
abbrev b_Mo_isThought : ByteArray := prog_8_method_55_code
def y_Mo_calmest : MethodName := ⟨"TunnelPeaceModel", "calmest", "(III)I"⟩
abbrev b_Mo_calmest : ByteArray := prog_8_method_56_code
def y_Mo_kindFor : MethodName := ⟨"TunnelPeaceModel", "kindFor", "(II)I"⟩
abbrev b_Mo_kindFor : ByteArray := prog_8_method_58_code
def y_Mo_seasonFor : MethodName := ⟨"TunnelPeaceModel", "seasonFor", "(III)I"⟩
abbrev b_Mo_seasonFor : ByteArray := prog_8_method_60_code
def y_Mo_firstFor : MethodName := ⟨"TunnelPeaceModel", "firstFor", "(IIIIII)I"⟩
abbrev b_Mo_firstFor : ByteArray := prog_8_method_59_code
def y_Mo_bagsFor : MethodName := ⟨"TunnelPeaceModel", "bagsFor", "(II)I"⟩
abbrev b_Mo_bagsFor : ByteArray := prog_8_method_61_code
def y_Mo_leaveOut : MethodName := ⟨"TunnelPeaceModel", "leaveOut", "(I)I"⟩
abbrev b_Mo_leaveOut : ByteArray := prog_8_method_63_code
def y_Mo_bits : MethodName := ⟨"TunnelPeaceModel", "bits", "(I)I"⟩
abbrev b_Mo_bits : ByteArray := prog_8_method_8_code
def y_Mo_nobodyMeets : MethodName := ⟨"TunnelPeaceModel", "nobodyMeets", "(II)Z"⟩
abbrev b_Mo_nobodyMeets : ByteArray := prog_8_method_62_code
def y_Mo_fits : MethodName := ⟨"TunnelPeaceModel", "fits", "(II)I"⟩
abbrev b_Mo_fits : ByteArray := prog_8_method_67_code
def y_Mo_lacks : MethodName := ⟨"TunnelPeaceModel", "lacks", "(IZ)I"⟩
abbrev b_Mo_lacks : ByteArray := prog_8_method_64_code
def y_Mo_isSheet : MethodName := ⟨"TunnelPeaceModel", "isSheet", "(I)Z"⟩
abbrev b_Mo_isSheet : ByteArray := prog_8_method_90_code
def y_Mo_fitting : MethodName := ⟨"TunnelPeaceModel", "fitting", "(IIII)I"⟩
abbrev b_Mo_fitting : ByteArray := prog_8_method_66_code
def y_Mo_isSo : MethodName := ⟨"TunnelPeaceModel", "isSo", "(II)Z"⟩
abbrev b_Mo_isSo : ByteArray := prog_8_method_65_code
def y_Mo_kinds : MethodName := ⟨"TunnelPeaceModel", "kinds", "(II)I"⟩
abbrev b_Mo_kinds : ByteArray := prog_8_method_68_code
def y_Mo_stroll : MethodName := ⟨"TunnelPeaceModel", "stroll", "(I)I"⟩
abbrev b_Mo_stroll : ByteArray := prog_8_method_70_code
def y_Mo_drawn : MethodName := ⟨"TunnelPeaceModel", "drawn", "()I"⟩
abbrev b_Mo_drawn : ByteArray := prog_8_method_69_code
def y_Mo_odds : MethodName := ⟨"TunnelPeaceModel", "odds", "(III)J"⟩
abbrev b_Mo_odds : ByteArray := prog_8_method_72_code
def y_Mo_meetsSomebodyAt : MethodName := ⟨"TunnelPeaceModel", "meetsSomebodyAt", "(II)Z"⟩
abbrev b_Mo_meetsSomebodyAt : ByteArray := prog_8_method_71_code
def y_Mo_seed : MethodName := ⟨"TunnelPeaceModel", "seed", "(I)I"⟩
abbrev b_Mo_seed : ByteArray := prog_8_method_73_code
def y_Mo_feed : MethodName := ⟨"TunnelPeaceModel", "feed", "(II)I"⟩
abbrev b_Mo_feed : ByteArray := prog_8_method_74_code
def y_Mo_wipe : MethodName := ⟨"TunnelPeaceModel", "wipe", "()I"⟩
abbrev b_Mo_wipe : ByteArray := prog_8_method_75_code
def y_Mo_text : MethodName := ⟨"TunnelPeaceModel", "text", "()I"⟩
abbrev b_Mo_text : ByteArray := prog_8_method_86_code
def y_Mo_token : MethodName := ⟨"TunnelPeaceModel", "token", "()V"⟩
abbrev b_Mo_token : ByteArray := prog_8_method_77_code
def y_Mo_byteAt : MethodName := ⟨"TunnelPeaceModel", "byteAt", "(I)I"⟩
abbrev b_Mo_byteAt : ByteArray := prog_8_method_76_code
def y_Mo_readItem : MethodName := ⟨"TunnelPeaceModel", "readItem", "()V"⟩
abbrev b_Mo_readItem : ByteArray := prog_8_method_84_code
def y_Mo_isWord : MethodName := ⟨"TunnelPeaceModel", "isWord", "(Ljava/lang/String;)Z"⟩
abbrev b_Mo_isWord : ByteArray := prog_8_method_78_code
def y_Mo_readPerson : MethodName := ⟨"TunnelPeaceModel", "readPerson", "(I)V"⟩
abbrev b_Mo_readPerson : ByteArray := prog_8_method_83_code
def y_Mo_must : MethodName := ⟨"TunnelPeaceModel", "must", "(Z)V"⟩
abbrev b_Mo_must : ByteArray := prog_8_method_79_code
def y_Mo_number : MethodName := ⟨"TunnelPeaceModel", "number", "(II)I"⟩
abbrev b_Mo_number : ByteArray := prog_8_method_80_code
def y_Mo_takesWord : MethodName := ⟨"TunnelPeaceModel", "takesWord", "(Ljava/lang/String;)Z"⟩
abbrev b_Mo_takesWord : ByteArray := prog_8_method_82_code
def y_Mo_addItem : MethodName := ⟨"TunnelPeaceModel", "addItem", "(IIIIII)V"⟩
abbrev b_Mo_addItem : ByteArray := prog_8_method_81_code
def y_Mo_isToldSo : MethodName := ⟨"TunnelPeaceModel", "isToldSo", "(I)V"⟩
abbrev b_Mo_isToldSo : ByteArray := prog_8_method_85_code
def y_Mo_hold : MethodName := ⟨"TunnelPeaceModel", "hold", "(II)I"⟩
abbrev b_Mo_hold : ByteArray := prog_8_method_88_code
def y_Mo_isSpot : MethodName := ⟨"TunnelPeaceModel", "isSpot", "(I)Z"⟩
abbrev b_Mo_isSpot : ByteArray := prog_8_method_87_code
def y_Mo_as : MethodName := ⟨"TunnelPeaceModel", "as", "(II)I"⟩
abbrev b_Mo_as : ByteArray := prog_8_method_89_code
def y_Mo_isUnder : MethodName := ⟨"TunnelPeaceModel", "isUnder", "(II)Z"⟩
abbrev b_Mo_isUnder : ByteArray := prog_8_method_96_code
def y_Mo_above : MethodName := ⟨"TunnelPeaceModel", "above", "(I)I"⟩
abbrev b_Mo_above : ByteArray := prog_8_method_95_code
def y_Mo_sheet : MethodName := ⟨"TunnelPeaceModel", "sheet", "(III)I"⟩
abbrev b_Mo_sheet : ByteArray := prog_8_method_92_code
def y_Mo_write : MethodName := ⟨"TunnelPeaceModel", "write", "(III)I"⟩
abbrev b_Mo_write : ByteArray := prog_8_method_93_code
def y_Mo_cutTo : MethodName := ⟨"TunnelPeaceModel", "cutTo", "(II)I"⟩
abbrev b_Mo_cutTo : ByteArray := prog_8_method_91_code
def y_Mo_copy : MethodName := ⟨"TunnelPeaceModel", "copy", "(IIIII)I"⟩
abbrev b_Mo_copy : ByteArray := prog_8_method_94_code
def y_Mo_load : MethodName := ⟨"TunnelPeaceModel", "load", "(I)I"⟩
abbrev b_Mo_load : ByteArray := prog_8_method_97_code
def y_Mo_judge : MethodName := ⟨"TunnelPeaceModel", "judge", "(I)I"⟩
abbrev b_Mo_judge : ByteArray := prog_8_method_98_code
def y_Mo_image : MethodName := ⟨"TunnelPeaceModel", "image", "()I"⟩
abbrev b_Mo_image : ByteArray := prog_8_method_99_code
def y_Mo_undo : MethodName := ⟨"TunnelPeaceModel", "undo", "()I"⟩
abbrev b_Mo_undo : ByteArray := prog_8_method_100_code
def y_Mo_tear : MethodName := ⟨"TunnelPeaceModel", "tear", "()I"⟩
abbrev b_Mo_tear : ByteArray := prog_8_method_101_code
def y_Mo_count : MethodName := ⟨"TunnelPeaceModel", "count", "(I)I"⟩
abbrev b_Mo_count : ByteArray := prog_8_method_102_code
def y_Mo_status : MethodName := ⟨"TunnelPeaceModel", "status", "(I)I"⟩
abbrev b_Mo_status : ByteArray := prog_8_method_103_code
def MP (y : MethodName) (n : Nat) : Prop := y.cls ≠ "java/lang/invoke/MethodHandle" ∧ y.cls ≠ "java/lang/invoke/VarHandle" ∧ (parseMethodDescriptor y.desc).map (fun d => d.parameters.length) = some n
def MI (y : MethodName) (cc : ByteArray) (maxL : Nat) (ret : Option FieldType) (n : Nat) : Prop := Cond.instanceMethod y ∈ TT ∧ Cond.selects y.cls y y ∈ TT ∧ Cond.initialized y.cls ∈ TT ∧ Cond.code y cc maxL ret ∈ TT ∧ MP y n
def MS (y : MethodName) (cc : ByteArray) (maxL : Nat) (ret : Option FieldType) (n : Nat) : Prop := Cond.static y ∈ TT ∧ Cond.initialized y.cls ∈ TT ∧ Cond.code y cc maxL ret ∈ TT ∧ MP y n
def MC (y : MethodName) (cc : ByteArray) (maxL : Nat) (n : Nat) : Prop := Cond.instanceMethod y ∈ TT ∧ Cond.initialized y.cls ∈ TT ∧ Cond.code y cc maxL none ∈ TT ∧ y.name = "<init>" ∧ MP y n
end
section
theorem k_0 : Cond.initialized "TunnelPeaceLaw" ∈ TT := tt_i 0 (by decide +kernel) (by decide +kernel)
theorem k_1 : Cond.initialized "TunnelPeace" ∈ TT := tt_i 1 (by decide +kernel) (by decide +kernel)
theorem k_2 : Cond.initialized "TunnelPeace$Tunnel" ∈ TT := tt_i 2 (by decide +kernel) (by decide +kernel)
theorem k_3 : Cond.initialized "TunnelPeace$Person" ∈ TT := tt_i 3 (by decide +kernel) (by decide +kernel)
theorem k_4 : Cond.initialized "TunnelPeace$Forecast" ∈ TT := tt_i 4 (by decide +kernel) (by decide +kernel)
theorem k_5 : Cond.initialized "TunnelPeace$Tape" ∈ TT := tt_i 5 (by decide +kernel) (by decide +kernel)
theorem k_6 : Cond.initialized "TunnelPeace$Sheet" ∈ TT := tt_i 6 (by decide +kernel) (by decide +kernel)
theorem k_7 : Cond.initialized "TunnelPeaceModel" ∈ TT := tt_i 7 (by decide +kernel) (by decide +kernel)
theorem k_8 : Cond.initialized "java/lang/Math" ∈ TT := tt_i 8 (by decide +kernel) (by decide +kernel)
theorem k_9 : Cond.initialized "java/lang/System" ∈ TT := tt_i 9 (by decide +kernel) (by decide +kernel)
theorem k_10 : Cond.initialized "java/lang/Integer" ∈ TT := tt_i 10 (by decide +kernel) (by decide +kernel)
theorem k_11 : Cond.initialized "java/lang/String" ∈ TT := tt_i 11 (by decide +kernel) (by decide +kernel)
theorem k_12 : Cond.initialized "java/lang/StringLatin1" ∈ TT := tt_i 12 (by decide +kernel) (by decide +kernel)
theorem k_13 : Cond.initialized "jdk/internal/util/Preconditions" ∈ TT := tt_i 13 (by decide +kernel) (by decide +kernel)
theorem k_14 : Cond.initialized "java/lang/StringUTF16" ∈ TT := tt_i 14 (by decide +kernel) (by decide +kernel)
theorem k_15 : Cond.classLink "TunnelPeaceLaw" (7) "TunnelPeace" ∈ TT := tt_i 15 (by decide +kernel) (by decide +kernel)
theorem k_16 : Cond.instantiable "TunnelPeace" (8) ∈ TT := tt_i 16 (by decide +kernel) (by decide +kernel)
theorem k_17 : Cond.methodLink "TunnelPeaceLaw" (9) y_TP_init ∈ TT := tt_i 17 (by decide +kernel) (by decide +kernel)
theorem k_18 : Cond.instanceMethod y_TP_init ∈ TT := tt_i 18 (by decide +kernel) (by decide +kernel)
theorem k_19 : Cond.code y_TP_init b_TP_init 2 none ∈ TT := tt_i 19 (by decide +kernel) (by decide +kernel)
theorem k_20 : Cond.methodLink "TunnelPeace" (3) objectInit ∈ TT := tt_i 20 (by decide +kernel) (by decide +kernel)
theorem k_21 : Cond.instanceMethod objectInit ∈ TT := tt_i 21 (by decide +kernel) (by decide +kernel)
theorem k_23 : Cond.classLink "TunnelPeace" (9) "TunnelPeace$Tunnel" ∈ TT := tt_i 23 (by decide +kernel) (by decide +kernel)
theorem k_24 : Cond.instantiable "TunnelPeace$Tunnel" (7) ∈ TT := tt_i 24 (by decide +kernel) (by decide +kernel)
theorem k_25 : Cond.methodLink "TunnelPeace" (11) y_Tu_init ∈ TT := tt_i 25 (by decide +kernel) (by decide +kernel)
theorem k_26 : Cond.instanceMethod y_Tu_init ∈ TT := tt_i 26 (by decide +kernel) (by decide +kernel)
theorem k_27 : Cond.code y_Tu_init b_Tu_init 2 none ∈ TT := tt_i 27 (by decide +kernel) (by decide +kernel)
theorem k_28 : Cond.methodLink "TunnelPeace$Tunnel" (3) objectInit ∈ TT := tt_i 28 (by decide +kernel) (by decide +kernel)
theorem k_29 : Cond.classLink "TunnelPeace$Tunnel" (28) "TunnelPeace$Person" ∈ TT := tt_i 29 (by decide +kernel) (by decide +kernel)
theorem k_31 : Cond.instantiable "TunnelPeace$Person" (6) ∈ TT := tt_i 31 (by decide +kernel) (by decide +kernel)
theorem k_33 : Cond.instanceMethod y_Pe_init ∈ TT := tt_i 33 (by decide +kernel) (by decide +kernel)
theorem k_34 : Cond.code y_Pe_init b_Pe_init 1 none ∈ TT := tt_i 34 (by decide +kernel) (by decide +kernel)
theorem k_35 : Cond.methodLink "TunnelPeace$Person" (3) objectInit ∈ TT := tt_i 35 (by decide +kernel) (by decide +kernel)
theorem k_36 : Cond.fieldLink "TunnelPeace$Person" (9) "TunnelPeace$Person" "kind" "I" ∈ TT := tt_i 36 (by decide +kernel) (by decide +kernel)
theorem k_37 : Cond.fieldLink "TunnelPeace$Tunnel" (52) "TunnelPeace$Person" "kind" "I" ∈ TT := tt_i 37 (by decide +kernel) (by decide +kernel)
theorem k_38 : Cond.fieldLink "TunnelPeace$Person" (15) "TunnelPeace$Person" "side" "I" ∈ TT := tt_i 38 (by decide +kernel) (by decide +kernel)
theorem k_39 : Cond.fieldLink "TunnelPeace$Tunnel" (55) "TunnelPeace$Person" "side" "I" ∈ TT := tt_i 39 (by decide +kernel) (by decide +kernel)
theorem k_40 : Cond.fieldLink "TunnelPeace$Person" (22) "TunnelPeace$Person" "cell" "I" ∈ TT := tt_i 40 (by decide +kernel) (by decide +kernel)
theorem k_41 : Cond.fieldLink "TunnelPeace$Tunnel" (58) "TunnelPeace$Person" "cell" "I" ∈ TT := tt_i 41 (by decide +kernel) (by decide +kernel)
theorem k_42 : Cond.fieldLink "TunnelPeace$Sheet" (44) "TunnelPeace$Person" "cell" "I" ∈ TT := tt_i 42 (by decide +kernel) (by decide +kernel)
theorem k_43 : Cond.fieldLink "TunnelPeace$Forecast" (96) "TunnelPeace$Person" "cell" "I" ∈ TT := tt_i 43 (by decide +kernel) (by decide +kernel)
theorem k_44 : Cond.fieldLink "TunnelPeace$Person" (25) "TunnelPeace$Person" "season" "I" ∈ TT := tt_i 44 (by decide +kernel) (by decide +kernel)
theorem k_45 : Cond.fieldLink "TunnelPeace$Sheet" (39) "TunnelPeace$Person" "season" "I" ∈ TT := tt_i 45 (by decide +kernel) (by decide +kernel)
theorem k_46 : Cond.fieldLink "TunnelPeace$Tunnel" (61) "TunnelPeace$Person" "season" "I" ∈ TT := tt_i 46 (by decide +kernel) (by decide +kernel)
theorem k_47 : Cond.fieldLink "TunnelPeace$Person" (28) "TunnelPeace$Person" "bags" "I" ∈ TT := tt_i 47 (by decide +kernel) (by decide +kernel)
theorem k_48 : Cond.fieldLink "TunnelPeace$Tunnel" (64) "TunnelPeace$Person" "bags" "I" ∈ TT := tt_i 48 (by decide +kernel) (by decide +kernel)
theorem k_49 : Cond.fieldLink "TunnelPeace$Person" (31) "TunnelPeace$Person" "met" "I" ∈ TT := tt_i 49 (by decide +kernel) (by decide +kernel)
theorem k_50 : Cond.fieldLink "TunnelPeace$Forecast" (39) "TunnelPeace$Person" "met" "I" ∈ TT := tt_i 50 (by decide +kernel) (by decide +kernel)
theorem k_51 : Cond.fieldLink "TunnelPeace$Tunnel" (67) "TunnelPeace$Person" "met" "I" ∈ TT := tt_i 51 (by decide +kernel) (by decide +kernel)
theorem k_52 : Cond.lays "TunnelPeace$Person" "TunnelPeace$Person" "kind" "I" ∈ TT := tt_i 52 (by decide +kernel) (by decide +kernel)
theorem k_54 : Cond.lays "TunnelPeace$Person" "TunnelPeace$Person" "side" "I" ∈ TT := tt_i 54 (by decide +kernel) (by decide +kernel)
theorem k_56 : Cond.lays "TunnelPeace$Person" "TunnelPeace$Person" "cell" "I" ∈ TT := tt_i 56 (by decide +kernel) (by decide +kernel)
theorem k_58 : Cond.lays "TunnelPeace$Person" "TunnelPeace$Person" "season" "I" ∈ TT := tt_i 58 (by decide +kernel) (by decide +kernel)
theorem k_60 : Cond.lays "TunnelPeace$Person" "TunnelPeace$Person" "bags" "I" ∈ TT := tt_i 60 (by decide +kernel) (by decide +kernel)
theorem k_62 : Cond.lays "TunnelPeace$Person" "TunnelPeace$Person" "met" "I" ∈ TT := tt_i 62 (by decide +kernel) (by decide +kernel)
theorem k_66 : Cond.fieldLink "TunnelPeace$Tunnel" (9) "TunnelPeace$Tunnel" "day" "I" ∈ TT := tt_i 66 (by decide +kernel) (by decide +kernel)
theorem k_67 : Cond.fieldLink "TunnelPeace" (113) "TunnelPeace$Tunnel" "day" "I" ∈ TT := tt_i 67 (by decide +kernel) (by decide +kernel)
theorem k_68 : Cond.fieldLink "TunnelPeace$Tunnel" (15) "TunnelPeace$Tunnel" "guns" "I" ∈ TT := tt_i 68 (by decide +kernel) (by decide +kernel)
theorem k_69 : Cond.fieldLink "TunnelPeace" (62) "TunnelPeace$Tunnel" "guns" "I" ∈ TT := tt_i 69 (by decide +kernel) (by decide +kernel)
theorem k_70 : Cond.fieldLink "TunnelPeace$Forecast" (28) "TunnelPeace$Tunnel" "guns" "I" ∈ TT := tt_i 70 (by decide +kernel) (by decide +kernel)
theorem k_71 : Cond.fieldLink "TunnelPeace$Tape" (63) "TunnelPeace$Tunnel" "guns" "I" ∈ TT := tt_i 71 (by decide +kernel) (by decide +kernel)
theorem k_72 : Cond.fieldLink "TunnelPeace$Tunnel" (18) "TunnelPeace$Tunnel" "z" "I" ∈ TT := tt_i 72 (by decide +kernel) (by decide +kernel)
theorem k_73 : Cond.fieldLink "TunnelPeace" (187) "TunnelPeace$Tunnel" "z" "I" ∈ TT := tt_i 73 (by decide +kernel) (by decide +kernel)
theorem k_74 : Cond.fieldLink "TunnelPeace$Tunnel" (21) "TunnelPeace$Tunnel" "size" "I" ∈ TT := tt_i 74 (by decide +kernel) (by decide +kernel)
theorem k_75 : Cond.fieldLink "TunnelPeace$Forecast" (65) "TunnelPeace$Tunnel" "size" "I" ∈ TT := tt_i 75 (by decide +kernel) (by decide +kernel)
theorem k_76 : Cond.fieldLink "TunnelPeace" (248) "TunnelPeace$Tunnel" "size" "I" ∈ TT := tt_i 76 (by decide +kernel) (by decide +kernel)
theorem k_77 : Cond.fieldLink "TunnelPeace$Tunnel" (24) "TunnelPeace$Tunnel" "list" "[I" ∈ TT := tt_i 77 (by decide +kernel) (by decide +kernel)
theorem k_78 : Cond.fieldLink "TunnelPeace" (66) "TunnelPeace$Tunnel" "list" "[I" ∈ TT := tt_i 78 (by decide +kernel) (by decide +kernel)
theorem k_79 : Cond.fieldLink "TunnelPeace$Tape" (57) "TunnelPeace$Tunnel" "list" "[I" ∈ TT := tt_i 79 (by decide +kernel) (by decide +kernel)
theorem k_80 : Cond.fieldLink "TunnelPeace$Forecast" (48) "TunnelPeace$Tunnel" "list" "[I" ∈ TT := tt_i 80 (by decide +kernel) (by decide +kernel)
theorem k_81 : Cond.fieldLink "TunnelPeace$Tunnel" (30) "TunnelPeace$Tunnel" "people" "[LTunnelPeace$Person;" ∈ TT := tt_i 81 (by decide +kernel) (by decide +kernel)
theorem k_82 : Cond.fieldLink "TunnelPeace$Forecast" (35) "TunnelPeace$Tunnel" "people" "[LTunnelPeace$Person;" ∈ TT := tt_i 82 (by decide +kernel) (by decide +kernel)
theorem k_83 : Cond.fieldLink "TunnelPeace$Tape" (72) "TunnelPeace$Tunnel" "people" "[LTunnelPeace$Person;" ∈ TT := tt_i 83 (by decide +kernel) (by decide +kernel)
theorem k_84 : Cond.fieldLink "TunnelPeace$Sheet" (35) "TunnelPeace$Tunnel" "people" "[LTunnelPeace$Person;" ∈ TT := tt_i 84 (by decide +kernel) (by decide +kernel)
theorem k_85 : Cond.fieldLink "TunnelPeace" (88) "TunnelPeace$Tunnel" "people" "[LTunnelPeace$Person;" ∈ TT := tt_i 85 (by decide +kernel) (by decide +kernel)
theorem k_86 : Cond.fieldLink "TunnelPeace$Tunnel" (34) "TunnelPeace$Tunnel" "spots" "[I" ∈ TT := tt_i 86 (by decide +kernel) (by decide +kernel)
theorem k_87 : Cond.fieldLink "TunnelPeace" (204) "TunnelPeace$Tunnel" "spots" "[I" ∈ TT := tt_i 87 (by decide +kernel) (by decide +kernel)
theorem k_88 : Cond.lays "TunnelPeace$Tunnel" "TunnelPeace$Tunnel" "day" "I" ∈ TT := tt_i 88 (by decide +kernel) (by decide +kernel)
theorem k_90 : Cond.lays "TunnelPeace$Tunnel" "TunnelPeace$Tunnel" "guns" "I" ∈ TT := tt_i 90 (by decide +kernel) (by decide +kernel)
theorem k_92 : Cond.lays "TunnelPeace$Tunnel" "TunnelPeace$Tunnel" "z" "I" ∈ TT := tt_i 92 (by decide +kernel) (by decide +kernel)
theorem k_94 : Cond.lays "TunnelPeace$Tunnel" "TunnelPeace$Tunnel" "size" "I" ∈ TT := tt_i 94 (by decide +kernel) (by decide +kernel)
theorem k_96 : Cond.laysFinal "TunnelPeace$Tunnel" "TunnelPeace$Tunnel" "list" "[I" ∈ TT := tt_i 96 (by decide +kernel) (by decide +kernel)
theorem k_98 : Cond.laysFinal "TunnelPeace$Tunnel" "TunnelPeace$Tunnel" "people" "[LTunnelPeace$Person;" ∈ TT := tt_i 98 (by decide +kernel) (by decide +kernel)
theorem k_100 : Cond.laysFinal "TunnelPeace$Tunnel" "TunnelPeace$Tunnel" "spots" "[I" ∈ TT := tt_i 100 (by decide +kernel) (by decide +kernel)
theorem k_103 : Cond.classLink "TunnelPeace" (26) "TunnelPeace$Forecast" ∈ TT := tt_i 103 (by decide +kernel) (by decide +kernel)
theorem k_104 : Cond.instantiable "TunnelPeace$Forecast" (2) ∈ TT := tt_i 104 (by decide +kernel) (by decide +kernel)
theorem k_105 : Cond.methodLink "TunnelPeace" (28) y_Fo_init ∈ TT := tt_i 105 (by decide +kernel) (by decide +kernel)
theorem k_106 : Cond.instanceMethod y_Fo_init ∈ TT := tt_i 106 (by decide +kernel) (by decide +kernel)
theorem k_107 : Cond.code y_Fo_init b_Fo_init 3 none ∈ TT := tt_i 107 (by decide +kernel) (by decide +kernel)
theorem k_108 : Cond.methodLink "TunnelPeace$Forecast" (3) objectInit ∈ TT := tt_i 108 (by decide +kernel) (by decide +kernel)
theorem k_109 : Cond.fieldLink "TunnelPeace$Forecast" (9) "TunnelPeace$Forecast" "now" "LTunnelPeace$Tunnel;" ∈ TT := tt_i 109 (by decide +kernel) (by decide +kernel)
theorem k_110 : Cond.fieldLink "TunnelPeace$Forecast" (15) "TunnelPeace$Forecast" "trial" "LTunnelPeace$Tunnel;" ∈ TT := tt_i 110 (by decide +kernel) (by decide +kernel)
theorem k_111 : Cond.laysFinal "TunnelPeace$Forecast" "TunnelPeace$Forecast" "now" "LTunnelPeace$Tunnel;" ∈ TT := tt_i 111 (by decide +kernel) (by decide +kernel)
theorem k_113 : Cond.laysFinal "TunnelPeace$Forecast" "TunnelPeace$Forecast" "trial" "LTunnelPeace$Tunnel;" ∈ TT := tt_i 113 (by decide +kernel) (by decide +kernel)
theorem k_116 : Cond.classLink "TunnelPeace" (35) "TunnelPeace$Tape" ∈ TT := tt_i 116 (by decide +kernel) (by decide +kernel)
theorem k_117 : Cond.instantiable "TunnelPeace$Tape" (6) ∈ TT := tt_i 117 (by decide +kernel) (by decide +kernel)
theorem k_119 : Cond.instanceMethod y_Ta_init ∈ TT := tt_i 119 (by decide +kernel) (by decide +kernel)
theorem k_120 : Cond.code y_Ta_init b_Ta_init 1 none ∈ TT := tt_i 120 (by decide +kernel) (by decide +kernel)
theorem k_121 : Cond.methodLink "TunnelPeace$Tape" (3) objectInit ∈ TT := tt_i 121 (by decide +kernel) (by decide +kernel)
theorem k_122 : Cond.fieldLink "TunnelPeace$Tape" (9) "TunnelPeace$Tape" "length" "I" ∈ TT := tt_i 122 (by decide +kernel) (by decide +kernel)
theorem k_123 : Cond.fieldLink "TunnelPeace" (190) "TunnelPeace$Tape" "length" "I" ∈ TT := tt_i 123 (by decide +kernel) (by decide +kernel)
theorem k_124 : Cond.fieldLink "TunnelPeace$Tape" (15) "TunnelPeace$Tape" "bytes" "[B" ∈ TT := tt_i 124 (by decide +kernel) (by decide +kernel)
theorem k_125 : Cond.fieldLink "TunnelPeace$Tape" (50) "TunnelPeace$Tape" "token" "I" ∈ TT := tt_i 125 (by decide +kernel) (by decide +kernel)
theorem k_126 : Cond.fieldLink "TunnelPeace$Tape" (43) "TunnelPeace$Tape" "begin" "I" ∈ TT := tt_i 126 (by decide +kernel) (by decide +kernel)
theorem k_127 : Cond.fieldLink "TunnelPeace$Tape" (19) "TunnelPeace$Tape" "end" "I" ∈ TT := tt_i 127 (by decide +kernel) (by decide +kernel)
theorem k_128 : Cond.fieldLink "TunnelPeace$Tape" (127) "TunnelPeace$Tape" "number" "I" ∈ TT := tt_i 128 (by decide +kernel) (by decide +kernel)
theorem k_129 : Cond.lays "TunnelPeace$Tape" "TunnelPeace$Tape" "length" "I" ∈ TT := tt_i 129 (by decide +kernel) (by decide +kernel)
theorem k_131 : Cond.laysFinal "TunnelPeace$Tape" "TunnelPeace$Tape" "bytes" "[B" ∈ TT := tt_i 131 (by decide +kernel) (by decide +kernel)
theorem k_133 : Cond.lays "TunnelPeace$Tape" "TunnelPeace$Tape" "token" "I" ∈ TT := tt_i 133 (by decide +kernel) (by decide +kernel)
theorem k_135 : Cond.lays "TunnelPeace$Tape" "TunnelPeace$Tape" "begin" "I" ∈ TT := tt_i 135 (by decide +kernel) (by decide +kernel)
theorem k_137 : Cond.lays "TunnelPeace$Tape" "TunnelPeace$Tape" "end" "I" ∈ TT := tt_i 137 (by decide +kernel) (by decide +kernel)
theorem k_139 : Cond.lays "TunnelPeace$Tape" "TunnelPeace$Tape" "number" "I" ∈ TT := tt_i 139 (by decide +kernel) (by decide +kernel)
theorem k_143 : Cond.classLink "TunnelPeace" (42) "TunnelPeace$Sheet" ∈ TT := tt_i 143 (by decide +kernel) (by decide +kernel)
theorem k_145 : Cond.instantiable "TunnelPeace$Sheet" (3) ∈ TT := tt_i 145 (by decide +kernel) (by decide +kernel)
theorem k_147 : Cond.instanceMethod y_Sh_init ∈ TT := tt_i 147 (by decide +kernel) (by decide +kernel)
theorem k_148 : Cond.code y_Sh_init b_Sh_init 1 none ∈ TT := tt_i 148 (by decide +kernel) (by decide +kernel)
theorem k_149 : Cond.methodLink "TunnelPeace$Sheet" (3) objectInit ∈ TT := tt_i 149 (by decide +kernel) (by decide +kernel)
theorem k_150 : Cond.fieldLink "TunnelPeace$Sheet" (9) "TunnelPeace$Sheet" "bits" "I" ∈ TT := tt_i 150 (by decide +kernel) (by decide +kernel)
theorem k_151 : Cond.fieldLink "TunnelPeace" (226) "TunnelPeace$Sheet" "bits" "I" ∈ TT := tt_i 151 (by decide +kernel) (by decide +kernel)
theorem k_152 : Cond.fieldLink "TunnelPeace$Sheet" (15) "TunnelPeace$Sheet" "length" "I" ∈ TT := tt_i 152 (by decide +kernel) (by decide +kernel)
theorem k_153 : Cond.fieldLink "TunnelPeace$Forecast" (88) "TunnelPeace$Sheet" "length" "I" ∈ TT := tt_i 153 (by decide +kernel) (by decide +kernel)
theorem k_154 : Cond.fieldLink "TunnelPeace" (216) "TunnelPeace$Sheet" "length" "I" ∈ TT := tt_i 154 (by decide +kernel) (by decide +kernel)
theorem k_155 : Cond.fieldLink "TunnelPeace$Sheet" (18) "TunnelPeace$Sheet" "numbers" "[I" ∈ TT := tt_i 155 (by decide +kernel) (by decide +kernel)
theorem k_156 : Cond.fieldLink "TunnelPeace$Forecast" (93) "TunnelPeace$Sheet" "numbers" "[I" ∈ TT := tt_i 156 (by decide +kernel) (by decide +kernel)
theorem k_157 : Cond.fieldLink "TunnelPeace" (232) "TunnelPeace$Sheet" "numbers" "[I" ∈ TT := tt_i 157 (by decide +kernel) (by decide +kernel)
theorem k_158 : Cond.lays "TunnelPeace$Sheet" "TunnelPeace$Sheet" "bits" "I" ∈ TT := tt_i 158 (by decide +kernel) (by decide +kernel)
theorem k_160 : Cond.lays "TunnelPeace$Sheet" "TunnelPeace$Sheet" "length" "I" ∈ TT := tt_i 160 (by decide +kernel) (by decide +kernel)
theorem k_162 : Cond.laysFinal "TunnelPeace$Sheet" "TunnelPeace$Sheet" "numbers" "[I" ∈ TT := tt_i 162 (by decide +kernel) (by decide +kernel)
theorem k_165 : Cond.fieldLink "TunnelPeace" (12) "TunnelPeace" "tunnel" "LTunnelPeace$Tunnel;" ∈ TT := tt_i 165 (by decide +kernel) (by decide +kernel)
theorem k_166 : Cond.fieldLink "TunnelPeace" (16) "TunnelPeace" "trial" "LTunnelPeace$Tunnel;" ∈ TT := tt_i 166 (by decide +kernel) (by decide +kernel)
theorem k_167 : Cond.fieldLink "TunnelPeace" (19) "TunnelPeace" "kept" "LTunnelPeace$Tunnel;" ∈ TT := tt_i 167 (by decide +kernel) (by decide +kernel)
theorem k_168 : Cond.fieldLink "TunnelPeace" (22) "TunnelPeace" "keeps" "Z" ∈ TT := tt_i 168 (by decide +kernel) (by decide +kernel)
theorem k_169 : Cond.fieldLink "TunnelPeace" (31) "TunnelPeace" "forecast" "LTunnelPeace$Forecast;" ∈ TT := tt_i 169 (by decide +kernel) (by decide +kernel)
theorem k_170 : Cond.fieldLink "TunnelPeace" (38) "TunnelPeace" "tape" "LTunnelPeace$Tape;" ∈ TT := tt_i 170 (by decide +kernel) (by decide +kernel)
theorem k_171 : Cond.fieldLink "TunnelPeace" (44) "TunnelPeace" "sheets" "[LTunnelPeace$Sheet;" ∈ TT := tt_i 171 (by decide +kernel) (by decide +kernel)
theorem k_172 : Cond.fieldLink "TunnelPeace" (48) "TunnelPeace" "findings" "[I" ∈ TT := tt_i 172 (by decide +kernel) (by decide +kernel)
theorem k_173 : Cond.laysFinal "TunnelPeace" "TunnelPeace" "tunnel" "LTunnelPeace$Tunnel;" ∈ TT := tt_i 173 (by decide +kernel) (by decide +kernel)
theorem k_175 : Cond.laysFinal "TunnelPeace" "TunnelPeace" "trial" "LTunnelPeace$Tunnel;" ∈ TT := tt_i 175 (by decide +kernel) (by decide +kernel)
theorem k_177 : Cond.laysFinal "TunnelPeace" "TunnelPeace" "kept" "LTunnelPeace$Tunnel;" ∈ TT := tt_i 177 (by decide +kernel) (by decide +kernel)
theorem k_179 : Cond.lays "TunnelPeace" "TunnelPeace" "keeps" "Z" ∈ TT := tt_i 179 (by decide +kernel) (by decide +kernel)
theorem k_181 : Cond.laysFinal "TunnelPeace" "TunnelPeace" "forecast" "LTunnelPeace$Forecast;" ∈ TT := tt_i 181 (by decide +kernel) (by decide +kernel)
theorem k_183 : Cond.laysFinal "TunnelPeace" "TunnelPeace" "tape" "LTunnelPeace$Tape;" ∈ TT := tt_i 183 (by decide +kernel) (by decide +kernel)
theorem k_185 : Cond.laysFinal "TunnelPeace" "TunnelPeace" "sheets" "[LTunnelPeace$Sheet;" ∈ TT := tt_i 185 (by decide +kernel) (by decide +kernel)
theorem k_187 : Cond.laysFinal "TunnelPeace" "TunnelPeace" "findings" "[I" ∈ TT := tt_i 187 (by decide +kernel) (by decide +kernel)
theorem k_190 : Cond.methodLink "TunnelPeaceLaw" (13) y_TP_guns ∈ TT := tt_i 190 (by decide +kernel) (by decide +kernel)
theorem k_191 : Cond.instanceMethod y_TP_guns ∈ TT := tt_i 191 (by decide +kernel) (by decide +kernel)
theorem k_192 : Cond.selects "TunnelPeace" y_TP_guns y_TP_guns ∈ TT := tt_i 192 (by decide +kernel) (by decide +kernel)
theorem k_193 : Cond.code y_TP_guns b_TP_guns 3 (some (.int)) ∈ TT := tt_i 193 (by decide +kernel) (by decide +kernel)
theorem k_194 : Cond.methodLink "TunnelPeace" (53) y_TP_within ∈ TT := tt_i 194 (by decide +kernel) (by decide +kernel)
theorem k_195 : Cond.static y_TP_within ∈ TT := tt_i 195 (by decide +kernel) (by decide +kernel)
theorem k_196 : Cond.code y_TP_within b_TP_within 2 (some (.boolean)) ∈ TT := tt_i 196 (by decide +kernel) (by decide +kernel)
theorem k_197 : Cond.constant "TunnelPeace" (57) (-1000001) ∈ TT := tt_i 197 (by decide +kernel) (by decide +kernel)
theorem k_198 : Cond.methodLink "TunnelPeace" (58) y_TP_found ∈ TT := tt_i 198 (by decide +kernel) (by decide +kernel)
theorem k_200 : Cond.instanceMethod y_TP_found ∈ TT := tt_i 200 (by decide +kernel) (by decide +kernel)
theorem k_201 : Cond.code y_TP_found b_TP_found 3 (some (.int)) ∈ TT := tt_i 201 (by decide +kernel) (by decide +kernel)
theorem k_202 : Cond.methodLink "TunnelPeaceLaw" (18) y_TP_place ∈ TT := tt_i 202 (by decide +kernel) (by decide +kernel)
theorem k_203 : Cond.instanceMethod y_TP_place ∈ TT := tt_i 203 (by decide +kernel) (by decide +kernel)
theorem k_204 : Cond.selects "TunnelPeace" y_TP_place y_TP_place ∈ TT := tt_i 204 (by decide +kernel) (by decide +kernel)
theorem k_205 : Cond.code y_TP_place b_TP_place 4 (some (.int)) ∈ TT := tt_i 205 (by decide +kernel) (by decide +kernel)
theorem k_206 : Cond.methodLink "TunnelPeaceLaw" (23) y_TP_listed ∈ TT := tt_i 206 (by decide +kernel) (by decide +kernel)
theorem k_207 : Cond.instanceMethod y_TP_listed ∈ TT := tt_i 207 (by decide +kernel) (by decide +kernel)
theorem k_208 : Cond.selects "TunnelPeace" y_TP_listed y_TP_listed ∈ TT := tt_i 208 (by decide +kernel) (by decide +kernel)
theorem k_209 : Cond.code y_TP_listed b_TP_listed 2 (some (.int)) ∈ TT := tt_i 209 (by decide +kernel) (by decide +kernel)
theorem k_210 : Cond.methodLink "TunnelPeaceLaw" (27) y_TP_person ∈ TT := tt_i 210 (by decide +kernel) (by decide +kernel)
theorem k_211 : Cond.instanceMethod y_TP_person ∈ TT := tt_i 211 (by decide +kernel) (by decide +kernel)
theorem k_212 : Cond.selects "TunnelPeace" y_TP_person y_TP_person ∈ TT := tt_i 212 (by decide +kernel) (by decide +kernel)
theorem k_213 : Cond.code y_TP_person b_TP_person 3 (some (.int)) ∈ TT := tt_i 213 (by decide +kernel) (by decide +kernel)
theorem k_214 : Cond.methodLink "TunnelPeace" (69) y_Tu_isFull ∈ TT := tt_i 214 (by decide +kernel) (by decide +kernel)
theorem k_215 : Cond.instanceMethod y_Tu_isFull ∈ TT := tt_i 215 (by decide +kernel) (by decide +kernel)
theorem k_216 : Cond.selects "TunnelPeace$Tunnel" y_Tu_isFull y_Tu_isFull ∈ TT := tt_i 216 (by decide +kernel) (by decide +kernel)
theorem k_217 : Cond.code y_Tu_isFull b_Tu_isFull 1 (some (.boolean)) ∈ TT := tt_i 217 (by decide +kernel) (by decide +kernel)
theorem k_218 : Cond.constant "TunnelPeace" (73) (-1000002) ∈ TT := tt_i 218 (by decide +kernel) (by decide +kernel)
theorem k_219 : Cond.methodLink "TunnelPeace" (74) y_Tu_add ∈ TT := tt_i 219 (by decide +kernel) (by decide +kernel)
theorem k_220 : Cond.instanceMethod y_Tu_add ∈ TT := tt_i 220 (by decide +kernel) (by decide +kernel)
theorem k_221 : Cond.selects "TunnelPeace$Tunnel" y_Tu_add y_Tu_add ∈ TT := tt_i 221 (by decide +kernel) (by decide +kernel)
theorem k_222 : Cond.code y_Tu_add b_Tu_add 3 (some (.int)) ∈ TT := tt_i 222 (by decide +kernel) (by decide +kernel)
theorem k_223 : Cond.methodLink "TunnelPeace$Tunnel" (48) y_Pe_begin ∈ TT := tt_i 223 (by decide +kernel) (by decide +kernel)
theorem k_224 : Cond.instanceMethod y_Pe_begin ∈ TT := tt_i 224 (by decide +kernel) (by decide +kernel)
theorem k_225 : Cond.selects "TunnelPeace$Person" y_Pe_begin y_Pe_begin ∈ TT := tt_i 225 (by decide +kernel) (by decide +kernel)
theorem k_226 : Cond.code y_Pe_begin b_Pe_begin 3 none ∈ TT := tt_i 226 (by decide +kernel) (by decide +kernel)
theorem k_227 : Cond.methodLink "TunnelPeace$Person" (18) y_Pe_lift ∈ TT := tt_i 227 (by decide +kernel) (by decide +kernel)
theorem k_228 : Cond.instanceMethod y_Pe_lift ∈ TT := tt_i 228 (by decide +kernel) (by decide +kernel)
theorem k_229 : Cond.selects "TunnelPeace$Person" y_Pe_lift y_Pe_lift ∈ TT := tt_i 229 (by decide +kernel) (by decide +kernel)
theorem k_230 : Cond.code y_Pe_lift b_Pe_lift 1 (some (.int)) ∈ TT := tt_i 230 (by decide +kernel) (by decide +kernel)
theorem k_231 : Cond.methodLink "TunnelPeaceLaw" (31) y_TP_of ∈ TT := tt_i 231 (by decide +kernel) (by decide +kernel)
theorem k_232 : Cond.instanceMethod y_TP_of ∈ TT := tt_i 232 (by decide +kernel) (by decide +kernel)
theorem k_233 : Cond.selects "TunnelPeace" y_TP_of y_TP_of ∈ TT := tt_i 233 (by decide +kernel) (by decide +kernel)
theorem k_234 : Cond.code y_TP_of b_TP_of 3 (some (.int)) ∈ TT := tt_i 234 (by decide +kernel) (by decide +kernel)
theorem k_235 : Cond.methodLink "TunnelPeace" (78) y_Tu_has ∈ TT := tt_i 235 (by decide +kernel) (by decide +kernel)
theorem k_236 : Cond.instanceMethod y_Tu_has ∈ TT := tt_i 236 (by decide +kernel) (by decide +kernel)
theorem k_237 : Cond.selects "TunnelPeace$Tunnel" y_Tu_has y_Tu_has ∈ TT := tt_i 237 (by decide +kernel) (by decide +kernel)
theorem k_238 : Cond.code y_Tu_has b_Tu_has 2 (some (.boolean)) ∈ TT := tt_i 238 (by decide +kernel) (by decide +kernel)
theorem k_239 : Cond.methodLink "TunnelPeace" (82) y_Tu_told ∈ TT := tt_i 239 (by decide +kernel) (by decide +kernel)
theorem k_240 : Cond.instanceMethod y_Tu_told ∈ TT := tt_i 240 (by decide +kernel) (by decide +kernel)
theorem k_241 : Cond.selects "TunnelPeace$Tunnel" y_Tu_told y_Tu_told ∈ TT := tt_i 241 (by decide +kernel) (by decide +kernel)
theorem k_242 : Cond.code y_Tu_told b_Tu_told 4 (some (.int)) ∈ TT := tt_i 242 (by decide +kernel) (by decide +kernel)
theorem k_243 : Cond.methodLink "TunnelPeace$Tunnel" (70) y_Pe_steps ∈ TT := tt_i 243 (by decide +kernel) (by decide +kernel)
theorem k_244 : Cond.instanceMethod y_Pe_steps ∈ TT := tt_i 244 (by decide +kernel) (by decide +kernel)
theorem k_245 : Cond.selects "TunnelPeace$Person" y_Pe_steps y_Pe_steps ∈ TT := tt_i 245 (by decide +kernel) (by decide +kernel)
theorem k_246 : Cond.code y_Pe_steps b_Pe_steps 5 (some (.int)) ∈ TT := tt_i 246 (by decide +kernel) (by decide +kernel)
theorem k_247 : Cond.methodLink "TunnelPeace$Person" (42) y_JM_max ∈ TT := tt_i 247 (by decide +kernel) (by decide +kernel)
theorem k_248 : Cond.static y_JM_max ∈ TT := tt_i 248 (by decide +kernel) (by decide +kernel)
theorem k_249 : Cond.code y_JM_max b_JM_max 2 (some (.int)) ∈ TT := tt_i 249 (by decide +kernel) (by decide +kernel)
theorem k_250 : Cond.methodLink "TunnelPeace$Tunnel" (74) y_Pe_crosses ∈ TT := tt_i 250 (by decide +kernel) (by decide +kernel)
theorem k_251 : Cond.instanceMethod y_Pe_crosses ∈ TT := tt_i 251 (by decide +kernel) (by decide +kernel)
theorem k_252 : Cond.selects "TunnelPeace$Person" y_Pe_crosses y_Pe_crosses ∈ TT := tt_i 252 (by decide +kernel) (by decide +kernel)
theorem k_253 : Cond.code y_Pe_crosses b_Pe_crosses 2 (some (.boolean)) ∈ TT := tt_i 253 (by decide +kernel) (by decide +kernel)
theorem k_254 : Cond.methodLink "TunnelPeace$Tunnel" (78) y_Pe_calms ∈ TT := tt_i 254 (by decide +kernel) (by decide +kernel)
theorem k_255 : Cond.instanceMethod y_Pe_calms ∈ TT := tt_i 255 (by decide +kernel) (by decide +kernel)
theorem k_256 : Cond.selects "TunnelPeace$Person" y_Pe_calms y_Pe_calms ∈ TT := tt_i 256 (by decide +kernel) (by decide +kernel)
theorem k_257 : Cond.code y_Pe_calms b_Pe_calms 5 (some (.int)) ∈ TT := tt_i 257 (by decide +kernel) (by decide +kernel)
theorem k_258 : Cond.methodLink "TunnelPeace$Tunnel" (82) y_Pe_tires ∈ TT := tt_i 258 (by decide +kernel) (by decide +kernel)
theorem k_259 : Cond.instanceMethod y_Pe_tires ∈ TT := tt_i 259 (by decide +kernel) (by decide +kernel)
theorem k_260 : Cond.selects "TunnelPeace$Person" y_Pe_tires y_Pe_tires ∈ TT := tt_i 260 (by decide +kernel) (by decide +kernel)
theorem k_261 : Cond.code y_Pe_tires b_Pe_tires 3 (some (.int)) ∈ TT := tt_i 261 (by decide +kernel) (by decide +kernel)
theorem k_262 : Cond.methodLink "TunnelPeaceLaw" (35) y_TP_change ∈ TT := tt_i 262 (by decide +kernel) (by decide +kernel)
theorem k_263 : Cond.instanceMethod y_TP_change ∈ TT := tt_i 263 (by decide +kernel) (by decide +kernel)
theorem k_264 : Cond.selects "TunnelPeace" y_TP_change y_TP_change ∈ TT := tt_i 264 (by decide +kernel) (by decide +kernel)
theorem k_265 : Cond.code y_TP_change b_TP_change 5 (some (.int)) ∈ TT := tt_i 265 (by decide +kernel) (by decide +kernel)
theorem k_266 : Cond.fieldLink "TunnelPeace" (85) "TunnelPeace" "MOST_OF" "[I" ∈ TT := tt_i 266 (by decide +kernel) (by decide +kernel)
theorem k_268 : Cond.methodLink "TunnelPeace" (92) y_Pe_set ∈ TT := tt_i 268 (by decide +kernel) (by decide +kernel)
theorem k_269 : Cond.instanceMethod y_Pe_set ∈ TT := tt_i 269 (by decide +kernel) (by decide +kernel)
theorem k_270 : Cond.selects "TunnelPeace$Person" y_Pe_set y_Pe_set ∈ TT := tt_i 270 (by decide +kernel) (by decide +kernel)
theorem k_271 : Cond.code y_Pe_set b_Pe_set 3 none ∈ TT := tt_i 271 (by decide +kernel) (by decide +kernel)
theorem k_272 : Cond.methodLink "TunnelPeaceLaw" (40) y_TP_who ∈ TT := tt_i 272 (by decide +kernel) (by decide +kernel)
theorem k_273 : Cond.instanceMethod y_TP_who ∈ TT := tt_i 273 (by decide +kernel) (by decide +kernel)
theorem k_274 : Cond.selects "TunnelPeace" y_TP_who y_TP_who ∈ TT := tt_i 274 (by decide +kernel) (by decide +kernel)
theorem k_275 : Cond.code y_TP_who b_TP_who 2 (some (.int)) ∈ TT := tt_i 275 (by decide +kernel) (by decide +kernel)
theorem k_276 : Cond.methodLink "TunnelPeace" (98) y_Tu_peopleAt ∈ TT := tt_i 276 (by decide +kernel) (by decide +kernel)
theorem k_277 : Cond.instanceMethod y_Tu_peopleAt ∈ TT := tt_i 277 (by decide +kernel) (by decide +kernel)
theorem k_278 : Cond.selects "TunnelPeace$Tunnel" y_Tu_peopleAt y_Tu_peopleAt ∈ TT := tt_i 278 (by decide +kernel) (by decide +kernel)
theorem k_279 : Cond.code y_Tu_peopleAt b_Tu_peopleAt 4 (some (.int)) ∈ TT := tt_i 279 (by decide +kernel) (by decide +kernel)
theorem k_280 : Cond.methodLink "TunnelPeaceLaw" (44) y_TP_two ∈ TT := tt_i 280 (by decide +kernel) (by decide +kernel)
theorem k_281 : Cond.instanceMethod y_TP_two ∈ TT := tt_i 281 (by decide +kernel) (by decide +kernel)
theorem k_282 : Cond.selects "TunnelPeace" y_TP_two y_TP_two ∈ TT := tt_i 282 (by decide +kernel) (by decide +kernel)
theorem k_283 : Cond.code y_TP_two b_TP_two 3 (some (.int)) ∈ TT := tt_i 283 (by decide +kernel) (by decide +kernel)
theorem k_284 : Cond.methodLink "TunnelPeace" (101) y_Pe_wouldMeet ∈ TT := tt_i 284 (by decide +kernel) (by decide +kernel)
theorem k_285 : Cond.instanceMethod y_Pe_wouldMeet ∈ TT := tt_i 285 (by decide +kernel) (by decide +kernel)
theorem k_286 : Cond.selects "TunnelPeace$Person" y_Pe_wouldMeet y_Pe_wouldMeet ∈ TT := tt_i 286 (by decide +kernel) (by decide +kernel)
theorem k_287 : Cond.code y_Pe_wouldMeet b_Pe_wouldMeet 2 (some (.boolean)) ∈ TT := tt_i 287 (by decide +kernel) (by decide +kernel)
theorem k_288 : Cond.methodLink "TunnelPeace$Person" (63) y_Pe_wouldMeetAt ∈ TT := tt_i 288 (by decide +kernel) (by decide +kernel)
theorem k_289 : Cond.instanceMethod y_Pe_wouldMeetAt ∈ TT := tt_i 289 (by decide +kernel) (by decide +kernel)
theorem k_290 : Cond.selects "TunnelPeace$Person" y_Pe_wouldMeetAt y_Pe_wouldMeetAt ∈ TT := tt_i 290 (by decide +kernel) (by decide +kernel)
theorem k_291 : Cond.code y_Pe_wouldMeetAt b_Pe_wouldMeetAt 3 (some (.boolean)) ∈ TT := tt_i 291 (by decide +kernel) (by decide +kernel)
theorem k_292 : Cond.methodLink "TunnelPeaceLaw" (48) y_TP_go ∈ TT := tt_i 292 (by decide +kernel) (by decide +kernel)
theorem k_293 : Cond.instanceMethod y_TP_go ∈ TT := tt_i 293 (by decide +kernel) (by decide +kernel)
theorem k_294 : Cond.selects "TunnelPeace" y_TP_go y_TP_go ∈ TT := tt_i 294 (by decide +kernel) (by decide +kernel)
theorem k_295 : Cond.code y_TP_go b_TP_go 2 (some (.int)) ∈ TT := tt_i 295 (by decide +kernel) (by decide +kernel)
theorem k_296 : Cond.methodLink "TunnelPeace" (105) y_Tu_hasDays ∈ TT := tt_i 296 (by decide +kernel) (by decide +kernel)
theorem k_297 : Cond.instanceMethod y_Tu_hasDays ∈ TT := tt_i 297 (by decide +kernel) (by decide +kernel)
theorem k_298 : Cond.selects "TunnelPeace$Tunnel" y_Tu_hasDays y_Tu_hasDays ∈ TT := tt_i 298 (by decide +kernel) (by decide +kernel)
theorem k_299 : Cond.code y_Tu_hasDays b_Tu_hasDays 2 (some (.boolean)) ∈ TT := tt_i 299 (by decide +kernel) (by decide +kernel)
theorem k_300 : Cond.constant "TunnelPeace$Tunnel" (85) (99999) ∈ TT := tt_i 300 (by decide +kernel) (by decide +kernel)
theorem k_301 : Cond.constant "TunnelPeace" (108) (-1000005) ∈ TT := tt_i 301 (by decide +kernel) (by decide +kernel)
theorem k_302 : Cond.methodLink "TunnelPeace" (109) y_Tu_passDays ∈ TT := tt_i 302 (by decide +kernel) (by decide +kernel)
theorem k_303 : Cond.instanceMethod y_Tu_passDays ∈ TT := tt_i 303 (by decide +kernel) (by decide +kernel)
theorem k_304 : Cond.selects "TunnelPeace$Tunnel" y_Tu_passDays y_Tu_passDays ∈ TT := tt_i 304 (by decide +kernel) (by decide +kernel)
theorem k_305 : Cond.code y_Tu_passDays b_Tu_passDays 3 none ∈ TT := tt_i 305 (by decide +kernel) (by decide +kernel)
theorem k_306 : Cond.methodLink "TunnelPeace$Tunnel" (86) y_Tu_passDay ∈ TT := tt_i 306 (by decide +kernel) (by decide +kernel)
theorem k_307 : Cond.instanceMethod y_Tu_passDay ∈ TT := tt_i 307 (by decide +kernel) (by decide +kernel)
theorem k_308 : Cond.selects "TunnelPeace$Tunnel" y_Tu_passDay y_Tu_passDay ∈ TT := tt_i 308 (by decide +kernel) (by decide +kernel)
theorem k_309 : Cond.code y_Tu_passDay b_Tu_passDay 3 none ∈ TT := tt_i 309 (by decide +kernel) (by decide +kernel)
theorem k_310 : Cond.methodLink "TunnelPeace$Tunnel" (89) y_Pe_walk ∈ TT := tt_i 310 (by decide +kernel) (by decide +kernel)
theorem k_311 : Cond.instanceMethod y_Pe_walk ∈ TT := tt_i 311 (by decide +kernel) (by decide +kernel)
theorem k_312 : Cond.selects "TunnelPeace$Person" y_Pe_walk y_Pe_walk ∈ TT := tt_i 312 (by decide +kernel) (by decide +kernel)
theorem k_313 : Cond.code y_Pe_walk b_Pe_walk 8 none ∈ TT := tt_i 313 (by decide +kernel) (by decide +kernel)
theorem k_314 : Cond.methodLink "TunnelPeace$Person" (48) y_Pe_steps ∈ TT := tt_i 314 (by decide +kernel) (by decide +kernel)
theorem k_315 : Cond.methodLink "TunnelPeace$Person" (52) y_JM_min ∈ TT := tt_i 315 (by decide +kernel) (by decide +kernel)
theorem k_316 : Cond.static y_JM_min ∈ TT := tt_i 316 (by decide +kernel) (by decide +kernel)
theorem k_317 : Cond.code y_JM_min b_JM_min 2 (some (.int)) ∈ TT := tt_i 317 (by decide +kernel) (by decide +kernel)
theorem k_318 : Cond.methodLink "TunnelPeace$Person" (55) y_Pe_crosses ∈ TT := tt_i 318 (by decide +kernel) (by decide +kernel)
theorem k_319 : Cond.methodLink "TunnelPeace$Person" (59) y_Pe_stopAheadOfStripe ∈ TT := tt_i 319 (by decide +kernel) (by decide +kernel)
theorem k_321 : Cond.instanceMethod y_Pe_stopAheadOfStripe ∈ TT := tt_i 321 (by decide +kernel) (by decide +kernel)
theorem k_322 : Cond.code y_Pe_stopAheadOfStripe b_Pe_stopAheadOfStripe 2 none ∈ TT := tt_i 322 (by decide +kernel) (by decide +kernel)
theorem k_323 : Cond.methodLink "TunnelPeace$Tunnel" (93) y_Tu_meetAll ∈ TT := tt_i 323 (by decide +kernel) (by decide +kernel)
theorem k_325 : Cond.instanceMethod y_Tu_meetAll ∈ TT := tt_i 325 (by decide +kernel) (by decide +kernel)
theorem k_326 : Cond.code y_Tu_meetAll b_Tu_meetAll 5 none ∈ TT := tt_i 326 (by decide +kernel) (by decide +kernel)
theorem k_327 : Cond.methodLink "TunnelPeace$Tunnel" (106) y_Pe_wouldMeet ∈ TT := tt_i 327 (by decide +kernel) (by decide +kernel)
theorem k_328 : Cond.methodLink "TunnelPeace$Tunnel" (110) y_Pe_countMeeting ∈ TT := tt_i 328 (by decide +kernel) (by decide +kernel)
theorem k_329 : Cond.instanceMethod y_Pe_countMeeting ∈ TT := tt_i 329 (by decide +kernel) (by decide +kernel)
theorem k_330 : Cond.selects "TunnelPeace$Person" y_Pe_countMeeting y_Pe_countMeeting ∈ TT := tt_i 330 (by decide +kernel) (by decide +kernel)
theorem k_331 : Cond.code y_Pe_countMeeting b_Pe_countMeeting 1 none ∈ TT := tt_i 331 (by decide +kernel) (by decide +kernel)
theorem k_333 : Cond.methodLink "TunnelPeace$Tunnel" (113) y_JM_max ∈ TT := tt_i 333 (by decide +kernel) (by decide +kernel)
theorem k_334 : Cond.methodLink "TunnelPeace$Tunnel" (96) y_JM_min ∈ TT := tt_i 334 (by decide +kernel) (by decide +kernel)
theorem k_335 : Cond.methodLink "TunnelPeace$Tunnel" (102) y_Pe_endDay ∈ TT := tt_i 335 (by decide +kernel) (by decide +kernel)
theorem k_336 : Cond.instanceMethod y_Pe_endDay ∈ TT := tt_i 336 (by decide +kernel) (by decide +kernel)
theorem k_337 : Cond.selects "TunnelPeace$Person" y_Pe_endDay y_Pe_endDay ∈ TT := tt_i 337 (by decide +kernel) (by decide +kernel)
theorem k_338 : Cond.code y_Pe_endDay b_Pe_endDay 2 none ∈ TT := tt_i 338 (by decide +kernel) (by decide +kernel)
theorem k_339 : Cond.methodLink "TunnelPeace$Person" (70) y_Pe_tires ∈ TT := tt_i 339 (by decide +kernel) (by decide +kernel)
theorem k_340 : Cond.methodLink "TunnelPeaceLaw" (52) y_TP_now ∈ TT := tt_i 340 (by decide +kernel) (by decide +kernel)
theorem k_341 : Cond.instanceMethod y_TP_now ∈ TT := tt_i 341 (by decide +kernel) (by decide +kernel)
theorem k_342 : Cond.selects "TunnelPeace" y_TP_now y_TP_now ∈ TT := tt_i 342 (by decide +kernel) (by decide +kernel)
theorem k_343 : Cond.code y_TP_now b_TP_now 2 (some (.int)) ∈ TT := tt_i 343 (by decide +kernel) (by decide +kernel)
theorem k_344 : Cond.methodLink "TunnelPeace" (116) y_Tu_allMet ∈ TT := tt_i 344 (by decide +kernel) (by decide +kernel)
theorem k_345 : Cond.instanceMethod y_Tu_allMet ∈ TT := tt_i 345 (by decide +kernel) (by decide +kernel)
theorem k_346 : Cond.selects "TunnelPeace$Tunnel" y_Tu_allMet y_Tu_allMet ∈ TT := tt_i 346 (by decide +kernel) (by decide +kernel)
theorem k_347 : Cond.code y_Tu_allMet b_Tu_allMet 3 (some (.int)) ∈ TT := tt_i 347 (by decide +kernel) (by decide +kernel)
theorem k_348 : Cond.methodLink "TunnelPeace" (120) y_Tu_peopleAbroad ∈ TT := tt_i 348 (by decide +kernel) (by decide +kernel)
theorem k_349 : Cond.instanceMethod y_Tu_peopleAbroad ∈ TT := tt_i 349 (by decide +kernel) (by decide +kernel)
theorem k_350 : Cond.selects "TunnelPeace$Tunnel" y_Tu_peopleAbroad y_Tu_peopleAbroad ∈ TT := tt_i 350 (by decide +kernel) (by decide +kernel)
theorem k_351 : Cond.code y_Tu_peopleAbroad b_Tu_peopleAbroad 3 (some (.int)) ∈ TT := tt_i 351 (by decide +kernel) (by decide +kernel)
theorem k_352 : Cond.methodLink "TunnelPeace$Tunnel" (126) y_Pe_isAbroad ∈ TT := tt_i 352 (by decide +kernel) (by decide +kernel)
theorem k_353 : Cond.instanceMethod y_Pe_isAbroad ∈ TT := tt_i 353 (by decide +kernel) (by decide +kernel)
theorem k_354 : Cond.selects "TunnelPeace$Person" y_Pe_isAbroad y_Pe_isAbroad ∈ TT := tt_i 354 (by decide +kernel) (by decide +kernel)
theorem k_355 : Cond.code y_Pe_isAbroad b_Pe_isAbroad 1 (some (.boolean)) ∈ TT := tt_i 355 (by decide +kernel) (by decide +kernel)
theorem k_356 : Cond.methodLink "TunnelPeace" (123) y_Tu_peopleWithSeason ∈ TT := tt_i 356 (by decide +kernel) (by decide +kernel)
theorem k_357 : Cond.instanceMethod y_Tu_peopleWithSeason ∈ TT := tt_i 357 (by decide +kernel) (by decide +kernel)
theorem k_358 : Cond.selects "TunnelPeace$Tunnel" y_Tu_peopleWithSeason y_Tu_peopleWithSeason ∈ TT := tt_i 358 (by decide +kernel) (by decide +kernel)
theorem k_359 : Cond.code y_Tu_peopleWithSeason b_Tu_peopleWithSeason 3 (some (.int)) ∈ TT := tt_i 359 (by decide +kernel) (by decide +kernel)
theorem k_360 : Cond.methodLink "TunnelPeace" (126) y_Tu_cellsTaken ∈ TT := tt_i 360 (by decide +kernel) (by decide +kernel)
theorem k_361 : Cond.instanceMethod y_Tu_cellsTaken ∈ TT := tt_i 361 (by decide +kernel) (by decide +kernel)
theorem k_362 : Cond.selects "TunnelPeace$Tunnel" y_Tu_cellsTaken y_Tu_cellsTaken ∈ TT := tt_i 362 (by decide +kernel) (by decide +kernel)
theorem k_363 : Cond.code y_Tu_cellsTaken b_Tu_cellsTaken 3 (some (.int)) ∈ TT := tt_i 363 (by decide +kernel) (by decide +kernel)
theorem k_364 : Cond.methodLink "TunnelPeace" (129) y_Tu_pairsMeeting ∈ TT := tt_i 364 (by decide +kernel) (by decide +kernel)
theorem k_365 : Cond.instanceMethod y_Tu_pairsMeeting ∈ TT := tt_i 365 (by decide +kernel) (by decide +kernel)
theorem k_366 : Cond.selects "TunnelPeace$Tunnel" y_Tu_pairsMeeting y_Tu_pairsMeeting ∈ TT := tt_i 366 (by decide +kernel) (by decide +kernel)
theorem k_367 : Cond.code y_Tu_pairsMeeting b_Tu_pairsMeeting 4 (some (.int)) ∈ TT := tt_i 367 (by decide +kernel) (by decide +kernel)
theorem k_368 : Cond.methodLink "TunnelPeace" (132) y_Tu_whoMetMost ∈ TT := tt_i 368 (by decide +kernel) (by decide +kernel)
theorem k_369 : Cond.instanceMethod y_Tu_whoMetMost ∈ TT := tt_i 369 (by decide +kernel) (by decide +kernel)
theorem k_370 : Cond.selects "TunnelPeace$Tunnel" y_Tu_whoMetMost y_Tu_whoMetMost ∈ TT := tt_i 370 (by decide +kernel) (by decide +kernel)
theorem k_371 : Cond.code y_Tu_whoMetMost b_Tu_whoMetMost 3 (some (.int)) ∈ TT := tt_i 371 (by decide +kernel) (by decide +kernel)
theorem k_372 : Cond.methodLink "TunnelPeaceLaw" (56) y_TP_ahead ∈ TT := tt_i 372 (by decide +kernel) (by decide +kernel)
theorem k_373 : Cond.instanceMethod y_TP_ahead ∈ TT := tt_i 373 (by decide +kernel) (by decide +kernel)
theorem k_374 : Cond.selects "TunnelPeace" y_TP_ahead y_TP_ahead ∈ TT := tt_i 374 (by decide +kernel) (by decide +kernel)
theorem k_375 : Cond.code y_TP_ahead b_TP_ahead 5 (some (.int)) ∈ TT := tt_i 375 (by decide +kernel) (by decide +kernel)
theorem k_376 : Cond.methodLink "TunnelPeace" (135) y_Fo_behind ∈ TT := tt_i 376 (by decide +kernel) (by decide +kernel)
theorem k_377 : Cond.instanceMethod y_Fo_behind ∈ TT := tt_i 377 (by decide +kernel) (by decide +kernel)
theorem k_378 : Cond.selects "TunnelPeace$Forecast" y_Fo_behind y_Fo_behind ∈ TT := tt_i 378 (by decide +kernel) (by decide +kernel)
theorem k_379 : Cond.code y_Fo_behind b_Fo_behind 2 (some (.object "TunnelPeace$Tunnel")) ∈ TT := tt_i 379 (by decide +kernel) (by decide +kernel)
theorem k_380 : Cond.methodLink "TunnelPeace$Forecast" (18) y_Tu_become ∈ TT := tt_i 380 (by decide +kernel) (by decide +kernel)
theorem k_381 : Cond.instanceMethod y_Tu_become ∈ TT := tt_i 381 (by decide +kernel) (by decide +kernel)
theorem k_382 : Cond.selects "TunnelPeace$Tunnel" y_Tu_become y_Tu_become ∈ TT := tt_i 382 (by decide +kernel) (by decide +kernel)
theorem k_383 : Cond.code y_Tu_become b_Tu_become 3 none ∈ TT := tt_i 383 (by decide +kernel) (by decide +kernel)
theorem k_384 : Cond.methodLink "TunnelPeace$Tunnel" (38) (⟨"java/lang/System", "arraycopy", "(Ljava/lang/Object;ILjava/lang/Object;II)V"⟩ : MethodName) ∈ TT := tt_i 384 (by decide +kernel) (by decide +kernel)
theorem k_385 : Cond.static (⟨"java/lang/System", "arraycopy", "(Ljava/lang/Object;ILjava/lang/Object;II)V"⟩ : MethodName) ∈ TT := tt_i 385 (by decide +kernel) (by decide +kernel)
theorem k_386 : Cond.native (⟨"java/lang/System", "arraycopy", "(Ljava/lang/Object;ILjava/lang/Object;II)V"⟩ : MethodName) ∈ TT := tt_i 386 (by decide +kernel) (by decide +kernel)
theorem k_387 : Cond.methodLink "TunnelPeace$Tunnel" (44) y_Pe_become ∈ TT := tt_i 387 (by decide +kernel) (by decide +kernel)
theorem k_388 : Cond.instanceMethod y_Pe_become ∈ TT := tt_i 388 (by decide +kernel) (by decide +kernel)
theorem k_389 : Cond.selects "TunnelPeace$Person" y_Pe_become y_Pe_become ∈ TT := tt_i 389 (by decide +kernel) (by decide +kernel)
theorem k_390 : Cond.code y_Pe_become b_Pe_become 2 none ∈ TT := tt_i 390 (by decide +kernel) (by decide +kernel)
theorem k_391 : Cond.methodLink "TunnelPeace$Forecast" (24) y_Tu_passDays ∈ TT := tt_i 391 (by decide +kernel) (by decide +kernel)
theorem k_392 : Cond.methodLink "TunnelPeaceLaw" (60) y_TP_noise ∈ TT := tt_i 392 (by decide +kernel) (by decide +kernel)
theorem k_393 : Cond.instanceMethod y_TP_noise ∈ TT := tt_i 393 (by decide +kernel) (by decide +kernel)
theorem k_394 : Cond.selects "TunnelPeace" y_TP_noise y_TP_noise ∈ TT := tt_i 394 (by decide +kernel) (by decide +kernel)
theorem k_395 : Cond.code y_TP_noise b_TP_noise 2 (some (.int)) ∈ TT := tt_i 395 (by decide +kernel) (by decide +kernel)
theorem k_396 : Cond.methodLink "TunnelPeaceLaw" (64) y_TP_stills ∈ TT := tt_i 396 (by decide +kernel) (by decide +kernel)
theorem k_397 : Cond.instanceMethod y_TP_stills ∈ TT := tt_i 397 (by decide +kernel) (by decide +kernel)
theorem k_398 : Cond.selects "TunnelPeace" y_TP_stills y_TP_stills ∈ TT := tt_i 398 (by decide +kernel) (by decide +kernel)
theorem k_399 : Cond.code y_TP_stills b_TP_stills 2 (some (.int)) ∈ TT := tt_i 399 (by decide +kernel) (by decide +kernel)
theorem k_400 : Cond.methodLink "TunnelPeace" (139) y_Fo_daysTillGuns ∈ TT := tt_i 400 (by decide +kernel) (by decide +kernel)
theorem k_401 : Cond.instanceMethod y_Fo_daysTillGuns ∈ TT := tt_i 401 (by decide +kernel) (by decide +kernel)
theorem k_402 : Cond.selects "TunnelPeace$Forecast" y_Fo_daysTillGuns y_Fo_daysTillGuns ∈ TT := tt_i 402 (by decide +kernel) (by decide +kernel)
theorem k_403 : Cond.code y_Fo_daysTillGuns b_Fo_daysTillGuns 3 (some (.int)) ∈ TT := tt_i 403 (by decide +kernel) (by decide +kernel)
theorem k_404 : Cond.methodLink "TunnelPeace$Forecast" (32) y_Tu_passDay ∈ TT := tt_i 404 (by decide +kernel) (by decide +kernel)
theorem k_405 : Cond.methodLink "TunnelPeace" (142) y_TP_orNone ∈ TT := tt_i 405 (by decide +kernel) (by decide +kernel)
theorem k_407 : Cond.instanceMethod y_TP_orNone ∈ TT := tt_i 407 (by decide +kernel) (by decide +kernel)
theorem k_408 : Cond.code y_TP_orNone b_TP_orNone 2 (some (.int)) ∈ TT := tt_i 408 (by decide +kernel) (by decide +kernel)
theorem k_409 : Cond.constant "TunnelPeace" (247) (-1000004) ∈ TT := tt_i 409 (by decide +kernel) (by decide +kernel)
theorem k_410 : Cond.methodLink "TunnelPeaceLaw" (68) y_TP_meets ∈ TT := tt_i 410 (by decide +kernel) (by decide +kernel)
theorem k_411 : Cond.instanceMethod y_TP_meets ∈ TT := tt_i 411 (by decide +kernel) (by decide +kernel)
theorem k_412 : Cond.selects "TunnelPeace" y_TP_meets y_TP_meets ∈ TT := tt_i 412 (by decide +kernel) (by decide +kernel)
theorem k_413 : Cond.code y_TP_meets b_TP_meets 3 (some (.int)) ∈ TT := tt_i 413 (by decide +kernel) (by decide +kernel)
theorem k_414 : Cond.methodLink "TunnelPeace" (145) y_Fo_daysTillMet ∈ TT := tt_i 414 (by decide +kernel) (by decide +kernel)
theorem k_415 : Cond.instanceMethod y_Fo_daysTillMet ∈ TT := tt_i 415 (by decide +kernel) (by decide +kernel)
theorem k_416 : Cond.selects "TunnelPeace$Forecast" y_Fo_daysTillMet y_Fo_daysTillMet ∈ TT := tt_i 416 (by decide +kernel) (by decide +kernel)
theorem k_417 : Cond.code y_Fo_daysTillMet b_Fo_daysTillMet 4 (some (.int)) ∈ TT := tt_i 417 (by decide +kernel) (by decide +kernel)
theorem k_418 : Cond.methodLink "TunnelPeaceLaw" (72) y_TP_lapses ∈ TT := tt_i 418 (by decide +kernel) (by decide +kernel)
theorem k_419 : Cond.instanceMethod y_TP_lapses ∈ TT := tt_i 419 (by decide +kernel) (by decide +kernel)
theorem k_420 : Cond.selects "TunnelPeace" y_TP_lapses y_TP_lapses ∈ TT := tt_i 420 (by decide +kernel) (by decide +kernel)
theorem k_421 : Cond.code y_TP_lapses b_TP_lapses 1 (some (.int)) ∈ TT := tt_i 421 (by decide +kernel) (by decide +kernel)
theorem k_422 : Cond.methodLink "TunnelPeace" (148) y_Fo_daysTillNoSeason ∈ TT := tt_i 422 (by decide +kernel) (by decide +kernel)
theorem k_423 : Cond.instanceMethod y_Fo_daysTillNoSeason ∈ TT := tt_i 423 (by decide +kernel) (by decide +kernel)
theorem k_424 : Cond.selects "TunnelPeace$Forecast" y_Fo_daysTillNoSeason y_Fo_daysTillNoSeason ∈ TT := tt_i 424 (by decide +kernel) (by decide +kernel)
theorem k_425 : Cond.code y_Fo_daysTillNoSeason b_Fo_daysTillNoSeason 2 (some (.int)) ∈ TT := tt_i 425 (by decide +kernel) (by decide +kernel)
theorem k_426 : Cond.methodLink "TunnelPeace$Forecast" (44) y_Tu_peopleWithSeason ∈ TT := tt_i 426 (by decide +kernel) (by decide +kernel)
theorem k_427 : Cond.methodLink "TunnelPeaceLaw" (77) y_TP_placeFor ∈ TT := tt_i 427 (by decide +kernel) (by decide +kernel)
theorem k_428 : Cond.instanceMethod y_TP_placeFor ∈ TT := tt_i 428 (by decide +kernel) (by decide +kernel)
theorem k_429 : Cond.selects "TunnelPeace" y_TP_placeFor y_TP_placeFor ∈ TT := tt_i 429 (by decide +kernel) (by decide +kernel)
theorem k_430 : Cond.code y_TP_placeFor b_TP_placeFor 3 (some (.int)) ∈ TT := tt_i 430 (by decide +kernel) (by decide +kernel)
theorem k_431 : Cond.methodLink "TunnelPeace" (151) y_Fo_stillestCell ∈ TT := tt_i 431 (by decide +kernel) (by decide +kernel)
theorem k_432 : Cond.instanceMethod y_Fo_stillestCell ∈ TT := tt_i 432 (by decide +kernel) (by decide +kernel)
theorem k_433 : Cond.selects "TunnelPeace$Forecast" y_Fo_stillestCell y_Fo_stillestCell ∈ TT := tt_i 433 (by decide +kernel) (by decide +kernel)
theorem k_434 : Cond.code y_Fo_stillestCell b_Fo_stillestCell 6 (some (.int)) ∈ TT := tt_i 434 (by decide +kernel) (by decide +kernel)
theorem k_435 : Cond.methodLink "TunnelPeaceLaw" (81) y_TP_kindFor ∈ TT := tt_i 435 (by decide +kernel) (by decide +kernel)
theorem k_436 : Cond.instanceMethod y_TP_kindFor ∈ TT := tt_i 436 (by decide +kernel) (by decide +kernel)
theorem k_437 : Cond.selects "TunnelPeace" y_TP_kindFor y_TP_kindFor ∈ TT := tt_i 437 (by decide +kernel) (by decide +kernel)
theorem k_438 : Cond.code y_TP_kindFor b_TP_kindFor 3 (some (.int)) ∈ TT := tt_i 438 (by decide +kernel) (by decide +kernel)
theorem k_439 : Cond.methodLink "TunnelPeace" (154) y_Fo_stillestKind ∈ TT := tt_i 439 (by decide +kernel) (by decide +kernel)
theorem k_440 : Cond.instanceMethod y_Fo_stillestKind ∈ TT := tt_i 440 (by decide +kernel) (by decide +kernel)
theorem k_441 : Cond.selects "TunnelPeace$Forecast" y_Fo_stillestKind y_Fo_stillestKind ∈ TT := tt_i 441 (by decide +kernel) (by decide +kernel)
theorem k_442 : Cond.code y_Fo_stillestKind b_Fo_stillestKind 6 (some (.int)) ∈ TT := tt_i 442 (by decide +kernel) (by decide +kernel)
theorem k_443 : Cond.methodLink "TunnelPeace$Forecast" (52) y_Fo_tryWith ∈ TT := tt_i 443 (by decide +kernel) (by decide +kernel)
theorem k_445 : Cond.instanceMethod y_Fo_tryWith ∈ TT := tt_i 445 (by decide +kernel) (by decide +kernel)
theorem k_446 : Cond.code y_Fo_tryWith b_Fo_tryWith 4 none ∈ TT := tt_i 446 (by decide +kernel) (by decide +kernel)
theorem k_447 : Cond.methodLink "TunnelPeace$Forecast" (99) y_Pe_set ∈ TT := tt_i 447 (by decide +kernel) (by decide +kernel)
theorem k_448 : Cond.methodLink "TunnelPeaceLaw" (85) y_TP_seasonFor ∈ TT := tt_i 448 (by decide +kernel) (by decide +kernel)
theorem k_449 : Cond.instanceMethod y_TP_seasonFor ∈ TT := tt_i 449 (by decide +kernel) (by decide +kernel)
theorem k_450 : Cond.selects "TunnelPeace" y_TP_seasonFor y_TP_seasonFor ∈ TT := tt_i 450 (by decide +kernel) (by decide +kernel)
theorem k_451 : Cond.code y_TP_seasonFor b_TP_seasonFor 4 (some (.int)) ∈ TT := tt_i 451 (by decide +kernel) (by decide +kernel)
theorem k_452 : Cond.methodLink "TunnelPeace" (157) y_Fo_leastSeason ∈ TT := tt_i 452 (by decide +kernel) (by decide +kernel)
theorem k_453 : Cond.instanceMethod y_Fo_leastSeason ∈ TT := tt_i 453 (by decide +kernel) (by decide +kernel)
theorem k_454 : Cond.selects "TunnelPeace$Forecast" y_Fo_leastSeason y_Fo_leastSeason ∈ TT := tt_i 454 (by decide +kernel) (by decide +kernel)
theorem k_455 : Cond.code y_Fo_leastSeason b_Fo_leastSeason 6 (some (.int)) ∈ TT := tt_i 455 (by decide +kernel) (by decide +kernel)
theorem k_457 : Cond.methodLink "TunnelPeace$Forecast" (59) y_JM_min ∈ TT := tt_i 457 (by decide +kernel) (by decide +kernel)
theorem k_458 : Cond.methodLink "TunnelPeaceLaw" (89) y_TP_bagsFor ∈ TT := tt_i 458 (by decide +kernel) (by decide +kernel)
theorem k_459 : Cond.instanceMethod y_TP_bagsFor ∈ TT := tt_i 459 (by decide +kernel) (by decide +kernel)
theorem k_460 : Cond.selects "TunnelPeace" y_TP_bagsFor y_TP_bagsFor ∈ TT := tt_i 460 (by decide +kernel) (by decide +kernel)
theorem k_461 : Cond.code y_TP_bagsFor b_TP_bagsFor 3 (some (.int)) ∈ TT := tt_i 461 (by decide +kernel) (by decide +kernel)
theorem k_462 : Cond.methodLink "TunnelPeace" (161) y_Fo_mostBags ∈ TT := tt_i 462 (by decide +kernel) (by decide +kernel)
theorem k_463 : Cond.instanceMethod y_Fo_mostBags ∈ TT := tt_i 463 (by decide +kernel) (by decide +kernel)
theorem k_464 : Cond.selects "TunnelPeace$Forecast" y_Fo_mostBags y_Fo_mostBags ∈ TT := tt_i 464 (by decide +kernel) (by decide +kernel)
theorem k_465 : Cond.code y_Fo_mostBags b_Fo_mostBags 4 (some (.int)) ∈ TT := tt_i 465 (by decide +kernel) (by decide +kernel)
theorem k_466 : Cond.methodLink "TunnelPeaceLaw" (93) y_TP_leaveOut ∈ TT := tt_i 466 (by decide +kernel) (by decide +kernel)
theorem k_467 : Cond.instanceMethod y_TP_leaveOut ∈ TT := tt_i 467 (by decide +kernel) (by decide +kernel)
theorem k_468 : Cond.selects "TunnelPeace" y_TP_leaveOut y_TP_leaveOut ∈ TT := tt_i 468 (by decide +kernel) (by decide +kernel)
theorem k_469 : Cond.code y_TP_leaveOut b_TP_leaveOut 2 (some (.int)) ∈ TT := tt_i 469 (by decide +kernel) (by decide +kernel)
theorem k_470 : Cond.methodLink "TunnelPeace" (164) y_Fo_fewestLeftOut ∈ TT := tt_i 470 (by decide +kernel) (by decide +kernel)
theorem k_471 : Cond.instanceMethod y_Fo_fewestLeftOut ∈ TT := tt_i 471 (by decide +kernel) (by decide +kernel)
theorem k_472 : Cond.selects "TunnelPeace$Forecast" y_Fo_fewestLeftOut y_Fo_fewestLeftOut ∈ TT := tt_i 472 (by decide +kernel) (by decide +kernel)
theorem k_473 : Cond.code y_Fo_fewestLeftOut b_Fo_fewestLeftOut 5 (some (.int)) ∈ TT := tt_i 473 (by decide +kernel) (by decide +kernel)
theorem k_474 : Cond.methodLink "TunnelPeace$Forecast" (68) y_JI_bitCount ∈ TT := tt_i 474 (by decide +kernel) (by decide +kernel)
theorem k_475 : Cond.static y_JI_bitCount ∈ TT := tt_i 475 (by decide +kernel) (by decide +kernel)
theorem k_476 : Cond.code y_JI_bitCount b_JI_bitCount 1 (some (.int)) ∈ TT := tt_i 476 (by decide +kernel) (by decide +kernel)
theorem k_477 : Cond.constant "java/lang/Integer" (265) (1431655765) ∈ TT := tt_i 477 (by decide +kernel) (by decide +kernel)
theorem k_478 : Cond.constant "java/lang/Integer" (266) (858993459) ∈ TT := tt_i 478 (by decide +kernel) (by decide +kernel)
theorem k_479 : Cond.constant "java/lang/Integer" (267) (252645135) ∈ TT := tt_i 479 (by decide +kernel) (by decide +kernel)
theorem k_480 : Cond.methodLink "TunnelPeace$Forecast" (74) y_Fo_keepsApart ∈ TT := tt_i 480 (by decide +kernel) (by decide +kernel)
theorem k_482 : Cond.instanceMethod y_Fo_keepsApart ∈ TT := tt_i 482 (by decide +kernel) (by decide +kernel)
theorem k_483 : Cond.code y_Fo_keepsApart b_Fo_keepsApart 5 (some (.boolean)) ∈ TT := tt_i 483 (by decide +kernel) (by decide +kernel)
theorem k_484 : Cond.methodLink "TunnelPeace$Forecast" (78) y_Tu_endSeasons ∈ TT := tt_i 484 (by decide +kernel) (by decide +kernel)
theorem k_485 : Cond.instanceMethod y_Tu_endSeasons ∈ TT := tt_i 485 (by decide +kernel) (by decide +kernel)
theorem k_486 : Cond.selects "TunnelPeace$Tunnel" y_Tu_endSeasons y_Tu_endSeasons ∈ TT := tt_i 486 (by decide +kernel) (by decide +kernel)
theorem k_487 : Cond.code y_Tu_endSeasons b_Tu_endSeasons 3 none ∈ TT := tt_i 487 (by decide +kernel) (by decide +kernel)
theorem k_488 : Cond.methodLink "TunnelPeace$Forecast" (81) y_Tu_allMet ∈ TT := tt_i 488 (by decide +kernel) (by decide +kernel)
theorem k_489 : Cond.methodLink "TunnelPeaceLaw" (97) y_TP_fits ∈ TT := tt_i 489 (by decide +kernel) (by decide +kernel)
theorem k_490 : Cond.instanceMethod y_TP_fits ∈ TT := tt_i 490 (by decide +kernel) (by decide +kernel)
theorem k_491 : Cond.selects "TunnelPeace" y_TP_fits y_TP_fits ∈ TT := tt_i 491 (by decide +kernel) (by decide +kernel)
theorem k_492 : Cond.code y_TP_fits b_TP_fits 4 (some (.int)) ∈ TT := tt_i 492 (by decide +kernel) (by decide +kernel)
theorem k_493 : Cond.methodLink "TunnelPeace" (167) y_TP_toldFinding ∈ TT := tt_i 493 (by decide +kernel) (by decide +kernel)
theorem k_495 : Cond.instanceMethod y_TP_toldFinding ∈ TT := tt_i 495 (by decide +kernel) (by decide +kernel)
theorem k_496 : Cond.code y_TP_toldFinding b_TP_toldFinding 4 (some (.int)) ∈ TT := tt_i 496 (by decide +kernel) (by decide +kernel)
theorem k_497 : Cond.methodLink "TunnelPeace" (217) y_TP_sheetFinding ∈ TT := tt_i 497 (by decide +kernel) (by decide +kernel)
theorem k_499 : Cond.instanceMethod y_TP_sheetFinding ∈ TT := tt_i 499 (by decide +kernel) (by decide +kernel)
theorem k_500 : Cond.code y_TP_sheetFinding b_TP_sheetFinding 2 (some (.int)) ∈ TT := tt_i 500 (by decide +kernel) (by decide +kernel)
theorem k_501 : Cond.methodLink "TunnelPeace" (223) y_Sh_isMissing ∈ TT := tt_i 501 (by decide +kernel) (by decide +kernel)
theorem k_502 : Cond.instanceMethod y_Sh_isMissing ∈ TT := tt_i 502 (by decide +kernel) (by decide +kernel)
theorem k_503 : Cond.selects "TunnelPeace$Sheet" y_Sh_isMissing y_Sh_isMissing ∈ TT := tt_i 503 (by decide +kernel) (by decide +kernel)
theorem k_504 : Cond.code y_Sh_isMissing b_Sh_isMissing 1 (some (.boolean)) ∈ TT := tt_i 504 (by decide +kernel) (by decide +kernel)
theorem k_505 : Cond.constant "TunnelPeace" (207) (-1000006) ∈ TT := tt_i 505 (by decide +kernel) (by decide +kernel)
theorem k_506 : Cond.methodLink "TunnelPeace" (170) y_Fo_valuesAsTold ∈ TT := tt_i 506 (by decide +kernel) (by decide +kernel)
theorem k_507 : Cond.instanceMethod y_Fo_valuesAsTold ∈ TT := tt_i 507 (by decide +kernel) (by decide +kernel)
theorem k_508 : Cond.selects "TunnelPeace$Forecast" y_Fo_valuesAsTold y_Fo_valuesAsTold ∈ TT := tt_i 508 (by decide +kernel) (by decide +kernel)
theorem k_509 : Cond.code y_Fo_valuesAsTold b_Fo_valuesAsTold 6 (some (.int)) ∈ TT := tt_i 509 (by decide +kernel) (by decide +kernel)
theorem k_510 : Cond.methodLink "TunnelPeace$Forecast" (84) y_Fo_goesAsTold ∈ TT := tt_i 510 (by decide +kernel) (by decide +kernel)
theorem k_512 : Cond.instanceMethod y_Fo_goesAsTold ∈ TT := tt_i 512 (by decide +kernel) (by decide +kernel)
theorem k_513 : Cond.code y_Fo_goesAsTold b_Fo_goesAsTold 5 (some (.boolean)) ∈ TT := tt_i 513 (by decide +kernel) (by decide +kernel)
theorem k_514 : Cond.methodLink "TunnelPeaceLaw" (101) y_TP_kinds ∈ TT := tt_i 514 (by decide +kernel) (by decide +kernel)
theorem k_515 : Cond.instanceMethod y_TP_kinds ∈ TT := tt_i 515 (by decide +kernel) (by decide +kernel)
theorem k_516 : Cond.selects "TunnelPeace" y_TP_kinds y_TP_kinds ∈ TT := tt_i 516 (by decide +kernel) (by decide +kernel)
theorem k_517 : Cond.code y_TP_kinds b_TP_kinds 4 (some (.int)) ∈ TT := tt_i 517 (by decide +kernel) (by decide +kernel)
theorem k_518 : Cond.methodLink "TunnelPeaceLaw" (105) y_TP_stroll ∈ TT := tt_i 518 (by decide +kernel) (by decide +kernel)
theorem k_519 : Cond.instanceMethod y_TP_stroll ∈ TT := tt_i 519 (by decide +kernel) (by decide +kernel)
theorem k_520 : Cond.selects "TunnelPeace" y_TP_stroll y_TP_stroll ∈ TT := tt_i 520 (by decide +kernel) (by decide +kernel)
theorem k_521 : Cond.code y_TP_stroll b_TP_stroll 3 (some (.int)) ∈ TT := tt_i 521 (by decide +kernel) (by decide +kernel)
theorem k_522 : Cond.methodLink "TunnelPeace" (174) y_Tu_passDrawnDay ∈ TT := tt_i 522 (by decide +kernel) (by decide +kernel)
theorem k_523 : Cond.instanceMethod y_Tu_passDrawnDay ∈ TT := tt_i 523 (by decide +kernel) (by decide +kernel)
theorem k_524 : Cond.selects "TunnelPeace$Tunnel" y_Tu_passDrawnDay y_Tu_passDrawnDay ∈ TT := tt_i 524 (by decide +kernel) (by decide +kernel)
theorem k_525 : Cond.code y_Tu_passDrawnDay b_Tu_passDrawnDay 2 none ∈ TT := tt_i 525 (by decide +kernel) (by decide +kernel)
theorem k_526 : Cond.methodLink "TunnelPeace$Tunnel" (116) y_Tu_draw ∈ TT := tt_i 526 (by decide +kernel) (by decide +kernel)
theorem k_528 : Cond.instanceMethod y_Tu_draw ∈ TT := tt_i 528 (by decide +kernel) (by decide +kernel)
theorem k_529 : Cond.code y_Tu_draw b_Tu_draw 1 (some (.int)) ∈ TT := tt_i 529 (by decide +kernel) (by decide +kernel)
theorem k_530 : Cond.constant "TunnelPeace$Tunnel" (125) (1103515245) ∈ TT := tt_i 530 (by decide +kernel) (by decide +kernel)
theorem k_531 : Cond.methodLink "TunnelPeace$Tunnel" (119) y_Tu_has ∈ TT := tt_i 531 (by decide +kernel) (by decide +kernel)
theorem k_533 : Cond.methodLink "TunnelPeaceLaw" (109) y_TP_odds ∈ TT := tt_i 533 (by decide +kernel) (by decide +kernel)
theorem k_534 : Cond.instanceMethod y_TP_odds ∈ TT := tt_i 534 (by decide +kernel) (by decide +kernel)
theorem k_535 : Cond.selects "TunnelPeace" y_TP_odds y_TP_odds ∈ TT := tt_i 535 (by decide +kernel) (by decide +kernel)
theorem k_536 : Cond.code y_TP_odds b_TP_odds 6 (some (.long)) ∈ TT := tt_i 536 (by decide +kernel) (by decide +kernel)
theorem k_537 : Cond.methodLink "TunnelPeace" (177) y_Tu_cellsToMeetAt ∈ TT := tt_i 537 (by decide +kernel) (by decide +kernel)
theorem k_538 : Cond.instanceMethod y_Tu_cellsToMeetAt ∈ TT := tt_i 538 (by decide +kernel) (by decide +kernel)
theorem k_539 : Cond.selects "TunnelPeace$Tunnel" y_Tu_cellsToMeetAt y_Tu_cellsToMeetAt ∈ TT := tt_i 539 (by decide +kernel) (by decide +kernel)
theorem k_540 : Cond.code y_Tu_cellsToMeetAt b_Tu_cellsToMeetAt 4 (some (.int)) ∈ TT := tt_i 540 (by decide +kernel) (by decide +kernel)
theorem k_541 : Cond.methodLink "TunnelPeace$Tunnel" (130) y_Tu_meetsSomebodyAt ∈ TT := tt_i 541 (by decide +kernel) (by decide +kernel)
theorem k_543 : Cond.instanceMethod y_Tu_meetsSomebodyAt ∈ TT := tt_i 543 (by decide +kernel) (by decide +kernel)
theorem k_544 : Cond.code y_Tu_meetsSomebodyAt b_Tu_meetsSomebodyAt 4 (some (.boolean)) ∈ TT := tt_i 544 (by decide +kernel) (by decide +kernel)
theorem k_545 : Cond.methodLink "TunnelPeace$Tunnel" (134) y_Pe_wouldMeetAt ∈ TT := tt_i 545 (by decide +kernel) (by decide +kernel)
theorem k_546 : Cond.methodLink "TunnelPeace" (180) y_TP_commonDivisor ∈ TT := tt_i 546 (by decide +kernel) (by decide +kernel)
theorem k_547 : Cond.static y_TP_commonDivisor ∈ TT := tt_i 547 (by decide +kernel) (by decide +kernel)
theorem k_548 : Cond.code y_TP_commonDivisor b_TP_commonDivisor 3 (some (.int)) ∈ TT := tt_i 548 (by decide +kernel) (by decide +kernel)
theorem k_549 : Cond.methodLink "TunnelPeace" (262) y_JM_max ∈ TT := tt_i 549 (by decide +kernel) (by decide +kernel)
theorem k_550 : Cond.methodLink "TunnelPeace" (183) y_TP_power ∈ TT := tt_i 550 (by decide +kernel) (by decide +kernel)
theorem k_551 : Cond.static y_TP_power ∈ TT := tt_i 551 (by decide +kernel) (by decide +kernel)
theorem k_552 : Cond.code y_TP_power b_TP_power 6 (some (.long)) ∈ TT := tt_i 552 (by decide +kernel) (by decide +kernel)
theorem k_553 : Cond.methodLink "TunnelPeaceLaw" (114) y_TP_seed ∈ TT := tt_i 553 (by decide +kernel) (by decide +kernel)
theorem k_554 : Cond.instanceMethod y_TP_seed ∈ TT := tt_i 554 (by decide +kernel) (by decide +kernel)
theorem k_555 : Cond.selects "TunnelPeace" y_TP_seed y_TP_seed ∈ TT := tt_i 555 (by decide +kernel) (by decide +kernel)
theorem k_556 : Cond.code y_TP_seed b_TP_seed 3 (some (.int)) ∈ TT := tt_i 556 (by decide +kernel) (by decide +kernel)
theorem k_557 : Cond.methodLink "TunnelPeaceLaw" (118) y_TP_feed ∈ TT := tt_i 557 (by decide +kernel) (by decide +kernel)
theorem k_558 : Cond.instanceMethod y_TP_feed ∈ TT := tt_i 558 (by decide +kernel) (by decide +kernel)
theorem k_559 : Cond.selects "TunnelPeace" y_TP_feed y_TP_feed ∈ TT := tt_i 559 (by decide +kernel) (by decide +kernel)
theorem k_560 : Cond.code y_TP_feed b_TP_feed 3 (some (.int)) ∈ TT := tt_i 560 (by decide +kernel) (by decide +kernel)
theorem k_561 : Cond.methodLink "TunnelPeace" (193) y_Ta_append ∈ TT := tt_i 561 (by decide +kernel) (by decide +kernel)
theorem k_562 : Cond.instanceMethod y_Ta_append ∈ TT := tt_i 562 (by decide +kernel) (by decide +kernel)
theorem k_563 : Cond.selects "TunnelPeace$Tape" y_Ta_append y_Ta_append ∈ TT := tt_i 563 (by decide +kernel) (by decide +kernel)
theorem k_564 : Cond.code y_Ta_append b_Ta_append 4 none ∈ TT := tt_i 564 (by decide +kernel) (by decide +kernel)
theorem k_565 : Cond.methodLink "TunnelPeaceLaw" (122) y_TP_wipe ∈ TT := tt_i 565 (by decide +kernel) (by decide +kernel)
theorem k_566 : Cond.instanceMethod y_TP_wipe ∈ TT := tt_i 566 (by decide +kernel) (by decide +kernel)
theorem k_567 : Cond.selects "TunnelPeace" y_TP_wipe y_TP_wipe ∈ TT := tt_i 567 (by decide +kernel) (by decide +kernel)
theorem k_568 : Cond.code y_TP_wipe b_TP_wipe 2 (some (.int)) ∈ TT := tt_i 568 (by decide +kernel) (by decide +kernel)
theorem k_569 : Cond.methodLink "TunnelPeaceLaw" (126) y_TP_text ∈ TT := tt_i 569 (by decide +kernel) (by decide +kernel)
theorem k_570 : Cond.instanceMethod y_TP_text ∈ TT := tt_i 570 (by decide +kernel) (by decide +kernel)
theorem k_571 : Cond.selects "TunnelPeace" y_TP_text y_TP_text ∈ TT := tt_i 571 (by decide +kernel) (by decide +kernel)
theorem k_572 : Cond.code y_TP_text b_TP_text 2 (some (.int)) ∈ TT := tt_i 572 (by decide +kernel) (by decide +kernel)
theorem k_573 : Cond.methodLink "TunnelPeace" (196) y_Tu_become ∈ TT := tt_i 573 (by decide +kernel) (by decide +kernel)
theorem k_574 : Cond.methodLink "TunnelPeace" (200) y_Ta_readInto ∈ TT := tt_i 574 (by decide +kernel) (by decide +kernel)
theorem k_575 : Cond.instanceMethod y_Ta_readInto ∈ TT := tt_i 575 (by decide +kernel) (by decide +kernel)
theorem k_576 : Cond.selects "TunnelPeace$Tape" y_Ta_readInto y_Ta_readInto ∈ TT := tt_i 576 (by decide +kernel) (by decide +kernel)
theorem k_577 : Cond.code y_Ta_readInto b_Ta_readInto 5 (some (.int)) ∈ TT := tt_i 577 (by decide +kernel) (by decide +kernel)
theorem k_578 : Cond.methodLink "TunnelPeace$Tape" (22) y_Ta_advance ∈ TT := tt_i 578 (by decide +kernel) (by decide +kernel)
theorem k_580 : Cond.instanceMethod y_Ta_advance ∈ TT := tt_i 580 (by decide +kernel) (by decide +kernel)
theorem k_581 : Cond.code y_Ta_advance b_Ta_advance 2 none ∈ TT := tt_i 581 (by decide +kernel) (by decide +kernel)
theorem k_582 : Cond.methodLink "TunnelPeace$Tape" (130) y_Ta_tokenOf ∈ TT := tt_i 582 (by decide +kernel) (by decide +kernel)
theorem k_583 : Cond.static y_Ta_tokenOf ∈ TT := tt_i 583 (by decide +kernel) (by decide +kernel)
theorem k_584 : Cond.code y_Ta_tokenOf b_Ta_tokenOf 1 (some (.int)) ∈ TT := tt_i 584 (by decide +kernel) (by decide +kernel)
theorem k_585 : Cond.methodLink "TunnelPeace$Tape" (134) y_JM_min ∈ TT := tt_i 585 (by decide +kernel) (by decide +kernel)
theorem k_587 : Cond.methodLink "TunnelPeace$Tape" (27) y_Ta_takeWord ∈ TT := tt_i 587 (by decide +kernel) (by decide +kernel)
theorem k_589 : Cond.instanceMethod y_Ta_takeWord ∈ TT := tt_i 589 (by decide +kernel) (by decide +kernel)
theorem k_590 : Cond.code y_Ta_takeWord b_Ta_takeWord 3 (some (.boolean)) ∈ TT := tt_i 590 (by decide +kernel) (by decide +kernel)
theorem k_591 : Cond.methodLink "TunnelPeace$Tape" (119) y_JS_length ∈ TT := tt_i 591 (by decide +kernel) (by decide +kernel)
theorem k_592 : Cond.instanceMethod y_JS_length ∈ TT := tt_i 592 (by decide +kernel) (by decide +kernel)
theorem k_593 : Cond.selects "java/lang/String" y_JS_length y_JS_length ∈ TT := tt_i 593 (by decide +kernel) (by decide +kernel)
theorem k_594 : Cond.code y_JS_length b_JS_length 1 (some (.int)) ∈ TT := tt_i 594 (by decide +kernel) (by decide +kernel)
theorem k_595 : Cond.methodLink "java/lang/String" (335) y_JS_coder ∈ TT := tt_i 595 (by decide +kernel) (by decide +kernel)
theorem k_596 : Cond.instanceMethod y_JS_coder ∈ TT := tt_i 596 (by decide +kernel) (by decide +kernel)
theorem k_597 : Cond.selects "java/lang/String" y_JS_coder y_JS_coder ∈ TT := tt_i 597 (by decide +kernel) (by decide +kernel)
theorem k_598 : Cond.code y_JS_coder b_JS_coder 1 (some (.byte)) ∈ TT := tt_i 598 (by decide +kernel) (by decide +kernel)
theorem k_599 : Cond.fieldLink "java/lang/String" (38) "java/lang/String" "COMPACT_STRINGS" "Z" ∈ TT := tt_i 599 (by decide +kernel) (by decide +kernel)
theorem k_601 : Cond.methodLink "TunnelPeace$Tape" (123) y_JS_charAt ∈ TT := tt_i 601 (by decide +kernel) (by decide +kernel)
theorem k_602 : Cond.instanceMethod y_JS_charAt ∈ TT := tt_i 602 (by decide +kernel) (by decide +kernel)
theorem k_603 : Cond.selects "java/lang/String" y_JS_charAt y_JS_charAt ∈ TT := tt_i 603 (by decide +kernel) (by decide +kernel)
theorem k_604 : Cond.code y_JS_charAt b_JS_charAt 2 (some (.char)) ∈ TT := tt_i 604 (by decide +kernel) (by decide +kernel)
theorem k_605 : Cond.methodLink "java/lang/String" (492) y_JS_isLatin1 ∈ TT := tt_i 605 (by decide +kernel) (by decide +kernel)
theorem k_606 : Cond.instanceMethod y_JS_isLatin1 ∈ TT := tt_i 606 (by decide +kernel) (by decide +kernel)
theorem k_607 : Cond.selects "java/lang/String" y_JS_isLatin1 y_JS_isLatin1 ∈ TT := tt_i 607 (by decide +kernel) (by decide +kernel)
theorem k_608 : Cond.code y_JS_isLatin1 b_JS_isLatin1 1 (some (.boolean)) ∈ TT := tt_i 608 (by decide +kernel) (by decide +kernel)
theorem k_609 : Cond.methodLink "java/lang/String" (495) y_JL_charAt ∈ TT := tt_i 609 (by decide +kernel) (by decide +kernel)
theorem k_610 : Cond.static y_JL_charAt ∈ TT := tt_i 610 (by decide +kernel) (by decide +kernel)
theorem k_611 : Cond.code y_JL_charAt b_JL_charAt 2 (some (.char)) ∈ TT := tt_i 611 (by decide +kernel) (by decide +kernel)
theorem k_612 : Cond.methodLink "java/lang/StringLatin1" (9) y_JS_checkIndex ∈ TT := tt_i 612 (by decide +kernel) (by decide +kernel)
theorem k_613 : Cond.static y_JS_checkIndex ∈ TT := tt_i 613 (by decide +kernel) (by decide +kernel)
theorem k_614 : Cond.code y_JS_checkIndex b_JS_checkIndex 2 none ∈ TT := tt_i 614 (by decide +kernel) (by decide +kernel)
theorem k_615 : Cond.fieldLink "java/lang/String" (1053) "jdk/internal/util/Preconditions" "SIOOBE_FORMATTER" "Ljava/util/function/BiFunction;" ∈ TT := tt_i 615 (by decide +kernel) (by decide +kernel)
theorem k_617 : Cond.methodLink "java/lang/String" (1059) y_JP_checkIndex ∈ TT := tt_i 617 (by decide +kernel) (by decide +kernel)
theorem k_618 : Cond.static y_JP_checkIndex ∈ TT := tt_i 618 (by decide +kernel) (by decide +kernel)
theorem k_619 : Cond.code y_JP_checkIndex b_JP_checkIndex 3 (some (.int)) ∈ TT := tt_i 619 (by decide +kernel) (by decide +kernel)
theorem k_620 : Cond.methodLink "java/lang/String" (498) y_JU_charAt ∈ TT := tt_i 620 (by decide +kernel) (by decide +kernel)
theorem k_621 : Cond.static y_JU_charAt ∈ TT := tt_i 621 (by decide +kernel) (by decide +kernel)
theorem k_622 : Cond.code y_JU_charAt b_JU_charAt 2 (some (.char)) ∈ TT := tt_i 622 (by decide +kernel) (by decide +kernel)
theorem k_623 : Cond.methodLink "java/lang/StringUTF16" (67) y_JU_checkIndex ∈ TT := tt_i 623 (by decide +kernel) (by decide +kernel)
theorem k_624 : Cond.static y_JU_checkIndex ∈ TT := tt_i 624 (by decide +kernel) (by decide +kernel)
theorem k_625 : Cond.code y_JU_checkIndex b_JU_checkIndex 2 none ∈ TT := tt_i 625 (by decide +kernel) (by decide +kernel)
theorem k_626 : Cond.methodLink "java/lang/StringUTF16" (48) y_JU_length ∈ TT := tt_i 626 (by decide +kernel) (by decide +kernel)
theorem k_627 : Cond.static y_JU_length ∈ TT := tt_i 627 (by decide +kernel) (by decide +kernel)
theorem k_628 : Cond.code y_JU_length b_JU_length 1 (some (.int)) ∈ TT := tt_i 628 (by decide +kernel) (by decide +kernel)
theorem k_629 : Cond.methodLink "java/lang/StringUTF16" (414) y_JS_checkIndex ∈ TT := tt_i 629 (by decide +kernel) (by decide +kernel)
theorem k_630 : Cond.methodLink "java/lang/StringUTF16" (71) y_JU_getChar ∈ TT := tt_i 630 (by decide +kernel) (by decide +kernel)
theorem k_631 : Cond.static y_JU_getChar ∈ TT := tt_i 631 (by decide +kernel) (by decide +kernel)
theorem k_632 : Cond.code y_JU_getChar b_JU_getChar 2 (some (.char)) ∈ TT := tt_i 632 (by decide +kernel) (by decide +kernel)
theorem k_633 : Cond.fieldLink "java/lang/StringUTF16" (44) "java/lang/StringUTF16" "$assertionsDisabled" "Z" ∈ TT := tt_i 633 (by decide +kernel) (by decide +kernel)
theorem k_635 : Cond.fieldLink "java/lang/StringUTF16" (59) "java/lang/StringUTF16" "HI_BYTE_SHIFT" "I" ∈ TT := tt_i 635 (by decide +kernel) (by decide +kernel)
theorem k_637 : Cond.fieldLink "java/lang/StringUTF16" (63) "java/lang/StringUTF16" "LO_BYTE_SHIFT" "I" ∈ TT := tt_i 637 (by decide +kernel) (by decide +kernel)
theorem k_639 : Cond.methodLink "TunnelPeace$Tape" (31) y_Ta_takePlace ∈ TT := tt_i 639 (by decide +kernel) (by decide +kernel)
theorem k_641 : Cond.instanceMethod y_Ta_takePlace ∈ TT := tt_i 641 (by decide +kernel) (by decide +kernel)
theorem k_642 : Cond.code y_Ta_takePlace b_Ta_takePlace 4 (some (.boolean)) ∈ TT := tt_i 642 (by decide +kernel) (by decide +kernel)
theorem k_643 : Cond.methodLink "TunnelPeace$Tape" (53) y_Ta_takeNumber ∈ TT := tt_i 643 (by decide +kernel) (by decide +kernel)
theorem k_645 : Cond.instanceMethod y_Ta_takeNumber ∈ TT := tt_i 645 (by decide +kernel) (by decide +kernel)
theorem k_646 : Cond.code y_Ta_takeNumber b_Ta_takeNumber 3 (some (.int)) ∈ TT := tt_i 646 (by decide +kernel) (by decide +kernel)
theorem k_648 : Cond.methodLink "TunnelPeace$Tape" (37) y_Ta_takeGuns ∈ TT := tt_i 648 (by decide +kernel) (by decide +kernel)
theorem k_650 : Cond.instanceMethod y_Ta_takeGuns ∈ TT := tt_i 650 (by decide +kernel) (by decide +kernel)
theorem k_651 : Cond.code y_Ta_takeGuns b_Ta_takeGuns 3 (some (.boolean)) ∈ TT := tt_i 651 (by decide +kernel) (by decide +kernel)
theorem k_652 : Cond.methodLink "TunnelPeace$Tape" (40) y_Ta_takePerson ∈ TT := tt_i 652 (by decide +kernel) (by decide +kernel)
theorem k_654 : Cond.instanceMethod y_Ta_takePerson ∈ TT := tt_i 654 (by decide +kernel) (by decide +kernel)
theorem k_655 : Cond.code y_Ta_takePerson b_Ta_takePerson 5 (some (.boolean)) ∈ TT := tt_i 655 (by decide +kernel) (by decide +kernel)
theorem k_656 : Cond.methodLink "TunnelPeace$Tape" (65) y_Tu_isFull ∈ TT := tt_i 656 (by decide +kernel) (by decide +kernel)
theorem k_657 : Cond.methodLink "TunnelPeace$Tape" (68) y_Ta_takeKind ∈ TT := tt_i 657 (by decide +kernel) (by decide +kernel)
theorem k_659 : Cond.instanceMethod y_Ta_takeKind ∈ TT := tt_i 659 (by decide +kernel) (by decide +kernel)
theorem k_660 : Cond.code y_Ta_takeKind b_Ta_takeKind 2 (some (.int)) ∈ TT := tt_i 660 (by decide +kernel) (by decide +kernel)
theorem k_661 : Cond.methodLink "TunnelPeace$Tape" (92) y_Ta_kindWord ∈ TT := tt_i 661 (by decide +kernel) (by decide +kernel)
theorem k_662 : Cond.static y_Ta_kindWord ∈ TT := tt_i 662 (by decide +kernel) (by decide +kernel)
theorem k_663 : Cond.code y_Ta_kindWord b_Ta_kindWord 1 (some (.object "java/lang/String")) ∈ TT := tt_i 663 (by decide +kernel) (by decide +kernel)
theorem k_671 : Cond.methodLink "TunnelPeace$Tape" (76) y_Tu_add ∈ TT := tt_i 671 (by decide +kernel) (by decide +kernel)
theorem k_673 : Cond.methodLink "TunnelPeace$Tape" (82) y_Ta_takeOption ∈ TT := tt_i 673 (by decide +kernel) (by decide +kernel)
theorem k_675 : Cond.instanceMethod y_Ta_takeOption ∈ TT := tt_i 675 (by decide +kernel) (by decide +kernel)
theorem k_676 : Cond.code y_Ta_takeOption b_Ta_takeOption 5 (some (.boolean)) ∈ TT := tt_i 676 (by decide +kernel) (by decide +kernel)
theorem k_678 : Cond.methodLink "TunnelPeace$Tape" (113) y_Pe_set ∈ TT := tt_i 678 (by decide +kernel) (by decide +kernel)
theorem k_682 : Cond.methodLink "TunnelPeace$Tape" (46) y_Ta_takeSemicolon ∈ TT := tt_i 682 (by decide +kernel) (by decide +kernel)
theorem k_684 : Cond.instanceMethod y_Ta_takeSemicolon ∈ TT := tt_i 684 (by decide +kernel) (by decide +kernel)
theorem k_685 : Cond.code y_Ta_takeSemicolon b_Ta_takeSemicolon 1 (some (.boolean)) ∈ TT := tt_i 685 (by decide +kernel) (by decide +kernel)
theorem k_686 : Cond.methodLink "TunnelPeaceLaw" (130) y_TP_hold ∈ TT := tt_i 686 (by decide +kernel) (by decide +kernel)
theorem k_687 : Cond.instanceMethod y_TP_hold ∈ TT := tt_i 687 (by decide +kernel) (by decide +kernel)
theorem k_688 : Cond.selects "TunnelPeace" y_TP_hold y_TP_hold ∈ TT := tt_i 688 (by decide +kernel) (by decide +kernel)
theorem k_689 : Cond.code y_TP_hold b_TP_hold 3 (some (.int)) ∈ TT := tt_i 689 (by decide +kernel) (by decide +kernel)
theorem k_690 : Cond.methodLink "TunnelPeaceLaw" (134) y_TP_as ∈ TT := tt_i 690 (by decide +kernel) (by decide +kernel)
theorem k_691 : Cond.instanceMethod y_TP_as ∈ TT := tt_i 691 (by decide +kernel) (by decide +kernel)
theorem k_692 : Cond.selects "TunnelPeace" y_TP_as y_TP_as ∈ TT := tt_i 692 (by decide +kernel) (by decide +kernel)
theorem k_693 : Cond.code y_TP_as b_TP_as 4 (some (.int)) ∈ TT := tt_i 693 (by decide +kernel) (by decide +kernel)
theorem k_694 : Cond.methodLink "TunnelPeace" (208) y_Pe_isA ∈ TT := tt_i 694 (by decide +kernel) (by decide +kernel)
theorem k_695 : Cond.instanceMethod y_Pe_isA ∈ TT := tt_i 695 (by decide +kernel) (by decide +kernel)
theorem k_696 : Cond.selects "TunnelPeace$Person" y_Pe_isA y_Pe_isA ∈ TT := tt_i 696 (by decide +kernel) (by decide +kernel)
theorem k_697 : Cond.code y_Pe_isA b_Pe_isA 4 (some (.boolean)) ∈ TT := tt_i 697 (by decide +kernel) (by decide +kernel)
theorem k_701 : Cond.constant "TunnelPeace" (211) (-1000003) ∈ TT := tt_i 701 (by decide +kernel) (by decide +kernel)
theorem k_702 : Cond.methodLink "TunnelPeaceLaw" (138) y_TP_sheet ∈ TT := tt_i 702 (by decide +kernel) (by decide +kernel)
theorem k_703 : Cond.instanceMethod y_TP_sheet ∈ TT := tt_i 703 (by decide +kernel) (by decide +kernel)
theorem k_704 : Cond.selects "TunnelPeace" y_TP_sheet y_TP_sheet ∈ TT := tt_i 704 (by decide +kernel) (by decide +kernel)
theorem k_705 : Cond.code y_TP_sheet b_TP_sheet 4 (some (.int)) ∈ TT := tt_i 705 (by decide +kernel) (by decide +kernel)
theorem k_706 : Cond.constant "TunnelPeace" (212) (-1000007) ∈ TT := tt_i 706 (by decide +kernel) (by decide +kernel)
theorem k_707 : Cond.methodLink "TunnelPeace" (213) y_Sh_begin ∈ TT := tt_i 707 (by decide +kernel) (by decide +kernel)
theorem k_708 : Cond.instanceMethod y_Sh_begin ∈ TT := tt_i 708 (by decide +kernel) (by decide +kernel)
theorem k_709 : Cond.selects "TunnelPeace$Sheet" y_Sh_begin y_Sh_begin ∈ TT := tt_i 709 (by decide +kernel) (by decide +kernel)
theorem k_710 : Cond.code y_Sh_begin b_Sh_begin 4 none ∈ TT := tt_i 710 (by decide +kernel) (by decide +kernel)
theorem k_711 : Cond.methodLink "TunnelPeaceLaw" (142) y_TP_write ∈ TT := tt_i 711 (by decide +kernel) (by decide +kernel)
theorem k_712 : Cond.instanceMethod y_TP_write ∈ TT := tt_i 712 (by decide +kernel) (by decide +kernel)
theorem k_713 : Cond.selects "TunnelPeace" y_TP_write y_TP_write ∈ TT := tt_i 713 (by decide +kernel) (by decide +kernel)
theorem k_714 : Cond.code y_TP_write b_TP_write 5 (some (.int)) ∈ TT := tt_i 714 (by decide +kernel) (by decide +kernel)
theorem k_715 : Cond.methodLink "TunnelPeace" (220) y_Sh_put ∈ TT := tt_i 715 (by decide +kernel) (by decide +kernel)
theorem k_716 : Cond.instanceMethod y_Sh_put ∈ TT := tt_i 716 (by decide +kernel) (by decide +kernel)
theorem k_717 : Cond.selects "TunnelPeace$Sheet" y_Sh_put y_Sh_put ∈ TT := tt_i 717 (by decide +kernel) (by decide +kernel)
theorem k_718 : Cond.code y_Sh_put b_Sh_put 3 none ∈ TT := tt_i 718 (by decide +kernel) (by decide +kernel)
theorem k_719 : Cond.methodLink "TunnelPeaceLaw" (146) y_TP_copy ∈ TT := tt_i 719 (by decide +kernel) (by decide +kernel)
theorem k_720 : Cond.instanceMethod y_TP_copy ∈ TT := tt_i 720 (by decide +kernel) (by decide +kernel)
theorem k_721 : Cond.selects "TunnelPeace" y_TP_copy y_TP_copy ∈ TT := tt_i 721 (by decide +kernel) (by decide +kernel)
theorem k_722 : Cond.code y_TP_copy b_TP_copy 6 (some (.int)) ∈ TT := tt_i 722 (by decide +kernel) (by decide +kernel)
theorem k_723 : Cond.methodLink "TunnelPeace" (229) y_Sh_hasRange ∈ TT := tt_i 723 (by decide +kernel) (by decide +kernel)
theorem k_724 : Cond.instanceMethod y_Sh_hasRange ∈ TT := tt_i 724 (by decide +kernel) (by decide +kernel)
theorem k_725 : Cond.selects "TunnelPeace$Sheet" y_Sh_hasRange y_Sh_hasRange ∈ TT := tt_i 725 (by decide +kernel) (by decide +kernel)
theorem k_726 : Cond.code y_Sh_hasRange b_Sh_hasRange 3 (some (.boolean)) ∈ TT := tt_i 726 (by decide +kernel) (by decide +kernel)
theorem k_727 : Cond.methodLink "TunnelPeace" (235) (⟨"java/lang/System", "arraycopy", "(Ljava/lang/Object;ILjava/lang/Object;II)V"⟩ : MethodName) ∈ TT := tt_i 727 (by decide +kernel) (by decide +kernel)
theorem k_728 : Cond.methodLink "TunnelPeaceLaw" (151) y_TP_load ∈ TT := tt_i 728 (by decide +kernel) (by decide +kernel)
theorem k_729 : Cond.instanceMethod y_TP_load ∈ TT := tt_i 729 (by decide +kernel) (by decide +kernel)
theorem k_730 : Cond.selects "TunnelPeace" y_TP_load y_TP_load ∈ TT := tt_i 730 (by decide +kernel) (by decide +kernel)
theorem k_731 : Cond.code y_TP_load b_TP_load 3 (some (.int)) ∈ TT := tt_i 731 (by decide +kernel) (by decide +kernel)
theorem k_732 : Cond.methodLink "TunnelPeace" (241) y_Sh_giveSeasons ∈ TT := tt_i 732 (by decide +kernel) (by decide +kernel)
theorem k_733 : Cond.instanceMethod y_Sh_giveSeasons ∈ TT := tt_i 733 (by decide +kernel) (by decide +kernel)
theorem k_734 : Cond.selects "TunnelPeace$Sheet" y_Sh_giveSeasons y_Sh_giveSeasons ∈ TT := tt_i 734 (by decide +kernel) (by decide +kernel)
theorem k_735 : Cond.code y_Sh_giveSeasons b_Sh_giveSeasons 3 (some (.int)) ∈ TT := tt_i 735 (by decide +kernel) (by decide +kernel)
theorem k_736 : Cond.methodLink "TunnelPeace$Sheet" (22) y_Tu_has ∈ TT := tt_i 736 (by decide +kernel) (by decide +kernel)
theorem k_739 : Cond.methodLink "TunnelPeaceLaw" (155) y_TP_judge ∈ TT := tt_i 739 (by decide +kernel) (by decide +kernel)
theorem k_740 : Cond.instanceMethod y_TP_judge ∈ TT := tt_i 740 (by decide +kernel) (by decide +kernel)
theorem k_741 : Cond.selects "TunnelPeace" y_TP_judge y_TP_judge ∈ TT := tt_i 741 (by decide +kernel) (by decide +kernel)
theorem k_742 : Cond.code y_TP_judge b_TP_judge 3 (some (.int)) ∈ TT := tt_i 742 (by decide +kernel) (by decide +kernel)
theorem k_743 : Cond.methodLink "TunnelPeace" (244) y_Sh_firstWrongCell ∈ TT := tt_i 743 (by decide +kernel) (by decide +kernel)
theorem k_744 : Cond.instanceMethod y_Sh_firstWrongCell ∈ TT := tt_i 744 (by decide +kernel) (by decide +kernel)
theorem k_745 : Cond.selects "TunnelPeace$Sheet" y_Sh_firstWrongCell y_Sh_firstWrongCell ∈ TT := tt_i 745 (by decide +kernel) (by decide +kernel)
theorem k_746 : Cond.code y_Sh_firstWrongCell b_Sh_firstWrongCell 3 (some (.int)) ∈ TT := tt_i 746 (by decide +kernel) (by decide +kernel)
theorem k_747 : Cond.methodLink "TunnelPeaceLaw" (159) y_TP_image ∈ TT := tt_i 747 (by decide +kernel) (by decide +kernel)
theorem k_748 : Cond.instanceMethod y_TP_image ∈ TT := tt_i 748 (by decide +kernel) (by decide +kernel)
theorem k_749 : Cond.selects "TunnelPeace" y_TP_image y_TP_image ∈ TT := tt_i 749 (by decide +kernel) (by decide +kernel)
theorem k_750 : Cond.code y_TP_image b_TP_image 1 (some (.int)) ∈ TT := tt_i 750 (by decide +kernel) (by decide +kernel)
theorem k_751 : Cond.methodLink "TunnelPeaceLaw" (163) y_TP_undo ∈ TT := tt_i 751 (by decide +kernel) (by decide +kernel)
theorem k_752 : Cond.instanceMethod y_TP_undo ∈ TT := tt_i 752 (by decide +kernel) (by decide +kernel)
theorem k_753 : Cond.selects "TunnelPeace" y_TP_undo y_TP_undo ∈ TT := tt_i 753 (by decide +kernel) (by decide +kernel)
theorem k_754 : Cond.code y_TP_undo b_TP_undo 1 (some (.int)) ∈ TT := tt_i 754 (by decide +kernel) (by decide +kernel)
theorem k_755 : Cond.methodLink "TunnelPeaceLaw" (167) y_TP_tear ∈ TT := tt_i 755 (by decide +kernel) (by decide +kernel)
theorem k_756 : Cond.instanceMethod y_TP_tear ∈ TT := tt_i 756 (by decide +kernel) (by decide +kernel)
theorem k_757 : Cond.selects "TunnelPeace" y_TP_tear y_TP_tear ∈ TT := tt_i 757 (by decide +kernel) (by decide +kernel)
theorem k_758 : Cond.code y_TP_tear b_TP_tear 2 (some (.int)) ∈ TT := tt_i 758 (by decide +kernel) (by decide +kernel)
theorem k_759 : Cond.methodLink "TunnelPeaceLaw" (171) y_TP_count ∈ TT := tt_i 759 (by decide +kernel) (by decide +kernel)
theorem k_760 : Cond.instanceMethod y_TP_count ∈ TT := tt_i 760 (by decide +kernel) (by decide +kernel)
theorem k_761 : Cond.selects "TunnelPeace" y_TP_count y_TP_count ∈ TT := tt_i 761 (by decide +kernel) (by decide +kernel)
theorem k_762 : Cond.code y_TP_count b_TP_count 2 (some (.int)) ∈ TT := tt_i 762 (by decide +kernel) (by decide +kernel)
theorem k_763 : Cond.methodLink "TunnelPeace" (251) y_JI_bitCount ∈ TT := tt_i 763 (by decide +kernel) (by decide +kernel)
theorem k_764 : Cond.methodLink "TunnelPeace" (256) y_Tu_spotsTaken ∈ TT := tt_i 764 (by decide +kernel) (by decide +kernel)
theorem k_765 : Cond.instanceMethod y_Tu_spotsTaken ∈ TT := tt_i 765 (by decide +kernel) (by decide +kernel)
theorem k_766 : Cond.selects "TunnelPeace$Tunnel" y_Tu_spotsTaken y_Tu_spotsTaken ∈ TT := tt_i 766 (by decide +kernel) (by decide +kernel)
theorem k_767 : Cond.code y_Tu_spotsTaken b_Tu_spotsTaken 3 (some (.int)) ∈ TT := tt_i 767 (by decide +kernel) (by decide +kernel)
theorem k_768 : Cond.methodLink "TunnelPeaceLaw" (175) y_TP_status ∈ TT := tt_i 768 (by decide +kernel) (by decide +kernel)
theorem k_769 : Cond.instanceMethod y_TP_status ∈ TT := tt_i 769 (by decide +kernel) (by decide +kernel)
theorem k_770 : Cond.selects "TunnelPeace" y_TP_status y_TP_status ∈ TT := tt_i 770 (by decide +kernel) (by decide +kernel)
theorem k_771 : Cond.code y_TP_status b_TP_status 2 (some (.int)) ∈ TT := tt_i 771 (by decide +kernel) (by decide +kernel)
theorem k_772 : Cond.methodLink "TunnelPeace" (259) y_TP_allFindings ∈ TT := tt_i 772 (by decide +kernel) (by decide +kernel)
theorem k_774 : Cond.instanceMethod y_TP_allFindings ∈ TT := tt_i 774 (by decide +kernel) (by decide +kernel)
theorem k_775 : Cond.code y_TP_allFindings b_TP_allFindings 3 (some (.int)) ∈ TT := tt_i 775 (by decide +kernel) (by decide +kernel)
theorem k_776 : Cond.classLink "TunnelPeaceLaw" (10) "TunnelPeaceModel" ∈ TT := tt_i 776 (by decide +kernel) (by decide +kernel)
theorem k_777 : Cond.instantiable "TunnelPeaceModel" (20) ∈ TT := tt_i 777 (by decide +kernel) (by decide +kernel)
theorem k_778 : Cond.methodLink "TunnelPeaceLaw" (12) y_Mo_init ∈ TT := tt_i 778 (by decide +kernel) (by decide +kernel)
theorem k_779 : Cond.instanceMethod y_Mo_init ∈ TT := tt_i 779 (by decide +kernel) (by decide +kernel)
theorem k_780 : Cond.code y_Mo_init b_Mo_init 2 none ∈ TT := tt_i 780 (by decide +kernel) (by decide +kernel)
theorem k_781 : Cond.methodLink "TunnelPeaceModel" (1) objectInit ∈ TT := tt_i 781 (by decide +kernel) (by decide +kernel)
theorem k_782 : Cond.classLink "TunnelPeaceModel" (25) "java/lang/String" ∈ TT := tt_i 782 (by decide +kernel) (by decide +kernel)
theorem k_791 : Cond.fieldLink "TunnelPeaceModel" (9) "TunnelPeaceModel" "now" "[I" ∈ TT := tt_i 791 (by decide +kernel) (by decide +kernel)
theorem k_792 : Cond.fieldLink "TunnelPeaceModel" (13) "TunnelPeaceModel" "kept" "[I" ∈ TT := tt_i 792 (by decide +kernel) (by decide +kernel)
theorem k_793 : Cond.fieldLink "TunnelPeaceModel" (16) "TunnelPeaceModel" "aside" "[I" ∈ TT := tt_i 793 (by decide +kernel) (by decide +kernel)
theorem k_794 : Cond.fieldLink "TunnelPeaceModel" (325) "TunnelPeaceModel" "isKept" "Z" ∈ TT := tt_i 794 (by decide +kernel) (by decide +kernel)
theorem k_795 : Cond.fieldLink "TunnelPeaceModel" (19) "TunnelPeaceModel" "found" "[I" ∈ TT := tt_i 795 (by decide +kernel) (by decide +kernel)
theorem k_796 : Cond.fieldLink "TunnelPeaceModel" (22) "TunnelPeaceModel" "tape" "[I" ∈ TT := tt_i 796 (by decide +kernel) (by decide +kernel)
theorem k_797 : Cond.fieldLink "TunnelPeaceModel" (233) "TunnelPeaceModel" "taped" "I" ∈ TT := tt_i 797 (by decide +kernel) (by decide +kernel)
theorem k_798 : Cond.fieldLink "TunnelPeaceModel" (240) "TunnelPeaceModel" "begins" "I" ∈ TT := tt_i 798 (by decide +kernel) (by decide +kernel)
theorem k_799 : Cond.fieldLink "TunnelPeaceModel" (237) "TunnelPeaceModel" "ends" "I" ∈ TT := tt_i 799 (by decide +kernel) (by decide +kernel)
theorem k_800 : Cond.fieldLink "TunnelPeaceModel" (249) "TunnelPeaceModel" "sort" "I" ∈ TT := tt_i 800 (by decide +kernel) (by decide +kernel)
theorem k_801 : Cond.fieldLink "TunnelPeaceModel" (246) "TunnelPeaceModel" "value" "I" ∈ TT := tt_i 801 (by decide +kernel) (by decide +kernel)
theorem k_802 : Cond.fieldLink "TunnelPeaceModel" (259) "TunnelPeaceModel" "isWrong" "Z" ∈ TT := tt_i 802 (by decide +kernel) (by decide +kernel)
theorem k_803 : Cond.fieldLink "TunnelPeaceModel" (41) "TunnelPeaceModel" "kindNames" "[Ljava/lang/String;" ∈ TT := tt_i 803 (by decide +kernel) (by decide +kernel)
theorem k_804 : Cond.fieldLink "TunnelPeaceModel" (45) "TunnelPeaceModel" "items" "[I" ∈ TT := tt_i 804 (by decide +kernel) (by decide +kernel)
theorem k_805 : Cond.fieldLink "TunnelPeaceModel" (270) "TunnelPeaceModel" "itemMany" "I" ∈ TT := tt_i 805 (by decide +kernel) (by decide +kernel)
theorem k_806 : Cond.fieldLink "TunnelPeaceModel" (277) "TunnelPeaceModel" "peopleThen" "I" ∈ TT := tt_i 806 (by decide +kernel) (by decide +kernel)
theorem k_807 : Cond.fieldLink "TunnelPeaceModel" (48) "TunnelPeaceModel" "widths" "[I" ∈ TT := tt_i 807 (by decide +kernel) (by decide +kernel)
theorem k_808 : Cond.fieldLink "TunnelPeaceModel" (51) "TunnelPeaceModel" "sizes" "[I" ∈ TT := tt_i 808 (by decide +kernel) (by decide +kernel)
theorem k_809 : Cond.fieldLink "TunnelPeaceModel" (54) "TunnelPeaceModel" "numbers" "[I" ∈ TT := tt_i 809 (by decide +kernel) (by decide +kernel)
theorem k_810 : Cond.fieldLink "TunnelPeaceModel" (57) "TunnelPeaceModel" "moved" "[I" ∈ TT := tt_i 810 (by decide +kernel) (by decide +kernel)
theorem k_811 : Cond.laysFinal "TunnelPeaceModel" "TunnelPeaceModel" "now" "[I" ∈ TT := tt_i 811 (by decide +kernel) (by decide +kernel)
theorem k_813 : Cond.laysFinal "TunnelPeaceModel" "TunnelPeaceModel" "kept" "[I" ∈ TT := tt_i 813 (by decide +kernel) (by decide +kernel)
theorem k_815 : Cond.laysFinal "TunnelPeaceModel" "TunnelPeaceModel" "aside" "[I" ∈ TT := tt_i 815 (by decide +kernel) (by decide +kernel)
theorem k_817 : Cond.lays "TunnelPeaceModel" "TunnelPeaceModel" "isKept" "Z" ∈ TT := tt_i 817 (by decide +kernel) (by decide +kernel)
theorem k_819 : Cond.laysFinal "TunnelPeaceModel" "TunnelPeaceModel" "found" "[I" ∈ TT := tt_i 819 (by decide +kernel) (by decide +kernel)
theorem k_821 : Cond.laysFinal "TunnelPeaceModel" "TunnelPeaceModel" "tape" "[I" ∈ TT := tt_i 821 (by decide +kernel) (by decide +kernel)
theorem k_823 : Cond.lays "TunnelPeaceModel" "TunnelPeaceModel" "taped" "I" ∈ TT := tt_i 823 (by decide +kernel) (by decide +kernel)
theorem k_825 : Cond.lays "TunnelPeaceModel" "TunnelPeaceModel" "begins" "I" ∈ TT := tt_i 825 (by decide +kernel) (by decide +kernel)
theorem k_827 : Cond.lays "TunnelPeaceModel" "TunnelPeaceModel" "ends" "I" ∈ TT := tt_i 827 (by decide +kernel) (by decide +kernel)
theorem k_829 : Cond.lays "TunnelPeaceModel" "TunnelPeaceModel" "sort" "I" ∈ TT := tt_i 829 (by decide +kernel) (by decide +kernel)
theorem k_831 : Cond.lays "TunnelPeaceModel" "TunnelPeaceModel" "value" "I" ∈ TT := tt_i 831 (by decide +kernel) (by decide +kernel)
theorem k_833 : Cond.lays "TunnelPeaceModel" "TunnelPeaceModel" "isWrong" "Z" ∈ TT := tt_i 833 (by decide +kernel) (by decide +kernel)
theorem k_835 : Cond.laysFinal "TunnelPeaceModel" "TunnelPeaceModel" "kindNames" "[Ljava/lang/String;" ∈ TT := tt_i 835 (by decide +kernel) (by decide +kernel)
theorem k_837 : Cond.laysFinal "TunnelPeaceModel" "TunnelPeaceModel" "items" "[I" ∈ TT := tt_i 837 (by decide +kernel) (by decide +kernel)
theorem k_839 : Cond.lays "TunnelPeaceModel" "TunnelPeaceModel" "itemMany" "I" ∈ TT := tt_i 839 (by decide +kernel) (by decide +kernel)
theorem k_841 : Cond.lays "TunnelPeaceModel" "TunnelPeaceModel" "peopleThen" "I" ∈ TT := tt_i 841 (by decide +kernel) (by decide +kernel)
theorem k_843 : Cond.laysFinal "TunnelPeaceModel" "TunnelPeaceModel" "widths" "[I" ∈ TT := tt_i 843 (by decide +kernel) (by decide +kernel)
theorem k_845 : Cond.laysFinal "TunnelPeaceModel" "TunnelPeaceModel" "sizes" "[I" ∈ TT := tt_i 845 (by decide +kernel) (by decide +kernel)
theorem k_847 : Cond.laysFinal "TunnelPeaceModel" "TunnelPeaceModel" "numbers" "[I" ∈ TT := tt_i 847 (by decide +kernel) (by decide +kernel)
theorem k_849 : Cond.laysFinal "TunnelPeaceModel" "TunnelPeaceModel" "moved" "[I" ∈ TT := tt_i 849 (by decide +kernel) (by decide +kernel)
theorem k_852 : Cond.methodLink "TunnelPeaceLaw" (17) y_Mo_guns ∈ TT := tt_i 852 (by decide +kernel) (by decide +kernel)
theorem k_853 : Cond.instanceMethod y_Mo_guns ∈ TT := tt_i 853 (by decide +kernel) (by decide +kernel)
theorem k_854 : Cond.selects "TunnelPeaceModel" y_Mo_guns y_Mo_guns ∈ TT := tt_i 854 (by decide +kernel) (by decide +kernel)
theorem k_855 : Cond.code y_Mo_guns b_Mo_guns 2 (some (.int)) ∈ TT := tt_i 855 (by decide +kernel) (by decide +kernel)
theorem k_856 : Cond.methodLink "TunnelPeaceModel" (74) y_Mo_isMany ∈ TT := tt_i 856 (by decide +kernel) (by decide +kernel)
theorem k_857 : Cond.static y_Mo_isMany ∈ TT := tt_i 857 (by decide +kernel) (by decide +kernel)
theorem k_858 : Cond.code y_Mo_isMany b_Mo_isMany 1 (some (.boolean)) ∈ TT := tt_i 858 (by decide +kernel) (by decide +kernel)
theorem k_859 : Cond.methodLink "TunnelPeaceModel" (70) y_Mo_within ∈ TT := tt_i 859 (by decide +kernel) (by decide +kernel)
theorem k_860 : Cond.static y_Mo_within ∈ TT := tt_i 860 (by decide +kernel) (by decide +kernel)
theorem k_861 : Cond.code y_Mo_within b_Mo_within 3 (some (.boolean)) ∈ TT := tt_i 861 (by decide +kernel) (by decide +kernel)
theorem k_862 : Cond.methodLink "TunnelPeaceModel" (78) y_Mo_become ∈ TT := tt_i 862 (by decide +kernel) (by decide +kernel)
theorem k_864 : Cond.instanceMethod y_Mo_become ∈ TT := tt_i 864 (by decide +kernel) (by decide +kernel)
theorem k_865 : Cond.code y_Mo_become b_Mo_become 4 (some (.int)) ∈ TT := tt_i 865 (by decide +kernel) (by decide +kernel)
theorem k_866 : Cond.constant "TunnelPeaceModel" (60) (-1000001) ∈ TT := tt_i 866 (by decide +kernel) (by decide +kernel)
theorem k_867 : Cond.methodLink "TunnelPeaceModel" (66) y_Mo_finding ∈ TT := tt_i 867 (by decide +kernel) (by decide +kernel)
theorem k_869 : Cond.instanceMethod y_Mo_finding ∈ TT := tt_i 869 (by decide +kernel) (by decide +kernel)
theorem k_870 : Cond.code y_Mo_finding b_Mo_finding 2 (some (.int)) ∈ TT := tt_i 870 (by decide +kernel) (by decide +kernel)
theorem k_871 : Cond.methodLink "TunnelPeaceLaw" (22) y_Mo_place ∈ TT := tt_i 871 (by decide +kernel) (by decide +kernel)
theorem k_872 : Cond.instanceMethod y_Mo_place ∈ TT := tt_i 872 (by decide +kernel) (by decide +kernel)
theorem k_873 : Cond.selects "TunnelPeaceModel" y_Mo_place y_Mo_place ∈ TT := tt_i 873 (by decide +kernel) (by decide +kernel)
theorem k_874 : Cond.code y_Mo_place b_Mo_place 3 (some (.int)) ∈ TT := tt_i 874 (by decide +kernel) (by decide +kernel)
theorem k_875 : Cond.methodLink "TunnelPeaceModel" (82) y_Mo_isPlace ∈ TT := tt_i 875 (by decide +kernel) (by decide +kernel)
theorem k_876 : Cond.static y_Mo_isPlace ∈ TT := tt_i 876 (by decide +kernel) (by decide +kernel)
theorem k_877 : Cond.code y_Mo_isPlace b_Mo_isPlace 1 (some (.boolean)) ∈ TT := tt_i 877 (by decide +kernel) (by decide +kernel)
theorem k_878 : Cond.methodLink "TunnelPeaceModel" (85) y_Mo_isCell ∈ TT := tt_i 878 (by decide +kernel) (by decide +kernel)
theorem k_879 : Cond.static y_Mo_isCell ∈ TT := tt_i 879 (by decide +kernel) (by decide +kernel)
theorem k_880 : Cond.code y_Mo_isCell b_Mo_isCell 1 (some (.boolean)) ∈ TT := tt_i 880 (by decide +kernel) (by decide +kernel)
theorem k_881 : Cond.methodLink "TunnelPeaceLaw" (26) y_Mo_listed ∈ TT := tt_i 881 (by decide +kernel) (by decide +kernel)
theorem k_882 : Cond.instanceMethod y_Mo_listed ∈ TT := tt_i 882 (by decide +kernel) (by decide +kernel)
theorem k_883 : Cond.selects "TunnelPeaceModel" y_Mo_listed y_Mo_listed ∈ TT := tt_i 883 (by decide +kernel) (by decide +kernel)
theorem k_884 : Cond.code y_Mo_listed b_Mo_listed 2 (some (.int)) ∈ TT := tt_i 884 (by decide +kernel) (by decide +kernel)
theorem k_885 : Cond.methodLink "TunnelPeaceLaw" (30) y_Mo_person ∈ TT := tt_i 885 (by decide +kernel) (by decide +kernel)
theorem k_886 : Cond.instanceMethod y_Mo_person ∈ TT := tt_i 886 (by decide +kernel) (by decide +kernel)
theorem k_887 : Cond.selects "TunnelPeaceModel" y_Mo_person y_Mo_person ∈ TT := tt_i 887 (by decide +kernel) (by decide +kernel)
theorem k_888 : Cond.code y_Mo_person b_Mo_person 3 (some (.int)) ∈ TT := tt_i 888 (by decide +kernel) (by decide +kernel)
theorem k_889 : Cond.methodLink "TunnelPeaceModel" (94) y_Mo_isKind ∈ TT := tt_i 889 (by decide +kernel) (by decide +kernel)
theorem k_890 : Cond.static y_Mo_isKind ∈ TT := tt_i 890 (by decide +kernel) (by decide +kernel)
theorem k_891 : Cond.code y_Mo_isKind b_Mo_isKind 1 (some (.boolean)) ∈ TT := tt_i 891 (by decide +kernel) (by decide +kernel)
theorem k_892 : Cond.constant "TunnelPeaceModel" (97) (-1000002) ∈ TT := tt_i 892 (by decide +kernel) (by decide +kernel)
theorem k_893 : Cond.methodLink "TunnelPeaceModel" (98) y_Mo_comes ∈ TT := tt_i 893 (by decide +kernel) (by decide +kernel)
theorem k_895 : Cond.instanceMethod y_Mo_comes ∈ TT := tt_i 895 (by decide +kernel) (by decide +kernel)
theorem k_896 : Cond.code y_Mo_comes b_Mo_comes 4 (some (.int)) ∈ TT := tt_i 896 (by decide +kernel) (by decide +kernel)
theorem k_897 : Cond.methodLink "TunnelPeaceModel" (88) y_Mo_personAt ∈ TT := tt_i 897 (by decide +kernel) (by decide +kernel)
theorem k_898 : Cond.static y_Mo_personAt ∈ TT := tt_i 898 (by decide +kernel) (by decide +kernel)
theorem k_899 : Cond.code y_Mo_personAt b_Mo_personAt 2 (some (.int)) ∈ TT := tt_i 899 (by decide +kernel) (by decide +kernel)
theorem k_900 : Cond.methodLink "TunnelPeaceModel" (91) y_Mo_liftOf ∈ TT := tt_i 900 (by decide +kernel) (by decide +kernel)
theorem k_901 : Cond.static y_Mo_liftOf ∈ TT := tt_i 901 (by decide +kernel) (by decide +kernel)
theorem k_902 : Cond.code y_Mo_liftOf b_Mo_liftOf 1 (some (.int)) ∈ TT := tt_i 902 (by decide +kernel) (by decide +kernel)
theorem k_903 : Cond.methodLink "TunnelPeaceLaw" (34) y_Mo_of ∈ TT := tt_i 903 (by decide +kernel) (by decide +kernel)
theorem k_904 : Cond.instanceMethod y_Mo_of ∈ TT := tt_i 904 (by decide +kernel) (by decide +kernel)
theorem k_905 : Cond.selects "TunnelPeaceModel" y_Mo_of y_Mo_of ∈ TT := tt_i 905 (by decide +kernel) (by decide +kernel)
theorem k_906 : Cond.code y_Mo_of b_Mo_of 3 (some (.int)) ∈ TT := tt_i 906 (by decide +kernel) (by decide +kernel)
theorem k_907 : Cond.methodLink "TunnelPeaceModel" (121) y_Mo_isPerson ∈ TT := tt_i 907 (by decide +kernel) (by decide +kernel)
theorem k_909 : Cond.instanceMethod y_Mo_isPerson ∈ TT := tt_i 909 (by decide +kernel) (by decide +kernel)
theorem k_910 : Cond.code y_Mo_isPerson b_Mo_isPerson 2 (some (.boolean)) ∈ TT := tt_i 910 (by decide +kernel) (by decide +kernel)
theorem k_911 : Cond.methodLink "TunnelPeaceModel" (124) y_Mo_told ∈ TT := tt_i 911 (by decide +kernel) (by decide +kernel)
theorem k_913 : Cond.instanceMethod y_Mo_told ∈ TT := tt_i 913 (by decide +kernel) (by decide +kernel)
theorem k_914 : Cond.code y_Mo_told b_Mo_told 3 (some (.int)) ∈ TT := tt_i 914 (by decide +kernel) (by decide +kernel)
theorem k_915 : Cond.methodLink "TunnelPeaceModel" (109) y_Mo_steps ∈ TT := tt_i 915 (by decide +kernel) (by decide +kernel)
theorem k_917 : Cond.instanceMethod y_Mo_steps ∈ TT := tt_i 917 (by decide +kernel) (by decide +kernel)
theorem k_918 : Cond.code y_Mo_steps b_Mo_steps 3 (some (.int)) ∈ TT := tt_i 918 (by decide +kernel) (by decide +kernel)
theorem k_919 : Cond.methodLink "TunnelPeaceModel" (101) y_Mo_personIs ∈ TT := tt_i 919 (by decide +kernel) (by decide +kernel)
theorem k_921 : Cond.instanceMethod y_Mo_personIs ∈ TT := tt_i 921 (by decide +kernel) (by decide +kernel)
theorem k_922 : Cond.code y_Mo_personIs b_Mo_personIs 3 (some (.int)) ∈ TT := tt_i 922 (by decide +kernel) (by decide +kernel)
theorem k_923 : Cond.methodLink "TunnelPeaceModel" (104) y_JM_max ∈ TT := tt_i 923 (by decide +kernel) (by decide +kernel)
theorem k_924 : Cond.methodLink "TunnelPeaceModel" (112) y_Mo_crosses ∈ TT := tt_i 924 (by decide +kernel) (by decide +kernel)
theorem k_926 : Cond.instanceMethod y_Mo_crosses ∈ TT := tt_i 926 (by decide +kernel) (by decide +kernel)
theorem k_927 : Cond.code y_Mo_crosses b_Mo_crosses 2 (some (.boolean)) ∈ TT := tt_i 927 (by decide +kernel) (by decide +kernel)
theorem k_928 : Cond.methodLink "TunnelPeaceModel" (115) y_Mo_calms ∈ TT := tt_i 928 (by decide +kernel) (by decide +kernel)
theorem k_930 : Cond.instanceMethod y_Mo_calms ∈ TT := tt_i 930 (by decide +kernel) (by decide +kernel)
theorem k_931 : Cond.code y_Mo_calms b_Mo_calms 2 (some (.int)) ∈ TT := tt_i 931 (by decide +kernel) (by decide +kernel)
theorem k_932 : Cond.methodLink "TunnelPeaceModel" (118) y_Mo_tires ∈ TT := tt_i 932 (by decide +kernel) (by decide +kernel)
theorem k_934 : Cond.instanceMethod y_Mo_tires ∈ TT := tt_i 934 (by decide +kernel) (by decide +kernel)
theorem k_935 : Cond.code y_Mo_tires b_Mo_tires 2 (some (.int)) ∈ TT := tt_i 935 (by decide +kernel) (by decide +kernel)
theorem k_936 : Cond.methodLink "TunnelPeaceLaw" (39) y_Mo_change ∈ TT := tt_i 936 (by decide +kernel) (by decide +kernel)
theorem k_937 : Cond.instanceMethod y_Mo_change ∈ TT := tt_i 937 (by decide +kernel) (by decide +kernel)
theorem k_938 : Cond.selects "TunnelPeaceModel" y_Mo_change y_Mo_change ∈ TT := tt_i 938 (by decide +kernel) (by decide +kernel)
theorem k_939 : Cond.code y_Mo_change b_Mo_change 4 (some (.int)) ∈ TT := tt_i 939 (by decide +kernel) (by decide +kernel)
theorem k_940 : Cond.methodLink "TunnelPeaceModel" (127) y_Mo_isField ∈ TT := tt_i 940 (by decide +kernel) (by decide +kernel)
theorem k_941 : Cond.static y_Mo_isField ∈ TT := tt_i 941 (by decide +kernel) (by decide +kernel)
theorem k_942 : Cond.code y_Mo_isField b_Mo_isField 2 (some (.boolean)) ∈ TT := tt_i 942 (by decide +kernel) (by decide +kernel)
theorem k_943 : Cond.methodLink "TunnelPeaceLaw" (43) y_Mo_who ∈ TT := tt_i 943 (by decide +kernel) (by decide +kernel)
theorem k_944 : Cond.instanceMethod y_Mo_who ∈ TT := tt_i 944 (by decide +kernel) (by decide +kernel)
theorem k_945 : Cond.selects "TunnelPeaceModel" y_Mo_who y_Mo_who ∈ TT := tt_i 945 (by decide +kernel) (by decide +kernel)
theorem k_946 : Cond.code y_Mo_who b_Mo_who 4 (some (.int)) ∈ TT := tt_i 946 (by decide +kernel) (by decide +kernel)
theorem k_947 : Cond.methodLink "TunnelPeaceLaw" (47) y_Mo_two ∈ TT := tt_i 947 (by decide +kernel) (by decide +kernel)
theorem k_948 : Cond.instanceMethod y_Mo_two ∈ TT := tt_i 948 (by decide +kernel) (by decide +kernel)
theorem k_949 : Cond.selects "TunnelPeaceModel" y_Mo_two y_Mo_two ∈ TT := tt_i 949 (by decide +kernel) (by decide +kernel)
theorem k_950 : Cond.code y_Mo_two b_Mo_two 3 (some (.int)) ∈ TT := tt_i 950 (by decide +kernel) (by decide +kernel)
theorem k_951 : Cond.methodLink "TunnelPeaceModel" (131) y_Mo_wouldMeet ∈ TT := tt_i 951 (by decide +kernel) (by decide +kernel)
theorem k_953 : Cond.instanceMethod y_Mo_wouldMeet ∈ TT := tt_i 953 (by decide +kernel) (by decide +kernel)
theorem k_954 : Cond.code y_Mo_wouldMeet b_Mo_wouldMeet 6 (some (.boolean)) ∈ TT := tt_i 954 (by decide +kernel) (by decide +kernel)
theorem k_955 : Cond.methodLink "TunnelPeaceLaw" (51) y_Mo_go ∈ TT := tt_i 955 (by decide +kernel) (by decide +kernel)
theorem k_956 : Cond.instanceMethod y_Mo_go ∈ TT := tt_i 956 (by decide +kernel) (by decide +kernel)
theorem k_957 : Cond.selects "TunnelPeaceModel" y_Mo_go y_Mo_go ∈ TT := tt_i 957 (by decide +kernel) (by decide +kernel)
theorem k_958 : Cond.code y_Mo_go b_Mo_go 2 (some (.int)) ∈ TT := tt_i 958 (by decide +kernel) (by decide +kernel)
theorem k_959 : Cond.constant "TunnelPeaceModel" (156) (99999) ∈ TT := tt_i 959 (by decide +kernel) (by decide +kernel)
theorem k_960 : Cond.constant "TunnelPeaceModel" (160) (-1000005) ∈ TT := tt_i 960 (by decide +kernel) (by decide +kernel)
theorem k_961 : Cond.methodLink "TunnelPeaceModel" (161) y_Mo_daysGo ∈ TT := tt_i 961 (by decide +kernel) (by decide +kernel)
theorem k_963 : Cond.instanceMethod y_Mo_daysGo ∈ TT := tt_i 963 (by decide +kernel) (by decide +kernel)
theorem k_964 : Cond.code y_Mo_daysGo b_Mo_daysGo 3 none ∈ TT := tt_i 964 (by decide +kernel) (by decide +kernel)
theorem k_965 : Cond.methodLink "TunnelPeaceModel" (157) y_Mo_day ∈ TT := tt_i 965 (by decide +kernel) (by decide +kernel)
theorem k_967 : Cond.instanceMethod y_Mo_day ∈ TT := tt_i 967 (by decide +kernel) (by decide +kernel)
theorem k_968 : Cond.code y_Mo_day b_Mo_day 4 none ∈ TT := tt_i 968 (by decide +kernel) (by decide +kernel)
theorem k_969 : Cond.methodLink "TunnelPeaceModel" (145) y_Mo_placeNow ∈ TT := tt_i 969 (by decide +kernel) (by decide +kernel)
theorem k_971 : Cond.instanceMethod y_Mo_placeNow ∈ TT := tt_i 971 (by decide +kernel) (by decide +kernel)
theorem k_972 : Cond.code y_Mo_placeNow b_Mo_placeNow 1 (some (.int)) ∈ TT := tt_i 972 (by decide +kernel) (by decide +kernel)
theorem k_973 : Cond.methodLink "TunnelPeaceModel" (149) y_Mo_walks ∈ TT := tt_i 973 (by decide +kernel) (by decide +kernel)
theorem k_975 : Cond.instanceMethod y_Mo_walks ∈ TT := tt_i 975 (by decide +kernel) (by decide +kernel)
theorem k_976 : Cond.code y_Mo_walks b_Mo_walks 5 none ∈ TT := tt_i 976 (by decide +kernel) (by decide +kernel)
theorem k_977 : Cond.methodLink "TunnelPeaceModel" (134) y_JM_min ∈ TT := tt_i 977 (by decide +kernel) (by decide +kernel)
theorem k_978 : Cond.methodLink "TunnelPeaceModel" (137) y_Mo_towards ∈ TT := tt_i 978 (by decide +kernel) (by decide +kernel)
theorem k_979 : Cond.static y_Mo_towards ∈ TT := tt_i 979 (by decide +kernel) (by decide +kernel)
theorem k_980 : Cond.code y_Mo_towards b_Mo_towards 3 (some (.int)) ∈ TT := tt_i 980 (by decide +kernel) (by decide +kernel)
theorem k_981 : Cond.methodLink "TunnelPeaceModel" (153) y_Mo_meet ∈ TT := tt_i 981 (by decide +kernel) (by decide +kernel)
theorem k_983 : Cond.instanceMethod y_Mo_meet ∈ TT := tt_i 983 (by decide +kernel) (by decide +kernel)
theorem k_984 : Cond.code y_Mo_meet b_Mo_meet 3 none ∈ TT := tt_i 984 (by decide +kernel) (by decide +kernel)
theorem k_985 : Cond.methodLink "TunnelPeaceModel" (141) y_Mo_more ∈ TT := tt_i 985 (by decide +kernel) (by decide +kernel)
theorem k_987 : Cond.instanceMethod y_Mo_more ∈ TT := tt_i 987 (by decide +kernel) (by decide +kernel)
theorem k_988 : Cond.code y_Mo_more b_Mo_more 4 none ∈ TT := tt_i 988 (by decide +kernel) (by decide +kernel)
theorem k_989 : Cond.methodLink "TunnelPeaceLaw" (55) y_Mo_now ∈ TT := tt_i 989 (by decide +kernel) (by decide +kernel)
theorem k_990 : Cond.instanceMethod y_Mo_now ∈ TT := tt_i 990 (by decide +kernel) (by decide +kernel)
theorem k_991 : Cond.selects "TunnelPeaceModel" y_Mo_now y_Mo_now ∈ TT := tt_i 991 (by decide +kernel) (by decide +kernel)
theorem k_992 : Cond.code y_Mo_now b_Mo_now 2 (some (.int)) ∈ TT := tt_i 992 (by decide +kernel) (by decide +kernel)
theorem k_993 : Cond.methodLink "TunnelPeaceModel" (165) y_Mo_metInAll ∈ TT := tt_i 993 (by decide +kernel) (by decide +kernel)
theorem k_995 : Cond.instanceMethod y_Mo_metInAll ∈ TT := tt_i 995 (by decide +kernel) (by decide +kernel)
theorem k_996 : Cond.code y_Mo_metInAll b_Mo_metInAll 3 (some (.int)) ∈ TT := tt_i 996 (by decide +kernel) (by decide +kernel)
theorem k_997 : Cond.methodLink "TunnelPeaceModel" (168) y_Mo_strangers ∈ TT := tt_i 997 (by decide +kernel) (by decide +kernel)
theorem k_999 : Cond.instanceMethod y_Mo_strangers ∈ TT := tt_i 999 (by decide +kernel) (by decide +kernel)
theorem k_1000 : Cond.code y_Mo_strangers b_Mo_strangers 4 (some (.int)) ∈ TT := tt_i 1000 (by decide +kernel) (by decide +kernel)
theorem k_1001 : Cond.methodLink "TunnelPeaceModel" (171) y_Mo_subscribers ∈ TT := tt_i 1001 (by decide +kernel) (by decide +kernel)
theorem k_1003 : Cond.instanceMethod y_Mo_subscribers ∈ TT := tt_i 1003 (by decide +kernel) (by decide +kernel)
theorem k_1004 : Cond.code y_Mo_subscribers b_Mo_subscribers 3 (some (.int)) ∈ TT := tt_i 1004 (by decide +kernel) (by decide +kernel)
theorem k_1005 : Cond.methodLink "TunnelPeaceModel" (174) y_Mo_cellsOf ∈ TT := tt_i 1005 (by decide +kernel) (by decide +kernel)
theorem k_1007 : Cond.instanceMethod y_Mo_cellsOf ∈ TT := tt_i 1007 (by decide +kernel) (by decide +kernel)
theorem k_1008 : Cond.code y_Mo_cellsOf b_Mo_cellsOf 3 (some (.int)) ∈ TT := tt_i 1008 (by decide +kernel) (by decide +kernel)
theorem k_1009 : Cond.methodLink "TunnelPeaceModel" (177) y_Mo_pairs ∈ TT := tt_i 1009 (by decide +kernel) (by decide +kernel)
theorem k_1011 : Cond.instanceMethod y_Mo_pairs ∈ TT := tt_i 1011 (by decide +kernel) (by decide +kernel)
theorem k_1012 : Cond.code y_Mo_pairs b_Mo_pairs 4 (some (.int)) ∈ TT := tt_i 1012 (by decide +kernel) (by decide +kernel)
theorem k_1013 : Cond.methodLink "TunnelPeaceModel" (180) y_Mo_metMost ∈ TT := tt_i 1013 (by decide +kernel) (by decide +kernel)
theorem k_1015 : Cond.instanceMethod y_Mo_metMost ∈ TT := tt_i 1015 (by decide +kernel) (by decide +kernel)
theorem k_1016 : Cond.code y_Mo_metMost b_Mo_metMost 3 (some (.int)) ∈ TT := tt_i 1016 (by decide +kernel) (by decide +kernel)
theorem k_1017 : Cond.methodLink "TunnelPeaceLaw" (59) y_Mo_ahead ∈ TT := tt_i 1017 (by decide +kernel) (by decide +kernel)
theorem k_1018 : Cond.instanceMethod y_Mo_ahead ∈ TT := tt_i 1018 (by decide +kernel) (by decide +kernel)
theorem k_1019 : Cond.selects "TunnelPeaceModel" y_Mo_ahead y_Mo_ahead ∈ TT := tt_i 1019 (by decide +kernel) (by decide +kernel)
theorem k_1020 : Cond.code y_Mo_ahead b_Mo_ahead 5 (some (.int)) ∈ TT := tt_i 1020 (by decide +kernel) (by decide +kernel)
theorem k_1021 : Cond.methodLink "TunnelPeaceModel" (61) y_Mo_copyRow ∈ TT := tt_i 1021 (by decide +kernel) (by decide +kernel)
theorem k_1022 : Cond.static y_Mo_copyRow ∈ TT := tt_i 1022 (by decide +kernel) (by decide +kernel)
theorem k_1023 : Cond.code y_Mo_copyRow b_Mo_copyRow 3 none ∈ TT := tt_i 1023 (by decide +kernel) (by decide +kernel)
theorem k_1024 : Cond.methodLink "TunnelPeaceModel" (183) y_Mo_putBack ∈ TT := tt_i 1024 (by decide +kernel) (by decide +kernel)
theorem k_1026 : Cond.instanceMethod y_Mo_putBack ∈ TT := tt_i 1026 (by decide +kernel) (by decide +kernel)
theorem k_1027 : Cond.code y_Mo_putBack b_Mo_putBack 2 (some (.int)) ∈ TT := tt_i 1027 (by decide +kernel) (by decide +kernel)
theorem k_1028 : Cond.methodLink "TunnelPeaceLaw" (63) y_Mo_noise ∈ TT := tt_i 1028 (by decide +kernel) (by decide +kernel)
theorem k_1029 : Cond.instanceMethod y_Mo_noise ∈ TT := tt_i 1029 (by decide +kernel) (by decide +kernel)
theorem k_1030 : Cond.selects "TunnelPeaceModel" y_Mo_noise y_Mo_noise ∈ TT := tt_i 1030 (by decide +kernel) (by decide +kernel)
theorem k_1031 : Cond.code y_Mo_noise b_Mo_noise 2 (some (.int)) ∈ TT := tt_i 1031 (by decide +kernel) (by decide +kernel)
theorem k_1032 : Cond.methodLink "TunnelPeaceModel" (186) y_Mo_behind ∈ TT := tt_i 1032 (by decide +kernel) (by decide +kernel)
theorem k_1034 : Cond.instanceMethod y_Mo_behind ∈ TT := tt_i 1034 (by decide +kernel) (by decide +kernel)
theorem k_1035 : Cond.code y_Mo_behind b_Mo_behind 3 (some (.int)) ∈ TT := tt_i 1035 (by decide +kernel) (by decide +kernel)
theorem k_1036 : Cond.methodLink "TunnelPeaceLaw" (67) y_Mo_stills ∈ TT := tt_i 1036 (by decide +kernel) (by decide +kernel)
theorem k_1037 : Cond.instanceMethod y_Mo_stills ∈ TT := tt_i 1037 (by decide +kernel) (by decide +kernel)
theorem k_1038 : Cond.selects "TunnelPeaceModel" y_Mo_stills y_Mo_stills ∈ TT := tt_i 1038 (by decide +kernel) (by decide +kernel)
theorem k_1039 : Cond.code y_Mo_stills b_Mo_stills 2 (some (.int)) ∈ TT := tt_i 1039 (by decide +kernel) (by decide +kernel)
theorem k_1040 : Cond.methodLink "TunnelPeaceModel" (189) y_Mo_daysTo ∈ TT := tt_i 1040 (by decide +kernel) (by decide +kernel)
theorem k_1042 : Cond.instanceMethod y_Mo_daysTo ∈ TT := tt_i 1042 (by decide +kernel) (by decide +kernel)
theorem k_1043 : Cond.code y_Mo_daysTo b_Mo_daysTo 5 (some (.int)) ∈ TT := tt_i 1043 (by decide +kernel) (by decide +kernel)
theorem k_1044 : Cond.methodLink "TunnelPeaceModel" (192) y_Mo_orNone ∈ TT := tt_i 1044 (by decide +kernel) (by decide +kernel)
theorem k_1046 : Cond.instanceMethod y_Mo_orNone ∈ TT := tt_i 1046 (by decide +kernel) (by decide +kernel)
theorem k_1047 : Cond.code y_Mo_orNone b_Mo_orNone 2 (some (.int)) ∈ TT := tt_i 1047 (by decide +kernel) (by decide +kernel)
theorem k_1048 : Cond.constant "TunnelPeaceModel" (65) (-1000004) ∈ TT := tt_i 1048 (by decide +kernel) (by decide +kernel)
theorem k_1049 : Cond.methodLink "TunnelPeaceLaw" (71) y_Mo_meets ∈ TT := tt_i 1049 (by decide +kernel) (by decide +kernel)
theorem k_1050 : Cond.instanceMethod y_Mo_meets ∈ TT := tt_i 1050 (by decide +kernel) (by decide +kernel)
theorem k_1051 : Cond.selects "TunnelPeaceModel" y_Mo_meets y_Mo_meets ∈ TT := tt_i 1051 (by decide +kernel) (by decide +kernel)
theorem k_1052 : Cond.code y_Mo_meets b_Mo_meets 3 (some (.int)) ∈ TT := tt_i 1052 (by decide +kernel) (by decide +kernel)
theorem k_1053 : Cond.methodLink "TunnelPeaceLaw" (76) y_Mo_lapses ∈ TT := tt_i 1053 (by decide +kernel) (by decide +kernel)
theorem k_1054 : Cond.instanceMethod y_Mo_lapses ∈ TT := tt_i 1054 (by decide +kernel) (by decide +kernel)
theorem k_1055 : Cond.selects "TunnelPeaceModel" y_Mo_lapses y_Mo_lapses ∈ TT := tt_i 1055 (by decide +kernel) (by decide +kernel)
theorem k_1056 : Cond.code y_Mo_lapses b_Mo_lapses 2 (some (.int)) ∈ TT := tt_i 1056 (by decide +kernel) (by decide +kernel)
theorem k_1057 : Cond.methodLink "TunnelPeaceLaw" (80) y_Mo_placeFor ∈ TT := tt_i 1057 (by decide +kernel) (by decide +kernel)
theorem k_1058 : Cond.instanceMethod y_Mo_placeFor ∈ TT := tt_i 1058 (by decide +kernel) (by decide +kernel)
theorem k_1059 : Cond.selects "TunnelPeaceModel" y_Mo_placeFor y_Mo_placeFor ∈ TT := tt_i 1059 (by decide +kernel) (by decide +kernel)
theorem k_1060 : Cond.code y_Mo_placeFor b_Mo_placeFor 3 (some (.int)) ∈ TT := tt_i 1060 (by decide +kernel) (by decide +kernel)
theorem k_1061 : Cond.methodLink "TunnelPeaceModel" (195) y_Mo_isThought ∈ TT := tt_i 1061 (by decide +kernel) (by decide +kernel)
theorem k_1062 : Cond.static y_Mo_isThought ∈ TT := tt_i 1062 (by decide +kernel) (by decide +kernel)
theorem k_1063 : Cond.code y_Mo_isThought b_Mo_isThought 1 (some (.boolean)) ∈ TT := tt_i 1063 (by decide +kernel) (by decide +kernel)
theorem k_1064 : Cond.methodLink "TunnelPeaceModel" (198) y_Mo_calmest ∈ TT := tt_i 1064 (by decide +kernel) (by decide +kernel)
theorem k_1066 : Cond.instanceMethod y_Mo_calmest ∈ TT := tt_i 1066 (by decide +kernel) (by decide +kernel)
theorem k_1067 : Cond.code y_Mo_calmest b_Mo_calmest 9 (some (.int)) ∈ TT := tt_i 1067 (by decide +kernel) (by decide +kernel)
theorem k_1068 : Cond.methodLink "TunnelPeaceLaw" (84) y_Mo_kindFor ∈ TT := tt_i 1068 (by decide +kernel) (by decide +kernel)
theorem k_1069 : Cond.instanceMethod y_Mo_kindFor ∈ TT := tt_i 1069 (by decide +kernel) (by decide +kernel)
theorem k_1070 : Cond.selects "TunnelPeaceModel" y_Mo_kindFor y_Mo_kindFor ∈ TT := tt_i 1070 (by decide +kernel) (by decide +kernel)
theorem k_1071 : Cond.code y_Mo_kindFor b_Mo_kindFor 3 (some (.int)) ∈ TT := tt_i 1071 (by decide +kernel) (by decide +kernel)
theorem k_1072 : Cond.methodLink "TunnelPeaceLaw" (88) y_Mo_seasonFor ∈ TT := tt_i 1072 (by decide +kernel) (by decide +kernel)
theorem k_1073 : Cond.instanceMethod y_Mo_seasonFor ∈ TT := tt_i 1073 (by decide +kernel) (by decide +kernel)
theorem k_1074 : Cond.selects "TunnelPeaceModel" y_Mo_seasonFor y_Mo_seasonFor ∈ TT := tt_i 1074 (by decide +kernel) (by decide +kernel)
theorem k_1075 : Cond.code y_Mo_seasonFor b_Mo_seasonFor 5 (some (.int)) ∈ TT := tt_i 1075 (by decide +kernel) (by decide +kernel)
theorem k_1076 : Cond.methodLink "TunnelPeaceModel" (201) y_Mo_firstFor ∈ TT := tt_i 1076 (by decide +kernel) (by decide +kernel)
theorem k_1078 : Cond.instanceMethod y_Mo_firstFor ∈ TT := tt_i 1078 (by decide +kernel) (by decide +kernel)
theorem k_1079 : Cond.code y_Mo_firstFor b_Mo_firstFor 11 (some (.int)) ∈ TT := tt_i 1079 (by decide +kernel) (by decide +kernel)
theorem k_1080 : Cond.methodLink "TunnelPeaceLaw" (92) y_Mo_bagsFor ∈ TT := tt_i 1080 (by decide +kernel) (by decide +kernel)
theorem k_1081 : Cond.instanceMethod y_Mo_bagsFor ∈ TT := tt_i 1081 (by decide +kernel) (by decide +kernel)
theorem k_1082 : Cond.selects "TunnelPeaceModel" y_Mo_bagsFor y_Mo_bagsFor ∈ TT := tt_i 1082 (by decide +kernel) (by decide +kernel)
theorem k_1083 : Cond.code y_Mo_bagsFor b_Mo_bagsFor 3 (some (.int)) ∈ TT := tt_i 1083 (by decide +kernel) (by decide +kernel)
theorem k_1084 : Cond.methodLink "TunnelPeaceLaw" (96) y_Mo_leaveOut ∈ TT := tt_i 1084 (by decide +kernel) (by decide +kernel)
theorem k_1085 : Cond.instanceMethod y_Mo_leaveOut ∈ TT := tt_i 1085 (by decide +kernel) (by decide +kernel)
theorem k_1086 : Cond.selects "TunnelPeaceModel" y_Mo_leaveOut y_Mo_leaveOut ∈ TT := tt_i 1086 (by decide +kernel) (by decide +kernel)
theorem k_1087 : Cond.code y_Mo_leaveOut b_Mo_leaveOut 4 (some (.int)) ∈ TT := tt_i 1087 (by decide +kernel) (by decide +kernel)
theorem k_1088 : Cond.methodLink "TunnelPeaceModel" (205) y_Mo_bits ∈ TT := tt_i 1088 (by decide +kernel) (by decide +kernel)
theorem k_1089 : Cond.static y_Mo_bits ∈ TT := tt_i 1089 (by decide +kernel) (by decide +kernel)
theorem k_1090 : Cond.code y_Mo_bits b_Mo_bits 3 (some (.int)) ∈ TT := tt_i 1090 (by decide +kernel) (by decide +kernel)
theorem k_1091 : Cond.methodLink "TunnelPeaceModel" (208) y_Mo_nobodyMeets ∈ TT := tt_i 1091 (by decide +kernel) (by decide +kernel)
theorem k_1093 : Cond.instanceMethod y_Mo_nobodyMeets ∈ TT := tt_i 1093 (by decide +kernel) (by decide +kernel)
theorem k_1094 : Cond.code y_Mo_nobodyMeets b_Mo_nobodyMeets 5 (some (.boolean)) ∈ TT := tt_i 1094 (by decide +kernel) (by decide +kernel)
theorem k_1095 : Cond.methodLink "TunnelPeaceLaw" (100) y_Mo_fits ∈ TT := tt_i 1095 (by decide +kernel) (by decide +kernel)
theorem k_1096 : Cond.instanceMethod y_Mo_fits ∈ TT := tt_i 1096 (by decide +kernel) (by decide +kernel)
theorem k_1097 : Cond.selects "TunnelPeaceModel" y_Mo_fits y_Mo_fits ∈ TT := tt_i 1097 (by decide +kernel) (by decide +kernel)
theorem k_1098 : Cond.code y_Mo_fits b_Mo_fits 4 (some (.int)) ∈ TT := tt_i 1098 (by decide +kernel) (by decide +kernel)
theorem k_1099 : Cond.methodLink "TunnelPeaceModel" (218) y_Mo_lacks ∈ TT := tt_i 1099 (by decide +kernel) (by decide +kernel)
theorem k_1101 : Cond.instanceMethod y_Mo_lacks ∈ TT := tt_i 1101 (by decide +kernel) (by decide +kernel)
theorem k_1102 : Cond.code y_Mo_lacks b_Mo_lacks 3 (some (.int)) ∈ TT := tt_i 1102 (by decide +kernel) (by decide +kernel)
theorem k_1103 : Cond.methodLink "TunnelPeaceModel" (211) y_Mo_isSheet ∈ TT := tt_i 1103 (by decide +kernel) (by decide +kernel)
theorem k_1104 : Cond.static y_Mo_isSheet ∈ TT := tt_i 1104 (by decide +kernel) (by decide +kernel)
theorem k_1105 : Cond.code y_Mo_isSheet b_Mo_isSheet 1 (some (.boolean)) ∈ TT := tt_i 1105 (by decide +kernel) (by decide +kernel)
theorem k_1106 : Cond.constant "TunnelPeaceModel" (214) (-1000006) ∈ TT := tt_i 1106 (by decide +kernel) (by decide +kernel)
theorem k_1107 : Cond.methodLink "TunnelPeaceModel" (222) y_Mo_fitting ∈ TT := tt_i 1107 (by decide +kernel) (by decide +kernel)
theorem k_1109 : Cond.instanceMethod y_Mo_fitting ∈ TT := tt_i 1109 (by decide +kernel) (by decide +kernel)
theorem k_1110 : Cond.code y_Mo_fitting b_Mo_fitting 8 (some (.int)) ∈ TT := tt_i 1110 (by decide +kernel) (by decide +kernel)
theorem k_1111 : Cond.methodLink "TunnelPeaceModel" (215) y_Mo_isSo ∈ TT := tt_i 1111 (by decide +kernel) (by decide +kernel)
theorem k_1113 : Cond.instanceMethod y_Mo_isSo ∈ TT := tt_i 1113 (by decide +kernel) (by decide +kernel)
theorem k_1114 : Cond.code y_Mo_isSo b_Mo_isSo 6 (some (.boolean)) ∈ TT := tt_i 1114 (by decide +kernel) (by decide +kernel)
theorem k_1115 : Cond.methodLink "TunnelPeaceLaw" (104) y_Mo_kinds ∈ TT := tt_i 1115 (by decide +kernel) (by decide +kernel)
theorem k_1116 : Cond.instanceMethod y_Mo_kinds ∈ TT := tt_i 1116 (by decide +kernel) (by decide +kernel)
theorem k_1117 : Cond.selects "TunnelPeaceModel" y_Mo_kinds y_Mo_kinds ∈ TT := tt_i 1117 (by decide +kernel) (by decide +kernel)
theorem k_1118 : Cond.code y_Mo_kinds b_Mo_kinds 4 (some (.int)) ∈ TT := tt_i 1118 (by decide +kernel) (by decide +kernel)
theorem k_1119 : Cond.methodLink "TunnelPeaceLaw" (108) y_Mo_stroll ∈ TT := tt_i 1119 (by decide +kernel) (by decide +kernel)
theorem k_1120 : Cond.instanceMethod y_Mo_stroll ∈ TT := tt_i 1120 (by decide +kernel) (by decide +kernel)
theorem k_1121 : Cond.selects "TunnelPeaceModel" y_Mo_stroll y_Mo_stroll ∈ TT := tt_i 1121 (by decide +kernel) (by decide +kernel)
theorem k_1122 : Cond.code y_Mo_stroll b_Mo_stroll 5 (some (.int)) ∈ TT := tt_i 1122 (by decide +kernel) (by decide +kernel)
theorem k_1123 : Cond.methodLink "TunnelPeaceModel" (227) y_Mo_drawn ∈ TT := tt_i 1123 (by decide +kernel) (by decide +kernel)
theorem k_1125 : Cond.instanceMethod y_Mo_drawn ∈ TT := tt_i 1125 (by decide +kernel) (by decide +kernel)
theorem k_1126 : Cond.code y_Mo_drawn b_Mo_drawn 1 (some (.int)) ∈ TT := tt_i 1126 (by decide +kernel) (by decide +kernel)
theorem k_1127 : Cond.constant "TunnelPeaceModel" (226) (1103515245) ∈ TT := tt_i 1127 (by decide +kernel) (by decide +kernel)
theorem k_1128 : Cond.methodLink "TunnelPeaceLaw" (113) y_Mo_odds ∈ TT := tt_i 1128 (by decide +kernel) (by decide +kernel)
theorem k_1129 : Cond.instanceMethod y_Mo_odds ∈ TT := tt_i 1129 (by decide +kernel) (by decide +kernel)
theorem k_1130 : Cond.selects "TunnelPeaceModel" y_Mo_odds y_Mo_odds ∈ TT := tt_i 1130 (by decide +kernel) (by decide +kernel)
theorem k_1131 : Cond.code y_Mo_odds b_Mo_odds 10 (some (.long)) ∈ TT := tt_i 1131 (by decide +kernel) (by decide +kernel)
theorem k_1132 : Cond.methodLink "TunnelPeaceModel" (230) y_Mo_meetsSomebodyAt ∈ TT := tt_i 1132 (by decide +kernel) (by decide +kernel)
theorem k_1134 : Cond.instanceMethod y_Mo_meetsSomebodyAt ∈ TT := tt_i 1134 (by decide +kernel) (by decide +kernel)
theorem k_1135 : Cond.code y_Mo_meetsSomebodyAt b_Mo_meetsSomebodyAt 7 (some (.boolean)) ∈ TT := tt_i 1135 (by decide +kernel) (by decide +kernel)
theorem k_1136 : Cond.methodLink "TunnelPeaceLaw" (117) y_Mo_seed ∈ TT := tt_i 1136 (by decide +kernel) (by decide +kernel)
theorem k_1137 : Cond.instanceMethod y_Mo_seed ∈ TT := tt_i 1137 (by decide +kernel) (by decide +kernel)
theorem k_1138 : Cond.selects "TunnelPeaceModel" y_Mo_seed y_Mo_seed ∈ TT := tt_i 1138 (by decide +kernel) (by decide +kernel)
theorem k_1139 : Cond.code y_Mo_seed b_Mo_seed 2 (some (.int)) ∈ TT := tt_i 1139 (by decide +kernel) (by decide +kernel)
theorem k_1140 : Cond.methodLink "TunnelPeaceLaw" (121) y_Mo_feed ∈ TT := tt_i 1140 (by decide +kernel) (by decide +kernel)
theorem k_1141 : Cond.instanceMethod y_Mo_feed ∈ TT := tt_i 1141 (by decide +kernel) (by decide +kernel)
theorem k_1142 : Cond.selects "TunnelPeaceModel" y_Mo_feed y_Mo_feed ∈ TT := tt_i 1142 (by decide +kernel) (by decide +kernel)
theorem k_1143 : Cond.code y_Mo_feed b_Mo_feed 4 (some (.int)) ∈ TT := tt_i 1143 (by decide +kernel) (by decide +kernel)
theorem k_1144 : Cond.methodLink "TunnelPeaceLaw" (125) y_Mo_wipe ∈ TT := tt_i 1144 (by decide +kernel) (by decide +kernel)
theorem k_1145 : Cond.instanceMethod y_Mo_wipe ∈ TT := tt_i 1145 (by decide +kernel) (by decide +kernel)
theorem k_1146 : Cond.selects "TunnelPeaceModel" y_Mo_wipe y_Mo_wipe ∈ TT := tt_i 1146 (by decide +kernel) (by decide +kernel)
theorem k_1147 : Cond.code y_Mo_wipe b_Mo_wipe 2 (some (.int)) ∈ TT := tt_i 1147 (by decide +kernel) (by decide +kernel)
theorem k_1148 : Cond.methodLink "TunnelPeaceLaw" (129) y_Mo_text ∈ TT := tt_i 1148 (by decide +kernel) (by decide +kernel)
theorem k_1149 : Cond.instanceMethod y_Mo_text ∈ TT := tt_i 1149 (by decide +kernel) (by decide +kernel)
theorem k_1150 : Cond.selects "TunnelPeaceModel" y_Mo_text y_Mo_text ∈ TT := tt_i 1150 (by decide +kernel) (by decide +kernel)
theorem k_1151 : Cond.code y_Mo_text b_Mo_text 2 (some (.int)) ∈ TT := tt_i 1151 (by decide +kernel) (by decide +kernel)
theorem k_1152 : Cond.methodLink "TunnelPeaceModel" (263) y_Mo_token ∈ TT := tt_i 1152 (by decide +kernel) (by decide +kernel)
theorem k_1154 : Cond.instanceMethod y_Mo_token ∈ TT := tt_i 1154 (by decide +kernel) (by decide +kernel)
theorem k_1155 : Cond.code y_Mo_token b_Mo_token 2 none ∈ TT := tt_i 1155 (by decide +kernel) (by decide +kernel)
theorem k_1156 : Cond.methodLink "TunnelPeaceModel" (243) y_Mo_byteAt ∈ TT := tt_i 1156 (by decide +kernel) (by decide +kernel)
theorem k_1158 : Cond.instanceMethod y_Mo_byteAt ∈ TT := tt_i 1158 (by decide +kernel) (by decide +kernel)
theorem k_1159 : Cond.code y_Mo_byteAt b_Mo_byteAt 2 (some (.int)) ∈ TT := tt_i 1159 (by decide +kernel) (by decide +kernel)
theorem k_1160 : Cond.methodLink "TunnelPeaceModel" (305) y_Mo_readItem ∈ TT := tt_i 1160 (by decide +kernel) (by decide +kernel)
theorem k_1162 : Cond.instanceMethod y_Mo_readItem ∈ TT := tt_i 1162 (by decide +kernel) (by decide +kernel)
theorem k_1163 : Cond.code y_Mo_readItem b_Mo_readItem 3 none ∈ TT := tt_i 1163 (by decide +kernel) (by decide +kernel)
theorem k_1164 : Cond.methodLink "TunnelPeaceModel" (273) y_Mo_isWord ∈ TT := tt_i 1164 (by decide +kernel) (by decide +kernel)
theorem k_1166 : Cond.instanceMethod y_Mo_isWord ∈ TT := tt_i 1166 (by decide +kernel) (by decide +kernel)
theorem k_1167 : Cond.code y_Mo_isWord b_Mo_isWord 4 (some (.boolean)) ∈ TT := tt_i 1167 (by decide +kernel) (by decide +kernel)
theorem k_1168 : Cond.methodLink "TunnelPeaceModel" (252) y_JS_length ∈ TT := tt_i 1168 (by decide +kernel) (by decide +kernel)
theorem k_1169 : Cond.methodLink "TunnelPeaceModel" (255) y_JS_charAt ∈ TT := tt_i 1169 (by decide +kernel) (by decide +kernel)
theorem k_1170 : Cond.methodLink "TunnelPeaceModel" (298) y_Mo_readPerson ∈ TT := tt_i 1170 (by decide +kernel) (by decide +kernel)
theorem k_1172 : Cond.instanceMethod y_Mo_readPerson ∈ TT := tt_i 1172 (by decide +kernel) (by decide +kernel)
theorem k_1173 : Cond.code y_Mo_readPerson b_Mo_readPerson 6 none ∈ TT := tt_i 1173 (by decide +kernel) (by decide +kernel)
theorem k_1174 : Cond.methodLink "TunnelPeaceModel" (266) y_Mo_must ∈ TT := tt_i 1174 (by decide +kernel) (by decide +kernel)
theorem k_1176 : Cond.instanceMethod y_Mo_must ∈ TT := tt_i 1176 (by decide +kernel) (by decide +kernel)
theorem k_1177 : Cond.code y_Mo_must b_Mo_must 2 none ∈ TT := tt_i 1177 (by decide +kernel) (by decide +kernel)
theorem k_1178 : Cond.methodLink "TunnelPeaceModel" (280) y_Mo_number ∈ TT := tt_i 1178 (by decide +kernel) (by decide +kernel)
theorem k_1180 : Cond.instanceMethod y_Mo_number ∈ TT := tt_i 1180 (by decide +kernel) (by decide +kernel)
theorem k_1181 : Cond.code y_Mo_number b_Mo_number 4 (some (.int)) ∈ TT := tt_i 1181 (by decide +kernel) (by decide +kernel)
theorem k_1183 : Cond.methodLink "TunnelPeaceModel" (285) y_Mo_takesWord ∈ TT := tt_i 1183 (by decide +kernel) (by decide +kernel)
theorem k_1185 : Cond.instanceMethod y_Mo_takesWord ∈ TT := tt_i 1185 (by decide +kernel) (by decide +kernel)
theorem k_1186 : Cond.code y_Mo_takesWord b_Mo_takesWord 3 (some (.boolean)) ∈ TT := tt_i 1186 (by decide +kernel) (by decide +kernel)
theorem k_1190 : Cond.methodLink "TunnelPeaceModel" (294) y_Mo_addItem ∈ TT := tt_i 1190 (by decide +kernel) (by decide +kernel)
theorem k_1192 : Cond.instanceMethod y_Mo_addItem ∈ TT := tt_i 1192 (by decide +kernel) (by decide +kernel)
theorem k_1193 : Cond.code y_Mo_addItem b_Mo_addItem 8 none ∈ TT := tt_i 1193 (by decide +kernel) (by decide +kernel)
theorem k_1196 : Cond.methodLink "TunnelPeaceModel" (308) y_Mo_isToldSo ∈ TT := tt_i 1196 (by decide +kernel) (by decide +kernel)
theorem k_1198 : Cond.instanceMethod y_Mo_isToldSo ∈ TT := tt_i 1198 (by decide +kernel) (by decide +kernel)
theorem k_1199 : Cond.code y_Mo_isToldSo b_Mo_isToldSo 5 none ∈ TT := tt_i 1199 (by decide +kernel) (by decide +kernel)
theorem k_1200 : Cond.methodLink "TunnelPeaceLaw" (133) y_Mo_hold ∈ TT := tt_i 1200 (by decide +kernel) (by decide +kernel)
theorem k_1201 : Cond.instanceMethod y_Mo_hold ∈ TT := tt_i 1201 (by decide +kernel) (by decide +kernel)
theorem k_1202 : Cond.selects "TunnelPeaceModel" y_Mo_hold y_Mo_hold ∈ TT := tt_i 1202 (by decide +kernel) (by decide +kernel)
theorem k_1203 : Cond.code y_Mo_hold b_Mo_hold 3 (some (.int)) ∈ TT := tt_i 1203 (by decide +kernel) (by decide +kernel)
theorem k_1204 : Cond.methodLink "TunnelPeaceModel" (311) y_Mo_isSpot ∈ TT := tt_i 1204 (by decide +kernel) (by decide +kernel)
theorem k_1205 : Cond.static y_Mo_isSpot ∈ TT := tt_i 1205 (by decide +kernel) (by decide +kernel)
theorem k_1206 : Cond.code y_Mo_isSpot b_Mo_isSpot 1 (some (.boolean)) ∈ TT := tt_i 1206 (by decide +kernel) (by decide +kernel)
theorem k_1207 : Cond.methodLink "TunnelPeaceLaw" (137) y_Mo_as ∈ TT := tt_i 1207 (by decide +kernel) (by decide +kernel)
theorem k_1208 : Cond.instanceMethod y_Mo_as ∈ TT := tt_i 1208 (by decide +kernel) (by decide +kernel)
theorem k_1209 : Cond.selects "TunnelPeaceModel" y_Mo_as y_Mo_as ∈ TT := tt_i 1209 (by decide +kernel) (by decide +kernel)
theorem k_1210 : Cond.code y_Mo_as b_Mo_as 4 (some (.int)) ∈ TT := tt_i 1210 (by decide +kernel) (by decide +kernel)
theorem k_1211 : Cond.methodLink "TunnelPeaceModel" (314) y_Mo_isUnder ∈ TT := tt_i 1211 (by decide +kernel) (by decide +kernel)
theorem k_1212 : Cond.static y_Mo_isUnder ∈ TT := tt_i 1212 (by decide +kernel) (by decide +kernel)
theorem k_1213 : Cond.code y_Mo_isUnder b_Mo_isUnder 3 (some (.boolean)) ∈ TT := tt_i 1213 (by decide +kernel) (by decide +kernel)
theorem k_1214 : Cond.methodLink "TunnelPeaceModel" (322) y_Mo_above ∈ TT := tt_i 1214 (by decide +kernel) (by decide +kernel)
theorem k_1215 : Cond.static y_Mo_above ∈ TT := tt_i 1215 (by decide +kernel) (by decide +kernel)
theorem k_1216 : Cond.code y_Mo_above b_Mo_above 1 (some (.int)) ∈ TT := tt_i 1216 (by decide +kernel) (by decide +kernel)
theorem k_1217 : Cond.constant "TunnelPeaceModel" (317) (-1000003) ∈ TT := tt_i 1217 (by decide +kernel) (by decide +kernel)
theorem k_1218 : Cond.methodLink "TunnelPeaceLaw" (141) y_Mo_sheet ∈ TT := tt_i 1218 (by decide +kernel) (by decide +kernel)
theorem k_1219 : Cond.instanceMethod y_Mo_sheet ∈ TT := tt_i 1219 (by decide +kernel) (by decide +kernel)
theorem k_1220 : Cond.selects "TunnelPeaceModel" y_Mo_sheet y_Mo_sheet ∈ TT := tt_i 1220 (by decide +kernel) (by decide +kernel)
theorem k_1221 : Cond.code y_Mo_sheet b_Mo_sheet 5 (some (.int)) ∈ TT := tt_i 1221 (by decide +kernel) (by decide +kernel)
theorem k_1222 : Cond.constant "TunnelPeaceModel" (318) (-1000007) ∈ TT := tt_i 1222 (by decide +kernel) (by decide +kernel)
theorem k_1223 : Cond.methodLink "TunnelPeaceLaw" (145) y_Mo_write ∈ TT := tt_i 1223 (by decide +kernel) (by decide +kernel)
theorem k_1224 : Cond.instanceMethod y_Mo_write ∈ TT := tt_i 1224 (by decide +kernel) (by decide +kernel)
theorem k_1225 : Cond.selects "TunnelPeaceModel" y_Mo_write y_Mo_write ∈ TT := tt_i 1225 (by decide +kernel) (by decide +kernel)
theorem k_1226 : Cond.code y_Mo_write b_Mo_write 4 (some (.int)) ∈ TT := tt_i 1226 (by decide +kernel) (by decide +kernel)
theorem k_1227 : Cond.methodLink "TunnelPeaceModel" (319) y_Mo_cutTo ∈ TT := tt_i 1227 (by decide +kernel) (by decide +kernel)
theorem k_1228 : Cond.static y_Mo_cutTo ∈ TT := tt_i 1228 (by decide +kernel) (by decide +kernel)
theorem k_1229 : Cond.code y_Mo_cutTo b_Mo_cutTo 2 (some (.int)) ∈ TT := tt_i 1229 (by decide +kernel) (by decide +kernel)
theorem k_1230 : Cond.methodLink "TunnelPeaceLaw" (150) y_Mo_copy ∈ TT := tt_i 1230 (by decide +kernel) (by decide +kernel)
theorem k_1231 : Cond.instanceMethod y_Mo_copy ∈ TT := tt_i 1231 (by decide +kernel) (by decide +kernel)
theorem k_1232 : Cond.selects "TunnelPeaceModel" y_Mo_copy y_Mo_copy ∈ TT := tt_i 1232 (by decide +kernel) (by decide +kernel)
theorem k_1233 : Cond.code y_Mo_copy b_Mo_copy 7 (some (.int)) ∈ TT := tt_i 1233 (by decide +kernel) (by decide +kernel)
theorem k_1234 : Cond.methodLink "TunnelPeaceLaw" (154) y_Mo_load ∈ TT := tt_i 1234 (by decide +kernel) (by decide +kernel)
theorem k_1235 : Cond.instanceMethod y_Mo_load ∈ TT := tt_i 1235 (by decide +kernel) (by decide +kernel)
theorem k_1236 : Cond.selects "TunnelPeaceModel" y_Mo_load y_Mo_load ∈ TT := tt_i 1236 (by decide +kernel) (by decide +kernel)
theorem k_1237 : Cond.code y_Mo_load b_Mo_load 3 (some (.int)) ∈ TT := tt_i 1237 (by decide +kernel) (by decide +kernel)
theorem k_1238 : Cond.methodLink "TunnelPeaceLaw" (158) y_Mo_judge ∈ TT := tt_i 1238 (by decide +kernel) (by decide +kernel)
theorem k_1239 : Cond.instanceMethod y_Mo_judge ∈ TT := tt_i 1239 (by decide +kernel) (by decide +kernel)
theorem k_1240 : Cond.selects "TunnelPeaceModel" y_Mo_judge y_Mo_judge ∈ TT := tt_i 1240 (by decide +kernel) (by decide +kernel)
theorem k_1241 : Cond.code y_Mo_judge b_Mo_judge 3 (some (.int)) ∈ TT := tt_i 1241 (by decide +kernel) (by decide +kernel)
theorem k_1242 : Cond.methodLink "TunnelPeaceLaw" (162) y_Mo_image ∈ TT := tt_i 1242 (by decide +kernel) (by decide +kernel)
theorem k_1243 : Cond.instanceMethod y_Mo_image ∈ TT := tt_i 1243 (by decide +kernel) (by decide +kernel)
theorem k_1244 : Cond.selects "TunnelPeaceModel" y_Mo_image y_Mo_image ∈ TT := tt_i 1244 (by decide +kernel) (by decide +kernel)
theorem k_1245 : Cond.code y_Mo_image b_Mo_image 1 (some (.int)) ∈ TT := tt_i 1245 (by decide +kernel) (by decide +kernel)
theorem k_1246 : Cond.methodLink "TunnelPeaceLaw" (166) y_Mo_undo ∈ TT := tt_i 1246 (by decide +kernel) (by decide +kernel)
theorem k_1247 : Cond.instanceMethod y_Mo_undo ∈ TT := tt_i 1247 (by decide +kernel) (by decide +kernel)
theorem k_1248 : Cond.selects "TunnelPeaceModel" y_Mo_undo y_Mo_undo ∈ TT := tt_i 1248 (by decide +kernel) (by decide +kernel)
theorem k_1249 : Cond.code y_Mo_undo b_Mo_undo 1 (some (.int)) ∈ TT := tt_i 1249 (by decide +kernel) (by decide +kernel)
theorem k_1250 : Cond.methodLink "TunnelPeaceLaw" (170) y_Mo_tear ∈ TT := tt_i 1250 (by decide +kernel) (by decide +kernel)
theorem k_1251 : Cond.instanceMethod y_Mo_tear ∈ TT := tt_i 1251 (by decide +kernel) (by decide +kernel)
theorem k_1252 : Cond.selects "TunnelPeaceModel" y_Mo_tear y_Mo_tear ∈ TT := tt_i 1252 (by decide +kernel) (by decide +kernel)
theorem k_1253 : Cond.code y_Mo_tear b_Mo_tear 2 (some (.int)) ∈ TT := tt_i 1253 (by decide +kernel) (by decide +kernel)
theorem k_1254 : Cond.methodLink "TunnelPeaceLaw" (174) y_Mo_count ∈ TT := tt_i 1254 (by decide +kernel) (by decide +kernel)
theorem k_1255 : Cond.instanceMethod y_Mo_count ∈ TT := tt_i 1255 (by decide +kernel) (by decide +kernel)
theorem k_1256 : Cond.selects "TunnelPeaceModel" y_Mo_count y_Mo_count ∈ TT := tt_i 1256 (by decide +kernel) (by decide +kernel)
theorem k_1257 : Cond.code y_Mo_count b_Mo_count 4 (some (.int)) ∈ TT := tt_i 1257 (by decide +kernel) (by decide +kernel)
theorem k_1258 : Cond.methodLink "TunnelPeaceLaw" (178) y_Mo_status ∈ TT := tt_i 1258 (by decide +kernel) (by decide +kernel)
theorem k_1259 : Cond.instanceMethod y_Mo_status ∈ TT := tt_i 1259 (by decide +kernel) (by decide +kernel)
theorem k_1260 : Cond.selects "TunnelPeaceModel" y_Mo_status y_Mo_status ∈ TT := tt_i 1260 (by decide +kernel) (by decide +kernel)
theorem k_1261 : Cond.code y_Mo_status b_Mo_status 2 (some (.int)) ∈ TT := tt_i 1261 (by decide +kernel) (by decide +kernel)
theorem k_1262 : Cond.fieldLink "java/lang/String" (9) "java/lang/String" "value" "[B" ∈ TT := tt_i 1262 (by decide +kernel) (by decide +kernel)
theorem k_1263 : Cond.fieldLink "java/lang/String" (15) "java/lang/String" "coder" "B" ∈ TT := tt_i 1263 (by decide +kernel) (by decide +kernel)
theorem ks_0 : Cond.selects "TunnelPeace" y_TP_found y_TP_found ∈ TT := tt_l 0 (by decide +kernel) (by decide +kernel)
theorem ks_1 : Cond.selects "TunnelPeace$Person" y_Pe_stopAheadOfStripe y_Pe_stopAheadOfStripe ∈ TT := tt_l 1 (by decide +kernel) (by decide +kernel)
theorem ks_2 : Cond.selects "TunnelPeace$Tunnel" y_Tu_meetAll y_Tu_meetAll ∈ TT := tt_l 2 (by decide +kernel) (by decide +kernel)
theorem ks_3 : Cond.selects "TunnelPeace" y_TP_orNone y_TP_orNone ∈ TT := tt_l 3 (by decide +kernel) (by decide +kernel)
theorem ks_4 : Cond.selects "TunnelPeace$Forecast" y_Fo_tryWith y_Fo_tryWith ∈ TT := tt_l 4 (by decide +kernel) (by decide +kernel)
theorem ks_5 : Cond.selects "TunnelPeace$Forecast" y_Fo_keepsApart y_Fo_keepsApart ∈ TT := tt_l 5 (by decide +kernel) (by decide +kernel)
theorem ks_6 : Cond.selects "TunnelPeace" y_TP_toldFinding y_TP_toldFinding ∈ TT := tt_l 6 (by decide +kernel) (by decide +kernel)
theorem ks_7 : Cond.selects "TunnelPeace" y_TP_sheetFinding y_TP_sheetFinding ∈ TT := tt_l 7 (by decide +kernel) (by decide +kernel)
theorem ks_8 : Cond.selects "TunnelPeace$Forecast" y_Fo_goesAsTold y_Fo_goesAsTold ∈ TT := tt_l 8 (by decide +kernel) (by decide +kernel)
theorem ks_9 : Cond.selects "TunnelPeace$Tunnel" y_Tu_draw y_Tu_draw ∈ TT := tt_l 9 (by decide +kernel) (by decide +kernel)
theorem ks_10 : Cond.selects "TunnelPeace$Tunnel" y_Tu_meetsSomebodyAt y_Tu_meetsSomebodyAt ∈ TT := tt_l 10 (by decide +kernel) (by decide +kernel)
theorem ks_11 : Cond.selects "TunnelPeace$Tape" y_Ta_advance y_Ta_advance ∈ TT := tt_l 11 (by decide +kernel) (by decide +kernel)
theorem ks_12 : Cond.selects "TunnelPeace$Tape" y_Ta_takeWord y_Ta_takeWord ∈ TT := tt_l 12 (by decide +kernel) (by decide +kernel)
theorem ks_13 : Cond.selects "TunnelPeace$Tape" y_Ta_takePlace y_Ta_takePlace ∈ TT := tt_l 13 (by decide +kernel) (by decide +kernel)
theorem ks_14 : Cond.selects "TunnelPeace$Tape" y_Ta_takeNumber y_Ta_takeNumber ∈ TT := tt_l 14 (by decide +kernel) (by decide +kernel)
theorem ks_15 : Cond.selects "TunnelPeace$Tape" y_Ta_takeGuns y_Ta_takeGuns ∈ TT := tt_l 15 (by decide +kernel) (by decide +kernel)
theorem ks_16 : Cond.selects "TunnelPeace$Tape" y_Ta_takePerson y_Ta_takePerson ∈ TT := tt_l 16 (by decide +kernel) (by decide +kernel)
theorem ks_17 : Cond.selects "TunnelPeace$Tape" y_Ta_takeKind y_Ta_takeKind ∈ TT := tt_l 17 (by decide +kernel) (by decide +kernel)
theorem ks_18 : Cond.selects "TunnelPeace$Tape" y_Ta_takeOption y_Ta_takeOption ∈ TT := tt_l 18 (by decide +kernel) (by decide +kernel)
theorem ks_19 : Cond.selects "TunnelPeace$Tape" y_Ta_takeSemicolon y_Ta_takeSemicolon ∈ TT := tt_l 19 (by decide +kernel) (by decide +kernel)
theorem ks_20 : Cond.selects "TunnelPeace" y_TP_allFindings y_TP_allFindings ∈ TT := tt_l 20 (by decide +kernel) (by decide +kernel)
theorem ks_21 : Cond.selects "TunnelPeaceModel" y_Mo_become y_Mo_become ∈ TT := tt_l 21 (by decide +kernel) (by decide +kernel)
theorem ks_22 : Cond.selects "TunnelPeaceModel" y_Mo_finding y_Mo_finding ∈ TT := tt_l 22 (by decide +kernel) (by decide +kernel)
theorem ks_23 : Cond.selects "TunnelPeaceModel" y_Mo_comes y_Mo_comes ∈ TT := tt_l 23 (by decide +kernel) (by decide +kernel)
theorem ks_24 : Cond.selects "TunnelPeaceModel" y_Mo_isPerson y_Mo_isPerson ∈ TT := tt_l 24 (by decide +kernel) (by decide +kernel)
theorem ks_25 : Cond.selects "TunnelPeaceModel" y_Mo_told y_Mo_told ∈ TT := tt_l 25 (by decide +kernel) (by decide +kernel)
theorem ks_26 : Cond.selects "TunnelPeaceModel" y_Mo_steps y_Mo_steps ∈ TT := tt_l 26 (by decide +kernel) (by decide +kernel)
theorem ks_27 : Cond.selects "TunnelPeaceModel" y_Mo_personIs y_Mo_personIs ∈ TT := tt_l 27 (by decide +kernel) (by decide +kernel)
theorem ks_28 : Cond.selects "TunnelPeaceModel" y_Mo_crosses y_Mo_crosses ∈ TT := tt_l 28 (by decide +kernel) (by decide +kernel)
theorem ks_29 : Cond.selects "TunnelPeaceModel" y_Mo_calms y_Mo_calms ∈ TT := tt_l 29 (by decide +kernel) (by decide +kernel)
theorem ks_30 : Cond.selects "TunnelPeaceModel" y_Mo_tires y_Mo_tires ∈ TT := tt_l 30 (by decide +kernel) (by decide +kernel)
theorem ks_31 : Cond.selects "TunnelPeaceModel" y_Mo_wouldMeet y_Mo_wouldMeet ∈ TT := tt_l 31 (by decide +kernel) (by decide +kernel)
theorem ks_32 : Cond.selects "TunnelPeaceModel" y_Mo_daysGo y_Mo_daysGo ∈ TT := tt_l 32 (by decide +kernel) (by decide +kernel)
theorem ks_33 : Cond.selects "TunnelPeaceModel" y_Mo_day y_Mo_day ∈ TT := tt_l 33 (by decide +kernel) (by decide +kernel)
theorem ks_34 : Cond.selects "TunnelPeaceModel" y_Mo_placeNow y_Mo_placeNow ∈ TT := tt_l 34 (by decide +kernel) (by decide +kernel)
theorem ks_35 : Cond.selects "TunnelPeaceModel" y_Mo_walks y_Mo_walks ∈ TT := tt_l 35 (by decide +kernel) (by decide +kernel)
theorem ks_36 : Cond.selects "TunnelPeaceModel" y_Mo_meet y_Mo_meet ∈ TT := tt_l 36 (by decide +kernel) (by decide +kernel)
theorem ks_37 : Cond.selects "TunnelPeaceModel" y_Mo_more y_Mo_more ∈ TT := tt_l 37 (by decide +kernel) (by decide +kernel)
theorem ks_38 : Cond.selects "TunnelPeaceModel" y_Mo_metInAll y_Mo_metInAll ∈ TT := tt_l 38 (by decide +kernel) (by decide +kernel)
theorem ks_39 : Cond.selects "TunnelPeaceModel" y_Mo_strangers y_Mo_strangers ∈ TT := tt_l 39 (by decide +kernel) (by decide +kernel)
theorem ks_40 : Cond.selects "TunnelPeaceModel" y_Mo_subscribers y_Mo_subscribers ∈ TT := tt_l 40 (by decide +kernel) (by decide +kernel)
theorem ks_41 : Cond.selects "TunnelPeaceModel" y_Mo_cellsOf y_Mo_cellsOf ∈ TT := tt_l 41 (by decide +kernel) (by decide +kernel)
theorem ks_42 : Cond.selects "TunnelPeaceModel" y_Mo_pairs y_Mo_pairs ∈ TT := tt_l 42 (by decide +kernel) (by decide +kernel)
theorem ks_43 : Cond.selects "TunnelPeaceModel" y_Mo_metMost y_Mo_metMost ∈ TT := tt_l 43 (by decide +kernel) (by decide +kernel)
theorem ks_44 : Cond.selects "TunnelPeaceModel" y_Mo_putBack y_Mo_putBack ∈ TT := tt_l 44 (by decide +kernel) (by decide +kernel)
theorem ks_45 : Cond.selects "TunnelPeaceModel" y_Mo_behind y_Mo_behind ∈ TT := tt_l 45 (by decide +kernel) (by decide +kernel)
theorem ks_46 : Cond.selects "TunnelPeaceModel" y_Mo_daysTo y_Mo_daysTo ∈ TT := tt_l 46 (by decide +kernel) (by decide +kernel)
theorem ks_47 : Cond.selects "TunnelPeaceModel" y_Mo_orNone y_Mo_orNone ∈ TT := tt_l 47 (by decide +kernel) (by decide +kernel)
theorem ks_48 : Cond.selects "TunnelPeaceModel" y_Mo_calmest y_Mo_calmest ∈ TT := tt_l 48 (by decide +kernel) (by decide +kernel)
theorem ks_49 : Cond.selects "TunnelPeaceModel" y_Mo_firstFor y_Mo_firstFor ∈ TT := tt_l 49 (by decide +kernel) (by decide +kernel)
theorem ks_50 : Cond.selects "TunnelPeaceModel" y_Mo_nobodyMeets y_Mo_nobodyMeets ∈ TT := tt_l 50 (by decide +kernel) (by decide +kernel)
theorem ks_51 : Cond.selects "TunnelPeaceModel" y_Mo_lacks y_Mo_lacks ∈ TT := tt_l 51 (by decide +kernel) (by decide +kernel)
theorem ks_52 : Cond.selects "TunnelPeaceModel" y_Mo_fitting y_Mo_fitting ∈ TT := tt_l 52 (by decide +kernel) (by decide +kernel)
theorem ks_53 : Cond.selects "TunnelPeaceModel" y_Mo_isSo y_Mo_isSo ∈ TT := tt_l 53 (by decide +kernel) (by decide +kernel)
theorem ks_54 : Cond.selects "TunnelPeaceModel" y_Mo_drawn y_Mo_drawn ∈ TT := tt_l 54 (by decide +kernel) (by decide +kernel)
theorem ks_55 : Cond.selects "TunnelPeaceModel" y_Mo_meetsSomebodyAt y_Mo_meetsSomebodyAt ∈ TT := tt_l 55 (by decide +kernel) (by decide +kernel)
theorem ks_56 : Cond.selects "TunnelPeaceModel" y_Mo_token y_Mo_token ∈ TT := tt_l 56 (by decide +kernel) (by decide +kernel)
theorem ks_57 : Cond.selects "TunnelPeaceModel" y_Mo_byteAt y_Mo_byteAt ∈ TT := tt_l 57 (by decide +kernel) (by decide +kernel)
theorem ks_58 : Cond.selects "TunnelPeaceModel" y_Mo_readItem y_Mo_readItem ∈ TT := tt_l 58 (by decide +kernel) (by decide +kernel)
theorem ks_59 : Cond.selects "TunnelPeaceModel" y_Mo_isWord y_Mo_isWord ∈ TT := tt_l 59 (by decide +kernel) (by decide +kernel)
theorem ks_60 : Cond.selects "TunnelPeaceModel" y_Mo_readPerson y_Mo_readPerson ∈ TT := tt_l 60 (by decide +kernel) (by decide +kernel)
theorem ks_61 : Cond.selects "TunnelPeaceModel" y_Mo_must y_Mo_must ∈ TT := tt_l 61 (by decide +kernel) (by decide +kernel)
theorem ks_62 : Cond.selects "TunnelPeaceModel" y_Mo_number y_Mo_number ∈ TT := tt_l 62 (by decide +kernel) (by decide +kernel)
theorem ks_63 : Cond.selects "TunnelPeaceModel" y_Mo_takesWord y_Mo_takesWord ∈ TT := tt_l 63 (by decide +kernel) (by decide +kernel)
theorem ks_64 : Cond.selects "TunnelPeaceModel" y_Mo_addItem y_Mo_addItem ∈ TT := tt_l 64 (by decide +kernel) (by decide +kernel)
theorem ks_65 : Cond.selects "TunnelPeaceModel" y_Mo_isToldSo y_Mo_isToldSo ∈ TT := tt_l 65 (by decide +kernel) (by decide +kernel)
theorem in_Fo : ∀ w ∈ u_ws "TunnelPeace$Forecast" T_Fo 2, w ∈ TT := List.forall_mem_cons.mpr ⟨k_111, List.forall_mem_cons.mpr ⟨k_113, fun _ h => absurd h List.not_mem_nil⟩⟩
theorem in_Pe : ∀ w ∈ u_ws "TunnelPeace$Person" T_Pe 6, w ∈ TT := List.forall_mem_cons.mpr ⟨k_52, List.forall_mem_cons.mpr ⟨k_54, List.forall_mem_cons.mpr ⟨k_56, List.forall_mem_cons.mpr ⟨k_58, List.forall_mem_cons.mpr ⟨k_60, List.forall_mem_cons.mpr ⟨k_62, fun _ h => absurd h List.not_mem_nil⟩⟩⟩⟩⟩⟩
theorem in_Sh : ∀ w ∈ u_ws "TunnelPeace$Sheet" T_Sh 3, w ∈ TT := List.forall_mem_cons.mpr ⟨k_158, List.forall_mem_cons.mpr ⟨k_160, List.forall_mem_cons.mpr ⟨k_162, fun _ h => absurd h List.not_mem_nil⟩⟩⟩
theorem in_Ta : ∀ w ∈ u_ws "TunnelPeace$Tape" T_Ta 6, w ∈ TT := List.forall_mem_cons.mpr ⟨k_129, List.forall_mem_cons.mpr ⟨k_131, List.forall_mem_cons.mpr ⟨k_133, List.forall_mem_cons.mpr ⟨k_135, List.forall_mem_cons.mpr ⟨k_137, List.forall_mem_cons.mpr ⟨k_139, fun _ h => absurd h List.not_mem_nil⟩⟩⟩⟩⟩⟩
theorem in_Tu : ∀ w ∈ u_ws "TunnelPeace$Tunnel" T_Tu 7, w ∈ TT := List.forall_mem_cons.mpr ⟨k_88, List.forall_mem_cons.mpr ⟨k_90, List.forall_mem_cons.mpr ⟨k_92, List.forall_mem_cons.mpr ⟨k_94, List.forall_mem_cons.mpr ⟨k_96, List.forall_mem_cons.mpr ⟨k_98, List.forall_mem_cons.mpr ⟨k_100, fun _ h => absurd h List.not_mem_nil⟩⟩⟩⟩⟩⟩⟩
theorem in_TP : ∀ w ∈ u_ws "TunnelPeace" T_TP 8, w ∈ TT := List.forall_mem_cons.mpr ⟨k_173, List.forall_mem_cons.mpr ⟨k_175, List.forall_mem_cons.mpr ⟨k_177, List.forall_mem_cons.mpr ⟨k_179, List.forall_mem_cons.mpr ⟨k_181, List.forall_mem_cons.mpr ⟨k_183, List.forall_mem_cons.mpr ⟨k_185, List.forall_mem_cons.mpr ⟨k_187, fun _ h => absurd h List.not_mem_nil⟩⟩⟩⟩⟩⟩⟩⟩
theorem in_Mo : ∀ w ∈ u_ws "TunnelPeaceModel" T_Mo 20, w ∈ TT := List.forall_mem_cons.mpr ⟨k_811, List.forall_mem_cons.mpr ⟨k_813, List.forall_mem_cons.mpr ⟨k_815, List.forall_mem_cons.mpr ⟨k_817, List.forall_mem_cons.mpr ⟨k_819, List.forall_mem_cons.mpr ⟨k_821, List.forall_mem_cons.mpr ⟨k_823, List.forall_mem_cons.mpr ⟨k_825, List.forall_mem_cons.mpr ⟨k_827, List.forall_mem_cons.mpr ⟨k_829, List.forall_mem_cons.mpr ⟨k_831, List.forall_mem_cons.mpr ⟨k_833, List.forall_mem_cons.mpr ⟨k_835, List.forall_mem_cons.mpr ⟨k_837, List.forall_mem_cons.mpr ⟨k_839, List.forall_mem_cons.mpr ⟨k_841, List.forall_mem_cons.mpr ⟨k_843, List.forall_mem_cons.mpr ⟨k_845, List.forall_mem_cons.mpr ⟨k_847, List.forall_mem_cons.mpr ⟨k_849, fun _ h => absurd h List.not_mem_nil⟩⟩⟩⟩⟩⟩⟩⟩⟩⟩⟩⟩⟩⟩⟩⟩⟩⟩⟩⟩
theorem mi_TP_init : MC y_TP_init b_TP_init 2 0 := ⟨k_18, k_1, k_19, rfl, ⟨by decide +kernel, by decide +kernel, by decide +kernel⟩⟩
theorem mi_Tu_init : MC y_Tu_init b_Tu_init 2 0 := ⟨k_26, k_2, k_27, rfl, ⟨by decide +kernel, by decide +kernel, by decide +kernel⟩⟩
theorem mi_Pe_init : MC y_Pe_init b_Pe_init 1 0 := ⟨k_33, k_3, k_34, rfl, ⟨by decide +kernel, by decide +kernel, by decide +kernel⟩⟩
theorem mi_Fo_init : MC y_Fo_init b_Fo_init 3 2 := ⟨k_106, k_4, k_107, rfl, ⟨by decide +kernel, by decide +kernel, by decide +kernel⟩⟩
theorem mi_Ta_init : MC y_Ta_init b_Ta_init 1 0 := ⟨k_119, k_5, k_120, rfl, ⟨by decide +kernel, by decide +kernel, by decide +kernel⟩⟩
theorem mi_Sh_init : MC y_Sh_init b_Sh_init 1 0 := ⟨k_147, k_6, k_148, rfl, ⟨by decide +kernel, by decide +kernel, by decide +kernel⟩⟩
theorem mi_TP_guns : MI y_TP_guns b_TP_guns 3 (some (.int)) 1 := ⟨k_191, k_192, k_1, k_193, ⟨by decide +kernel, by decide +kernel, by decide +kernel⟩⟩
theorem mi_TP_within : MS y_TP_within b_TP_within 2 (some (.boolean)) 2 := ⟨k_195, k_1, k_196, ⟨by decide +kernel, by decide +kernel, by decide +kernel⟩⟩
theorem mi_TP_found : MI y_TP_found b_TP_found 3 (some (.int)) 1 := ⟨k_200, ks_0, k_1, k_201, ⟨by decide +kernel, by decide +kernel, by decide +kernel⟩⟩
theorem mi_TP_place : MI y_TP_place b_TP_place 4 (some (.int)) 2 := ⟨k_203, k_204, k_1, k_205, ⟨by decide +kernel, by decide +kernel, by decide +kernel⟩⟩
theorem mi_TP_listed : MI y_TP_listed b_TP_listed 2 (some (.int)) 1 := ⟨k_207, k_208, k_1, k_209, ⟨by decide +kernel, by decide +kernel, by decide +kernel⟩⟩
theorem mi_TP_person : MI y_TP_person b_TP_person 3 (some (.int)) 2 := ⟨k_211, k_212, k_1, k_213, ⟨by decide +kernel, by decide +kernel, by decide +kernel⟩⟩
theorem mi_Tu_isFull : MI y_Tu_isFull b_Tu_isFull 1 (some (.boolean)) 0 := ⟨k_215, k_216, k_2, k_217, ⟨by decide +kernel, by decide +kernel, by decide +kernel⟩⟩
theorem mi_Tu_add : MI y_Tu_add b_Tu_add 3 (some (.int)) 2 := ⟨k_220, k_221, k_2, k_222, ⟨by decide +kernel, by decide +kernel, by decide +kernel⟩⟩
theorem mi_Pe_begin : MI y_Pe_begin b_Pe_begin 3 none 2 := ⟨k_224, k_225, k_3, k_226, ⟨by decide +kernel, by decide +kernel, by decide +kernel⟩⟩
theorem mi_Pe_lift : MI y_Pe_lift b_Pe_lift 1 (some (.int)) 0 := ⟨k_228, k_229, k_3, k_230, ⟨by decide +kernel, by decide +kernel, by decide +kernel⟩⟩
theorem mi_TP_of : MI y_TP_of b_TP_of 3 (some (.int)) 2 := ⟨k_232, k_233, k_1, k_234, ⟨by decide +kernel, by decide +kernel, by decide +kernel⟩⟩
theorem mi_Tu_has : MI y_Tu_has b_Tu_has 2 (some (.boolean)) 1 := ⟨k_236, k_237, k_2, k_238, ⟨by decide +kernel, by decide +kernel, by decide +kernel⟩⟩
theorem mi_Tu_told : MI y_Tu_told b_Tu_told 4 (some (.int)) 2 := ⟨k_240, k_241, k_2, k_242, ⟨by decide +kernel, by decide +kernel, by decide +kernel⟩⟩
theorem mi_Pe_steps : MI y_Pe_steps b_Pe_steps 5 (some (.int)) 1 := ⟨k_244, k_245, k_3, k_246, ⟨by decide +kernel, by decide +kernel, by decide +kernel⟩⟩
theorem mi_JM_max : MS y_JM_max b_JM_max 2 (some (.int)) 2 := ⟨k_248, k_8, k_249, ⟨by decide +kernel, by decide +kernel, by decide +kernel⟩⟩
theorem mi_Pe_crosses : MI y_Pe_crosses b_Pe_crosses 2 (some (.boolean)) 1 := ⟨k_251, k_252, k_3, k_253, ⟨by decide +kernel, by decide +kernel, by decide +kernel⟩⟩
theorem mi_Pe_calms : MI y_Pe_calms b_Pe_calms 5 (some (.int)) 0 := ⟨k_255, k_256, k_3, k_257, ⟨by decide +kernel, by decide +kernel, by decide +kernel⟩⟩
theorem mi_Pe_tires : MI y_Pe_tires b_Pe_tires 3 (some (.int)) 1 := ⟨k_259, k_260, k_3, k_261, ⟨by decide +kernel, by decide +kernel, by decide +kernel⟩⟩
theorem mi_TP_change : MI y_TP_change b_TP_change 5 (some (.int)) 3 := ⟨k_263, k_264, k_1, k_265, ⟨by decide +kernel, by decide +kernel, by decide +kernel⟩⟩
theorem mi_Pe_set : MI y_Pe_set b_Pe_set 3 none 2 := ⟨k_269, k_270, k_3, k_271, ⟨by decide +kernel, by decide +kernel, by decide +kernel⟩⟩
theorem mi_TP_who : MI y_TP_who b_TP_who 2 (some (.int)) 1 := ⟨k_273, k_274, k_1, k_275, ⟨by decide +kernel, by decide +kernel, by decide +kernel⟩⟩
theorem mi_Tu_peopleAt : MI y_Tu_peopleAt b_Tu_peopleAt 4 (some (.int)) 1 := ⟨k_277, k_278, k_2, k_279, ⟨by decide +kernel, by decide +kernel, by decide +kernel⟩⟩
theorem mi_TP_two : MI y_TP_two b_TP_two 3 (some (.int)) 2 := ⟨k_281, k_282, k_1, k_283, ⟨by decide +kernel, by decide +kernel, by decide +kernel⟩⟩
theorem mi_Pe_wouldMeet : MI y_Pe_wouldMeet b_Pe_wouldMeet 2 (some (.boolean)) 1 := ⟨k_285, k_286, k_3, k_287, ⟨by decide +kernel, by decide +kernel, by decide +kernel⟩⟩
theorem mi_Pe_wouldMeetAt : MI y_Pe_wouldMeetAt b_Pe_wouldMeetAt 3 (some (.boolean)) 2 := ⟨k_289, k_290, k_3, k_291, ⟨by decide +kernel, by decide +kernel, by decide +kernel⟩⟩
theorem mi_TP_go : MI y_TP_go b_TP_go 2 (some (.int)) 1 := ⟨k_293, k_294, k_1, k_295, ⟨by decide +kernel, by decide +kernel, by decide +kernel⟩⟩
theorem mi_Tu_hasDays : MI y_Tu_hasDays b_Tu_hasDays 2 (some (.boolean)) 1 := ⟨k_297, k_298, k_2, k_299, ⟨by decide +kernel, by decide +kernel, by decide +kernel⟩⟩
theorem mi_Tu_passDays : MI y_Tu_passDays b_Tu_passDays 3 none 1 := ⟨k_303, k_304, k_2, k_305, ⟨by decide +kernel, by decide +kernel, by decide +kernel⟩⟩
theorem mi_Tu_passDay : MI y_Tu_passDay b_Tu_passDay 3 none 0 := ⟨k_307, k_308, k_2, k_309, ⟨by decide +kernel, by decide +kernel, by decide +kernel⟩⟩
theorem mi_Pe_walk : MI y_Pe_walk b_Pe_walk 8 none 3 := ⟨k_311, k_312, k_3, k_313, ⟨by decide +kernel, by decide +kernel, by decide +kernel⟩⟩
theorem mi_JM_min : MS y_JM_min b_JM_min 2 (some (.int)) 2 := ⟨k_316, k_8, k_317, ⟨by decide +kernel, by decide +kernel, by decide +kernel⟩⟩
theorem mi_Pe_stopAheadOfStripe : MI y_Pe_stopAheadOfStripe b_Pe_stopAheadOfStripe 2 none 1 := ⟨k_321, ks_1, k_3, k_322, ⟨by decide +kernel, by decide +kernel, by decide +kernel⟩⟩
theorem mi_Tu_meetAll : MI y_Tu_meetAll b_Tu_meetAll 5 none 0 := ⟨k_325, ks_2, k_2, k_326, ⟨by decide +kernel, by decide +kernel, by decide +kernel⟩⟩
theorem mi_Pe_countMeeting : MI y_Pe_countMeeting b_Pe_countMeeting 1 none 0 := ⟨k_329, k_330, k_3, k_331, ⟨by decide +kernel, by decide +kernel, by decide +kernel⟩⟩
theorem mi_Pe_endDay : MI y_Pe_endDay b_Pe_endDay 2 none 1 := ⟨k_336, k_337, k_3, k_338, ⟨by decide +kernel, by decide +kernel, by decide +kernel⟩⟩
theorem mi_TP_now : MI y_TP_now b_TP_now 2 (some (.int)) 1 := ⟨k_341, k_342, k_1, k_343, ⟨by decide +kernel, by decide +kernel, by decide +kernel⟩⟩
theorem mi_Tu_allMet : MI y_Tu_allMet b_Tu_allMet 3 (some (.int)) 0 := ⟨k_345, k_346, k_2, k_347, ⟨by decide +kernel, by decide +kernel, by decide +kernel⟩⟩
theorem mi_Tu_peopleAbroad : MI y_Tu_peopleAbroad b_Tu_peopleAbroad 3 (some (.int)) 0 := ⟨k_349, k_350, k_2, k_351, ⟨by decide +kernel, by decide +kernel, by decide +kernel⟩⟩
theorem mi_Pe_isAbroad : MI y_Pe_isAbroad b_Pe_isAbroad 1 (some (.boolean)) 0 := ⟨k_353, k_354, k_3, k_355, ⟨by decide +kernel, by decide +kernel, by decide +kernel⟩⟩
theorem mi_Tu_peopleWithSeason : MI y_Tu_peopleWithSeason b_Tu_peopleWithSeason 3 (some (.int)) 0 := ⟨k_357, k_358, k_2, k_359, ⟨by decide +kernel, by decide +kernel, by decide +kernel⟩⟩
theorem mi_Tu_cellsTaken : MI y_Tu_cellsTaken b_Tu_cellsTaken 3 (some (.int)) 0 := ⟨k_361, k_362, k_2, k_363, ⟨by decide +kernel, by decide +kernel, by decide +kernel⟩⟩
theorem mi_Tu_pairsMeeting : MI y_Tu_pairsMeeting b_Tu_pairsMeeting 4 (some (.int)) 0 := ⟨k_365, k_366, k_2, k_367, ⟨by decide +kernel, by decide +kernel, by decide +kernel⟩⟩
theorem mi_Tu_whoMetMost : MI y_Tu_whoMetMost b_Tu_whoMetMost 3 (some (.int)) 0 := ⟨k_369, k_370, k_2, k_371, ⟨by decide +kernel, by decide +kernel, by decide +kernel⟩⟩
theorem mi_TP_ahead : MI y_TP_ahead b_TP_ahead 5 (some (.int)) 3 := ⟨k_373, k_374, k_1, k_375, ⟨by decide +kernel, by decide +kernel, by decide +kernel⟩⟩
theorem mi_Fo_behind : MI y_Fo_behind b_Fo_behind 2 (some (.object "TunnelPeace$Tunnel")) 1 := ⟨k_377, k_378, k_4, k_379, ⟨by decide +kernel, by decide +kernel, by decide +kernel⟩⟩
theorem mi_Tu_become : MI y_Tu_become b_Tu_become 3 none 1 := ⟨k_381, k_382, k_2, k_383, ⟨by decide +kernel, by decide +kernel, by decide +kernel⟩⟩
theorem mi_Pe_become : MI y_Pe_become b_Pe_become 2 none 1 := ⟨k_388, k_389, k_3, k_390, ⟨by decide +kernel, by decide +kernel, by decide +kernel⟩⟩
theorem mi_TP_noise : MI y_TP_noise b_TP_noise 2 (some (.int)) 1 := ⟨k_393, k_394, k_1, k_395, ⟨by decide +kernel, by decide +kernel, by decide +kernel⟩⟩
theorem mi_TP_stills : MI y_TP_stills b_TP_stills 2 (some (.int)) 1 := ⟨k_397, k_398, k_1, k_399, ⟨by decide +kernel, by decide +kernel, by decide +kernel⟩⟩
theorem mi_Fo_daysTillGuns : MI y_Fo_daysTillGuns b_Fo_daysTillGuns 3 (some (.int)) 1 := ⟨k_401, k_402, k_4, k_403, ⟨by decide +kernel, by decide +kernel, by decide +kernel⟩⟩
theorem mi_TP_orNone : MI y_TP_orNone b_TP_orNone 2 (some (.int)) 1 := ⟨k_407, ks_3, k_1, k_408, ⟨by decide +kernel, by decide +kernel, by decide +kernel⟩⟩
theorem mi_TP_meets : MI y_TP_meets b_TP_meets 3 (some (.int)) 2 := ⟨k_411, k_412, k_1, k_413, ⟨by decide +kernel, by decide +kernel, by decide +kernel⟩⟩
theorem mi_Fo_daysTillMet : MI y_Fo_daysTillMet b_Fo_daysTillMet 4 (some (.int)) 2 := ⟨k_415, k_416, k_4, k_417, ⟨by decide +kernel, by decide +kernel, by decide +kernel⟩⟩
theorem mi_TP_lapses : MI y_TP_lapses b_TP_lapses 1 (some (.int)) 0 := ⟨k_419, k_420, k_1, k_421, ⟨by decide +kernel, by decide +kernel, by decide +kernel⟩⟩
theorem mi_Fo_daysTillNoSeason : MI y_Fo_daysTillNoSeason b_Fo_daysTillNoSeason 2 (some (.int)) 0 := ⟨k_423, k_424, k_4, k_425, ⟨by decide +kernel, by decide +kernel, by decide +kernel⟩⟩
theorem mi_TP_placeFor : MI y_TP_placeFor b_TP_placeFor 3 (some (.int)) 2 := ⟨k_428, k_429, k_1, k_430, ⟨by decide +kernel, by decide +kernel, by decide +kernel⟩⟩
theorem mi_Fo_stillestCell : MI y_Fo_stillestCell b_Fo_stillestCell 6 (some (.int)) 2 := ⟨k_432, k_433, k_4, k_434, ⟨by decide +kernel, by decide +kernel, by decide +kernel⟩⟩
theorem mi_TP_kindFor : MI y_TP_kindFor b_TP_kindFor 3 (some (.int)) 2 := ⟨k_436, k_437, k_1, k_438, ⟨by decide +kernel, by decide +kernel, by decide +kernel⟩⟩
theorem mi_Fo_stillestKind : MI y_Fo_stillestKind b_Fo_stillestKind 6 (some (.int)) 2 := ⟨k_440, k_441, k_4, k_442, ⟨by decide +kernel, by decide +kernel, by decide +kernel⟩⟩
theorem mi_Fo_tryWith : MI y_Fo_tryWith b_Fo_tryWith 4 none 3 := ⟨k_445, ks_4, k_4, k_446, ⟨by decide +kernel, by decide +kernel, by decide +kernel⟩⟩
theorem mi_TP_seasonFor : MI y_TP_seasonFor b_TP_seasonFor 4 (some (.int)) 3 := ⟨k_449, k_450, k_1, k_451, ⟨by decide +kernel, by decide +kernel, by decide +kernel⟩⟩
theorem mi_Fo_leastSeason : MI y_Fo_leastSeason b_Fo_leastSeason 6 (some (.int)) 3 := ⟨k_453, k_454, k_4, k_455, ⟨by decide +kernel, by decide +kernel, by decide +kernel⟩⟩
theorem mi_TP_bagsFor : MI y_TP_bagsFor b_TP_bagsFor 3 (some (.int)) 2 := ⟨k_459, k_460, k_1, k_461, ⟨by decide +kernel, by decide +kernel, by decide +kernel⟩⟩
theorem mi_Fo_mostBags : MI y_Fo_mostBags b_Fo_mostBags 4 (some (.int)) 2 := ⟨k_463, k_464, k_4, k_465, ⟨by decide +kernel, by decide +kernel, by decide +kernel⟩⟩
theorem mi_TP_leaveOut : MI y_TP_leaveOut b_TP_leaveOut 2 (some (.int)) 1 := ⟨k_467, k_468, k_1, k_469, ⟨by decide +kernel, by decide +kernel, by decide +kernel⟩⟩
theorem mi_Fo_fewestLeftOut : MI y_Fo_fewestLeftOut b_Fo_fewestLeftOut 5 (some (.int)) 1 := ⟨k_471, k_472, k_4, k_473, ⟨by decide +kernel, by decide +kernel, by decide +kernel⟩⟩
theorem mi_JI_bitCount : MS y_JI_bitCount b_JI_bitCount 1 (some (.int)) 1 := ⟨k_475, k_10, k_476, ⟨by decide +kernel, by decide +kernel, by decide +kernel⟩⟩
theorem mi_Fo_keepsApart : MI y_Fo_keepsApart b_Fo_keepsApart 5 (some (.boolean)) 2 := ⟨k_482, ks_5, k_4, k_483, ⟨by decide +kernel, by decide +kernel, by decide +kernel⟩⟩
theorem mi_Tu_endSeasons : MI y_Tu_endSeasons b_Tu_endSeasons 3 none 1 := ⟨k_485, k_486, k_2, k_487, ⟨by decide +kernel, by decide +kernel, by decide +kernel⟩⟩
theorem mi_TP_fits : MI y_TP_fits b_TP_fits 4 (some (.int)) 2 := ⟨k_490, k_491, k_1, k_492, ⟨by decide +kernel, by decide +kernel, by decide +kernel⟩⟩
theorem mi_TP_toldFinding : MI y_TP_toldFinding b_TP_toldFinding 4 (some (.int)) 2 := ⟨k_495, ks_6, k_1, k_496, ⟨by decide +kernel, by decide +kernel, by decide +kernel⟩⟩
theorem mi_TP_sheetFinding : MI y_TP_sheetFinding b_TP_sheetFinding 2 (some (.int)) 1 := ⟨k_499, ks_7, k_1, k_500, ⟨by decide +kernel, by decide +kernel, by decide +kernel⟩⟩
theorem mi_Sh_isMissing : MI y_Sh_isMissing b_Sh_isMissing 1 (some (.boolean)) 0 := ⟨k_502, k_503, k_6, k_504, ⟨by decide +kernel, by decide +kernel, by decide +kernel⟩⟩
theorem mi_Fo_valuesAsTold : MI y_Fo_valuesAsTold b_Fo_valuesAsTold 6 (some (.int)) 3 := ⟨k_507, k_508, k_4, k_509, ⟨by decide +kernel, by decide +kernel, by decide +kernel⟩⟩
theorem mi_Fo_goesAsTold : MI y_Fo_goesAsTold b_Fo_goesAsTold 5 (some (.boolean)) 2 := ⟨k_512, ks_8, k_4, k_513, ⟨by decide +kernel, by decide +kernel, by decide +kernel⟩⟩
theorem mi_TP_kinds : MI y_TP_kinds b_TP_kinds 4 (some (.int)) 2 := ⟨k_515, k_516, k_1, k_517, ⟨by decide +kernel, by decide +kernel, by decide +kernel⟩⟩
theorem mi_TP_stroll : MI y_TP_stroll b_TP_stroll 3 (some (.int)) 1 := ⟨k_519, k_520, k_1, k_521, ⟨by decide +kernel, by decide +kernel, by decide +kernel⟩⟩
theorem mi_Tu_passDrawnDay : MI y_Tu_passDrawnDay b_Tu_passDrawnDay 2 none 0 := ⟨k_523, k_524, k_2, k_525, ⟨by decide +kernel, by decide +kernel, by decide +kernel⟩⟩
theorem mi_Tu_draw : MI y_Tu_draw b_Tu_draw 1 (some (.int)) 0 := ⟨k_528, ks_9, k_2, k_529, ⟨by decide +kernel, by decide +kernel, by decide +kernel⟩⟩
theorem mi_TP_odds : MI y_TP_odds b_TP_odds 6 (some (.long)) 3 := ⟨k_534, k_535, k_1, k_536, ⟨by decide +kernel, by decide +kernel, by decide +kernel⟩⟩
theorem mi_Tu_cellsToMeetAt : MI y_Tu_cellsToMeetAt b_Tu_cellsToMeetAt 4 (some (.int)) 1 := ⟨k_538, k_539, k_2, k_540, ⟨by decide +kernel, by decide +kernel, by decide +kernel⟩⟩
theorem mi_Tu_meetsSomebodyAt : MI y_Tu_meetsSomebodyAt b_Tu_meetsSomebodyAt 4 (some (.boolean)) 2 := ⟨k_543, ks_10, k_2, k_544, ⟨by decide +kernel, by decide +kernel, by decide +kernel⟩⟩
theorem mi_TP_commonDivisor : MS y_TP_commonDivisor b_TP_commonDivisor 3 (some (.int)) 2 := ⟨k_547, k_1, k_548, ⟨by decide +kernel, by decide +kernel, by decide +kernel⟩⟩
theorem mi_TP_power : MS y_TP_power b_TP_power 6 (some (.long)) 2 := ⟨k_551, k_1, k_552, ⟨by decide +kernel, by decide +kernel, by decide +kernel⟩⟩
theorem mi_TP_seed : MI y_TP_seed b_TP_seed 3 (some (.int)) 1 := ⟨k_554, k_555, k_1, k_556, ⟨by decide +kernel, by decide +kernel, by decide +kernel⟩⟩
theorem mi_TP_feed : MI y_TP_feed b_TP_feed 3 (some (.int)) 2 := ⟨k_558, k_559, k_1, k_560, ⟨by decide +kernel, by decide +kernel, by decide +kernel⟩⟩
theorem mi_Ta_append : MI y_Ta_append b_Ta_append 4 none 2 := ⟨k_562, k_563, k_5, k_564, ⟨by decide +kernel, by decide +kernel, by decide +kernel⟩⟩
theorem mi_TP_wipe : MI y_TP_wipe b_TP_wipe 2 (some (.int)) 0 := ⟨k_566, k_567, k_1, k_568, ⟨by decide +kernel, by decide +kernel, by decide +kernel⟩⟩
theorem mi_TP_text : MI y_TP_text b_TP_text 2 (some (.int)) 0 := ⟨k_570, k_571, k_1, k_572, ⟨by decide +kernel, by decide +kernel, by decide +kernel⟩⟩
theorem mi_Ta_readInto : MI y_Ta_readInto b_Ta_readInto 5 (some (.int)) 1 := ⟨k_575, k_576, k_5, k_577, ⟨by decide +kernel, by decide +kernel, by decide +kernel⟩⟩
theorem mi_Ta_advance : MI y_Ta_advance b_Ta_advance 2 none 0 := ⟨k_580, ks_11, k_5, k_581, ⟨by decide +kernel, by decide +kernel, by decide +kernel⟩⟩
theorem mi_Ta_tokenOf : MS y_Ta_tokenOf b_Ta_tokenOf 1 (some (.int)) 1 := ⟨k_583, k_5, k_584, ⟨by decide +kernel, by decide +kernel, by decide +kernel⟩⟩
theorem mi_Ta_takeWord : MI y_Ta_takeWord b_Ta_takeWord 3 (some (.boolean)) 1 := ⟨k_589, ks_12, k_5, k_590, ⟨by decide +kernel, by decide +kernel, by decide +kernel⟩⟩
theorem mi_JS_length : MI y_JS_length b_JS_length 1 (some (.int)) 0 := ⟨k_592, k_593, k_11, k_594, ⟨by decide +kernel, by decide +kernel, by decide +kernel⟩⟩
theorem mi_JS_coder : MI y_JS_coder b_JS_coder 1 (some (.byte)) 0 := ⟨k_596, k_597, k_11, k_598, ⟨by decide +kernel, by decide +kernel, by decide +kernel⟩⟩
theorem mi_JS_charAt : MI y_JS_charAt b_JS_charAt 2 (some (.char)) 1 := ⟨k_602, k_603, k_11, k_604, ⟨by decide +kernel, by decide +kernel, by decide +kernel⟩⟩
theorem mi_JS_isLatin1 : MI y_JS_isLatin1 b_JS_isLatin1 1 (some (.boolean)) 0 := ⟨k_606, k_607, k_11, k_608, ⟨by decide +kernel, by decide +kernel, by decide +kernel⟩⟩
theorem mi_JL_charAt : MS y_JL_charAt b_JL_charAt 2 (some (.char)) 2 := ⟨k_610, k_12, k_611, ⟨by decide +kernel, by decide +kernel, by decide +kernel⟩⟩
theorem mi_JS_checkIndex : MS y_JS_checkIndex b_JS_checkIndex 2 none 2 := ⟨k_613, k_11, k_614, ⟨by decide +kernel, by decide +kernel, by decide +kernel⟩⟩
theorem mi_JP_checkIndex : MS y_JP_checkIndex b_JP_checkIndex 3 (some (.int)) 3 := ⟨k_618, k_13, k_619, ⟨by decide +kernel, by decide +kernel, by decide +kernel⟩⟩
theorem mi_JU_charAt : MS y_JU_charAt b_JU_charAt 2 (some (.char)) 2 := ⟨k_621, k_14, k_622, ⟨by decide +kernel, by decide +kernel, by decide +kernel⟩⟩
theorem mi_JU_checkIndex : MS y_JU_checkIndex b_JU_checkIndex 2 none 2 := ⟨k_624, k_14, k_625, ⟨by decide +kernel, by decide +kernel, by decide +kernel⟩⟩
theorem mi_JU_length : MS y_JU_length b_JU_length 1 (some (.int)) 1 := ⟨k_627, k_14, k_628, ⟨by decide +kernel, by decide +kernel, by decide +kernel⟩⟩
theorem mi_JU_getChar : MS y_JU_getChar b_JU_getChar 2 (some (.char)) 2 := ⟨k_631, k_14, k_632, ⟨by decide +kernel, by decide +kernel, by decide +kernel⟩⟩
theorem mi_Ta_takePlace : MI y_Ta_takePlace b_Ta_takePlace 4 (some (.boolean)) 1 := ⟨k_641, ks_13, k_5, k_642, ⟨by decide +kernel, by decide +kernel, by decide +kernel⟩⟩
theorem mi_Ta_takeNumber : MI y_Ta_takeNumber b_Ta_takeNumber 3 (some (.int)) 1 := ⟨k_645, ks_14, k_5, k_646, ⟨by decide +kernel, by decide +kernel, by decide +kernel⟩⟩
theorem mi_Ta_takeGuns : MI y_Ta_takeGuns b_Ta_takeGuns 3 (some (.boolean)) 1 := ⟨k_650, ks_15, k_5, k_651, ⟨by decide +kernel, by decide +kernel, by decide +kernel⟩⟩
theorem mi_Ta_takePerson : MI y_Ta_takePerson b_Ta_takePerson 5 (some (.boolean)) 1 := ⟨k_654, ks_16, k_5, k_655, ⟨by decide +kernel, by decide +kernel, by decide +kernel⟩⟩
theorem mi_Ta_takeKind : MI y_Ta_takeKind b_Ta_takeKind 2 (some (.int)) 0 := ⟨k_659, ks_17, k_5, k_660, ⟨by decide +kernel, by decide +kernel, by decide +kernel⟩⟩
theorem mi_Ta_kindWord : MS y_Ta_kindWord b_Ta_kindWord 1 (some (.object "java/lang/String")) 1 := ⟨k_662, k_5, k_663, ⟨by decide +kernel, by decide +kernel, by decide +kernel⟩⟩
theorem mi_Ta_takeOption : MI y_Ta_takeOption b_Ta_takeOption 5 (some (.boolean)) 3 := ⟨k_675, ks_18, k_5, k_676, ⟨by decide +kernel, by decide +kernel, by decide +kernel⟩⟩
theorem mi_Ta_takeSemicolon : MI y_Ta_takeSemicolon b_Ta_takeSemicolon 1 (some (.boolean)) 0 := ⟨k_684, ks_19, k_5, k_685, ⟨by decide +kernel, by decide +kernel, by decide +kernel⟩⟩
theorem mi_TP_hold : MI y_TP_hold b_TP_hold 3 (some (.int)) 2 := ⟨k_687, k_688, k_1, k_689, ⟨by decide +kernel, by decide +kernel, by decide +kernel⟩⟩
theorem mi_TP_as : MI y_TP_as b_TP_as 4 (some (.int)) 2 := ⟨k_691, k_692, k_1, k_693, ⟨by decide +kernel, by decide +kernel, by decide +kernel⟩⟩
theorem mi_Pe_isA : MI y_Pe_isA b_Pe_isA 4 (some (.boolean)) 1 := ⟨k_695, k_696, k_3, k_697, ⟨by decide +kernel, by decide +kernel, by decide +kernel⟩⟩
theorem mi_TP_sheet : MI y_TP_sheet b_TP_sheet 4 (some (.int)) 3 := ⟨k_703, k_704, k_1, k_705, ⟨by decide +kernel, by decide +kernel, by decide +kernel⟩⟩
theorem mi_Sh_begin : MI y_Sh_begin b_Sh_begin 4 none 2 := ⟨k_708, k_709, k_6, k_710, ⟨by decide +kernel, by decide +kernel, by decide +kernel⟩⟩
theorem mi_TP_write : MI y_TP_write b_TP_write 5 (some (.int)) 3 := ⟨k_712, k_713, k_1, k_714, ⟨by decide +kernel, by decide +kernel, by decide +kernel⟩⟩
theorem mi_Sh_put : MI y_Sh_put b_Sh_put 3 none 2 := ⟨k_716, k_717, k_6, k_718, ⟨by decide +kernel, by decide +kernel, by decide +kernel⟩⟩
theorem mi_TP_copy : MI y_TP_copy b_TP_copy 6 (some (.int)) 5 := ⟨k_720, k_721, k_1, k_722, ⟨by decide +kernel, by decide +kernel, by decide +kernel⟩⟩
theorem mi_Sh_hasRange : MI y_Sh_hasRange b_Sh_hasRange 3 (some (.boolean)) 2 := ⟨k_724, k_725, k_6, k_726, ⟨by decide +kernel, by decide +kernel, by decide +kernel⟩⟩
theorem mi_TP_load : MI y_TP_load b_TP_load 3 (some (.int)) 1 := ⟨k_729, k_730, k_1, k_731, ⟨by decide +kernel, by decide +kernel, by decide +kernel⟩⟩
theorem mi_Sh_giveSeasons : MI y_Sh_giveSeasons b_Sh_giveSeasons 3 (some (.int)) 1 := ⟨k_733, k_734, k_6, k_735, ⟨by decide +kernel, by decide +kernel, by decide +kernel⟩⟩
theorem mi_TP_judge : MI y_TP_judge b_TP_judge 3 (some (.int)) 1 := ⟨k_740, k_741, k_1, k_742, ⟨by decide +kernel, by decide +kernel, by decide +kernel⟩⟩
theorem mi_Sh_firstWrongCell : MI y_Sh_firstWrongCell b_Sh_firstWrongCell 3 (some (.int)) 1 := ⟨k_744, k_745, k_6, k_746, ⟨by decide +kernel, by decide +kernel, by decide +kernel⟩⟩
theorem mi_TP_image : MI y_TP_image b_TP_image 1 (some (.int)) 0 := ⟨k_748, k_749, k_1, k_750, ⟨by decide +kernel, by decide +kernel, by decide +kernel⟩⟩
theorem mi_TP_undo : MI y_TP_undo b_TP_undo 1 (some (.int)) 0 := ⟨k_752, k_753, k_1, k_754, ⟨by decide +kernel, by decide +kernel, by decide +kernel⟩⟩
theorem mi_TP_tear : MI y_TP_tear b_TP_tear 2 (some (.int)) 0 := ⟨k_756, k_757, k_1, k_758, ⟨by decide +kernel, by decide +kernel, by decide +kernel⟩⟩
theorem mi_TP_count : MI y_TP_count b_TP_count 2 (some (.int)) 1 := ⟨k_760, k_761, k_1, k_762, ⟨by decide +kernel, by decide +kernel, by decide +kernel⟩⟩
theorem mi_Tu_spotsTaken : MI y_Tu_spotsTaken b_Tu_spotsTaken 3 (some (.int)) 0 := ⟨k_765, k_766, k_2, k_767, ⟨by decide +kernel, by decide +kernel, by decide +kernel⟩⟩
theorem mi_TP_status : MI y_TP_status b_TP_status 2 (some (.int)) 1 := ⟨k_769, k_770, k_1, k_771, ⟨by decide +kernel, by decide +kernel, by decide +kernel⟩⟩
theorem mi_TP_allFindings : MI y_TP_allFindings b_TP_allFindings 3 (some (.int)) 0 := ⟨k_774, ks_20, k_1, k_775, ⟨by decide +kernel, by decide +kernel, by decide +kernel⟩⟩
theorem mi_Mo_init : MC y_Mo_init b_Mo_init 2 0 := ⟨k_779, k_7, k_780, rfl, ⟨by decide +kernel, by decide +kernel, by decide +kernel⟩⟩
theorem mi_Mo_guns : MI y_Mo_guns b_Mo_guns 2 (some (.int)) 1 := ⟨k_853, k_854, k_7, k_855, ⟨by decide +kernel, by decide +kernel, by decide +kernel⟩⟩
theorem mi_Mo_isMany : MS y_Mo_isMany b_Mo_isMany 1 (some (.boolean)) 1 := ⟨k_857, k_7, k_858, ⟨by decide +kernel, by decide +kernel, by decide +kernel⟩⟩
theorem mi_Mo_within : MS y_Mo_within b_Mo_within 3 (some (.boolean)) 3 := ⟨k_860, k_7, k_861, ⟨by decide +kernel, by decide +kernel, by decide +kernel⟩⟩
theorem mi_Mo_become : MI y_Mo_become b_Mo_become 4 (some (.int)) 2 := ⟨k_864, ks_21, k_7, k_865, ⟨by decide +kernel, by decide +kernel, by decide +kernel⟩⟩
theorem mi_Mo_finding : MI y_Mo_finding b_Mo_finding 2 (some (.int)) 1 := ⟨k_869, ks_22, k_7, k_870, ⟨by decide +kernel, by decide +kernel, by decide +kernel⟩⟩
theorem mi_Mo_place : MI y_Mo_place b_Mo_place 3 (some (.int)) 2 := ⟨k_872, k_873, k_7, k_874, ⟨by decide +kernel, by decide +kernel, by decide +kernel⟩⟩
theorem mi_Mo_isPlace : MS y_Mo_isPlace b_Mo_isPlace 1 (some (.boolean)) 1 := ⟨k_876, k_7, k_877, ⟨by decide +kernel, by decide +kernel, by decide +kernel⟩⟩
theorem mi_Mo_isCell : MS y_Mo_isCell b_Mo_isCell 1 (some (.boolean)) 1 := ⟨k_879, k_7, k_880, ⟨by decide +kernel, by decide +kernel, by decide +kernel⟩⟩
theorem mi_Mo_listed : MI y_Mo_listed b_Mo_listed 2 (some (.int)) 1 := ⟨k_882, k_883, k_7, k_884, ⟨by decide +kernel, by decide +kernel, by decide +kernel⟩⟩
theorem mi_Mo_person : MI y_Mo_person b_Mo_person 3 (some (.int)) 2 := ⟨k_886, k_887, k_7, k_888, ⟨by decide +kernel, by decide +kernel, by decide +kernel⟩⟩
theorem mi_Mo_isKind : MS y_Mo_isKind b_Mo_isKind 1 (some (.boolean)) 1 := ⟨k_890, k_7, k_891, ⟨by decide +kernel, by decide +kernel, by decide +kernel⟩⟩
theorem mi_Mo_comes : MI y_Mo_comes b_Mo_comes 4 (some (.int)) 2 := ⟨k_895, ks_23, k_7, k_896, ⟨by decide +kernel, by decide +kernel, by decide +kernel⟩⟩
theorem mi_Mo_personAt : MS y_Mo_personAt b_Mo_personAt 2 (some (.int)) 2 := ⟨k_898, k_7, k_899, ⟨by decide +kernel, by decide +kernel, by decide +kernel⟩⟩
theorem mi_Mo_liftOf : MS y_Mo_liftOf b_Mo_liftOf 1 (some (.int)) 1 := ⟨k_901, k_7, k_902, ⟨by decide +kernel, by decide +kernel, by decide +kernel⟩⟩
theorem mi_Mo_of : MI y_Mo_of b_Mo_of 3 (some (.int)) 2 := ⟨k_904, k_905, k_7, k_906, ⟨by decide +kernel, by decide +kernel, by decide +kernel⟩⟩
theorem mi_Mo_isPerson : MI y_Mo_isPerson b_Mo_isPerson 2 (some (.boolean)) 1 := ⟨k_909, ks_24, k_7, k_910, ⟨by decide +kernel, by decide +kernel, by decide +kernel⟩⟩
theorem mi_Mo_told : MI y_Mo_told b_Mo_told 3 (some (.int)) 2 := ⟨k_913, ks_25, k_7, k_914, ⟨by decide +kernel, by decide +kernel, by decide +kernel⟩⟩
theorem mi_Mo_steps : MI y_Mo_steps b_Mo_steps 3 (some (.int)) 1 := ⟨k_917, ks_26, k_7, k_918, ⟨by decide +kernel, by decide +kernel, by decide +kernel⟩⟩
theorem mi_Mo_personIs : MI y_Mo_personIs b_Mo_personIs 3 (some (.int)) 2 := ⟨k_921, ks_27, k_7, k_922, ⟨by decide +kernel, by decide +kernel, by decide +kernel⟩⟩
theorem mi_Mo_crosses : MI y_Mo_crosses b_Mo_crosses 2 (some (.boolean)) 1 := ⟨k_926, ks_28, k_7, k_927, ⟨by decide +kernel, by decide +kernel, by decide +kernel⟩⟩
theorem mi_Mo_calms : MI y_Mo_calms b_Mo_calms 2 (some (.int)) 1 := ⟨k_930, ks_29, k_7, k_931, ⟨by decide +kernel, by decide +kernel, by decide +kernel⟩⟩
theorem mi_Mo_tires : MI y_Mo_tires b_Mo_tires 2 (some (.int)) 1 := ⟨k_934, ks_30, k_7, k_935, ⟨by decide +kernel, by decide +kernel, by decide +kernel⟩⟩
theorem mi_Mo_change : MI y_Mo_change b_Mo_change 4 (some (.int)) 3 := ⟨k_937, k_938, k_7, k_939, ⟨by decide +kernel, by decide +kernel, by decide +kernel⟩⟩
theorem mi_Mo_isField : MS y_Mo_isField b_Mo_isField 2 (some (.boolean)) 2 := ⟨k_941, k_7, k_942, ⟨by decide +kernel, by decide +kernel, by decide +kernel⟩⟩
theorem mi_Mo_who : MI y_Mo_who b_Mo_who 4 (some (.int)) 1 := ⟨k_944, k_945, k_7, k_946, ⟨by decide +kernel, by decide +kernel, by decide +kernel⟩⟩
theorem mi_Mo_two : MI y_Mo_two b_Mo_two 3 (some (.int)) 2 := ⟨k_948, k_949, k_7, k_950, ⟨by decide +kernel, by decide +kernel, by decide +kernel⟩⟩
theorem mi_Mo_wouldMeet : MI y_Mo_wouldMeet b_Mo_wouldMeet 6 (some (.boolean)) 2 := ⟨k_953, ks_31, k_7, k_954, ⟨by decide +kernel, by decide +kernel, by decide +kernel⟩⟩
theorem mi_Mo_go : MI y_Mo_go b_Mo_go 2 (some (.int)) 1 := ⟨k_956, k_957, k_7, k_958, ⟨by decide +kernel, by decide +kernel, by decide +kernel⟩⟩
theorem mi_Mo_daysGo : MI y_Mo_daysGo b_Mo_daysGo 3 none 1 := ⟨k_963, ks_32, k_7, k_964, ⟨by decide +kernel, by decide +kernel, by decide +kernel⟩⟩
theorem mi_Mo_day : MI y_Mo_day b_Mo_day 4 none 0 := ⟨k_967, ks_33, k_7, k_968, ⟨by decide +kernel, by decide +kernel, by decide +kernel⟩⟩
theorem mi_Mo_placeNow : MI y_Mo_placeNow b_Mo_placeNow 1 (some (.int)) 0 := ⟨k_971, ks_34, k_7, k_972, ⟨by decide +kernel, by decide +kernel, by decide +kernel⟩⟩
theorem mi_Mo_walks : MI y_Mo_walks b_Mo_walks 5 none 2 := ⟨k_975, ks_35, k_7, k_976, ⟨by decide +kernel, by decide +kernel, by decide +kernel⟩⟩
theorem mi_Mo_towards : MS y_Mo_towards b_Mo_towards 3 (some (.int)) 3 := ⟨k_979, k_7, k_980, ⟨by decide +kernel, by decide +kernel, by decide +kernel⟩⟩
theorem mi_Mo_meet : MI y_Mo_meet b_Mo_meet 3 none 2 := ⟨k_983, ks_36, k_7, k_984, ⟨by decide +kernel, by decide +kernel, by decide +kernel⟩⟩
theorem mi_Mo_more : MI y_Mo_more b_Mo_more 4 none 3 := ⟨k_987, ks_37, k_7, k_988, ⟨by decide +kernel, by decide +kernel, by decide +kernel⟩⟩
theorem mi_Mo_now : MI y_Mo_now b_Mo_now 2 (some (.int)) 1 := ⟨k_990, k_991, k_7, k_992, ⟨by decide +kernel, by decide +kernel, by decide +kernel⟩⟩
theorem mi_Mo_metInAll : MI y_Mo_metInAll b_Mo_metInAll 3 (some (.int)) 0 := ⟨k_995, ks_38, k_7, k_996, ⟨by decide +kernel, by decide +kernel, by decide +kernel⟩⟩
theorem mi_Mo_strangers : MI y_Mo_strangers b_Mo_strangers 4 (some (.int)) 0 := ⟨k_999, ks_39, k_7, k_1000, ⟨by decide +kernel, by decide +kernel, by decide +kernel⟩⟩
theorem mi_Mo_subscribers : MI y_Mo_subscribers b_Mo_subscribers 3 (some (.int)) 0 := ⟨k_1003, ks_40, k_7, k_1004, ⟨by decide +kernel, by decide +kernel, by decide +kernel⟩⟩
theorem mi_Mo_cellsOf : MI y_Mo_cellsOf b_Mo_cellsOf 3 (some (.int)) 0 := ⟨k_1007, ks_41, k_7, k_1008, ⟨by decide +kernel, by decide +kernel, by decide +kernel⟩⟩
theorem mi_Mo_pairs : MI y_Mo_pairs b_Mo_pairs 4 (some (.int)) 0 := ⟨k_1011, ks_42, k_7, k_1012, ⟨by decide +kernel, by decide +kernel, by decide +kernel⟩⟩
theorem mi_Mo_metMost : MI y_Mo_metMost b_Mo_metMost 3 (some (.int)) 0 := ⟨k_1015, ks_43, k_7, k_1016, ⟨by decide +kernel, by decide +kernel, by decide +kernel⟩⟩
theorem mi_Mo_ahead : MI y_Mo_ahead b_Mo_ahead 5 (some (.int)) 3 := ⟨k_1018, k_1019, k_7, k_1020, ⟨by decide +kernel, by decide +kernel, by decide +kernel⟩⟩
theorem mi_Mo_copyRow : MS y_Mo_copyRow b_Mo_copyRow 3 none 2 := ⟨k_1022, k_7, k_1023, ⟨by decide +kernel, by decide +kernel, by decide +kernel⟩⟩
theorem mi_Mo_putBack : MI y_Mo_putBack b_Mo_putBack 2 (some (.int)) 1 := ⟨k_1026, ks_44, k_7, k_1027, ⟨by decide +kernel, by decide +kernel, by decide +kernel⟩⟩
theorem mi_Mo_noise : MI y_Mo_noise b_Mo_noise 2 (some (.int)) 1 := ⟨k_1029, k_1030, k_7, k_1031, ⟨by decide +kernel, by decide +kernel, by decide +kernel⟩⟩
theorem mi_Mo_behind : MI y_Mo_behind b_Mo_behind 3 (some (.int)) 2 := ⟨k_1034, ks_45, k_7, k_1035, ⟨by decide +kernel, by decide +kernel, by decide +kernel⟩⟩
theorem mi_Mo_stills : MI y_Mo_stills b_Mo_stills 2 (some (.int)) 1 := ⟨k_1037, k_1038, k_7, k_1039, ⟨by decide +kernel, by decide +kernel, by decide +kernel⟩⟩
theorem mi_Mo_daysTo : MI y_Mo_daysTo b_Mo_daysTo 5 (some (.int)) 3 := ⟨k_1042, ks_46, k_7, k_1043, ⟨by decide +kernel, by decide +kernel, by decide +kernel⟩⟩
theorem mi_Mo_orNone : MI y_Mo_orNone b_Mo_orNone 2 (some (.int)) 1 := ⟨k_1046, ks_47, k_7, k_1047, ⟨by decide +kernel, by decide +kernel, by decide +kernel⟩⟩
theorem mi_Mo_meets : MI y_Mo_meets b_Mo_meets 3 (some (.int)) 2 := ⟨k_1050, k_1051, k_7, k_1052, ⟨by decide +kernel, by decide +kernel, by decide +kernel⟩⟩
theorem mi_Mo_lapses : MI y_Mo_lapses b_Mo_lapses 2 (some (.int)) 0 := ⟨k_1054, k_1055, k_7, k_1056, ⟨by decide +kernel, by decide +kernel, by decide +kernel⟩⟩
theorem mi_Mo_placeFor : MI y_Mo_placeFor b_Mo_placeFor 3 (some (.int)) 2 := ⟨k_1058, k_1059, k_7, k_1060, ⟨by decide +kernel, by decide +kernel, by decide +kernel⟩⟩
theorem mi_Mo_isThought : MS y_Mo_isThought b_Mo_isThought 1 (some (.boolean)) 1 := ⟨k_1062, k_7, k_1063, ⟨by decide +kernel, by decide +kernel, by decide +kernel⟩⟩
theorem mi_Mo_calmest : MI y_Mo_calmest b_Mo_calmest 9 (some (.int)) 3 := ⟨k_1066, ks_48, k_7, k_1067, ⟨by decide +kernel, by decide +kernel, by decide +kernel⟩⟩
theorem mi_Mo_kindFor : MI y_Mo_kindFor b_Mo_kindFor 3 (some (.int)) 2 := ⟨k_1069, k_1070, k_7, k_1071, ⟨by decide +kernel, by decide +kernel, by decide +kernel⟩⟩
theorem mi_Mo_seasonFor : MI y_Mo_seasonFor b_Mo_seasonFor 5 (some (.int)) 3 := ⟨k_1073, k_1074, k_7, k_1075, ⟨by decide +kernel, by decide +kernel, by decide +kernel⟩⟩
theorem mi_Mo_firstFor : MI y_Mo_firstFor b_Mo_firstFor 11 (some (.int)) 6 := ⟨k_1078, ks_49, k_7, k_1079, ⟨by decide +kernel, by decide +kernel, by decide +kernel⟩⟩
theorem mi_Mo_bagsFor : MI y_Mo_bagsFor b_Mo_bagsFor 3 (some (.int)) 2 := ⟨k_1081, k_1082, k_7, k_1083, ⟨by decide +kernel, by decide +kernel, by decide +kernel⟩⟩
theorem mi_Mo_leaveOut : MI y_Mo_leaveOut b_Mo_leaveOut 4 (some (.int)) 1 := ⟨k_1085, k_1086, k_7, k_1087, ⟨by decide +kernel, by decide +kernel, by decide +kernel⟩⟩
theorem mi_Mo_bits : MS y_Mo_bits b_Mo_bits 3 (some (.int)) 1 := ⟨k_1089, k_7, k_1090, ⟨by decide +kernel, by decide +kernel, by decide +kernel⟩⟩
theorem mi_Mo_nobodyMeets : MI y_Mo_nobodyMeets b_Mo_nobodyMeets 5 (some (.boolean)) 2 := ⟨k_1093, ks_50, k_7, k_1094, ⟨by decide +kernel, by decide +kernel, by decide +kernel⟩⟩
theorem mi_Mo_fits : MI y_Mo_fits b_Mo_fits 4 (some (.int)) 2 := ⟨k_1096, k_1097, k_7, k_1098, ⟨by decide +kernel, by decide +kernel, by decide +kernel⟩⟩
theorem mi_Mo_lacks : MI y_Mo_lacks b_Mo_lacks 3 (some (.int)) 2 := ⟨k_1101, ks_51, k_7, k_1102, ⟨by decide +kernel, by decide +kernel, by decide +kernel⟩⟩
theorem mi_Mo_isSheet : MS y_Mo_isSheet b_Mo_isSheet 1 (some (.boolean)) 1 := ⟨k_1104, k_7, k_1105, ⟨by decide +kernel, by decide +kernel, by decide +kernel⟩⟩
theorem mi_Mo_fitting : MI y_Mo_fitting b_Mo_fitting 8 (some (.int)) 4 := ⟨k_1109, ks_52, k_7, k_1110, ⟨by decide +kernel, by decide +kernel, by decide +kernel⟩⟩
theorem mi_Mo_isSo : MI y_Mo_isSo b_Mo_isSo 6 (some (.boolean)) 2 := ⟨k_1113, ks_53, k_7, k_1114, ⟨by decide +kernel, by decide +kernel, by decide +kernel⟩⟩
theorem mi_Mo_kinds : MI y_Mo_kinds b_Mo_kinds 4 (some (.int)) 2 := ⟨k_1116, k_1117, k_7, k_1118, ⟨by decide +kernel, by decide +kernel, by decide +kernel⟩⟩
theorem mi_Mo_stroll : MI y_Mo_stroll b_Mo_stroll 5 (some (.int)) 1 := ⟨k_1120, k_1121, k_7, k_1122, ⟨by decide +kernel, by decide +kernel, by decide +kernel⟩⟩
theorem mi_Mo_drawn : MI y_Mo_drawn b_Mo_drawn 1 (some (.int)) 0 := ⟨k_1125, ks_54, k_7, k_1126, ⟨by decide +kernel, by decide +kernel, by decide +kernel⟩⟩
theorem mi_Mo_odds : MI y_Mo_odds b_Mo_odds 10 (some (.long)) 3 := ⟨k_1129, k_1130, k_7, k_1131, ⟨by decide +kernel, by decide +kernel, by decide +kernel⟩⟩
theorem mi_Mo_meetsSomebodyAt : MI y_Mo_meetsSomebodyAt b_Mo_meetsSomebodyAt 7 (some (.boolean)) 2 := ⟨k_1134, ks_55, k_7, k_1135, ⟨by decide +kernel, by decide +kernel, by decide +kernel⟩⟩
theorem mi_Mo_seed : MI y_Mo_seed b_Mo_seed 2 (some (.int)) 1 := ⟨k_1137, k_1138, k_7, k_1139, ⟨by decide +kernel, by decide +kernel, by decide +kernel⟩⟩
theorem mi_Mo_feed : MI y_Mo_feed b_Mo_feed 4 (some (.int)) 2 := ⟨k_1141, k_1142, k_7, k_1143, ⟨by decide +kernel, by decide +kernel, by decide +kernel⟩⟩
theorem mi_Mo_wipe : MI y_Mo_wipe b_Mo_wipe 2 (some (.int)) 0 := ⟨k_1145, k_1146, k_7, k_1147, ⟨by decide +kernel, by decide +kernel, by decide +kernel⟩⟩
theorem mi_Mo_text : MI y_Mo_text b_Mo_text 2 (some (.int)) 0 := ⟨k_1149, k_1150, k_7, k_1151, ⟨by decide +kernel, by decide +kernel, by decide +kernel⟩⟩
theorem mi_Mo_token : MI y_Mo_token b_Mo_token 2 none 0 := ⟨k_1154, ks_56, k_7, k_1155, ⟨by decide +kernel, by decide +kernel, by decide +kernel⟩⟩
theorem mi_Mo_byteAt : MI y_Mo_byteAt b_Mo_byteAt 2 (some (.int)) 1 := ⟨k_1158, ks_57, k_7, k_1159, ⟨by decide +kernel, by decide +kernel, by decide +kernel⟩⟩
theorem mi_Mo_readItem : MI y_Mo_readItem b_Mo_readItem 3 none 0 := ⟨k_1162, ks_58, k_7, k_1163, ⟨by decide +kernel, by decide +kernel, by decide +kernel⟩⟩
theorem mi_Mo_isWord : MI y_Mo_isWord b_Mo_isWord 4 (some (.boolean)) 1 := ⟨k_1166, ks_59, k_7, k_1167, ⟨by decide +kernel, by decide +kernel, by decide +kernel⟩⟩
theorem mi_Mo_readPerson : MI y_Mo_readPerson b_Mo_readPerson 6 none 1 := ⟨k_1172, ks_60, k_7, k_1173, ⟨by decide +kernel, by decide +kernel, by decide +kernel⟩⟩
theorem mi_Mo_must : MI y_Mo_must b_Mo_must 2 none 1 := ⟨k_1176, ks_61, k_7, k_1177, ⟨by decide +kernel, by decide +kernel, by decide +kernel⟩⟩
theorem mi_Mo_number : MI y_Mo_number b_Mo_number 4 (some (.int)) 2 := ⟨k_1180, ks_62, k_7, k_1181, ⟨by decide +kernel, by decide +kernel, by decide +kernel⟩⟩
theorem mi_Mo_takesWord : MI y_Mo_takesWord b_Mo_takesWord 3 (some (.boolean)) 1 := ⟨k_1185, ks_63, k_7, k_1186, ⟨by decide +kernel, by decide +kernel, by decide +kernel⟩⟩
theorem mi_Mo_addItem : MI y_Mo_addItem b_Mo_addItem 8 none 6 := ⟨k_1192, ks_64, k_7, k_1193, ⟨by decide +kernel, by decide +kernel, by decide +kernel⟩⟩
theorem mi_Mo_isToldSo : MI y_Mo_isToldSo b_Mo_isToldSo 5 none 1 := ⟨k_1198, ks_65, k_7, k_1199, ⟨by decide +kernel, by decide +kernel, by decide +kernel⟩⟩
theorem mi_Mo_hold : MI y_Mo_hold b_Mo_hold 3 (some (.int)) 2 := ⟨k_1201, k_1202, k_7, k_1203, ⟨by decide +kernel, by decide +kernel, by decide +kernel⟩⟩
theorem mi_Mo_isSpot : MS y_Mo_isSpot b_Mo_isSpot 1 (some (.boolean)) 1 := ⟨k_1205, k_7, k_1206, ⟨by decide +kernel, by decide +kernel, by decide +kernel⟩⟩
theorem mi_Mo_as : MI y_Mo_as b_Mo_as 4 (some (.int)) 2 := ⟨k_1208, k_1209, k_7, k_1210, ⟨by decide +kernel, by decide +kernel, by decide +kernel⟩⟩
theorem mi_Mo_isUnder : MS y_Mo_isUnder b_Mo_isUnder 3 (some (.boolean)) 2 := ⟨k_1212, k_7, k_1213, ⟨by decide +kernel, by decide +kernel, by decide +kernel⟩⟩
theorem mi_Mo_above : MS y_Mo_above b_Mo_above 1 (some (.int)) 1 := ⟨k_1215, k_7, k_1216, ⟨by decide +kernel, by decide +kernel, by decide +kernel⟩⟩
theorem mi_Mo_sheet : MI y_Mo_sheet b_Mo_sheet 5 (some (.int)) 3 := ⟨k_1219, k_1220, k_7, k_1221, ⟨by decide +kernel, by decide +kernel, by decide +kernel⟩⟩
theorem mi_Mo_write : MI y_Mo_write b_Mo_write 4 (some (.int)) 3 := ⟨k_1224, k_1225, k_7, k_1226, ⟨by decide +kernel, by decide +kernel, by decide +kernel⟩⟩
theorem mi_Mo_cutTo : MS y_Mo_cutTo b_Mo_cutTo 2 (some (.int)) 2 := ⟨k_1228, k_7, k_1229, ⟨by decide +kernel, by decide +kernel, by decide +kernel⟩⟩
theorem mi_Mo_copy : MI y_Mo_copy b_Mo_copy 7 (some (.int)) 5 := ⟨k_1231, k_1232, k_7, k_1233, ⟨by decide +kernel, by decide +kernel, by decide +kernel⟩⟩
theorem mi_Mo_load : MI y_Mo_load b_Mo_load 3 (some (.int)) 1 := ⟨k_1235, k_1236, k_7, k_1237, ⟨by decide +kernel, by decide +kernel, by decide +kernel⟩⟩
theorem mi_Mo_judge : MI y_Mo_judge b_Mo_judge 3 (some (.int)) 1 := ⟨k_1239, k_1240, k_7, k_1241, ⟨by decide +kernel, by decide +kernel, by decide +kernel⟩⟩
theorem mi_Mo_image : MI y_Mo_image b_Mo_image 1 (some (.int)) 0 := ⟨k_1243, k_1244, k_7, k_1245, ⟨by decide +kernel, by decide +kernel, by decide +kernel⟩⟩
theorem mi_Mo_undo : MI y_Mo_undo b_Mo_undo 1 (some (.int)) 0 := ⟨k_1247, k_1248, k_7, k_1249, ⟨by decide +kernel, by decide +kernel, by decide +kernel⟩⟩
theorem mi_Mo_tear : MI y_Mo_tear b_Mo_tear 2 (some (.int)) 0 := ⟨k_1251, k_1252, k_7, k_1253, ⟨by decide +kernel, by decide +kernel, by decide +kernel⟩⟩
theorem mi_Mo_count : MI y_Mo_count b_Mo_count 4 (some (.int)) 1 := ⟨k_1255, k_1256, k_7, k_1257, ⟨by decide +kernel, by decide +kernel, by decide +kernel⟩⟩
theorem mi_Mo_status : MI y_Mo_status b_Mo_status 2 (some (.int)) 1 := ⟨k_1259, k_1260, k_7, k_1261, ⟨by decide +kernel, by decide +kernel, by decide +kernel⟩⟩
end
section
/-! a state: sections of rows of ints; a shape: how many cells, what each holds of its row, which section, which place there -/
abbrev St : Type := Nat → Nat → Int32
abbrev ZT : Type := va_G × (Nat → Nat) × (Nat → ClassId) × (Nat → Nat) × (Nat → Nat) × (Nat → Nat)
abbrev YT : Type := Nat × (ZT → Nat → (Nat → Int32) → va_E) × (Nat → Nat) × (Nat → Nat → Nat)
def up (g : St) (t n : Nat) (v : Int32) : St := va_up g t (upd (g t) n v)
def tr (n : Nat) (f : Nat → Int32) : Nat → Int32 := fun j => if j < n then f j else 0
def sr (Y : YT) (g : St) (k : Nat) : Nat → Int32 := fun j => g (Y.2.2.1 k) (Y.2.2.2 k j)
def sw (Y : YT) (Z : ZT) (g : St) : va_W := (List.range Y.1).map (fun k => (Z.2.1 k, Y.2.1 Z k (sr Y g k)))
def sA (Y : YT) (Z : ZT) : Nat → Prop := fun q => ∃ k, k < Y.1 ∧ q = Z.2.1 k
def sI (Y : YT) (Z : ZT) : Prop := ∀ i j, i < Y.1 → j < Y.1 → Z.2.1 i = Z.2.1 j → i = j
theorem sw_at {Y : YT} {Z : ZT} {g : St} {k : Nat} (h : k < Y.1) : (sw Y Z g)[k]? = some (Z.2.1 k, Y.2.1 Z k (sr Y g k)) := by
  simp [sw, h]
theorem sw_of {Y : YT} {Z : ZT} {g : St} {k : Nat} {q : Nat × va_E} (h : (sw Y Z g)[k]? = some q) : k < Y.1 ∧ q = (Z.2.1 k, Y.2.1 Z k (sr Y g k)) := by
  by_cases hk : k < Y.1
  · rw [sw_at hk] at h
    exact ⟨hk, (Option.some.inj h).symm⟩
  · rw [List.getElem?_eq_none (by simp [sw]; omega)] at h
    cases h
theorem sD {Y : YT} {Z : ZT} (h : sI Y Z) (g : St) : va_D (sA Y Z) (sw Y Z g) := by
  refine ⟨fun i j p q hi hj e => ?_, fun k q hk => ?_⟩
  · obtain ⟨h1, rfl⟩ := sw_of hi
    obtain ⟨h2, rfl⟩ := sw_of hj
    exact h i j h1 h2 e
  · obtain ⟨h1, rfl⟩ := sw_of hk
    exact ⟨k, h1, rfl⟩
/-- place j of cell k has a place of its own in its section -/
def sOk (Y : YT) (k j : Nat) : Prop := ∀ (Z : ZT) (g : St) (v : Int32) (k' : Nat), k' < Y.1 → Y.2.1 Z k' (sr Y (up g (Y.2.2.1 k) (Y.2.2.2 k j) v) k') = if k' = k then Y.2.1 Z k (upd (sr Y g k) j v) else Y.2.1 Z k' (sr Y g k')
theorem sw_set {Y : YT} {Z : ZT} {g : St} {k j : Nat} {v : Int32} (ho : sOk Y k j) (hk : k < Y.1) : (sw Y Z g).set k (Z.2.1 k, Y.2.1 Z k (upd (sr Y g k) j v)) = sw Y Z (up g (Y.2.2.1 k) (Y.2.2.2 k j) v) := by
  apply List.ext_getElem?
  intro i
  by_cases hi : i < Y.1
  · rw [sw_at hi, ho Z g v i hi]
    by_cases h : i = k
    · subst h
      rw [if_pos rfl, List.getElem?_set_self (by simp [sw]; exact hi)]
    · rw [if_neg h, List.getElem?_set_ne (fun e => h e.symm), sw_at hi]
  · rw [List.getElem?_eq_none (by simp [sw]; omega), List.getElem?_eq_none (by simp [sw]; omega)]
/-! what a method finds outside its world: static arrays, words of the nest, text constants -/
def nestF : List (String × Nat × String × String × String × String) := [("TunnelPeace$Person", 67, "TunnelPeace", "MOST_OF", "[I", "TunnelPeace"), ("TunnelPeace$Forecast", 56, "TunnelPeace", "MOST_OF", "[I", "TunnelPeace"), ("TunnelPeace$Tunnel", 122, "TunnelPeace", "MOST_OF", "[I", "TunnelPeace"), ("TunnelPeace$Tape", 110, "TunnelPeace", "MOST_OF", "[I", "TunnelPeace"), ("TunnelPeace$Person", 38, "TunnelPeace", "KIND_ABOVE", "[I", "TunnelPeace"), ("TunnelPeace$Sheet", 28, "TunnelPeace", "MOST_OF", "[I", "TunnelPeace")]
def nestM : List (String × Nat × MethodName × String) := [("TunnelPeace$Tunnel", 37, y_Pe_init, "TunnelPeace"), ("TunnelPeace", 37, y_Ta_init, "TunnelPeace"), ("TunnelPeace", 52, y_Sh_init, "TunnelPeace"), ("TunnelPeace$Person", 34, y_TP_within, "TunnelPeace"), ("TunnelPeace$Sheet", 31, y_TP_within, "TunnelPeace")]
def eMost : Nat → Value := fun j => .int (([6, 1, 15, 99, 9, 9999] : List Int32).getD j 0)
def eAbove : Nat → Value := fun j => .int (([-1, 0, 0, 2, 3, 0, 1] : List Int32).getD j 0)
def txLen : List Nat := [5, 4, 8, 7, 7, 7, 5, 5, 6, 2, 6, 4, 3]
def txByt : List (List Int32) := [[112, 108, 97, 99, 101], [103, 117, 110, 115], [109, 101, 114, 99, 104, 97, 110, 116], [115, 111, 108, 100, 105, 101, 114], [103, 101, 110, 101, 114, 97, 108], [109, 97, 114, 115, 104, 97, 108], [99, 104, 105, 108, 100], [98, 114, 105, 100, 101], [119, 97, 108, 107, 101, 114], [97, 116], [115, 101, 97, 115, 111, 110], [98, 97, 103, 115], [109, 101, 116]]
def txRef : List (String × Nat × String × Nat) := [("TunnelPeace$Tape", 25, "place", 0), ("TunnelPeace$Tape", 35, "guns", 1), ("TunnelPeace$Tape", 96, "merchant", 2), ("TunnelPeace$Tape", 98, "soldier", 3), ("TunnelPeace$Tape", 100, "general", 4), ("TunnelPeace$Tape", 102, "marshal", 5), ("TunnelPeace$Tape", 104, "child", 6), ("TunnelPeace$Tape", 106, "bride", 7), ("TunnelPeace$Tape", 108, "walker", 8), ("TunnelPeace$Tape", 80, "at", 9), ("TunnelPeace$Tape", 86, "season", 10), ("TunnelPeace$Tape", 88, "bags", 11), ("TunnelPeace$Tape", 90, "met", 12), ("TunnelPeaceModel", 27, "walker", 8), ("TunnelPeaceModel", 29, "merchant", 2), ("TunnelPeaceModel", 31, "soldier", 3), ("TunnelPeaceModel", 33, "general", 4), ("TunnelPeaceModel", 35, "marshal", 5), ("TunnelPeaceModel", 37, "child", 6), ("TunnelPeaceModel", 39, "bride", 7), ("TunnelPeaceModel", 283, "at", 9), ("TunnelPeaceModel", 288, "season", 10), ("TunnelPeaceModel", 290, "bags", 11), ("TunnelPeaceModel", 292, "met", 12), ("TunnelPeaceModel", 301, "place", 0), ("TunnelPeaceModel", 303, "guns", 1)]
def tS (adK adV : Nat → Nat) (A : Nat → Prop) (U : State) (H : Heap) : Prop := ∀ i : Nat, i < 13 → va_O "java/lang/String" (adK i) A U H ∧ va_OF "java/lang/String" "coder" "B" (.int 0) (adK i) A U H ∧ va_OF "java/lang/String" "value" "[B" (.ref (adV i)) (adK i) A U H ∧ va_T .byte (adV i) (txLen.getD i 0) (fun j => .int ((txByt.getD i []).getD j 0)) A U H
def EnvF (A : Nat → Prop) (Z : ZT) (U : State) (H : Heap) : Prop :=
  va_Z "TunnelPeace" "MOST_OF" "[I" (.ref (Z.2.2.2.1 0)) A U H ∧ va_T .int (Z.2.2.2.1 0) 6 eMost A U H ∧
  va_Z "TunnelPeace" "KIND_ABOVE" "[I" (.ref (Z.2.2.2.1 1)) A U H ∧ va_T .int (Z.2.2.2.1 1) 7 eAbove A U H ∧
  va_Z "java/lang/String" "COMPACT_STRINGS" "Z" (.int 1) A U H ∧ va_Zq "jdk/internal/util/Preconditions" "SIOOBE_FORMATTER" "Ljava/util/function/BiFunction;" A U H ∧
  (∀ q ∈ nestF, va_Nw (.fieldLinkNest q.1 q.2.1 q.2.2.1 q.2.2.2.1 q.2.2.2.2.1 q.2.2.2.2.2) U) ∧ (∀ q ∈ nestM, va_Nw (.methodLinkNest q.1 q.2.1 q.2.2.1 q.2.2.2) U) ∧
  tS Z.2.2.2.2.1 Z.2.2.2.2.2 A U H ∧ ∀ q ∈ txRef, vk_R q.1 q.2.1 q.2.2.1 (Z.2.2.2.2.1 q.2.2.2) U
theorem EnvF.kept {A : Nat → Prop} {Z : ZT} {U : State} {H H1 : Heap} (h : EnvF A Z U H) (hq : ∀ a : Nat, a < H.size → ¬ A a → H1[a]? = H[a]?) : EnvF A Z U H1 := by
  obtain ⟨h1, h2, h3, h4, h5, h6, h7, h8, h9, h10⟩ := h
  exact ⟨h1.kept hq, h2.kept hq, h3.kept hq, h4.kept hq, h5.kept hq, h6.kept hq, h7, h8, fun i hi => ⟨(h9 i hi).1.kept hq, (h9 i hi).2.1.kept hq, (h9 i hi).2.2.1.kept hq, (h9 i hi).2.2.2.kept hq⟩, h10⟩
theorem EnvF.narrow {A B : Nat → Prop} {Z : ZT} {U : State} {H : Heap} (h : EnvF A Z U H) (hq : ∀ q, B q → A q) : EnvF B Z U H := by
  obtain ⟨h1, h2, h3, h4, h5, h6, h7, h8, h9, h10⟩ := h
  exact ⟨h1.narrow hq, h2.narrow hq, h3.narrow hq, h4.narrow hq, h5.narrow hq, h6.narrow hq, h7, h8, fun i hi => ⟨(h9 i hi).1.narrow hq, (h9 i hi).2.1.narrow hq, (h9 i hi).2.2.1.narrow hq, (h9 i hi).2.2.2.narrow hq⟩, h10⟩
theorem EnvF.warm {A : Nat → Prop} {Z : ZT} {s U : State} {H : Heap} (hW : s.WarmedH U.vm) (h : EnvF A Z s H) : EnvF A Z U H := by
  obtain ⟨h1, h2, h3, h4, h5, h6, h7, h8, h9, h10⟩ := h
  have ha := hW.alike
  exact ⟨h1.moved ha, h2.moved ha, h3.moved ha, h4.moved ha, h5.moved ha, h6.moved ha, fun q hq => va_Nw.warmF hW (h7 q hq), fun q hq => va_Nw.warmM hW (h8 q hq), fun i hi => ⟨va_O.moved ha (h9 i hi).1, va_OF.moved ha (h9 i hi).2.1, va_OF.moved ha (h9 i hi).2.2.1, va_T.moved ha (h9 i hi).2.2.2⟩, fun q hq => vk_R.warm hW (h10 q hq)⟩
theorem EnvF.same {A : Nat → Prop} {Z : ZT} {u U : State} {H : Heap} (hv : U.vm = u.vm) (h : EnvF A Z u H) : EnvF A Z U H := by
  obtain ⟨h1, h2, h3, h4, h5, h6, h7, h8, h9, h10⟩ := h
  have ha : u.vm.Alike U.vm := by rw [hv]; exact Vm.Alike.refl u.vm
  exact ⟨h1.moved ha, h2.moved ha, h3.moved ha, h4.moved ha, h5.moved ha, h6.moved ha, fun q hq => va_Nw.same rfl hv.symm (h7 q hq), fun q hq => va_Nw.same rfl hv.symm (h8 q hq), fun i hi => ⟨va_O.moved ha (h9 i hi).1, va_OF.moved ha (h9 i hi).2.1, va_OF.moved ha (h9 i hi).2.2.1, va_T.moved ha (h9 i hi).2.2.2⟩, fun q hq => vk_R.same hv (h10 q hq)⟩
abbrev tys (Z : ZT) : List (ClassId × FieldType) := [(Z.2.2.1 0, .int), (Z.2.2.1 1, .byte), (Z.2.2.1 2, .object "TunnelPeace$Person"), (Z.2.2.1 3, .object "TunnelPeace$Sheet"), (Z.2.2.1 4, .object "java/lang/String")]
def SysAt (Y : YT) (Z : ZT) (g : St) (U : State) : Prop := va_P Z.1 cls (sw Y Z g) U.heap ∧ va_K Z.1 cls (tys Z) U ∧ sI Y Z ∧ EnvF (sA Y Z) Z U U.heap

theorem SysAt.blind {Y : YT} {Z : ZT} {g : St} {av : List Value} : FrameBlind (va_Pc av (fun U => SysAt Y Z g U)) := fun a U f mk q => by
  obtain ⟨q0, qP, qK, qI, qE⟩ := q
  exact ⟨q0, qP, va_K.moved (u := U) (U := U.calling f mk a) (Vm.Alike.refl U.vm) qK, qI, EnvF.same (u := U) (U := U.calling f mk a) rfl qE⟩
/-! the machine at a place of a method: program, launch, environment, room, start, method, arguments, below, method, code -/
abbrev XT : Type := Program × Launch × Env × Room × State × MethodId × Array Value × List Frame × Method × Code
def CX (X : XT) (nL : Nat) (Y : YT) (Z : ZT) (cc : ByteArray) (own : String) (ret : Option FieldType) (F L : Nat) : Prop :=
  match X with
  | (p, l, e, R, s, m, args, below, meth, c) => p.tables.exec = Jvm.exec ∧ c.code = cc ∧ c.maxLocals = nL ∧ s.vm.findClass own = some m.cls ∧ (∀ w ∈ TT, w.before args s = true) ∧ meth.sig.returnType = ret ∧ meth.locks = false ∧ F ≤ R.frames ∧ L ≤ R.locals ∧ va_K Z.1 cls (tys Z) s ∧ sI Y Z ∧ EnvF (sA Y Z) Z s s.heap
def WX (X : XT) (nL : Nat) (Y : YT) (Z : ZT) (Q : State → Prop) (g : St) (pc : Nat) (lv : List (Nat × Value)) (st : List Value) : Prop :=
  match X with
  | (p, l, e, R, s, m, args, below, meth, c) => ∀ (H : Heap) (locs : List Loc) (ls : Array Slot), va_P Z.1 cls (sw Y Z g) H → va_S (sA Y Z) s.heap H locs → lv_has ls nL lv → W p l e R s m args below meth c H locs 0 0 Q (F0 m pc ls st)
def QcI (Y : YT) (Z : ZT) (r : Int32) (g' : St) : Array Value → State → Outcome → State → Prop := va_Qi (fun (x : Int32) (u : St) => x = r ∧ u = g') (fun u t => va_P Z.1 cls (sw Y Z u) t.heap) (sA Y Z)
def QcL (Y : YT) (Z : ZT) (r : Int64) (g' : St) : Array Value → State → Outcome → State → Prop := va_Ql (fun (x : Int64) (u : St) => x = r ∧ u = g') (fun u t => va_P Z.1 cls (sw Y Z u) t.heap) (sA Y Z)
def QcV (Y : YT) (Z : ZT) (g' : St) : Array Value → State → Outcome → State → Prop := va_Qv (fun (u : St) => u = g') (fun u t => va_P Z.1 cls (sw Y Z u) t.heap) (sA Y Z)
def QcR (Y : YT) (Z : ZT) (r : Nat) (g' : St) : Array Value → State → Outcome → State → Prop := va_Qr (fun (u : St) => u = g') (fun u a t => a = r ∧ va_P Z.1 cls (sw Y Z u) t.heap) (sA Y Z)
def QX (X : XT) (Y : YT) (Z : ZT) (Qc : Array Value → State → Outcome → State → Prop) : State → Prop :=
  match X with
  | (_, _, _, _, s, _, args, below, _, _) => MQ below Qc args s 0 0 (sA Y Z)
/-- a contract: any launch, any caller; from the state g with these arguments -/
def CT (Y : YT) (Z : ZT) (y : MethodName) (cc : ByteArray) (maxL : Nat) (ret : Option FieldType) (F L : Nat) (av : List Value) (g : St) (Qc : Array Value → State → Outcome → State → Prop) : Prop :=
  ∀ l : Launch, Met l y (Cond.code y cc maxL ret :: TT) { frames := F, cells := 0, slots := 0, locals := L } (va_Pc av (fun U => SysAt Y Z g U)) Qc 0 0 (sA Y Z)
theorem CT.mk {Y : YT} {Z : ZT} {y : MethodName} {cc : ByteArray} {maxL : Nat} {ret : Option FieldType} {F L : Nat} {av : List Value} {g : St} {Qc : Array Value → State → Outcome → State → Prop} (own : String) (hy : plainName y.cls = true) (ho : y.cls = own) (hn : (lg_sl av).length ≤ maxL)
    (body : ∀ X : XT, CX X maxL Y Z cc own ret F L → WX X maxL Y Z (QX X Y Z Qc) g 0 (lv_args 0 av) []) : CT Y Z y cc maxL ret F L av g Qc := by
  intro l
  refine Met.ofW (cc := cc) (maxL := maxL) (ret := ret) hy rfl ?_
  intro p e s m args below meth c s₁ B hml hv
  obtain ⟨rfl, hP, hK, hI, hE⟩ := hv
  have hts := atoms_spec (ws := Cond.code y cc maxL ret :: TT) B.pre
  have hown : s.vm.findClass own = some m.cls := by rw [← ho]; exact findClass_of_methodNamed B.named
  rw [lg_entry_eq]
  exact body (p, l, e, _, s, m, av.toArray, below, meth, c) ⟨B.exec, B.bytes, hml, hown, fun w hw => hts w (List.mem_cons_of_mem _ hw), B.returns, B.notSynchronized, Nat.le_refl _, Nat.le_refl _, hK, hI, hE⟩ s.heap [] _ hP va_S.rf (lv_entry av hn)
end
section
section Rows
variable {X : XT} {Y : YT} {Z : ZT} {Q : State → Prop} {g : St} {pc : Nat} {lv lv' : List (Nat × Value)} {st : List Value} {cc : ByteArray} {own : String} {ret : Option FieldType} {F L nL : Nat}

theorem x_iconst (C : CX X nL Y Z cc own ret F L) {n : Int} {v : Int32} (hd : decode cc pc = .ok (.iconst n, 1)) (hv : Int32.ofInt n = v) (k : WX X nL Y Z Q g (pc + 1) lv (.int v :: st)) : WX X nL Y Z Q g pc lv (st) := by
  obtain ⟨p, l, e, R, s, m, args, below, meth, c⟩ := X
  exact fun H locs ls hP hS hl => lv_iconst C.1 C.2.1 hd hv (k H locs ls hP hS hl)
theorem x_bipush (C : CX X nL Y Z cc own ret F L) {n : Int} {v : Int32} (hd : decode cc pc = .ok (.bipush n, 2)) (hv : (Int8.ofInt n).toInt32 = v) (k : WX X nL Y Z Q g (pc + 2) lv (.int v :: st)) : WX X nL Y Z Q g pc lv (st) := by
  obtain ⟨p, l, e, R, s, m, args, below, meth, c⟩ := X
  exact fun H locs ls hP hS hl => lv_bipush C.1 C.2.1 hd hv (k H locs ls hP hS hl)
theorem x_sipush (C : CX X nL Y Z cc own ret F L) {n : Int} {v : Int32} (hd : decode cc pc = .ok (.sipush n, 3)) (hv : (Int16.ofInt n).toInt32 = v) (k : WX X nL Y Z Q g (pc + 3) lv (.int v :: st)) : WX X nL Y Z Q g pc lv (st) := by
  obtain ⟨p, l, e, R, s, m, args, below, meth, c⟩ := X
  exact fun H locs ls hP hS hl => lv_sipush C.1 C.2.1 hd hv (k H locs ls hP hS hl)
theorem x_lconst (C : CX X nL Y Z cc own ret F L) {n : Fin 2} {v : Int64} (hd : decode cc pc = .ok (.lconst n, 1)) (hv : Int64.ofNat (n : Nat) = v) (k : WX X nL Y Z Q g (pc + 1) lv (.long v :: st)) : WX X nL Y Z Q g pc lv (st) := by
  obtain ⟨p, l, e, R, s, m, args, below, meth, c⟩ := X
  exact fun H locs ls hP hS hl => lv_lconst C.1 C.2.1 hd hv (k H locs ls hP hS hl)
theorem x_ldc (C : CX X nL Y Z cc own ret F L) {index : Nat} {v : Int32} (hd : decode cc pc = .ok (.ldc index, 2)) (hw : Cond.constant own index v ∈ TT) (k : WX X nL Y Z Q g (pc + 2) lv (.int v :: st)) : WX X nL Y Z Q g pc lv (st) := by
  obtain ⟨p, l, e, R, s, m, args, below, meth, c⟩ := X
  exact fun H locs ls hP hS hl => lv_ldc C.1 C.2.1 C.2.2.2.1 (C.2.2.2.2.1 _ hw) hd (k H locs ls hP hS hl)
theorem x_ldcw (C : CX X nL Y Z cc own ret F L) {index : Nat} {v : Int32} (hd : decode cc pc = .ok (.ldc_w index, 3)) (hw : Cond.constant own index v ∈ TT) (k : WX X nL Y Z Q g (pc + 3) lv (.int v :: st)) : WX X nL Y Z Q g pc lv (st) := by
  obtain ⟨p, l, e, R, s, m, args, below, meth, c⟩ := X
  exact fun H locs ls hP hS hl => lv_ldcw C.1 C.2.1 C.2.2.2.1 (C.2.2.2.2.1 _ hw) hd (k H locs ls hP hS hl)
theorem x_iload (C : CX X nL Y Z cc own ret F L) {i : Nat} {x : Int32} (hd : decode cc pc = .ok (.iload i, 2)) (j : Nat)   (hj : lv[j]? = some (i, .int x)) (k : WX X nL Y Z Q g (pc + 2) lv (.int x :: st)) : WX X nL Y Z Q g pc lv (st) := by
  obtain ⟨p, l, e, R, s, m, args, below, meth, c⟩ := X
  exact fun H locs ls hP hS hl => lv_iload C.1 C.2.1 hd (lv_at hl j hj) (k H locs ls hP hS hl)
theorem x_iload_n (C : CX X nL Y Z cc own ret F L) {k0 : Fin 4} {i : Nat} {x : Int32} (hd : decode cc pc = .ok (.iload_n k0, 1)) (j : Nat)    (hi : (k0 : Nat) = i) (hj : lv[j]? = some (i, .int x)) (k : WX X nL Y Z Q g (pc + 1) lv (.int x :: st)) : WX X nL Y Z Q g pc lv (st) := by
  obtain ⟨p, l, e, R, s, m, args, below, meth, c⟩ := X
  exact fun H locs ls hP hS hl => lv_iload_n C.1 C.2.1 hd hi (lv_at hl j hj) (k H locs ls hP hS hl)
theorem x_istore (C : CX X nL Y Z cc own ret F L) {i : Nat} {x : Int32}  (hd : decode cc pc = .ok (.istore i, 2)) (hn : i < nL) (hl : (i, Value.int x) :: lv.filter (fun q => !(q.1 == i) && !(q.1 + 1 == i && q.2.category == 2)) = lv') (k : WX X nL Y Z Q g (pc + 2) lv' st) : WX X nL Y Z Q g pc lv (.int x :: st) := by
  obtain ⟨p, l, e, R, s, m, args, below, meth, c⟩ := X
  exact fun H locs ls hP hS h => lv_istore C.1 C.2.1 hd h hn hl (fun ls' h' => k H locs ls' hP hS h')
theorem x_istore_n (C : CX X nL Y Z cc own ret F L) {i : Nat} {x : Int32} {k0 : Fin 4} (hd : decode cc pc = .ok (.istore_n k0, 1)) (hi : (k0 : Nat) = i) (hn : i < nL) (hl : (i, Value.int x) :: lv.filter (fun q => !(q.1 == i) && !(q.1 + 1 == i && q.2.category == 2)) = lv') (k : WX X nL Y Z Q g (pc + 1) lv' st) : WX X nL Y Z Q g pc lv (.int x :: st) := by
  obtain ⟨p, l, e, R, s, m, args, below, meth, c⟩ := X
  exact fun H locs ls hP hS h => lv_istore_n C.1 C.2.1 hd hi h hn hl (fun ls' h' => k H locs ls' hP hS h')
theorem x_lload (C : CX X nL Y Z cc own ret F L) {i : Nat} {x : Int64} (hd : decode cc pc = .ok (.lload i, 2)) (j : Nat)   (hj : lv[j]? = some (i, .long x)) (k : WX X nL Y Z Q g (pc + 2) lv (.long x :: st)) : WX X nL Y Z Q g pc lv (st) := by
  obtain ⟨p, l, e, R, s, m, args, below, meth, c⟩ := X
  exact fun H locs ls hP hS hl => lv_lload C.1 C.2.1 hd (lv_at hl j hj) (k H locs ls hP hS hl)
theorem x_lload_n (C : CX X nL Y Z cc own ret F L) {k0 : Fin 4} {i : Nat} {x : Int64} (hd : decode cc pc = .ok (.lload_n k0, 1)) (j : Nat)    (hi : (k0 : Nat) = i) (hj : lv[j]? = some (i, .long x)) (k : WX X nL Y Z Q g (pc + 1) lv (.long x :: st)) : WX X nL Y Z Q g pc lv (st) := by
  obtain ⟨p, l, e, R, s, m, args, below, meth, c⟩ := X
  exact fun H locs ls hP hS hl => lv_lload_n C.1 C.2.1 hd hi (lv_at hl j hj) (k H locs ls hP hS hl)
theorem x_lstore (C : CX X nL Y Z cc own ret F L) {i : Nat} {x : Int64}  (hd : decode cc pc = .ok (.lstore i, 2)) (hn : i + 1 < nL) (hl : (i, Value.long x) :: lv.filter (fun q => !(q.1 == i) && (!(q.1 == i + 1) && !(q.1 + 1 == i && q.2.category == 2))) = lv') (k : WX X nL Y Z Q g (pc + 2) lv' st) : WX X nL Y Z Q g pc lv (.long x :: st) := by
  obtain ⟨p, l, e, R, s, m, args, below, meth, c⟩ := X
  exact fun H locs ls hP hS h => lv_lstore C.1 C.2.1 hd h hn hl (fun ls' h' => k H locs ls' hP hS h')
theorem x_lstore_n (C : CX X nL Y Z cc own ret F L) {i : Nat} {x : Int64} {k0 : Fin 4} (hd : decode cc pc = .ok (.lstore_n k0, 1)) (hi : (k0 : Nat) = i) (hn : i + 1 < nL) (hl : (i, Value.long x) :: lv.filter (fun q => !(q.1 == i) && (!(q.1 == i + 1) && !(q.1 + 1 == i && q.2.category == 2))) = lv') (k : WX X nL Y Z Q g (pc + 1) lv' st) : WX X nL Y Z Q g pc lv (.long x :: st) := by
  obtain ⟨p, l, e, R, s, m, args, below, meth, c⟩ := X
  exact fun H locs ls hP hS h => lv_lstore_n C.1 C.2.1 hd hi h hn hl (fun ls' h' => k H locs ls' hP hS h')
theorem x_aload (C : CX X nL Y Z cc own ret F L) {i : Nat} {x : Nat} (hd : decode cc pc = .ok (.aload i, 2)) (j : Nat)   (hj : lv[j]? = some (i, .ref x)) (k : WX X nL Y Z Q g (pc + 2) lv (.ref x :: st)) : WX X nL Y Z Q g pc lv (st) := by
  obtain ⟨p, l, e, R, s, m, args, below, meth, c⟩ := X
  exact fun H locs ls hP hS hl => lv_aload C.1 C.2.1 hd (lv_at hl j hj) (k H locs ls hP hS hl)
theorem x_aload_n (C : CX X nL Y Z cc own ret F L) {k0 : Fin 4} {i : Nat} {x : Nat} (hd : decode cc pc = .ok (.aload_n k0, 1)) (j : Nat)    (hi : (k0 : Nat) = i) (hj : lv[j]? = some (i, .ref x)) (k : WX X nL Y Z Q g (pc + 1) lv (.ref x :: st)) : WX X nL Y Z Q g pc lv (st) := by
  obtain ⟨p, l, e, R, s, m, args, below, meth, c⟩ := X
  exact fun H locs ls hP hS hl => lv_aload_n C.1 C.2.1 hd hi (lv_at hl j hj) (k H locs ls hP hS hl)
theorem x_astore (C : CX X nL Y Z cc own ret F L) {i : Nat} {x : Nat}  (hd : decode cc pc = .ok (.astore i, 2)) (hn : i < nL) (hl : (i, Value.ref x) :: lv.filter (fun q => !(q.1 == i) && !(q.1 + 1 == i && q.2.category == 2)) = lv') (k : WX X nL Y Z Q g (pc + 2) lv' st) : WX X nL Y Z Q g pc lv (.ref x :: st) := by
  obtain ⟨p, l, e, R, s, m, args, below, meth, c⟩ := X
  exact fun H locs ls hP hS h => lv_astore C.1 C.2.1 hd h hn hl (fun ls' h' => k H locs ls' hP hS h')
theorem x_astore_n (C : CX X nL Y Z cc own ret F L) {i : Nat} {x : Nat} {k0 : Fin 4} (hd : decode cc pc = .ok (.astore_n k0, 1)) (hi : (k0 : Nat) = i) (hn : i < nL) (hl : (i, Value.ref x) :: lv.filter (fun q => !(q.1 == i) && !(q.1 + 1 == i && q.2.category == 2)) = lv') (k : WX X nL Y Z Q g (pc + 1) lv' st) : WX X nL Y Z Q g pc lv (.ref x :: st) := by
  obtain ⟨p, l, e, R, s, m, args, below, meth, c⟩ := X
  exact fun H locs ls hP hS h => lv_astore_n C.1 C.2.1 hd hi h hn hl (fun ls' h' => k H locs ls' hP hS h')
theorem x_iinc (C : CX X nL Y Z cc own ret F L) {i : Nat} {n : Int} {x v : Int32} (hd : decode cc pc = .ok (.iinc i n, 3)) (j : Nat) (hj : lv[j]? = some (i, .int x)) (hv : x + Int32.ofInt n = v) (hn : i < nL) (hl : (i, Value.int v) :: lv.filter (fun q => !(q.1 == i) && !(q.1 + 1 == i && q.2.category == 2)) = lv') (k : WX X nL Y Z Q g (pc + 3) lv' st) : WX X nL Y Z Q g pc lv st := by
  obtain ⟨p, l, e, R, s, m, args, below, meth, c⟩ := X
  exact fun H locs ls hP hS h => lv_iinc C.1 C.2.1 hd h hj hv hn hl (fun ls' h' => k H locs ls' hP hS h')
theorem x_iadd (C : CX X nL Y Z cc own ret F L) {x y : Int32} (hd : decode cc pc = .ok (.iadd, 1))  (k : WX X nL Y Z Q g (pc + 1) lv (.int (x + y) :: st)) : WX X nL Y Z Q g pc lv (.int y :: .int x :: st) := by
  obtain ⟨p, l, e, R, s, m, args, below, meth, c⟩ := X
  exact fun H locs ls hP hS hl => lv_iadd C.1 C.2.1 hd (k H locs ls hP hS hl)
theorem x_isub (C : CX X nL Y Z cc own ret F L) {x y : Int32} (hd : decode cc pc = .ok (.isub, 1))  (k : WX X nL Y Z Q g (pc + 1) lv (.int (x - y) :: st)) : WX X nL Y Z Q g pc lv (.int y :: .int x :: st) := by
  obtain ⟨p, l, e, R, s, m, args, below, meth, c⟩ := X
  exact fun H locs ls hP hS hl => lv_isub C.1 C.2.1 hd (k H locs ls hP hS hl)
theorem x_imul (C : CX X nL Y Z cc own ret F L) {x y : Int32} (hd : decode cc pc = .ok (.imul, 1))  (k : WX X nL Y Z Q g (pc + 1) lv (.int (x * y) :: st)) : WX X nL Y Z Q g pc lv (.int y :: .int x :: st) := by
  obtain ⟨p, l, e, R, s, m, args, below, meth, c⟩ := X
  exact fun H locs ls hP hS hl => lv_imul C.1 C.2.1 hd (k H locs ls hP hS hl)
theorem x_iand (C : CX X nL Y Z cc own ret F L) {x y : Int32} (hd : decode cc pc = .ok (.iand, 1))  (k : WX X nL Y Z Q g (pc + 1) lv (.int (x &&& y) :: st)) : WX X nL Y Z Q g pc lv (.int y :: .int x :: st) := by
  obtain ⟨p, l, e, R, s, m, args, below, meth, c⟩ := X
  exact fun H locs ls hP hS hl => lv_iand C.1 C.2.1 hd (k H locs ls hP hS hl)
theorem x_ior (C : CX X nL Y Z cc own ret F L) {x y : Int32} (hd : decode cc pc = .ok (.ior, 1))  (k : WX X nL Y Z Q g (pc + 1) lv (.int (x ||| y) :: st)) : WX X nL Y Z Q g pc lv (.int y :: .int x :: st) := by
  obtain ⟨p, l, e, R, s, m, args, below, meth, c⟩ := X
  exact fun H locs ls hP hS hl => lv_ior C.1 C.2.1 hd (k H locs ls hP hS hl)
theorem x_ishl (C : CX X nL Y Z cc own ret F L) {x y : Int32} (hd : decode cc pc = .ok (.ishl, 1))  (k : WX X nL Y Z Q g (pc + 1) lv (.int (x <<< (y &&& 31)) :: st)) : WX X nL Y Z Q g pc lv (.int y :: .int x :: st) := by
  obtain ⟨p, l, e, R, s, m, args, below, meth, c⟩ := X
  exact fun H locs ls hP hS hl => lv_ishl C.1 C.2.1 hd (k H locs ls hP hS hl)
theorem x_ishr (C : CX X nL Y Z cc own ret F L) {x y : Int32} (hd : decode cc pc = .ok (.ishr, 1))  (k : WX X nL Y Z Q g (pc + 1) lv (.int (x >>> (y &&& 31)) :: st)) : WX X nL Y Z Q g pc lv (.int y :: .int x :: st) := by
  obtain ⟨p, l, e, R, s, m, args, below, meth, c⟩ := X
  exact fun H locs ls hP hS hl => lv_ishr C.1 C.2.1 hd (k H locs ls hP hS hl)
theorem x_idiv (C : CX X nL Y Z cc own ret F L) {x y : Int32} (hd : decode cc pc = .ok (.idiv, 1)) (hy : ¬ y = 0) (k : WX X nL Y Z Q g (pc + 1) lv (.int (x / y) :: st)) : WX X nL Y Z Q g pc lv (.int y :: .int x :: st) := by
  obtain ⟨p, l, e, R, s, m, args, below, meth, c⟩ := X
  exact fun H locs ls hP hS hl => lv_idiv C.1 C.2.1 hd hy (k H locs ls hP hS hl)
theorem x_irem (C : CX X nL Y Z cc own ret F L) {x y : Int32} (hd : decode cc pc = .ok (.irem, 1)) (hy : ¬ y = 0) (k : WX X nL Y Z Q g (pc + 1) lv (.int (x - x / y * y) :: st)) : WX X nL Y Z Q g pc lv (.int y :: .int x :: st) := by
  obtain ⟨p, l, e, R, s, m, args, below, meth, c⟩ := X
  exact fun H locs ls hP hS hl => lv_irem C.1 C.2.1 hd hy (k H locs ls hP hS hl)
theorem x_ladd (C : CX X nL Y Z cc own ret F L) {x y : Int64} (hd : decode cc pc = .ok (.ladd, 1))  (k : WX X nL Y Z Q g (pc + 1) lv (.long (x + y) :: st)) : WX X nL Y Z Q g pc lv (.long y :: .long x :: st) := by
  obtain ⟨p, l, e, R, s, m, args, below, meth, c⟩ := X
  exact fun H locs ls hP hS hl => lv_ladd C.1 C.2.1 hd (k H locs ls hP hS hl)
theorem x_lmul (C : CX X nL Y Z cc own ret F L) {x y : Int64} (hd : decode cc pc = .ok (.lmul, 1))  (k : WX X nL Y Z Q g (pc + 1) lv (.long (x * y) :: st)) : WX X nL Y Z Q g pc lv (.long y :: .long x :: st) := by
  obtain ⟨p, l, e, R, s, m, args, below, meth, c⟩ := X
  exact fun H locs ls hP hS hl => lv_lmul C.1 C.2.1 hd (k H locs ls hP hS hl)
theorem x_iushr (C : CX X nL Y Z cc own ret F L) {x y : Int32} (hd : decode cc pc = .ok (.iushr, 1))  (k : WX X nL Y Z Q g (pc + 1) lv (.int ((x.toUInt32 >>> (y.toUInt32 &&& Int32.toUInt32 31)).toInt32) :: st)) : WX X nL Y Z Q g pc lv (.int y :: .int x :: st) := by
  obtain ⟨p, l, e, R, s, m, args, below, meth, c⟩ := X
  exact fun H locs ls hP hS hl => lv_iushr C.1 C.2.1 hd rfl (k H locs ls hP hS hl)
theorem x_i2b (C : CX X nL Y Z cc own ret F L) {x : Int32} (hd : decode cc pc = .ok (.i2b, 1))  (k : WX X nL Y Z Q g (pc + 1) lv (.int (x.toInt8.toInt32) :: st)) : WX X nL Y Z Q g pc lv (.int x :: st) := by
  obtain ⟨p, l, e, R, s, m, args, below, meth, c⟩ := X
  exact fun H locs ls hP hS hl => lv_i2b C.1 C.2.1 hd rfl (k H locs ls hP hS hl)
theorem x_i2s (C : CX X nL Y Z cc own ret F L) {x : Int32} (hd : decode cc pc = .ok (.i2s, 1))  (k : WX X nL Y Z Q g (pc + 1) lv (.int (x.toInt16.toInt32) :: st)) : WX X nL Y Z Q g pc lv (.int x :: st) := by
  obtain ⟨p, l, e, R, s, m, args, below, meth, c⟩ := X
  exact fun H locs ls hP hS hl => lv_i2s C.1 C.2.1 hd rfl (k H locs ls hP hS hl)
theorem x_i2l (C : CX X nL Y Z cc own ret F L) {x : Int32} (hd : decode cc pc = .ok (.i2l, 1))  (k : WX X nL Y Z Q g (pc + 1) lv (.long (x.toInt64) :: st)) : WX X nL Y Z Q g pc lv (.int x :: st) := by
  obtain ⟨p, l, e, R, s, m, args, below, meth, c⟩ := X
  exact fun H locs ls hP hS hl => lv_i2l C.1 C.2.1 hd rfl (k H locs ls hP hS hl)
theorem x_dup (C : CX X nL Y Z cc own ret F L) {v : Value} (hd : decode cc pc = .ok (.dup, 1)) (hv : v.category = 1) (k : WX X nL Y Z Q g (pc + 1) lv (v :: v :: st)) : WX X nL Y Z Q g pc lv (v :: st) := by
  obtain ⟨p, l, e, R, s, m, args, below, meth, c⟩ := X
  exact fun H locs ls hP hS hl => lv_dup C.1 C.2.1 hd hv (k H locs ls hP hS hl)
theorem x_goto (C : CX X nL Y Z cc own ret F L) {off : Int} (hd : decode cc pc = .ok (.goto off, 3)) (tgt : Nat) (ht : (pc : Int) + off = (tgt : Int)) (k : WX X nL Y Z Q g tgt lv st) : WX X nL Y Z Q g pc lv st := by
  obtain ⟨p, l, e, R, s, m, args, below, meth, c⟩ := X
  exact fun H locs ls hP hS hl => lv_goto C.1 C.2.1 hd ht (k H locs ls hP hS hl)
theorem x_icmp_eq (C : CX X nL Y Z cc own ret F L) {off : Int} {x y : Int32} (hd : decode cc pc = .ok (.if_icmp .eq off, 3)) (tgt : Nat) (ht : (pc : Int) + off = (tgt : Int)) (kt : x = y → WX X nL Y Z Q g tgt lv st) (kf : ¬ x = y → WX X nL Y Z Q g (pc + 3) lv st) : WX X nL Y Z Q g pc lv (.int y :: .int x :: st) := by
  obtain ⟨p, l, e, R, s, m, args, below, meth, c⟩ := X
  exact fun H locs ls hP hS hl => lv_icmp_eq C.1 C.2.1 hd ht (fun h => kt h H locs ls hP hS hl) (fun h => kf h H locs ls hP hS hl)
theorem x_ifeq (C : CX X nL Y Z cc own ret F L) {off : Int} {x : Int32} (hd : decode cc pc = .ok (.ifCond .eq off, 3)) (tgt : Nat) (ht : (pc : Int) + off = (tgt : Int)) (kt : x = 0 → WX X nL Y Z Q g tgt lv st) (kf : ¬ x = 0 → WX X nL Y Z Q g (pc + 3) lv st) : WX X nL Y Z Q g pc lv (.int x :: st) := by
  obtain ⟨p, l, e, R, s, m, args, below, meth, c⟩ := X
  exact fun H locs ls hP hS hl => lv_if_eq C.1 C.2.1 hd ht (fun h => kt h H locs ls hP hS hl) (fun h => kf h H locs ls hP hS hl)
theorem x_icmp_ne (C : CX X nL Y Z cc own ret F L) {off : Int} {x y : Int32} (hd : decode cc pc = .ok (.if_icmp .ne off, 3)) (tgt : Nat) (ht : (pc : Int) + off = (tgt : Int)) (kt : ¬ x = y → WX X nL Y Z Q g tgt lv st) (kf : x = y → WX X nL Y Z Q g (pc + 3) lv st) : WX X nL Y Z Q g pc lv (.int y :: .int x :: st) := by
  obtain ⟨p, l, e, R, s, m, args, below, meth, c⟩ := X
  exact fun H locs ls hP hS hl => lv_icmp_ne C.1 C.2.1 hd ht (fun h => kt h H locs ls hP hS hl) (fun h => kf h H locs ls hP hS hl)
theorem x_ifne (C : CX X nL Y Z cc own ret F L) {off : Int} {x : Int32} (hd : decode cc pc = .ok (.ifCond .ne off, 3)) (tgt : Nat) (ht : (pc : Int) + off = (tgt : Int)) (kt : ¬ x = 0 → WX X nL Y Z Q g tgt lv st) (kf : x = 0 → WX X nL Y Z Q g (pc + 3) lv st) : WX X nL Y Z Q g pc lv (.int x :: st) := by
  obtain ⟨p, l, e, R, s, m, args, below, meth, c⟩ := X
  exact fun H locs ls hP hS hl => lv_if_ne C.1 C.2.1 hd ht (fun h => kt h H locs ls hP hS hl) (fun h => kf h H locs ls hP hS hl)
theorem x_icmp_lt (C : CX X nL Y Z cc own ret F L) {off : Int} {x y : Int32} (hd : decode cc pc = .ok (.if_icmp .lt off, 3)) (tgt : Nat) (ht : (pc : Int) + off = (tgt : Int)) (kt : x < y → WX X nL Y Z Q g tgt lv st) (kf : ¬ x < y → WX X nL Y Z Q g (pc + 3) lv st) : WX X nL Y Z Q g pc lv (.int y :: .int x :: st) := by
  obtain ⟨p, l, e, R, s, m, args, below, meth, c⟩ := X
  exact fun H locs ls hP hS hl => lv_icmp_lt C.1 C.2.1 hd ht (fun h => kt h H locs ls hP hS hl) (fun h => kf h H locs ls hP hS hl)
theorem x_iflt (C : CX X nL Y Z cc own ret F L) {off : Int} {x : Int32} (hd : decode cc pc = .ok (.ifCond .lt off, 3)) (tgt : Nat) (ht : (pc : Int) + off = (tgt : Int)) (kt : x < 0 → WX X nL Y Z Q g tgt lv st) (kf : ¬ x < 0 → WX X nL Y Z Q g (pc + 3) lv st) : WX X nL Y Z Q g pc lv (.int x :: st) := by
  obtain ⟨p, l, e, R, s, m, args, below, meth, c⟩ := X
  exact fun H locs ls hP hS hl => lv_if_lt C.1 C.2.1 hd ht (fun h => kt h H locs ls hP hS hl) (fun h => kf h H locs ls hP hS hl)
theorem x_icmp_ge (C : CX X nL Y Z cc own ret F L) {off : Int} {x y : Int32} (hd : decode cc pc = .ok (.if_icmp .ge off, 3)) (tgt : Nat) (ht : (pc : Int) + off = (tgt : Int)) (kt : y ≤ x → WX X nL Y Z Q g tgt lv st) (kf : ¬ y ≤ x → WX X nL Y Z Q g (pc + 3) lv st) : WX X nL Y Z Q g pc lv (.int y :: .int x :: st) := by
  obtain ⟨p, l, e, R, s, m, args, below, meth, c⟩ := X
  exact fun H locs ls hP hS hl => lv_icmp_ge C.1 C.2.1 hd ht (fun h => kt h H locs ls hP hS hl) (fun h => kf h H locs ls hP hS hl)
theorem x_ifge (C : CX X nL Y Z cc own ret F L) {off : Int} {x : Int32} (hd : decode cc pc = .ok (.ifCond .ge off, 3)) (tgt : Nat) (ht : (pc : Int) + off = (tgt : Int)) (kt : 0 ≤ x → WX X nL Y Z Q g tgt lv st) (kf : ¬ 0 ≤ x → WX X nL Y Z Q g (pc + 3) lv st) : WX X nL Y Z Q g pc lv (.int x :: st) := by
  obtain ⟨p, l, e, R, s, m, args, below, meth, c⟩ := X
  exact fun H locs ls hP hS hl => lv_if_ge C.1 C.2.1 hd ht (fun h => kt h H locs ls hP hS hl) (fun h => kf h H locs ls hP hS hl)
theorem x_icmp_gt (C : CX X nL Y Z cc own ret F L) {off : Int} {x y : Int32} (hd : decode cc pc = .ok (.if_icmp .gt off, 3)) (tgt : Nat) (ht : (pc : Int) + off = (tgt : Int)) (kt : y < x → WX X nL Y Z Q g tgt lv st) (kf : ¬ y < x → WX X nL Y Z Q g (pc + 3) lv st) : WX X nL Y Z Q g pc lv (.int y :: .int x :: st) := by
  obtain ⟨p, l, e, R, s, m, args, below, meth, c⟩ := X
  exact fun H locs ls hP hS hl => lv_icmp_gt C.1 C.2.1 hd ht (fun h => kt h H locs ls hP hS hl) (fun h => kf h H locs ls hP hS hl)
theorem x_ifgt (C : CX X nL Y Z cc own ret F L) {off : Int} {x : Int32} (hd : decode cc pc = .ok (.ifCond .gt off, 3)) (tgt : Nat) (ht : (pc : Int) + off = (tgt : Int)) (kt : 0 < x → WX X nL Y Z Q g tgt lv st) (kf : ¬ 0 < x → WX X nL Y Z Q g (pc + 3) lv st) : WX X nL Y Z Q g pc lv (.int x :: st) := by
  obtain ⟨p, l, e, R, s, m, args, below, meth, c⟩ := X
  exact fun H locs ls hP hS hl => lv_if_gt C.1 C.2.1 hd ht (fun h => kt h H locs ls hP hS hl) (fun h => kf h H locs ls hP hS hl)
theorem x_icmp_le (C : CX X nL Y Z cc own ret F L) {off : Int} {x y : Int32} (hd : decode cc pc = .ok (.if_icmp .le off, 3)) (tgt : Nat) (ht : (pc : Int) + off = (tgt : Int)) (kt : x ≤ y → WX X nL Y Z Q g tgt lv st) (kf : ¬ x ≤ y → WX X nL Y Z Q g (pc + 3) lv st) : WX X nL Y Z Q g pc lv (.int y :: .int x :: st) := by
  obtain ⟨p, l, e, R, s, m, args, below, meth, c⟩ := X
  exact fun H locs ls hP hS hl => lv_icmp_le C.1 C.2.1 hd ht (fun h => kt h H locs ls hP hS hl) (fun h => kf h H locs ls hP hS hl)
theorem x_ifle (C : CX X nL Y Z cc own ret F L) {off : Int} {x : Int32} (hd : decode cc pc = .ok (.ifCond .le off, 3)) (tgt : Nat) (ht : (pc : Int) + off = (tgt : Int)) (kt : x ≤ 0 → WX X nL Y Z Q g tgt lv st) (kf : ¬ x ≤ 0 → WX X nL Y Z Q g (pc + 3) lv st) : WX X nL Y Z Q g pc lv (.int x :: st) := by
  obtain ⟨p, l, e, R, s, m, args, below, meth, c⟩ := X
  exact fun H locs ls hP hS hl => lv_if_le C.1 C.2.1 hd ht (fun h => kt h H locs ls hP hS hl) (fun h => kf h H locs ls hP hS hl)
theorem i32_ne {x v : Int32} {z : Int} (h : ¬ x = v) (hv : v.toInt = z) : x.toInt ≠ z := fun e => h (Int32.toInt_inj.mp (e.trans hv.symm))
theorem x_tabAt (C : CX X nL Y Z cc own ret F L) {dflt lo hi : Int} {offs : Array Int} {len : Nat} {x v : Int32} {off : Int} (hd : decode cc pc = .ok (.tableswitch dflt lo hi offs, len)) (hx : x = v) (h1 : ¬ v.toInt < lo) (h2 : ¬ hi < v.toInt) (ho : offs[(v.toInt - lo).toNat]? = some off) (tgt : Nat) (ht : (pc : Int) + off = (tgt : Int)) (k : WX X nL Y Z Q g tgt lv st) : WX X nL Y Z Q g pc lv (.int x :: st) := by
  subst hx
  obtain ⟨p, l, e, R, s, m, args, below, meth, c⟩ := X
  exact fun H locs ls hP hS hl => lv_tableIn C.1 C.2.1 hd h1 h2 ho ht (k H locs ls hP hS hl)
theorem x_tabOut (C : CX X nL Y Z cc own ret F L) {dflt lo hi : Int} {offs : Array Int} {len : Nat} {x : Int32} (hd : decode cc pc = .ok (.tableswitch dflt lo hi offs, len)) (hx : x.toInt < lo ∨ hi < x.toInt) (tgt : Nat) (ht : (pc : Int) + dflt = (tgt : Int)) (k : WX X nL Y Z Q g tgt lv st) : WX X nL Y Z Q g pc lv (.int x :: st) := by
  obtain ⟨p, l, e, R, s, m, args, below, meth, c⟩ := X
  exact fun H locs ls hP hS hl => lv_tableOut C.1 C.2.1 hd hx ht (k H locs ls hP hS hl)
theorem x_look (C : CX X nL Y Z cc own ret F L) {dflt : Int} {ps : Array (Int × Int)} {len : Nat} {x : Int32} {off : Int} (hd : decode cc pc = .ok (.lookupswitch dflt ps, len)) (hp : (ps.toList.zip (ps.toList.drop 1)).all (fun (a, next) => a.1 < next.1) = true) (ho : Op.lookupswitch.offset ps.toList dflt x.toInt = off) (tgt : Nat) (ht : (pc : Int) + off = (tgt : Int)) (k : WX X nL Y Z Q g tgt lv st) : WX X nL Y Z Q g pc lv (.int x :: st) := by
  obtain ⟨p, l, e, R, s, m, args, below, meth, c⟩ := X
  exact fun H locs ls hP hS hl => lv_lookup C.1 C.2.1 hd hp ho ht (k H locs ls hP hS hl)
def bI (p : Prop) [Decidable p] : Int32 := if p then 1 else 0
theorem bI_01 (p : Prop) [Decidable p] : bI p = 0 ∨ bI p = 1 := by
  unfold bI
  by_cases h : p
  · exact Or.inr (if_pos h)
  · exact Or.inl (if_neg h)
theorem bI_t {p : Prop} [Decidable p] (h : p) : bI p = 1 := if_pos h
theorem bI_f {p : Prop} [Decidable p] (h : ¬ p) : bI p = 0 := if_neg h
theorem bI_0 {p : Prop} [Decidable p] : bI p = 0 ↔ ¬ p := ⟨fun e h => by rw [bI_t h] at e; exact absurd e (by decide), bI_f⟩
theorem bI_n0 {p : Prop} [Decidable p] : ¬ bI p = 0 ↔ p := ⟨fun e => Decidable.byContradiction (fun h => e (bI_f h)), fun h e => by rw [bI_t h] at e; exact absurd e (by decide)⟩
theorem x_ifeqB (C : CX X nL Y Z cc own ret F L) {off : Int} {q : Prop} [Decidable q] (hd : decode cc pc = .ok (.ifCond .eq off, 3)) (tgt : Nat) (ht : (pc : Int) + off = (tgt : Int)) (kt : ¬ q → WX X nL Y Z Q g tgt lv st) (kf : q → WX X nL Y Z Q g (pc + 3) lv st) : WX X nL Y Z Q g pc lv (.int (bI q) :: st) := x_ifeq C hd tgt ht (fun h => kt (bI_0.mp h)) (fun h => kf (bI_n0.mp h))
theorem x_ifneB (C : CX X nL Y Z cc own ret F L) {off : Int} {q : Prop} [Decidable q] (hd : decode cc pc = .ok (.ifCond .ne off, 3)) (tgt : Nat) (ht : (pc : Int) + off = (tgt : Int)) (kt : q → WX X nL Y Z Q g tgt lv st) (kf : ¬ q → WX X nL Y Z Q g (pc + 3) lv st) : WX X nL Y Z Q g pc lv (.int (bI q) :: st) := x_ifne C hd tgt ht (fun h => kt (bI_n0.mp h)) (fun h => kf (bI_0.mp h))
end Rows
section Heap
variable {X : XT} {Y : YT} {Z : ZT} {Q : State → Prop} {g : St} {pc : Nat} {lv lv' : List (Nat × Value)} {st : List Value} {cc : ByteArray} {own : String} {ret : Option FieldType} {F L nL : Nat}
theorem x_get (C : CX X nL Y Z cc own ret F L) {k : Nat} (hk : k < Y.1) {ci : Nat} {fs : List Value} (hE : Y.2.1 Z k (sr Y g k) = .inr (ci, fs)) {Cn : String} {T : u_T} {N : Nat} (hc : cls[ci]? = some (Cn, T, N)) (hin : ∀ w ∈ u_ws Cn T N, w ∈ TT) (j : Nat) (hj : j < N) {index : Nat} (hw : Cond.fieldLink own index (T j).1 (T j).2.1 (T j).2.2.1 ∈ TT) {v : Value} (hv : fs[j]? = some v) (hd : decode cc pc = .ok (.getfield index, 3)) (kk : WX X nL Y Z Q g (pc + 3) lv (v :: st)) : WX X nL Y Z Q g pc lv (.ref (Z.2.1 k) :: st) := by
  obtain ⟨p, l, e, R, s, m, args, below, meth, c⟩ := X
  intro H locs ls hP hS hl
  obtain ⟨hx, hb, hml, hown, hts, -, -, -, -, hK, hI, -⟩ := C
  exact va_get hx hb hts hin hown hK hP k (by rw [sw_at hk, hE]) hc j hj (hts _ hw) (fun _ h => h) hv hd (kk H locs ls hP hS hl)
theorem x_put (C : CX X nL Y Z cc own ret F L) {k : Nat} (hk : k < Y.1) {ci : Nat} {fs : (Nat → Int32) → List Value} (hE : ∀ r, Y.2.1 Z k r = .inr (ci, fs r)) {Cn : String} {T : u_T} {N : Nat} (hc : cls[ci]? = some (Cn, T, N)) (hin : ∀ w ∈ u_ws Cn T N, w ∈ TT) (ty0 : Nat → FieldType) (hty : ∀ k, k < N → parseFieldDescriptor (T k).2.2.1 = some (ty0 k)) (hnm : ∀ a, a < N → ∀ b, b < N → a ≠ b → (T a).2.1 ≠ (T b).2.1) (j : Nat) (hj : j < N) (hfin : (T j).2.2.2 = false) {index : Nat} (hw : Cond.fieldLink own index (T j).1 (T j).2.1 (T j).2.2.1 ∈ TT) {v : Int32} (hn : narrow (ty0 j) (.int v) = .int v) (hfit : fits (ty0 j) (.int v) = true) (hlen : ∀ r, j < (fs r).length) (hfs : ∀ r, (fs r).set j (.int v) = fs (upd r j v)) (ho : sOk Y k j) (hd : decode cc pc = .ok (.putfield index, 3)) (kk : WX X nL Y Z Q (up g (Y.2.2.1 k) (Y.2.2.2 k j) v) (pc + 3) lv st) : WX X nL Y Z Q g pc lv (.int v :: .ref (Z.2.1 k) :: st) := by
  obtain ⟨p, l, e, R, s, m, args, below, meth, c⟩ := X
  intro H locs ls hP hS hl
  obtain ⟨hx, hb, hml, hown, hts, -, -, -, -, hK, hI, -⟩ := C
  refine va_put hx hb hts hin ty0 hty hnm hown hK hP (sD hI g) hS k (fs := fs (sr Y g k)) (by rw [sw_at hk, hE]) hc j hj (hts _ hw) (fun _ h => h) hfin (hty j hj) hn hfit (hlen _) hd (fun H1 locs1 hP1 _ hS1 => ?_)
  rw [hfs, ← hE, sw_set ho hk] at hP1
  exact kk H1 locs1 ls hP1 hS1 hl
theorem x_iald (C : CX X nL Y Z cc own ret F L) {k : Nat} (hk : k < Y.1) {n : Nat} {r : Nat → Int32} (hE : Y.2.1 Z k (sr Y g k) = .inl (Z.2.2.1 0, n, .inl r)) {x : Int32} (j : Nat) (hx : x = nI j) (hj : j < n) (hn : n < 2 ^ 31) (hd : decode cc pc = .ok (.iaload, 1)) (kk : WX X nL Y Z Q g (pc + 1) lv (.int (r j) :: st)) : WX X nL Y Z Q g pc lv (.int x :: .ref (Z.2.1 k) :: st) := by
  subst hx
  obtain ⟨p, l, e, R, s, m, args, below, meth, c⟩ := X
  intro H locs ls hP hS hl
  obtain ⟨hx, hb, hml, hown, hts, -, -, -, -, hK, hI, -⟩ := C
  have h := kk H locs ls hP hS hl
  rw [← nI_clamp (n := j) (Nat.lt_trans hj hn)] at h
  exact va_iald hx hb hK hP k 0 (by rw [sw_at hk, hE]) rfl (vp_in_nI hj hn) hd h
theorem x_bald (C : CX X nL Y Z cc own ret F L) {k : Nat} (hk : k < Y.1) {n : Nat} {r : Nat → Int32} (hE : Y.2.1 Z k (sr Y g k) = .inl (Z.2.2.1 1, n, .inl r)) {x : Int32} (j : Nat) (hx : x = nI j) (hj : j < n) (hn : n < 2 ^ 31) (hd : decode cc pc = .ok (.baload, 1)) (kk : WX X nL Y Z Q g (pc + 1) lv (.int (r j) :: st)) : WX X nL Y Z Q g pc lv (.int x :: .ref (Z.2.1 k) :: st) := by
  subst hx
  obtain ⟨p, l, e, R, s, m, args, below, meth, c⟩ := X
  intro H locs ls hP hS hl
  obtain ⟨hx, hb, hml, hown, hts, -, -, -, -, hK, hI, -⟩ := C
  have h := kk H locs ls hP hS hl
  rw [← nI_clamp (n := j) (Nat.lt_trans hj hn)] at h
  exact va_bald hx hb hK hP k 1 (by rw [sw_at hk, hE]) rfl (vp_in_nI hj hn) hd h
theorem tr_upd {n j : Nat} {f : Nat → Int32} {v : Int32} (h : j < n) : upd (tr n f) j v = tr n (upd f j v) := by
  funext i
  by_cases hi : i = j
  · subst hi; simp [upd, tr, h]
  · simp [upd, tr, hi]
theorem x_iast (C : CX X nL Y Z cc own ret F L) {k : Nat} (hk : k < Y.1) {n : Nat} (hE : ∀ r, Y.2.1 Z k r = .inl (Z.2.2.1 0, n, .inl (tr n r))) {x v : Int32} (j : Nat) (hx : x = nI j) (hj : j < n) (hn : n < 2 ^ 31) (ho : sOk Y k j) (hd : decode cc pc = .ok (.iastore, 1)) (kk : WX X nL Y Z Q (up g (Y.2.2.1 k) (Y.2.2.2 k j) v) (pc + 1) lv st) : WX X nL Y Z Q g pc lv (.int v :: .int x :: .ref (Z.2.1 k) :: st) := by
  subst hx
  obtain ⟨p, l, e, R, s, m, args, below, meth, c⟩ := X
  intro H locs ls hP hS hl
  obtain ⟨hx, hb, hml, hown, hts, -, -, -, -, hK, hI, -⟩ := C
  refine va_iast hx hb hK hP (sD hI g) hS k 0 (f := tr n (sr Y g k)) (by rw [sw_at hk, hE]) rfl (vp_in_nI hj hn) hd (fun H1 locs1 hP1 _ hS1 => ?_)
  rw [nI_clamp (Nat.lt_trans hj hn), tr_upd hj, ← hE, sw_set ho hk] at hP1
  exact kk H1 locs1 ls hP1 hS1 hl
theorem x_bast (C : CX X nL Y Z cc own ret F L) {k : Nat} (hk : k < Y.1) {n : Nat} (hE : ∀ r, Y.2.1 Z k r = .inl (Z.2.2.1 1, n, .inl (tr n r))) {x v : Int32} (j : Nat) (hx : x = nI j) (hj : j < n) (hn : n < 2 ^ 31) (ho : sOk Y k j) (hd : decode cc pc = .ok (.bastore, 1)) (kk : WX X nL Y Z Q (up g (Y.2.2.1 k) (Y.2.2.2 k j) (v.toInt8.toInt32)) (pc + 1) lv st) : WX X nL Y Z Q g pc lv (.int v :: .int x :: .ref (Z.2.1 k) :: st) := by
  subst hx
  obtain ⟨p, l, e, R, s, m, args, below, meth, c⟩ := X
  intro H locs ls hP hS hl
  obtain ⟨hx, hb, hml, hown, hts, -, -, -, -, hK, hI, -⟩ := C
  refine va_bast hx hb hK hP (sD hI g) hS k 1 (f := tr n (sr Y g k)) (by rw [sw_at hk, hE]) rfl (vp_in_nI hj hn) hd (fun H1 locs1 hP1 _ hS1 => ?_)
  rw [nI_clamp (Nat.lt_trans hj hn), tr_upd hj, vp_nar_byte, ← hE, sw_set ho hk] at hP1
  exact kk H1 locs1 ls hP1 hS1 hl
theorem x_aald (C : CX X nL Y Z cc own ret F L) {k : Nat} (hk : k < Y.1) (t0 : Nat) {cA : ClassId} {Cn : String} {n : Nat} {f : Nat → Option Nat} (hE : Y.2.1 Z k (sr Y g k) = .inl (cA, n, .inr (.inr (.inr (.inr f))))) (ht : (tys Z)[t0]? = some (cA, .object Cn)) {x : Int32} (j : Nat) (hx : x = nI j) (hj : j < n) (hn : n < 2 ^ 31) {a : Nat} (hf : f j = some a) (hd : decode cc pc = .ok (.aaload, 1)) (kk : WX X nL Y Z Q g (pc + 1) lv (.ref a :: st)) : WX X nL Y Z Q g pc lv (.int x :: .ref (Z.2.1 k) :: st) := by
  subst hx
  obtain ⟨p, l, e, R, s, m, args, below, meth, c⟩ := X
  intro H locs ls hP hS hl
  obtain ⟨hx, hb, hml, hown, hts, -, -, -, -, hK, hI, -⟩ := C
  refine va_aldq hx hb hK hP k t0 (by rw [sw_at hk, hE]) ht (vp_in_nI hj hn) hd ?_
  rw [nI_clamp (Nat.lt_trans hj hn), hf]
  exact kk H locs ls hP hS hl
theorem x_alen (C : CX X nL Y Z cc own ret F L) {k : Nat} (hk : k < Y.1) (t0 : Nat) {cA : ClassId} {x : vp_A} (hE : Y.2.1 Z k (sr Y g k) = .inl (cA, x)) {ty : FieldType} (ht : (tys Z)[t0]? = some (cA, ty)) {v : Int32} (hv : Int32.ofNat x.1 = v) (hd : decode cc pc = .ok (.arraylength, 1)) (kk : WX X nL Y Z Q g (pc + 1) lv (.int v :: st)) : WX X nL Y Z Q g pc lv (.ref (Z.2.1 k) :: st) := by
  obtain ⟨p, l, e, R, s, m, args, below, meth, c⟩ := X
  intro H locs ls hP hS hl
  obtain ⟨hx, hb, hml, hown, hts, -, -, -, -, hK, hI, -⟩ := C
  exact va_alen hx hb hK hP k t0 (by rw [sw_at hk, hE]) ht hv hd (kk H locs ls hP hS hl)
/-! returns -/
theorem x_iret (C : CX X nL Y Z cc own (some .int) F L) {x r : Int32} {g' : St} (hr : x = r) (hg : g = g') (hd : decode cc pc = .ok (.ireturn, 1)) : WX X nL Y Z (QX X Y Z (QcI Y Z r g')) g pc lv [.int x] := by
  subst hr; subst hg
  obtain ⟨p, l, e, R, s, m, args, below, meth, c⟩ := X
  intro H locs ls hP hS hl
  obtain ⟨hx, hb, hml, hown, hts, hrt, hlk, -⟩ := C
  exact W.iret hx hb hrt (fun t ht hW => ⟨⟨x, g, rfl, ⟨rfl, rfl⟩, by show va_P _ _ _ t.heap; rw [ht]; exact hP⟩, hS.F ht⟩) hS.2.2 hd hlk
theorem x_zret (C : CX X nL Y Z cc own (some .boolean) F L) {x r : Int32} {g' : St} (hn : x = 0 ∨ x = 1) (hr : x = r) (hg : g = g') (hd : decode cc pc = .ok (.ireturn, 1)) : WX X nL Y Z (QX X Y Z (QcI Y Z r g')) g pc lv [.int x] := by
  subst hr; subst hg
  obtain ⟨p, l, e, R, s, m, args, below, meth, c⟩ := X
  intro H locs ls hP hS hl
  obtain ⟨hx, hb, hml, hown, hts, hrt, hlk, -⟩ := C
  exact W.zret hx hb hrt (by rcases hn with rfl | rfl <;> rfl) (fun t ht hW => ⟨⟨x, g, rfl, ⟨rfl, rfl⟩, by show va_P _ _ _ t.heap; rw [ht]; exact hP⟩, hS.F ht⟩) hS.2.2 hd hlk
theorem x_lret (C : CX X nL Y Z cc own (some .long) F L) {x r : Int64} {g' : St} (hr : x = r) (hg : g = g') (hd : decode cc pc = .ok (.lreturn, 1)) : WX X nL Y Z (QX X Y Z (QcL Y Z r g')) g pc lv [.long x] := by
  subst hr; subst hg
  obtain ⟨p, l, e, R, s, m, args, below, meth, c⟩ := X
  intro H locs ls hP hS hl
  obtain ⟨hx, hb, hml, hown, hts, hrt, hlk, -⟩ := C
  exact W.lret hx hb hrt (fun t ht hW => ⟨⟨x, g, rfl, ⟨rfl, rfl⟩, by show va_P _ _ _ t.heap; rw [ht]; exact hP⟩, hS.F ht⟩) hS.2.2 hd hlk
theorem x_vret (C : CX X nL Y Z cc own none F L) {g' : St} (hg : g = g') (hd : decode cc pc = .ok (.return_, 1)) : WX X nL Y Z (QX X Y Z (QcV Y Z g')) g pc lv [] := by
  subst hg
  obtain ⟨p, l, e, R, s, m, args, below, meth, c⟩ := X
  intro H locs ls hP hS hl
  obtain ⟨hx, hb, hml, hown, hts, hrt, hlk, -⟩ := C
  exact W.vret hx hb hrt (fun t ht hW => ⟨⟨g, rfl, rfl, by show va_P _ _ _ t.heap; rw [ht]; exact hP⟩, hS.F ht⟩) hS.2.2 hd hlk
theorem x_aret {Cn : String} (C : CX X nL Y Z cc own (some (.object Cn)) F L) {a r : Nat} {g' : St} (hr : a = r) (hg : g = g') (hd : decode cc pc = .ok (.areturn, 1)) : WX X nL Y Z (QX X Y Z (QcR Y Z r g')) g pc lv [.ref a] := by
  subst hr; subst hg
  obtain ⟨p, l, e, R, s, m, args, below, meth, c⟩ := X
  intro H locs ls hP hS hl
  obtain ⟨hx, hb, hml, hown, hts, hrt, hlk, -⟩ := C
  exact W.aret hx hb hrt (Or.inl ⟨_, rfl⟩) (Or.inr ⟨_, rfl⟩) (fun t ht hW => ⟨⟨g, a, rfl, rfl, rfl, by show va_P _ _ _ t.heap; rw [ht]; exact hP⟩, hS.F ht⟩) hS.2.2 hd hlk
/-! Math.max, Math.min -/
theorem x_max (C : CX X nL Y Z cc own ret F L) {index : Nat} (hw : Cond.methodLink own index Lib.Math.max.name ∈ TT) (hF : 1 ≤ F) (hL : (st.map fun v => v.category).sum + 13 ≤ L) {x y : Int32} (hd : decode cc pc = .ok (.invokestatic index, 3)) (kk : WX X nL Y Z Q g (pc + 3) lv (.int (if x < y then y else x) :: st)) : WX X nL Y Z Q g pc lv (.int y :: .int x :: st) := by
  obtain ⟨p, l, e, R, s, m, args, below, meth, c⟩ := X
  intro H locs ls hP hS hl
  obtain ⟨hx, hb, hml, hown, hts, -, -, hFr, hLo, hK, hI, -⟩ := C
  exact va_mmax hx hb (hml.trans hl.1.symm) hown (hts _ hw) (hts _ k_248) (hts _ k_8) (hts _ k_249) (Nat.le_trans hF hFr) (Nat.le_trans hL hLo) (Nat.zero_le _) (Nat.zero_le _) hd (kk H locs ls hP hS hl)
theorem x_min (C : CX X nL Y Z cc own ret F L) {index : Nat} (hw : Cond.methodLink own index Lib.Math.min.name ∈ TT) (hF : 1 ≤ F) (hL : (st.map fun v => v.category).sum + 13 ≤ L) {x y : Int32} (hd : decode cc pc = .ok (.invokestatic index, 3)) (kk : WX X nL Y Z Q g (pc + 3) lv (.int (if y < x then y else x) :: st)) : WX X nL Y Z Q g pc lv (.int y :: .int x :: st) := by
  obtain ⟨p, l, e, R, s, m, args, below, meth, c⟩ := X
  intro H locs ls hP hS hl
  obtain ⟨hx, hb, hml, hown, hts, -, -, hFr, hLo, hK, hI, -⟩ := C
  exact va_mmin hx hb (hml.trans hl.1.symm) hown (hts _ hw) (hts _ k_316) (hts _ k_8) (hts _ k_317) (Nat.le_trans hF hFr) (Nat.le_trans hL hLo) (Nat.zero_le _) (Nat.zero_le _) hd (kk H locs ls hP hS hl)
end Heap
section Calls
variable {X : XT} {Y : YT} {Z : ZT} {Q : State → Prop} {g g' : St} {pc : Nat} {lv lv' : List (Nat × Value)} {st st0 : List Value} {cc cc' : ByteArray} {own : String} {ret ret' : Option FieldType} {F L nL F' L' maxL' n k index : Nat} {y : MethodName} {As : List Value}
theorem code_in {cc : ByteArray} {maxL : Nat} {ret : Option FieldType} (h : Cond.code y cc maxL ret ∈ TT) : GoodIn TT (Cond.code y cc maxL ret :: TT) := tt_good (fun _ h => h) (List.forall_mem_cons.mpr ⟨h, fun _ h => h⟩)
theorem x_callVi (C : CX X nL Y Z cc own ret F L) {r : Int32} (hM : CT Y Z y cc' maxL' ret' F' L' (.ref (Z.2.1 k) :: As) g (QcI Y Z r g')) (hi : MI y cc' maxL' ret' n) (hw : Cond.methodLink own index y ∈ TT) (hk : k < Y.1) {ci : Nat} {fs : List Value} (hE : Y.2.1 Z k (sr Y g k) = .inr (ci, fs)) {T : u_T} {N : Nat} (hc : cls[ci]? = some (y.cls, T, N)) (hR : F' + 1 ≤ F ∧ 8 + (maxL' + 11) + L' ≤ L) (hn : As.length = n) (hst : As.reverse ++ .ref (Z.2.1 k) :: st = st0) (hcat : (st.map fun v => v.category).sum ≤ 8) (hd : decode cc pc = .ok (.invokevirtual index, 3)) (kk : WX X nL Y Z Q g' (pc + 3) lv (.int r :: st)) : WX X nL Y Z Q g pc lv st0 := by
  subst hst
  obtain ⟨p, l, e, R, s, m, args, below, meth, c⟩ := X
  intro H locs ls hP hS hl
  obtain ⟨hx, hb, hml, hown, hts, -, -, hFr, hLo, hK, hI, hEn⟩ := C
  refine va_calli (va_runV (As := As) (rest := st) ⟨hx, hb, hml, hown, hts⟩ (hM l) ⟨callB_of n hts (code_in hi.2.2.2.1) rfl rfl rfl (hts _ hi.2.2.1) (hts _ hw) hi.2.2.2.2 ⟨Nat.le_trans hR.1 hFr, Nat.le_trans hR.2 hLo⟩, hts _ hi.1, hts _ hi.2.1⟩ ⟨SysAt.blind, va_recv hK hP hc (by rw [sw_at hk, hE]), fun U hU hW => ⟨rfl, by rw [hU]; exact hP, va_K.moved hW.alike hK, hI, by rw [hU]; exact (hEn.kept hS.2.1).warm hW⟩⟩ rfl hn hl.1 rfl (lv_room hcat) hd ⟨Nat.zero_le _, Nat.zero_le _⟩) hS (fun q _ h => h) (fun q h => h) (fun r1 u t H1 locs1 ht hvm hq hB _ _ hS1 => ?_)
  obtain ⟨rfl, rfl⟩ := hq
  have hB : va_P Z.1 cls (sw Y Z _) t.heap := hB
  rw [ht] at hB
  exact kk H1 locs1 ls hB hS1 hl
theorem x_callSi (C : CX X nL Y Z cc own ret F L) {r : Int32} (hM : CT Y Z y cc' maxL' ret' F' L' As g (QcI Y Z r g')) (hi : MS y cc' maxL' ret' n) (hw : Cond.methodLink own index y ∈ TT) (hR : F' + 1 ≤ F ∧ 8 + (maxL' + 11) + L' ≤ L) (hn : As.length = n) (hst : As.reverse ++ st = st0) (hcat : (st.map fun v => v.category).sum ≤ 8) (hd : decode cc pc = .ok (.invokestatic index, 3)) (kk : WX X nL Y Z Q g' (pc + 3) lv (.int r :: st)) : WX X nL Y Z Q g pc lv st0 := by
  subst hst
  obtain ⟨p, l, e, R, s, m, args, below, meth, c⟩ := X
  intro H locs ls hP hS hl
  obtain ⟨hx, hb, hml, hown, hts, -, -, hFr, hLo, hK, hI, hEn⟩ := C
  refine va_calli (va_runS (As := As) (rest := st) ⟨hx, hb, hml, hown, hts⟩ (hM l) ⟨callB_of n hts (code_in hi.2.2.1) rfl rfl rfl (hts _ hi.2.1) (hts _ hw) hi.2.2.2 ⟨Nat.le_trans hR.1 hFr, Nat.le_trans hR.2 hLo⟩, hts _ hi.1⟩ ⟨SysAt.blind, fun U hU hW => ⟨rfl, by rw [hU]; exact hP, va_K.moved hW.alike hK, hI, by rw [hU]; exact (hEn.kept hS.2.1).warm hW⟩⟩ rfl hn hl.1 rfl (lv_room hcat) hd ⟨Nat.zero_le _, Nat.zero_le _⟩) hS (fun q _ h => h) (fun q h => h) (fun r1 u t H1 locs1 ht hvm hq hB _ _ hS1 => ?_)
  obtain ⟨rfl, rfl⟩ := hq
  have hB : va_P Z.1 cls (sw Y Z _) t.heap := hB
  rw [ht] at hB
  exact kk H1 locs1 ls hB hS1 hl
theorem x_callNi (C : CX X nL Y Z cc own ret F L) {r : Int32} (hM : CT Y Z y cc' maxL' ret' F' L' As g (QcI Y Z r g')) (hi : MS y cc' maxL' ret' n) {host : String} (hw : (own, index, y, host) ∈ nestM) (hR : F' + 1 ≤ F ∧ 8 + (maxL' + 11) + L' ≤ L) (hn : As.length = n) (hst : As.reverse ++ st = st0) (hcat : (st.map fun v => v.category).sum ≤ 8) (hd : decode cc pc = .ok (.invokestatic index, 3)) (kk : WX X nL Y Z Q g' (pc + 3) lv (.int r :: st)) : WX X nL Y Z Q g pc lv st0 := by
  subst hst
  obtain ⟨p, l, e, R, s, m, args, below, meth, c⟩ := X
  intro H locs ls hP hS hl
  obtain ⟨hx, hb, hml, hown, hts, -, -, hFr, hLo, hK, hI, hEn⟩ := C
  refine va_calli (va_runSN (As := As) (rest := st) ⟨hx, hb, hml, hown, hts⟩ (hM l) ⟨va_cnB n hts (code_in hi.2.2.1) rfl rfl rfl (hEn.2.2.2.2.2.2.2.1 _ hw) (hts _ hi.2.1) hi.2.2.2 ⟨Nat.le_trans hR.1 hFr, Nat.le_trans hR.2 hLo⟩, hts _ hi.1, trivial⟩ ⟨SysAt.blind, fun U hU hW => ⟨rfl, by rw [hU]; exact hP, va_K.moved hW.alike hK, hI, by rw [hU]; exact (hEn.kept hS.2.1).warm hW⟩⟩ rfl hn hl.1 rfl (lv_room hcat) hd ⟨Nat.zero_le _, Nat.zero_le _⟩) hS (fun q _ h => h) (fun q h => h) (fun r1 u t H1 locs1 ht hvm hq hB _ _ hS1 => ?_)
  obtain ⟨rfl, rfl⟩ := hq
  have hB : va_P Z.1 cls (sw Y Z _) t.heap := hB
  rw [ht] at hB
  exact kk H1 locs1 ls hB hS1 hl
theorem x_callVl (C : CX X nL Y Z cc own ret F L) {r : Int64} (hM : CT Y Z y cc' maxL' ret' F' L' (.ref (Z.2.1 k) :: As) g (QcL Y Z r g')) (hi : MI y cc' maxL' ret' n) (hw : Cond.methodLink own index y ∈ TT) (hk : k < Y.1) {ci : Nat} {fs : List Value} (hE : Y.2.1 Z k (sr Y g k) = .inr (ci, fs)) {T : u_T} {N : Nat} (hc : cls[ci]? = some (y.cls, T, N)) (hR : F' + 1 ≤ F ∧ 8 + (maxL' + 11) + L' ≤ L) (hn : As.length = n) (hst : As.reverse ++ .ref (Z.2.1 k) :: st = st0) (hcat : (st.map fun v => v.category).sum ≤ 8) (hd : decode cc pc = .ok (.invokevirtual index, 3)) (kk : WX X nL Y Z Q g' (pc + 3) lv (.long r :: st)) : WX X nL Y Z Q g pc lv st0 := by
  subst hst
  obtain ⟨p, l, e, R, s, m, args, below, meth, c⟩ := X
  intro H locs ls hP hS hl
  obtain ⟨hx, hb, hml, hown, hts, -, -, hFr, hLo, hK, hI, hEn⟩ := C
  refine va_calll (va_runV (As := As) (rest := st) ⟨hx, hb, hml, hown, hts⟩ (hM l) ⟨callB_of n hts (code_in hi.2.2.2.1) rfl rfl rfl (hts _ hi.2.2.1) (hts _ hw) hi.2.2.2.2 ⟨Nat.le_trans hR.1 hFr, Nat.le_trans hR.2 hLo⟩, hts _ hi.1, hts _ hi.2.1⟩ ⟨SysAt.blind, va_recv hK hP hc (by rw [sw_at hk, hE]), fun U hU hW => ⟨rfl, by rw [hU]; exact hP, va_K.moved hW.alike hK, hI, by rw [hU]; exact (hEn.kept hS.2.1).warm hW⟩⟩ rfl hn hl.1 rfl (lv_room hcat) hd ⟨Nat.zero_le _, Nat.zero_le _⟩) hS (fun q _ h => h) (fun q h => h) (fun r1 u t H1 locs1 ht hvm hq hB _ _ hS1 => ?_)
  obtain ⟨rfl, rfl⟩ := hq
  have hB : va_P Z.1 cls (sw Y Z _) t.heap := hB
  rw [ht] at hB
  exact kk H1 locs1 ls hB hS1 hl
theorem x_callSl (C : CX X nL Y Z cc own ret F L) {r : Int64} (hM : CT Y Z y cc' maxL' ret' F' L' As g (QcL Y Z r g')) (hi : MS y cc' maxL' ret' n) (hw : Cond.methodLink own index y ∈ TT) (hR : F' + 1 ≤ F ∧ 8 + (maxL' + 11) + L' ≤ L) (hn : As.length = n) (hst : As.reverse ++ st = st0) (hcat : (st.map fun v => v.category).sum ≤ 8) (hd : decode cc pc = .ok (.invokestatic index, 3)) (kk : WX X nL Y Z Q g' (pc + 3) lv (.long r :: st)) : WX X nL Y Z Q g pc lv st0 := by
  subst hst
  obtain ⟨p, l, e, R, s, m, args, below, meth, c⟩ := X
  intro H locs ls hP hS hl
  obtain ⟨hx, hb, hml, hown, hts, -, -, hFr, hLo, hK, hI, hEn⟩ := C
  refine va_calll (va_runS (As := As) (rest := st) ⟨hx, hb, hml, hown, hts⟩ (hM l) ⟨callB_of n hts (code_in hi.2.2.1) rfl rfl rfl (hts _ hi.2.1) (hts _ hw) hi.2.2.2 ⟨Nat.le_trans hR.1 hFr, Nat.le_trans hR.2 hLo⟩, hts _ hi.1⟩ ⟨SysAt.blind, fun U hU hW => ⟨rfl, by rw [hU]; exact hP, va_K.moved hW.alike hK, hI, by rw [hU]; exact (hEn.kept hS.2.1).warm hW⟩⟩ rfl hn hl.1 rfl (lv_room hcat) hd ⟨Nat.zero_le _, Nat.zero_le _⟩) hS (fun q _ h => h) (fun q h => h) (fun r1 u t H1 locs1 ht hvm hq hB _ _ hS1 => ?_)
  obtain ⟨rfl, rfl⟩ := hq
  have hB : va_P Z.1 cls (sw Y Z _) t.heap := hB
  rw [ht] at hB
  exact kk H1 locs1 ls hB hS1 hl
theorem x_callNl (C : CX X nL Y Z cc own ret F L) {r : Int64} (hM : CT Y Z y cc' maxL' ret' F' L' As g (QcL Y Z r g')) (hi : MS y cc' maxL' ret' n) {host : String} (hw : (own, index, y, host) ∈ nestM) (hR : F' + 1 ≤ F ∧ 8 + (maxL' + 11) + L' ≤ L) (hn : As.length = n) (hst : As.reverse ++ st = st0) (hcat : (st.map fun v => v.category).sum ≤ 8) (hd : decode cc pc = .ok (.invokestatic index, 3)) (kk : WX X nL Y Z Q g' (pc + 3) lv (.long r :: st)) : WX X nL Y Z Q g pc lv st0 := by
  subst hst
  obtain ⟨p, l, e, R, s, m, args, below, meth, c⟩ := X
  intro H locs ls hP hS hl
  obtain ⟨hx, hb, hml, hown, hts, -, -, hFr, hLo, hK, hI, hEn⟩ := C
  refine va_calll (va_runSN (As := As) (rest := st) ⟨hx, hb, hml, hown, hts⟩ (hM l) ⟨va_cnB n hts (code_in hi.2.2.1) rfl rfl rfl (hEn.2.2.2.2.2.2.2.1 _ hw) (hts _ hi.2.1) hi.2.2.2 ⟨Nat.le_trans hR.1 hFr, Nat.le_trans hR.2 hLo⟩, hts _ hi.1, trivial⟩ ⟨SysAt.blind, fun U hU hW => ⟨rfl, by rw [hU]; exact hP, va_K.moved hW.alike hK, hI, by rw [hU]; exact (hEn.kept hS.2.1).warm hW⟩⟩ rfl hn hl.1 rfl (lv_room hcat) hd ⟨Nat.zero_le _, Nat.zero_le _⟩) hS (fun q _ h => h) (fun q h => h) (fun r1 u t H1 locs1 ht hvm hq hB _ _ hS1 => ?_)
  obtain ⟨rfl, rfl⟩ := hq
  have hB : va_P Z.1 cls (sw Y Z _) t.heap := hB
  rw [ht] at hB
  exact kk H1 locs1 ls hB hS1 hl
theorem x_callVv (C : CX X nL Y Z cc own ret F L) (hM : CT Y Z y cc' maxL' ret' F' L' (.ref (Z.2.1 k) :: As) g (QcV Y Z g')) (hi : MI y cc' maxL' ret' n) (hw : Cond.methodLink own index y ∈ TT) (hk : k < Y.1) {ci : Nat} {fs : List Value} (hE : Y.2.1 Z k (sr Y g k) = .inr (ci, fs)) {T : u_T} {N : Nat} (hc : cls[ci]? = some (y.cls, T, N)) (hR : F' + 1 ≤ F ∧ 8 + (maxL' + 11) + L' ≤ L) (hn : As.length = n) (hst : As.reverse ++ .ref (Z.2.1 k) :: st = st0) (hcat : (st.map fun v => v.category).sum ≤ 8) (hd : decode cc pc = .ok (.invokevirtual index, 3)) (kk : WX X nL Y Z Q g' (pc + 3) lv (st)) : WX X nL Y Z Q g pc lv st0 := by
  subst hst
  obtain ⟨p, l, e, R, s, m, args, below, meth, c⟩ := X
  intro H locs ls hP hS hl
  obtain ⟨hx, hb, hml, hown, hts, -, -, hFr, hLo, hK, hI, hEn⟩ := C
  refine va_callv (va_runV (As := As) (rest := st) ⟨hx, hb, hml, hown, hts⟩ (hM l) ⟨callB_of n hts (code_in hi.2.2.2.1) rfl rfl rfl (hts _ hi.2.2.1) (hts _ hw) hi.2.2.2.2 ⟨Nat.le_trans hR.1 hFr, Nat.le_trans hR.2 hLo⟩, hts _ hi.1, hts _ hi.2.1⟩ ⟨SysAt.blind, va_recv hK hP hc (by rw [sw_at hk, hE]), fun U hU hW => ⟨rfl, by rw [hU]; exact hP, va_K.moved hW.alike hK, hI, by rw [hU]; exact (hEn.kept hS.2.1).warm hW⟩⟩ rfl hn hl.1 rfl (lv_room hcat) hd ⟨Nat.zero_le _, Nat.zero_le _⟩) hS (fun q _ h => h) (fun q h => h) (fun u t H1 locs1 ht hvm hq hB _ _ hS1 => ?_)
  subst hq
  have hB : va_P Z.1 cls (sw Y Z _) t.heap := hB
  rw [ht] at hB
  exact kk H1 locs1 ls hB hS1 hl
theorem x_callSv (C : CX X nL Y Z cc own ret F L) (hM : CT Y Z y cc' maxL' ret' F' L' As g (QcV Y Z g')) (hi : MS y cc' maxL' ret' n) (hw : Cond.methodLink own index y ∈ TT) (hR : F' + 1 ≤ F ∧ 8 + (maxL' + 11) + L' ≤ L) (hn : As.length = n) (hst : As.reverse ++ st = st0) (hcat : (st.map fun v => v.category).sum ≤ 8) (hd : decode cc pc = .ok (.invokestatic index, 3)) (kk : WX X nL Y Z Q g' (pc + 3) lv (st)) : WX X nL Y Z Q g pc lv st0 := by
  subst hst
  obtain ⟨p, l, e, R, s, m, args, below, meth, c⟩ := X
  intro H locs ls hP hS hl
  obtain ⟨hx, hb, hml, hown, hts, -, -, hFr, hLo, hK, hI, hEn⟩ := C
  refine va_callv (va_runS (As := As) (rest := st) ⟨hx, hb, hml, hown, hts⟩ (hM l) ⟨callB_of n hts (code_in hi.2.2.1) rfl rfl rfl (hts _ hi.2.1) (hts _ hw) hi.2.2.2 ⟨Nat.le_trans hR.1 hFr, Nat.le_trans hR.2 hLo⟩, hts _ hi.1⟩ ⟨SysAt.blind, fun U hU hW => ⟨rfl, by rw [hU]; exact hP, va_K.moved hW.alike hK, hI, by rw [hU]; exact (hEn.kept hS.2.1).warm hW⟩⟩ rfl hn hl.1 rfl (lv_room hcat) hd ⟨Nat.zero_le _, Nat.zero_le _⟩) hS (fun q _ h => h) (fun q h => h) (fun u t H1 locs1 ht hvm hq hB _ _ hS1 => ?_)
  subst hq
  have hB : va_P Z.1 cls (sw Y Z _) t.heap := hB
  rw [ht] at hB
  exact kk H1 locs1 ls hB hS1 hl
theorem x_callNv (C : CX X nL Y Z cc own ret F L) (hM : CT Y Z y cc' maxL' ret' F' L' As g (QcV Y Z g')) (hi : MS y cc' maxL' ret' n) {host : String} (hw : (own, index, y, host) ∈ nestM) (hR : F' + 1 ≤ F ∧ 8 + (maxL' + 11) + L' ≤ L) (hn : As.length = n) (hst : As.reverse ++ st = st0) (hcat : (st.map fun v => v.category).sum ≤ 8) (hd : decode cc pc = .ok (.invokestatic index, 3)) (kk : WX X nL Y Z Q g' (pc + 3) lv (st)) : WX X nL Y Z Q g pc lv st0 := by
  subst hst
  obtain ⟨p, l, e, R, s, m, args, below, meth, c⟩ := X
  intro H locs ls hP hS hl
  obtain ⟨hx, hb, hml, hown, hts, -, -, hFr, hLo, hK, hI, hEn⟩ := C
  refine va_callv (va_runSN (As := As) (rest := st) ⟨hx, hb, hml, hown, hts⟩ (hM l) ⟨va_cnB n hts (code_in hi.2.2.1) rfl rfl rfl (hEn.2.2.2.2.2.2.2.1 _ hw) (hts _ hi.2.1) hi.2.2.2 ⟨Nat.le_trans hR.1 hFr, Nat.le_trans hR.2 hLo⟩, hts _ hi.1, trivial⟩ ⟨SysAt.blind, fun U hU hW => ⟨rfl, by rw [hU]; exact hP, va_K.moved hW.alike hK, hI, by rw [hU]; exact (hEn.kept hS.2.1).warm hW⟩⟩ rfl hn hl.1 rfl (lv_room hcat) hd ⟨Nat.zero_le _, Nat.zero_le _⟩) hS (fun q _ h => h) (fun q h => h) (fun u t H1 locs1 ht hvm hq hB _ _ hS1 => ?_)
  subst hq
  have hB : va_P Z.1 cls (sw Y Z _) t.heap := hB
  rw [ht] at hB
  exact kk H1 locs1 ls hB hS1 hl
theorem x_callVr (C : CX X nL Y Z cc own ret F L) {r : Nat} (hM : CT Y Z y cc' maxL' ret' F' L' (.ref (Z.2.1 k) :: As) g (QcR Y Z r g')) (hi : MI y cc' maxL' ret' n) (hw : Cond.methodLink own index y ∈ TT) (hk : k < Y.1) {ci : Nat} {fs : List Value} (hE : Y.2.1 Z k (sr Y g k) = .inr (ci, fs)) {T : u_T} {N : Nat} (hc : cls[ci]? = some (y.cls, T, N)) (hR : F' + 1 ≤ F ∧ 8 + (maxL' + 11) + L' ≤ L) (hn : As.length = n) (hst : As.reverse ++ .ref (Z.2.1 k) :: st = st0) (hcat : (st.map fun v => v.category).sum ≤ 8) (hd : decode cc pc = .ok (.invokevirtual index, 3)) (kk : WX X nL Y Z Q g' (pc + 3) lv (.ref r :: st)) : WX X nL Y Z Q g pc lv st0 := by
  subst hst
  obtain ⟨p, l, e, R, s, m, args, below, meth, c⟩ := X
  intro H locs ls hP hS hl
  obtain ⟨hx, hb, hml, hown, hts, -, -, hFr, hLo, hK, hI, hEn⟩ := C
  refine va_callr (va_runV (As := As) (rest := st) ⟨hx, hb, hml, hown, hts⟩ (hM l) ⟨callB_of n hts (code_in hi.2.2.2.1) rfl rfl rfl (hts _ hi.2.2.1) (hts _ hw) hi.2.2.2.2 ⟨Nat.le_trans hR.1 hFr, Nat.le_trans hR.2 hLo⟩, hts _ hi.1, hts _ hi.2.1⟩ ⟨SysAt.blind, va_recv hK hP hc (by rw [sw_at hk, hE]), fun U hU hW => ⟨rfl, by rw [hU]; exact hP, va_K.moved hW.alike hK, hI, by rw [hU]; exact (hEn.kept hS.2.1).warm hW⟩⟩ rfl hn hl.1 rfl (lv_room hcat) hd ⟨Nat.zero_le _, Nat.zero_le _⟩) hS (fun q _ h => h) (fun q h => h) (fun u a1 t H1 locs1 ht hvm hq hB _ _ hS1 => ?_)
  obtain rfl := hq; obtain ⟨rfl, hB⟩ := hB
  have hB : va_P Z.1 cls (sw Y Z _) t.heap := hB
  rw [ht] at hB
  exact kk H1 locs1 ls hB hS1 hl
theorem x_callSr (C : CX X nL Y Z cc own ret F L) {r : Nat} (hM : CT Y Z y cc' maxL' ret' F' L' As g (QcR Y Z r g')) (hi : MS y cc' maxL' ret' n) (hw : Cond.methodLink own index y ∈ TT) (hR : F' + 1 ≤ F ∧ 8 + (maxL' + 11) + L' ≤ L) (hn : As.length = n) (hst : As.reverse ++ st = st0) (hcat : (st.map fun v => v.category).sum ≤ 8) (hd : decode cc pc = .ok (.invokestatic index, 3)) (kk : WX X nL Y Z Q g' (pc + 3) lv (.ref r :: st)) : WX X nL Y Z Q g pc lv st0 := by
  subst hst
  obtain ⟨p, l, e, R, s, m, args, below, meth, c⟩ := X
  intro H locs ls hP hS hl
  obtain ⟨hx, hb, hml, hown, hts, -, -, hFr, hLo, hK, hI, hEn⟩ := C
  refine va_callr (va_runS (As := As) (rest := st) ⟨hx, hb, hml, hown, hts⟩ (hM l) ⟨callB_of n hts (code_in hi.2.2.1) rfl rfl rfl (hts _ hi.2.1) (hts _ hw) hi.2.2.2 ⟨Nat.le_trans hR.1 hFr, Nat.le_trans hR.2 hLo⟩, hts _ hi.1⟩ ⟨SysAt.blind, fun U hU hW => ⟨rfl, by rw [hU]; exact hP, va_K.moved hW.alike hK, hI, by rw [hU]; exact (hEn.kept hS.2.1).warm hW⟩⟩ rfl hn hl.1 rfl (lv_room hcat) hd ⟨Nat.zero_le _, Nat.zero_le _⟩) hS (fun q _ h => h) (fun q h => h) (fun u a1 t H1 locs1 ht hvm hq hB _ _ hS1 => ?_)
  obtain rfl := hq; obtain ⟨rfl, hB⟩ := hB
  have hB : va_P Z.1 cls (sw Y Z _) t.heap := hB
  rw [ht] at hB
  exact kk H1 locs1 ls hB hS1 hl
theorem x_callNr (C : CX X nL Y Z cc own ret F L) {r : Nat} (hM : CT Y Z y cc' maxL' ret' F' L' As g (QcR Y Z r g')) (hi : MS y cc' maxL' ret' n) {host : String} (hw : (own, index, y, host) ∈ nestM) (hR : F' + 1 ≤ F ∧ 8 + (maxL' + 11) + L' ≤ L) (hn : As.length = n) (hst : As.reverse ++ st = st0) (hcat : (st.map fun v => v.category).sum ≤ 8) (hd : decode cc pc = .ok (.invokestatic index, 3)) (kk : WX X nL Y Z Q g' (pc + 3) lv (.ref r :: st)) : WX X nL Y Z Q g pc lv st0 := by
  subst hst
  obtain ⟨p, l, e, R, s, m, args, below, meth, c⟩ := X
  intro H locs ls hP hS hl
  obtain ⟨hx, hb, hml, hown, hts, -, -, hFr, hLo, hK, hI, hEn⟩ := C
  refine va_callr (va_runSN (As := As) (rest := st) ⟨hx, hb, hml, hown, hts⟩ (hM l) ⟨va_cnB n hts (code_in hi.2.2.1) rfl rfl rfl (hEn.2.2.2.2.2.2.2.1 _ hw) (hts _ hi.2.1) hi.2.2.2 ⟨Nat.le_trans hR.1 hFr, Nat.le_trans hR.2 hLo⟩, hts _ hi.1, trivial⟩ ⟨SysAt.blind, fun U hU hW => ⟨rfl, by rw [hU]; exact hP, va_K.moved hW.alike hK, hI, by rw [hU]; exact (hEn.kept hS.2.1).warm hW⟩⟩ rfl hn hl.1 rfl (lv_room hcat) hd ⟨Nat.zero_le _, Nat.zero_le _⟩) hS (fun q _ h => h) (fun q h => h) (fun u a1 t H1 locs1 ht hvm hq hB _ _ hS1 => ?_)
  obtain rfl := hq; obtain ⟨rfl, hB⟩ := hB
  have hB : va_P Z.1 cls (sw Y Z _) t.heap := hB
  rw [ht] at hB
  exact kk H1 locs1 ls hB hS1 hl
end Calls
end
section
/-! the class's cells: 0 TunnelPeace, 1 Forecast, 2 Tape, 3 its bytes, 4 the sheets' row, 5..8 Sheets, 9..12 their numbers, 13 findings, 14+12t.. Tunnel t: itself, list, spots, people, persons -/
def cSec (k : Nat) : Nat := if k < 14 then 3 + k else (k - 14) / 12
def tIdx (j : Nat) : Nat := if j = 0 then 0 else if j = 1 then 3 else if j = 2 then 2 else if j = 3 then 1 else 100 + j
def qIdx (q j : Nat) : Nat := if q = 0 then tIdx j else if q = 1 then 4 + j else if q = 2 then 10 + j else if q = 3 then 200 + j else 20 + 6 * (q - 4) + j
def cIdx (k j : Nat) : Nat := if k < 14 then j else qIdx ((k - 14) % 12) j
def qE (Z : ZT) (k q : Nat) (r : Nat → Int32) : va_E :=
  if q = 0 then .inr (4, [.int (r 0), .int (r 1), .int (r 2), .int (r 3), .ref (Z.2.1 (k + 1)), .ref (Z.2.1 (k + 3)), .ref (Z.2.1 (k + 2))])
  else if q = 1 then .inl (Z.2.2.1 0, 6, .inl (tr 6 r))
  else if q = 2 then .inl (Z.2.2.1 0, 10, .inl (tr 10 r))
  else if q = 3 then .inl (Z.2.2.1 2, 8, .inr (.inr (.inr (.inr (fun i => if i < 8 then some (Z.2.1 (k + 1 + i)) else none)))))
  else .inr (1, [.int (r 0), .int (r 1), .int (r 2), .int (r 3), .int (r 4), .int (r 5)])
def cE (Z : ZT) (k : Nat) (r : Nat → Int32) : va_E :=
  if k = 0 then .inr (5, [.ref (Z.2.1 14), .ref (Z.2.1 26), .ref (Z.2.1 38), .int (r 3), .ref (Z.2.1 1), .ref (Z.2.1 2), .ref (Z.2.1 4), .ref (Z.2.1 13)])
  else if k = 1 then .inr (0, [.ref (Z.2.1 14), .ref (Z.2.1 26)])
  else if k = 2 then .inr (3, [.int (r 0), .ref (Z.2.1 3), .int (r 2), .int (r 3), .int (r 4), .int (r 5)])
  else if k = 3 then .inl (Z.2.2.1 1, 120, .inl (tr 120 r))
  else if k = 4 then .inl (Z.2.2.1 3, 4, .inr (.inr (.inr (.inr (fun i => if i < 4 then some (Z.2.1 (5 + i)) else none)))))
  else if k < 9 then .inr (2, [.int (r 0), .int (r 1), .ref (Z.2.1 (k + 4))])
  else if k < 13 then .inl (Z.2.2.1 0, 40, .inl (tr 40 r))
  else if k < 14 then .inl (Z.2.2.1 0, 7, .inl (tr 7 r))
  else qE Z k ((k - 14) % 12) r
def yC : YT := (50, cE, cSec, cIdx)
theorem e_TP (Z : ZT) (r : Nat → Int32) : cE Z 0 r = .inr (5, [.ref (Z.2.1 14), .ref (Z.2.1 26), .ref (Z.2.1 38), .int (r 3), .ref (Z.2.1 1), .ref (Z.2.1 2), .ref (Z.2.1 4), .ref (Z.2.1 13)]) := rfl
theorem e_Fo (Z : ZT) (r : Nat → Int32) : cE Z 1 r = .inr (0, [.ref (Z.2.1 14), .ref (Z.2.1 26)]) := rfl
theorem e_Ta (Z : ZT) (r : Nat → Int32) : cE Z 2 r = .inr (3, [.int (r 0), .ref (Z.2.1 3), .int (r 2), .int (r 3), .int (r 4), .int (r 5)]) := rfl
theorem e_by (Z : ZT) (r : Nat → Int32) : cE Z 3 r = .inl (Z.2.2.1 1, 120, .inl (tr 120 r)) := rfl
theorem e_ss (Z : ZT) (r : Nat → Int32) : cE Z 4 r = .inl (Z.2.2.1 3, 4, .inr (.inr (.inr (.inr (fun i => if i < 4 then some (Z.2.1 (5 + i)) else none))))) := rfl
theorem e_Sh (Z : ZT) {s : Nat} (hs : s < 4) (r : Nat → Int32) : cE Z (5 + s) r = .inr (2, [.int (r 0), .int (r 1), .ref (Z.2.1 (9 + s))]) := by
  rcases (show s = 0 ∨ s = 1 ∨ s = 2 ∨ s = 3 by omega) with rfl | rfl | rfl | rfl <;> rfl
theorem e_nu (Z : ZT) {s : Nat} (hs : s < 4) (r : Nat → Int32) : cE Z (9 + s) r = .inl (Z.2.2.1 0, 40, .inl (tr 40 r)) := by
  rcases (show s = 0 ∨ s = 1 ∨ s = 2 ∨ s = 3 by omega) with rfl | rfl | rfl | rfl <;> rfl
theorem e_fi (Z : ZT) (r : Nat → Int32) : cE Z 13 r = .inl (Z.2.2.1 0, 7, .inl (tr 7 r)) := rfl
theorem e_q (Z : ZT) {k : Nat} (hk : 14 ≤ k) (r : Nat → Int32) : cE Z k r = qE Z k ((k - 14) % 12) r := by
  unfold cE
  rw [if_neg (by omega), if_neg (by omega), if_neg (by omega), if_neg (by omega), if_neg (by omega), if_neg (by omega), if_neg (by omega), if_neg (by omega)]
theorem e_Tu (Z : ZT) (t : Nat) (r : Nat → Int32) : cE Z (14 + 12 * t) r = .inr (4, [.int (r 0), .int (r 1), .int (r 2), .int (r 3), .ref (Z.2.1 (15 + 12 * t)), .ref (Z.2.1 (17 + 12 * t)), .ref (Z.2.1 (16 + 12 * t))]) := by
  rw [e_q Z (by omega), show (14 + 12 * t - 14) % 12 = 0 by omega, show 15 + 12 * t = 14 + 12 * t + 1 by omega, show 17 + 12 * t = 14 + 12 * t + 3 by omega, show 16 + 12 * t = 14 + 12 * t + 2 by omega]
  rfl
theorem e_li (Z : ZT) (t : Nat) (r : Nat → Int32) : cE Z (15 + 12 * t) r = .inl (Z.2.2.1 0, 6, .inl (tr 6 r)) := by
  rw [e_q Z (by omega), show (15 + 12 * t - 14) % 12 = 1 by omega]
  rfl
theorem e_sp (Z : ZT) (t : Nat) (r : Nat → Int32) : cE Z (16 + 12 * t) r = .inl (Z.2.2.1 0, 10, .inl (tr 10 r)) := by
  rw [e_q Z (by omega), show (16 + 12 * t - 14) % 12 = 2 by omega]
  rfl
theorem e_pp (Z : ZT) (t : Nat) (r : Nat → Int32) : cE Z (17 + 12 * t) r = .inl (Z.2.2.1 2, 8, .inr (.inr (.inr (.inr (fun i => if i < 8 then some (Z.2.1 (18 + 12 * t + i)) else none))))) := by
  rw [e_q Z (by omega), show (17 + 12 * t - 14) % 12 = 3 by omega, show 18 + 12 * t = 17 + 12 * t + 1 by omega]
  rfl
theorem e_Pe (Z : ZT) (t : Nat) {i : Nat} (hi : i < 8) (r : Nat → Int32) : cE Z (18 + 12 * t + i) r = .inr (1, [.int (r 0), .int (r 1), .int (r 2), .int (r 3), .int (r 4), .int (r 5)]) := by
  rw [e_q Z (by omega), show (18 + 12 * t + i - 14) % 12 = 4 + i by omega]
  unfold qE
  rw [if_neg (by omega), if_neg (by omega), if_neg (by omega), if_neg (by omega)]
theorem sec_lo {k : Nat} (h : k < 14) : cSec k = 3 + k := if_pos h
theorem idx_lo {k : Nat} (h : k < 14) (j : Nat) : cIdx k j = j := if_pos h
theorem sec_hi {t q : Nat} (h : q < 12) : cSec (14 + 12 * t + q) = t := by unfold cSec; rw [if_neg (by omega)]; omega
theorem idx_hi {t q : Nat} (h : q < 12) (j : Nat) : cIdx (14 + 12 * t + q) j = qIdx q j := by unfold cIdx; rw [if_neg (by omega), show (14 + 12 * t + q - 14) % 12 = q by omega]
theorem sec_Tu (t : Nat) : cSec (14 + 12 * t) = t := sec_hi (q := 0) (by omega)
theorem idx_Tu (t j : Nat) : cIdx (14 + 12 * t) j = tIdx j := idx_hi (q := 0) (by omega) j
theorem sec_li (t : Nat) : cSec (15 + 12 * t) = t := by rw [show 15 + 12 * t = 14 + 12 * t + 1 by omega]; exact sec_hi (by omega)
theorem idx_li (t j : Nat) : cIdx (15 + 12 * t) j = 4 + j := by rw [show 15 + 12 * t = 14 + 12 * t + 1 by omega, idx_hi (by omega)]; rfl
theorem sec_sp (t : Nat) : cSec (16 + 12 * t) = t := by rw [show 16 + 12 * t = 14 + 12 * t + 2 by omega]; exact sec_hi (by omega)
theorem idx_sp (t j : Nat) : cIdx (16 + 12 * t) j = 10 + j := by rw [show 16 + 12 * t = 14 + 12 * t + 2 by omega, idx_hi (by omega)]; rfl
theorem sec_Pe (t : Nat) {i : Nat} (hi : i < 8) : cSec (18 + 12 * t + i) = t := by rw [show 18 + 12 * t + i = 14 + 12 * t + (4 + i) by omega]; exact sec_hi (by omega)
theorem idx_Pe (t : Nat) {i : Nat} (hi : i < 8) (j : Nat) : cIdx (18 + 12 * t + i) j = 20 + 6 * i + j := by
  rw [show 18 + 12 * t + i = 14 + 12 * t + (4 + i) by omega, idx_hi (by omega)]
  unfold qIdx
  rw [if_neg (by omega), if_neg (by omega), if_neg (by omega), if_neg (by omega), show 4 + i - 4 = i by omega]
def qLen (q : Nat) : Nat := if q = 0 then 4 else if q = 1 then 6 else if q = 2 then 10 else if q = 3 then 0 else 6
theorem tr_congr {n : Nat} {f h : Nat → Int32} (e : ∀ j, j < n → f j = h j) : tr n f = tr n h := by
  funext j
  by_cases hj : j < n
  · simp [tr, hj, e j hj]
  · simp [tr, hj]
theorem qE_congr {Z : ZT} {k q : Nat} {r r' : Nat → Int32} (h : ∀ j, j < qLen q → r j = r' j) : qE Z k q r = qE Z k q r' := by
  unfold qE
  unfold qLen at h
  by_cases h0 : q = 0
  · rw [if_pos h0] at h
    rw [if_pos h0, if_pos h0, h 0 (by omega), h 1 (by omega), h 2 (by omega), h 3 (by omega)]
  · rw [if_neg h0] at h
    rw [if_neg h0, if_neg h0]
    by_cases h1 : q = 1
    · rw [if_pos h1] at h
      rw [if_pos h1, if_pos h1, tr_congr h]
    · rw [if_neg h1] at h
      rw [if_neg h1, if_neg h1]
      by_cases h2 : q = 2
      · rw [if_pos h2] at h
        rw [if_pos h2, if_pos h2, tr_congr h]
      · rw [if_neg h2] at h
        rw [if_neg h2, if_neg h2]
        by_cases h3 : q = 3
        · rw [if_pos h3, if_pos h3]
        · rw [if_neg h3] at h
          rw [if_neg h3, if_neg h3, h 0 (by omega), h 1 (by omega), h 2 (by omega), h 3 (by omega), h 4 (by omega), h 5 (by omega)]
theorem tIdx_inj {a b : Nat} (h : tIdx a = tIdx b) : a = b := by
  unfold tIdx at h
  repeat' split at h
  all_goals omega
theorem tIdx_lt {a : Nat} (h : a < 4) : tIdx a < 4 := by
  unfold tIdx
  repeat' split
  all_goals omega
theorem qIdx_inj {q a b : Nat} (h : qIdx q a = qIdx q b) : a = b := by
  unfold qIdx at h
  by_cases h0 : q = 0
  · rw [if_pos h0, if_pos h0] at h; exact tIdx_inj h
  · rw [if_neg h0, if_neg h0] at h
    repeat' split at h
    all_goals omega
theorem qIdx_ne {q q' j j' : Nat} (hq : q < 12) (hq' : q' < 12) (hne : q' ≠ q) (hj : j < qLen q) (hj' : j' < qLen q') : qIdx q' j' ≠ qIdx q j := by
  unfold qLen at hj hj'
  unfold qIdx
  by_cases h0 : q = 0
  · subst h0
    rw [if_pos rfl] at hj
    rw [if_pos rfl]
    have := tIdx_lt hj
    repeat' split
    all_goals (repeat' split at hj')
    all_goals omega
  · rw [if_neg h0] at hj
    rw [if_neg h0]
    by_cases h1 : q' = 0
    · rw [if_pos h1] at hj'
      rw [if_pos h1]
      have := tIdx_lt hj'
      repeat' split
      all_goals (repeat' split at hj)
      all_goals omega
    · rw [if_neg h1] at hj'
      rw [if_neg h1]
      repeat' split
      all_goals (repeat' split at hj)
      all_goals (repeat' split at hj')
      all_goals omega
theorem up_other {g : St} {t t' n : Nat} {v : Int32} (h : t' ≠ t) : up g t n v t' = g t' := va_up_ne _ _ h
theorem up_self {g : St} {t n : Nat} {v : Int32} : up g t n v t = upd (g t) n v := va_up_self _ _ _
theorem sOk_lo {k j : Nat} (hk : k < 14) : sOk yC k j := by
  intro Z g v k' hk'
  show cE Z k' (sr yC (up g (cSec k) (cIdx k j) v) k') = if k' = k then cE Z k (upd (sr yC g k) j v) else cE Z k' (sr yC g k')
  rw [sec_lo hk, idx_lo hk]
  by_cases h : k' = k
  · subst h
    rw [if_pos rfl]
    congr 1
    funext i
    show up g (3 + k') j v (cSec k') (cIdx k' i) = upd (fun i => g (cSec k') (cIdx k' i)) j v i
    rw [sec_lo hk, up_self]
    simp only [upd, idx_lo hk]
  · rw [if_neg h]
    congr 1
    funext i
    show up g (3 + k) j v (cSec k') (cIdx k' i) = g (cSec k') (cIdx k' i)
    rw [up_other]
    by_cases h14 : k' < 14
    · rw [sec_lo h14]; omega
    · have hk50 : k' < 50 := hk'
      unfold cSec; rw [if_neg h14]; omega
theorem sOk_hi {t q j : Nat} (ht : t < 3) (hq : q < 12) (hj : j < qLen q) : sOk yC (14 + 12 * t + q) j := by
  intro Z g v k' hk'
  show cE Z k' (sr yC (up g (cSec (14 + 12 * t + q)) (cIdx (14 + 12 * t + q) j) v) k') = if k' = 14 + 12 * t + q then cE Z (14 + 12 * t + q) (upd (sr yC g (14 + 12 * t + q)) j v) else cE Z k' (sr yC g k')
  rw [sec_hi hq, idx_hi hq]
  by_cases h : k' = 14 + 12 * t + q
  · subst h
    rw [if_pos rfl]
    congr 1
    funext i
    show up g t (qIdx q j) v (cSec (14 + 12 * t + q)) (cIdx (14 + 12 * t + q) i) = upd (fun i => g (cSec (14 + 12 * t + q)) (cIdx (14 + 12 * t + q) i)) j v i
    rw [sec_hi hq, up_self, idx_hi hq]
    simp only [upd, idx_hi hq]
    by_cases hi : i = j
    · subst hi; rw [if_pos rfl, if_pos rfl]
    · rw [if_neg hi, if_neg (fun e => hi (qIdx_inj e))]
  · rw [if_neg h]
    by_cases h14 : k' < 14
    · congr 1
      funext i
      show up g t (qIdx q j) v (cSec k') (cIdx k' i) = g (cSec k') (cIdx k' i)
      rw [up_other]
      rw [sec_lo h14]; omega
    · rw [e_q Z (by omega), e_q Z (by omega)]
      apply qE_congr
      intro i hi
      show up g t (qIdx q j) v (cSec k') (cIdx k' i) = g (cSec k') (cIdx k' i)
      by_cases hs : cSec k' = t
      · rw [hs, up_self]
        have hs2 : (k' - 14) / 12 = t := by unfold cSec at hs; rwa [if_neg h14] at hs
        have hne : cIdx k' i ≠ qIdx q j := by
          unfold cIdx
          rw [if_neg h14]
          exact qIdx_ne hq (by omega) (by omega) hj hi
        simp only [upd, if_neg hne]
      · rw [up_other hs]
theorem ok_Tu {t j : Nat} (ht : t < 3) (hj : j < 4) : sOk yC (14 + 12 * t) j := sOk_hi (q := 0) ht (by omega) hj
theorem ok_li {t j : Nat} (ht : t < 3) (hj : j < 6) : sOk yC (15 + 12 * t) j := by rw [show 15 + 12 * t = 14 + 12 * t + 1 by omega]; exact sOk_hi (q := 1) ht (by omega) hj
theorem ok_sp {t j : Nat} (ht : t < 3) (hj : j < 10) : sOk yC (16 + 12 * t) j := by rw [show 16 + 12 * t = 14 + 12 * t + 2 by omega]; exact sOk_hi (q := 2) ht (by omega) hj
theorem ok_Pe {t i j : Nat} (ht : t < 3) (hi : i < 8) (hj : j < 6) : sOk yC (18 + 12 * t + i) j := by
  rw [show 18 + 12 * t + i = 14 + 12 * t + (4 + i) by omega]
  refine sOk_hi (q := 4 + i) ht (by omega) ?_
  unfold qLen
  rw [if_neg (by omega), if_neg (by omega), if_neg (by omega), if_neg (by omega)]
  exact hj
/-! the reference's cells: 0 itself, 1 now, 2 kept, 3 aside, 4 found, 5 tape, 6 kindNames, 7 items, 8 widths, 9 sizes, 10 numbers, 11 moved -/
def mSec (k : Nat) : Nat := if k = 0 then 3 else if k < 4 then k - 1 else k
def mLen (k : Nat) : Nat := if k < 4 then 68 else if k = 4 then 8 else if k = 5 then 120 else if k = 7 then 720 else if k < 10 then 4 else if k = 10 then 160 else 40
def mTx (i : Nat) : Nat := ([8, 2, 3, 4, 5, 6, 7] : List Nat).getD i 0
def mE (Z : ZT) (k : Nat) (r : Nat → Int32) : va_E :=
  if k = 0 then .inr (6, [.ref (Z.2.1 1), .ref (Z.2.1 2), .ref (Z.2.1 3), .int (r 3), .ref (Z.2.1 4), .ref (Z.2.1 5), .int (r 6), .int (r 7), .int (r 8), .int (r 9), .int (r 10), .int (r 11), .ref (Z.2.1 6), .ref (Z.2.1 7), .int (r 14), .int (r 15), .ref (Z.2.1 8), .ref (Z.2.1 9), .ref (Z.2.1 10), .ref (Z.2.1 11)])
  else if k = 6 then .inl (Z.2.2.1 4, 7, .inr (.inr (.inr (.inr (fun i => if i < 7 then some (Z.2.2.2.2.1 (mTx i)) else none)))))
  else .inl (Z.2.2.1 0, mLen k, .inl (tr (mLen k) r))
def yM : YT := (12, mE, mSec, fun _ j => j)
theorem m_0 (Z : ZT) (r : Nat → Int32) : mE Z 0 r = .inr (6, [.ref (Z.2.1 1), .ref (Z.2.1 2), .ref (Z.2.1 3), .int (r 3), .ref (Z.2.1 4), .ref (Z.2.1 5), .int (r 6), .int (r 7), .int (r 8), .int (r 9), .int (r 10), .int (r 11), .ref (Z.2.1 6), .ref (Z.2.1 7), .int (r 14), .int (r 15), .ref (Z.2.1 8), .ref (Z.2.1 9), .ref (Z.2.1 10), .ref (Z.2.1 11)]) := rfl
theorem m_6 (Z : ZT) (r : Nat → Int32) : mE Z 6 r = .inl (Z.2.2.1 4, 7, .inr (.inr (.inr (.inr (fun i => if i < 7 then some (Z.2.2.2.2.1 (mTx i)) else none))))) := rfl
theorem m_a (Z : ZT) {k : Nat} (h0 : k ≠ 0) (h6 : k ≠ 6) (r : Nat → Int32) : mE Z k r = .inl (Z.2.2.1 0, mLen k, .inl (tr (mLen k) r)) := by
  unfold mE
  rw [if_neg h0, if_neg h6]
theorem mSec_inj {a b : Nat} (h : mSec a = mSec b) : a = b := by
  unfold mSec at h
  repeat' split at h
  all_goals omega
theorem sOkM (k j : Nat) : sOk yM k j := by
  intro Z g v k' hk'
  show mE Z k' (sr yM (up g (mSec k) j v) k') = if k' = k then mE Z k (upd (sr yM g k) j v) else mE Z k' (sr yM g k')
  by_cases h : k' = k
  · subst h
    rw [if_pos rfl]
    congr 1
    funext i
    show up g (mSec k') j v (mSec k') i = upd (fun i => g (mSec k') i) j v i
    rw [up_self]
  · rw [if_neg h]
    congr 1
    funext i
    show up g (mSec k) j v (mSec k') i = g (mSec k') i
    rw [up_other (fun e => h (mSec_inj e))]
end
section
def pI (i f : Nat) : Nat := 20 + 6 * i + f
theorem x_eqg {X : XT} {Y : YT} {Z : ZT} {Q : State → Prop} {g g' : St} {pc nL : Nat} {lv : List (Nat × Value)} {st : List Value} (h : g = g') (k : WX X nL Y Z Q g' pc lv st) : WX X nL Y Z Q g pc lv st := h ▸ k
theorem x_lv {X : XT} {Y : YT} {Z : ZT} {Q : State → Prop} {g : St} {pc nL : Nat} {lv lv' : List (Nat × Value)} {st : List Value} (ks : List Nat) (h : lv_pick lv ks = lv') (k : WX X nL Y Z Q g pc lv' st) : WX X nL Y Z Q g pc lv st := by
  obtain ⟨p, l, e, R, s, m, args, below, meth, c⟩ := X
  exact fun H locs ls hP hS hl => k H locs ls hP hS (lv_sub hl ks h)
theorem x_topi {X : XT} {Y : YT} {Z : ZT} {Q : State → Prop} {g : St} {pc nL : Nat} {lv : List (Nat × Value)} {st : List Value} {x x' : Int32} (h : x = x') (k : WX X nL Y Z Q g pc lv (.int x' :: st)) : WX X nL Y Z Q g pc lv (.int x :: st) := h ▸ k
theorem tr_at {n j : Nat} {f : Nat → Int32} (h : j < n) : tr n f j = f j := if_pos h
theorem up_va {g : St} {t n : Nat} {R : Nat → Int32} {v : Int32} : up (va_up g t R) t n v = va_up g t (upd R n v) := by
  unfold up
  rw [va_up_self, bx_uu]
section Fields
variable {X : XT} {Z : ZT} {Q : State → Prop} {g G : St} {pc : Nat} {lv : List (Nat × Value)} {st : List Value} {cc : ByteArray} {own : String} {ret : Option FieldType} {F L nL index : Nat}
theorem gf_Pe_kind (C : CX X nL yC Z cc own ret F L) {t i : Nat} (ht : t < 3) (hi : i < 8) {v : Int32} (hv : g t (pI i 0) = v) (hw : Cond.fieldLink own index "TunnelPeace$Person" "kind" "I" ∈ TT) (hd : decode cc pc = .ok (.getfield index, 3)) (kk : WX X nL yC Z Q g (pc + 3) lv (.int v :: st)) : WX X nL yC Z Q g pc lv (.ref (Z.2.1 (18 + 12 * t + i)) :: st) :=
  x_get C (show 18 + 12 * t + i < 50 by omega) (e_Pe Z t hi _) rfl in_Pe 0 (by decide) hw (congrArg (fun z : Int32 => some (Value.int z)) (Eq.trans (show g (cSec (18 + 12 * t + i)) (cIdx (18 + 12 * t + i) 0) = g t (pI i 0) by rw [sec_Pe t hi, idx_Pe t hi]; rfl) hv)) hd kk
theorem pf_Pe_kind (C : CX X nL yC Z cc own ret F L) {t i : Nat} (ht : t < 3) (hi : i < 8) {v : Int32} (hG : up g t (pI i 0) v = G) (hw : Cond.fieldLink own index "TunnelPeace$Person" "kind" "I" ∈ TT) (hd : decode cc pc = .ok (.putfield index, 3)) (kk : WX X nL yC Z Q G (pc + 3) lv st) : WX X nL yC Z Q g pc lv (.int v :: .ref (Z.2.1 (18 + 12 * t + i)) :: st) :=
  x_put C (show 18 + 12 * t + i < 50 by omega) (fun r => e_Pe Z t hi r) rfl in_Pe ty_Pe tyok_Pe nm_Pe 0 (by decide) rfl hw rfl rfl (fun r => Nat.le_of_ble_eq_true rfl) (fun r => rfl) (ok_Pe ht hi (by decide)) hd (by rw [show yC.2.2.1 (18 + 12 * t + i) = t from sec_Pe t hi, show yC.2.2.2 (18 + 12 * t + i) 0 = pI i 0 from idx_Pe t hi 0]; exact x_eqg hG kk)
theorem gf_Pe_side (C : CX X nL yC Z cc own ret F L) {t i : Nat} (ht : t < 3) (hi : i < 8) {v : Int32} (hv : g t (pI i 1) = v) (hw : Cond.fieldLink own index "TunnelPeace$Person" "side" "I" ∈ TT) (hd : decode cc pc = .ok (.getfield index, 3)) (kk : WX X nL yC Z Q g (pc + 3) lv (.int v :: st)) : WX X nL yC Z Q g pc lv (.ref (Z.2.1 (18 + 12 * t + i)) :: st) :=
  x_get C (show 18 + 12 * t + i < 50 by omega) (e_Pe Z t hi _) rfl in_Pe 1 (by decide) hw (congrArg (fun z : Int32 => some (Value.int z)) (Eq.trans (show g (cSec (18 + 12 * t + i)) (cIdx (18 + 12 * t + i) 1) = g t (pI i 1) by rw [sec_Pe t hi, idx_Pe t hi]; rfl) hv)) hd kk
theorem pf_Pe_side (C : CX X nL yC Z cc own ret F L) {t i : Nat} (ht : t < 3) (hi : i < 8) {v : Int32} (hG : up g t (pI i 1) v = G) (hw : Cond.fieldLink own index "TunnelPeace$Person" "side" "I" ∈ TT) (hd : decode cc pc = .ok (.putfield index, 3)) (kk : WX X nL yC Z Q G (pc + 3) lv st) : WX X nL yC Z Q g pc lv (.int v :: .ref (Z.2.1 (18 + 12 * t + i)) :: st) :=
  x_put C (show 18 + 12 * t + i < 50 by omega) (fun r => e_Pe Z t hi r) rfl in_Pe ty_Pe tyok_Pe nm_Pe 1 (by decide) rfl hw rfl rfl (fun r => Nat.le_of_ble_eq_true rfl) (fun r => rfl) (ok_Pe ht hi (by decide)) hd (by rw [show yC.2.2.1 (18 + 12 * t + i) = t from sec_Pe t hi, show yC.2.2.2 (18 + 12 * t + i) 1 = pI i 1 from idx_Pe t hi 1]; exact x_eqg hG kk)
theorem gf_Pe_cell (C : CX X nL yC Z cc own ret F L) {t i : Nat} (ht : t < 3) (hi : i < 8) {v : Int32} (hv : g t (pI i 2) = v) (hw : Cond.fieldLink own index "TunnelPeace$Person" "cell" "I" ∈ TT) (hd : decode cc pc = .ok (.getfield index, 3)) (kk : WX X nL yC Z Q g (pc + 3) lv (.int v :: st)) : WX X nL yC Z Q g pc lv (.ref (Z.2.1 (18 + 12 * t + i)) :: st) :=
  x_get C (show 18 + 12 * t + i < 50 by omega) (e_Pe Z t hi _) rfl in_Pe 2 (by decide) hw (congrArg (fun z : Int32 => some (Value.int z)) (Eq.trans (show g (cSec (18 + 12 * t + i)) (cIdx (18 + 12 * t + i) 2) = g t (pI i 2) by rw [sec_Pe t hi, idx_Pe t hi]; rfl) hv)) hd kk
theorem pf_Pe_cell (C : CX X nL yC Z cc own ret F L) {t i : Nat} (ht : t < 3) (hi : i < 8) {v : Int32} (hG : up g t (pI i 2) v = G) (hw : Cond.fieldLink own index "TunnelPeace$Person" "cell" "I" ∈ TT) (hd : decode cc pc = .ok (.putfield index, 3)) (kk : WX X nL yC Z Q G (pc + 3) lv st) : WX X nL yC Z Q g pc lv (.int v :: .ref (Z.2.1 (18 + 12 * t + i)) :: st) :=
  x_put C (show 18 + 12 * t + i < 50 by omega) (fun r => e_Pe Z t hi r) rfl in_Pe ty_Pe tyok_Pe nm_Pe 2 (by decide) rfl hw rfl rfl (fun r => Nat.le_of_ble_eq_true rfl) (fun r => rfl) (ok_Pe ht hi (by decide)) hd (by rw [show yC.2.2.1 (18 + 12 * t + i) = t from sec_Pe t hi, show yC.2.2.2 (18 + 12 * t + i) 2 = pI i 2 from idx_Pe t hi 2]; exact x_eqg hG kk)
theorem gf_Pe_season (C : CX X nL yC Z cc own ret F L) {t i : Nat} (ht : t < 3) (hi : i < 8) {v : Int32} (hv : g t (pI i 3) = v) (hw : Cond.fieldLink own index "TunnelPeace$Person" "season" "I" ∈ TT) (hd : decode cc pc = .ok (.getfield index, 3)) (kk : WX X nL yC Z Q g (pc + 3) lv (.int v :: st)) : WX X nL yC Z Q g pc lv (.ref (Z.2.1 (18 + 12 * t + i)) :: st) :=
  x_get C (show 18 + 12 * t + i < 50 by omega) (e_Pe Z t hi _) rfl in_Pe 3 (by decide) hw (congrArg (fun z : Int32 => some (Value.int z)) (Eq.trans (show g (cSec (18 + 12 * t + i)) (cIdx (18 + 12 * t + i) 3) = g t (pI i 3) by rw [sec_Pe t hi, idx_Pe t hi]; rfl) hv)) hd kk
theorem pf_Pe_season (C : CX X nL yC Z cc own ret F L) {t i : Nat} (ht : t < 3) (hi : i < 8) {v : Int32} (hG : up g t (pI i 3) v = G) (hw : Cond.fieldLink own index "TunnelPeace$Person" "season" "I" ∈ TT) (hd : decode cc pc = .ok (.putfield index, 3)) (kk : WX X nL yC Z Q G (pc + 3) lv st) : WX X nL yC Z Q g pc lv (.int v :: .ref (Z.2.1 (18 + 12 * t + i)) :: st) :=
  x_put C (show 18 + 12 * t + i < 50 by omega) (fun r => e_Pe Z t hi r) rfl in_Pe ty_Pe tyok_Pe nm_Pe 3 (by decide) rfl hw rfl rfl (fun r => Nat.le_of_ble_eq_true rfl) (fun r => rfl) (ok_Pe ht hi (by decide)) hd (by rw [show yC.2.2.1 (18 + 12 * t + i) = t from sec_Pe t hi, show yC.2.2.2 (18 + 12 * t + i) 3 = pI i 3 from idx_Pe t hi 3]; exact x_eqg hG kk)
theorem gf_Pe_bags (C : CX X nL yC Z cc own ret F L) {t i : Nat} (ht : t < 3) (hi : i < 8) {v : Int32} (hv : g t (pI i 4) = v) (hw : Cond.fieldLink own index "TunnelPeace$Person" "bags" "I" ∈ TT) (hd : decode cc pc = .ok (.getfield index, 3)) (kk : WX X nL yC Z Q g (pc + 3) lv (.int v :: st)) : WX X nL yC Z Q g pc lv (.ref (Z.2.1 (18 + 12 * t + i)) :: st) :=
  x_get C (show 18 + 12 * t + i < 50 by omega) (e_Pe Z t hi _) rfl in_Pe 4 (by decide) hw (congrArg (fun z : Int32 => some (Value.int z)) (Eq.trans (show g (cSec (18 + 12 * t + i)) (cIdx (18 + 12 * t + i) 4) = g t (pI i 4) by rw [sec_Pe t hi, idx_Pe t hi]; rfl) hv)) hd kk
theorem pf_Pe_bags (C : CX X nL yC Z cc own ret F L) {t i : Nat} (ht : t < 3) (hi : i < 8) {v : Int32} (hG : up g t (pI i 4) v = G) (hw : Cond.fieldLink own index "TunnelPeace$Person" "bags" "I" ∈ TT) (hd : decode cc pc = .ok (.putfield index, 3)) (kk : WX X nL yC Z Q G (pc + 3) lv st) : WX X nL yC Z Q g pc lv (.int v :: .ref (Z.2.1 (18 + 12 * t + i)) :: st) :=
  x_put C (show 18 + 12 * t + i < 50 by omega) (fun r => e_Pe Z t hi r) rfl in_Pe ty_Pe tyok_Pe nm_Pe 4 (by decide) rfl hw rfl rfl (fun r => Nat.le_of_ble_eq_true rfl) (fun r => rfl) (ok_Pe ht hi (by decide)) hd (by rw [show yC.2.2.1 (18 + 12 * t + i) = t from sec_Pe t hi, show yC.2.2.2 (18 + 12 * t + i) 4 = pI i 4 from idx_Pe t hi 4]; exact x_eqg hG kk)
theorem gf_Pe_met (C : CX X nL yC Z cc own ret F L) {t i : Nat} (ht : t < 3) (hi : i < 8) {v : Int32} (hv : g t (pI i 5) = v) (hw : Cond.fieldLink own index "TunnelPeace$Person" "met" "I" ∈ TT) (hd : decode cc pc = .ok (.getfield index, 3)) (kk : WX X nL yC Z Q g (pc + 3) lv (.int v :: st)) : WX X nL yC Z Q g pc lv (.ref (Z.2.1 (18 + 12 * t + i)) :: st) :=
  x_get C (show 18 + 12 * t + i < 50 by omega) (e_Pe Z t hi _) rfl in_Pe 5 (by decide) hw (congrArg (fun z : Int32 => some (Value.int z)) (Eq.trans (show g (cSec (18 + 12 * t + i)) (cIdx (18 + 12 * t + i) 5) = g t (pI i 5) by rw [sec_Pe t hi, idx_Pe t hi]; rfl) hv)) hd kk
theorem pf_Pe_met (C : CX X nL yC Z cc own ret F L) {t i : Nat} (ht : t < 3) (hi : i < 8) {v : Int32} (hG : up g t (pI i 5) v = G) (hw : Cond.fieldLink own index "TunnelPeace$Person" "met" "I" ∈ TT) (hd : decode cc pc = .ok (.putfield index, 3)) (kk : WX X nL yC Z Q G (pc + 3) lv st) : WX X nL yC Z Q g pc lv (.int v :: .ref (Z.2.1 (18 + 12 * t + i)) :: st) :=
  x_put C (show 18 + 12 * t + i < 50 by omega) (fun r => e_Pe Z t hi r) rfl in_Pe ty_Pe tyok_Pe nm_Pe 5 (by decide) rfl hw rfl rfl (fun r => Nat.le_of_ble_eq_true rfl) (fun r => rfl) (ok_Pe ht hi (by decide)) hd (by rw [show yC.2.2.1 (18 + 12 * t + i) = t from sec_Pe t hi, show yC.2.2.2 (18 + 12 * t + i) 5 = pI i 5 from idx_Pe t hi 5]; exact x_eqg hG kk)
theorem gf_Tu_day (C : CX X nL yC Z cc own ret F L) {t : Nat} (ht : t < 3) {v : Int32} (hv : g t 0 = v) (hw : Cond.fieldLink own index "TunnelPeace$Tunnel" "day" "I" ∈ TT) (hd : decode cc pc = .ok (.getfield index, 3)) (kk : WX X nL yC Z Q g (pc + 3) lv (.int v :: st)) : WX X nL yC Z Q g pc lv (.ref (Z.2.1 (14 + 12 * t)) :: st) :=
  x_get C (show 14 + 12 * t < 50 by omega) (e_Tu Z t _) rfl in_Tu 0 (by decide) hw (congrArg (fun z : Int32 => some (Value.int z)) (Eq.trans (show g (cSec (14 + 12 * t)) (cIdx (14 + 12 * t) 0) = g t 0 by rw [sec_Tu t, idx_Tu t]; rfl) hv)) hd kk
theorem pf_Tu_day (C : CX X nL yC Z cc own ret F L) {t : Nat} (ht : t < 3) {v : Int32} (hG : up g t 0 v = G) (hw : Cond.fieldLink own index "TunnelPeace$Tunnel" "day" "I" ∈ TT) (hd : decode cc pc = .ok (.putfield index, 3)) (kk : WX X nL yC Z Q G (pc + 3) lv st) : WX X nL yC Z Q g pc lv (.int v :: .ref (Z.2.1 (14 + 12 * t)) :: st) :=
  x_put C (show 14 + 12 * t < 50 by omega) (fun r => e_Tu Z t r) rfl in_Tu ty_Tu tyok_Tu nm_Tu 0 (by decide) rfl hw rfl rfl (fun r => Nat.le_of_ble_eq_true rfl) (fun r => rfl) (ok_Tu ht (by decide)) hd (by rw [show yC.2.2.1 (14 + 12 * t) = t from sec_Tu t, show yC.2.2.2 (14 + 12 * t) 0 = 0 from idx_Tu t 0]; exact x_eqg hG kk)
theorem gf_Tu_guns (C : CX X nL yC Z cc own ret F L) {t : Nat} (ht : t < 3) {v : Int32} (hv : g t 3 = v) (hw : Cond.fieldLink own index "TunnelPeace$Tunnel" "guns" "I" ∈ TT) (hd : decode cc pc = .ok (.getfield index, 3)) (kk : WX X nL yC Z Q g (pc + 3) lv (.int v :: st)) : WX X nL yC Z Q g pc lv (.ref (Z.2.1 (14 + 12 * t)) :: st) :=
  x_get C (show 14 + 12 * t < 50 by omega) (e_Tu Z t _) rfl in_Tu 1 (by decide) hw (congrArg (fun z : Int32 => some (Value.int z)) (Eq.trans (show g (cSec (14 + 12 * t)) (cIdx (14 + 12 * t) 1) = g t 3 by rw [sec_Tu t, idx_Tu t]; rfl) hv)) hd kk
theorem pf_Tu_guns (C : CX X nL yC Z cc own ret F L) {t : Nat} (ht : t < 3) {v : Int32} (hG : up g t 3 v = G) (hw : Cond.fieldLink own index "TunnelPeace$Tunnel" "guns" "I" ∈ TT) (hd : decode cc pc = .ok (.putfield index, 3)) (kk : WX X nL yC Z Q G (pc + 3) lv st) : WX X nL yC Z Q g pc lv (.int v :: .ref (Z.2.1 (14 + 12 * t)) :: st) :=
  x_put C (show 14 + 12 * t < 50 by omega) (fun r => e_Tu Z t r) rfl in_Tu ty_Tu tyok_Tu nm_Tu 1 (by decide) rfl hw rfl rfl (fun r => Nat.le_of_ble_eq_true rfl) (fun r => rfl) (ok_Tu ht (by decide)) hd (by rw [show yC.2.2.1 (14 + 12 * t) = t from sec_Tu t, show yC.2.2.2 (14 + 12 * t) 1 = 3 from idx_Tu t 1]; exact x_eqg hG kk)
theorem gf_Tu_z (C : CX X nL yC Z cc own ret F L) {t : Nat} (ht : t < 3) {v : Int32} (hv : g t 2 = v) (hw : Cond.fieldLink own index "TunnelPeace$Tunnel" "z" "I" ∈ TT) (hd : decode cc pc = .ok (.getfield index, 3)) (kk : WX X nL yC Z Q g (pc + 3) lv (.int v :: st)) : WX X nL yC Z Q g pc lv (.ref (Z.2.1 (14 + 12 * t)) :: st) :=
  x_get C (show 14 + 12 * t < 50 by omega) (e_Tu Z t _) rfl in_Tu 2 (by decide) hw (congrArg (fun z : Int32 => some (Value.int z)) (Eq.trans (show g (cSec (14 + 12 * t)) (cIdx (14 + 12 * t) 2) = g t 2 by rw [sec_Tu t, idx_Tu t]; rfl) hv)) hd kk
theorem pf_Tu_z (C : CX X nL yC Z cc own ret F L) {t : Nat} (ht : t < 3) {v : Int32} (hG : up g t 2 v = G) (hw : Cond.fieldLink own index "TunnelPeace$Tunnel" "z" "I" ∈ TT) (hd : decode cc pc = .ok (.putfield index, 3)) (kk : WX X nL yC Z Q G (pc + 3) lv st) : WX X nL yC Z Q g pc lv (.int v :: .ref (Z.2.1 (14 + 12 * t)) :: st) :=
  x_put C (show 14 + 12 * t < 50 by omega) (fun r => e_Tu Z t r) rfl in_Tu ty_Tu tyok_Tu nm_Tu 2 (by decide) rfl hw rfl rfl (fun r => Nat.le_of_ble_eq_true rfl) (fun r => rfl) (ok_Tu ht (by decide)) hd (by rw [show yC.2.2.1 (14 + 12 * t) = t from sec_Tu t, show yC.2.2.2 (14 + 12 * t) 2 = 2 from idx_Tu t 2]; exact x_eqg hG kk)
theorem gf_Tu_size (C : CX X nL yC Z cc own ret F L) {t : Nat} (ht : t < 3) {v : Int32} (hv : g t 1 = v) (hw : Cond.fieldLink own index "TunnelPeace$Tunnel" "size" "I" ∈ TT) (hd : decode cc pc = .ok (.getfield index, 3)) (kk : WX X nL yC Z Q g (pc + 3) lv (.int v :: st)) : WX X nL yC Z Q g pc lv (.ref (Z.2.1 (14 + 12 * t)) :: st) :=
  x_get C (show 14 + 12 * t < 50 by omega) (e_Tu Z t _) rfl in_Tu 3 (by decide) hw (congrArg (fun z : Int32 => some (Value.int z)) (Eq.trans (show g (cSec (14 + 12 * t)) (cIdx (14 + 12 * t) 3) = g t 1 by rw [sec_Tu t, idx_Tu t]; rfl) hv)) hd kk
theorem pf_Tu_size (C : CX X nL yC Z cc own ret F L) {t : Nat} (ht : t < 3) {v : Int32} (hG : up g t 1 v = G) (hw : Cond.fieldLink own index "TunnelPeace$Tunnel" "size" "I" ∈ TT) (hd : decode cc pc = .ok (.putfield index, 3)) (kk : WX X nL yC Z Q G (pc + 3) lv st) : WX X nL yC Z Q g pc lv (.int v :: .ref (Z.2.1 (14 + 12 * t)) :: st) :=
  x_put C (show 14 + 12 * t < 50 by omega) (fun r => e_Tu Z t r) rfl in_Tu ty_Tu tyok_Tu nm_Tu 3 (by decide) rfl hw rfl rfl (fun r => Nat.le_of_ble_eq_true rfl) (fun r => rfl) (ok_Tu ht (by decide)) hd (by rw [show yC.2.2.1 (14 + 12 * t) = t from sec_Tu t, show yC.2.2.2 (14 + 12 * t) 3 = 1 from idx_Tu t 3]; exact x_eqg hG kk)
theorem gf_Tu_list (C : CX X nL yC Z cc own ret F L) {t : Nat} (ht : t < 3) (hw : Cond.fieldLink own index "TunnelPeace$Tunnel" "list" "[I" ∈ TT) (hd : decode cc pc = .ok (.getfield index, 3)) (kk : WX X nL yC Z Q g (pc + 3) lv (.ref (Z.2.1 (15 + 12 * t)) :: st)) : WX X nL yC Z Q g pc lv (.ref (Z.2.1 (14 + 12 * t)) :: st) :=
  x_get C (show 14 + 12 * t < 50 by omega) (e_Tu Z t _) rfl in_Tu 4 (by decide) hw rfl hd kk
theorem gf_Tu_people (C : CX X nL yC Z cc own ret F L) {t : Nat} (ht : t < 3) (hw : Cond.fieldLink own index "TunnelPeace$Tunnel" "people" "[LTunnelPeace$Person;" ∈ TT) (hd : decode cc pc = .ok (.getfield index, 3)) (kk : WX X nL yC Z Q g (pc + 3) lv (.ref (Z.2.1 (17 + 12 * t)) :: st)) : WX X nL yC Z Q g pc lv (.ref (Z.2.1 (14 + 12 * t)) :: st) :=
  x_get C (show 14 + 12 * t < 50 by omega) (e_Tu Z t _) rfl in_Tu 5 (by decide) hw rfl hd kk
theorem gf_Tu_spots (C : CX X nL yC Z cc own ret F L) {t : Nat} (ht : t < 3) (hw : Cond.fieldLink own index "TunnelPeace$Tunnel" "spots" "[I" ∈ TT) (hd : decode cc pc = .ok (.getfield index, 3)) (kk : WX X nL yC Z Q g (pc + 3) lv (.ref (Z.2.1 (16 + 12 * t)) :: st)) : WX X nL yC Z Q g pc lv (.ref (Z.2.1 (14 + 12 * t)) :: st) :=
  x_get C (show 14 + 12 * t < 50 by omega) (e_Tu Z t _) rfl in_Tu 6 (by decide) hw rfl hd kk
theorem gf_TP_tunnel (C : CX X nL yC Z cc own ret F L) (hw : Cond.fieldLink own index "TunnelPeace" "tunnel" "LTunnelPeace$Tunnel;" ∈ TT) (hd : decode cc pc = .ok (.getfield index, 3)) (kk : WX X nL yC Z Q g (pc + 3) lv (.ref (Z.2.1 14) :: st)) : WX X nL yC Z Q g pc lv (.ref (Z.2.1 0) :: st) :=
  x_get C (show 0 < 50 by decide) (e_TP Z _) rfl in_TP 0 (by decide) hw rfl hd kk
theorem gf_TP_trial (C : CX X nL yC Z cc own ret F L) (hw : Cond.fieldLink own index "TunnelPeace" "trial" "LTunnelPeace$Tunnel;" ∈ TT) (hd : decode cc pc = .ok (.getfield index, 3)) (kk : WX X nL yC Z Q g (pc + 3) lv (.ref (Z.2.1 26) :: st)) : WX X nL yC Z Q g pc lv (.ref (Z.2.1 0) :: st) :=
  x_get C (show 0 < 50 by decide) (e_TP Z _) rfl in_TP 1 (by decide) hw rfl hd kk
theorem gf_TP_kept (C : CX X nL yC Z cc own ret F L) (hw : Cond.fieldLink own index "TunnelPeace" "kept" "LTunnelPeace$Tunnel;" ∈ TT) (hd : decode cc pc = .ok (.getfield index, 3)) (kk : WX X nL yC Z Q g (pc + 3) lv (.ref (Z.2.1 38) :: st)) : WX X nL yC Z Q g pc lv (.ref (Z.2.1 0) :: st) :=
  x_get C (show 0 < 50 by decide) (e_TP Z _) rfl in_TP 2 (by decide) hw rfl hd kk
theorem gf_TP_keeps (C : CX X nL yC Z cc own ret F L) {v : Int32} (hv : g 3 3 = v) (hw : Cond.fieldLink own index "TunnelPeace" "keeps" "Z" ∈ TT) (hd : decode cc pc = .ok (.getfield index, 3)) (kk : WX X nL yC Z Q g (pc + 3) lv (.int v :: st)) : WX X nL yC Z Q g pc lv (.ref (Z.2.1 0) :: st) :=
  x_get C (show 0 < 50 by decide) (e_TP Z _) rfl in_TP 3 (by decide) hw (congrArg (fun z : Int32 => some (Value.int z)) (Eq.trans rfl hv)) hd kk
theorem pf_TP_keeps (C : CX X nL yC Z cc own ret F L) {v : Int32} (hz : v = 0 ∨ v = 1) (hG : up g 3 3 v = G) (hw : Cond.fieldLink own index "TunnelPeace" "keeps" "Z" ∈ TT) (hd : decode cc pc = .ok (.putfield index, 3)) (kk : WX X nL yC Z Q G (pc + 3) lv st) : WX X nL yC Z Q g pc lv (.int v :: .ref (Z.2.1 0) :: st) :=
  x_put C (show 0 < 50 by decide) (fun r => e_TP Z r) rfl in_TP ty_TP tyok_TP nm_TP 3 (by decide) rfl hw (by rcases hz with rfl | rfl <;> rfl) (by rcases hz with rfl | rfl <;> rfl) (fun r => Nat.le_of_ble_eq_true rfl) (fun r => rfl) (sOk_lo (by decide)) hd (x_eqg hG kk)
theorem gf_TP_forecast (C : CX X nL yC Z cc own ret F L) (hw : Cond.fieldLink own index "TunnelPeace" "forecast" "LTunnelPeace$Forecast;" ∈ TT) (hd : decode cc pc = .ok (.getfield index, 3)) (kk : WX X nL yC Z Q g (pc + 3) lv (.ref (Z.2.1 1) :: st)) : WX X nL yC Z Q g pc lv (.ref (Z.2.1 0) :: st) :=
  x_get C (show 0 < 50 by decide) (e_TP Z _) rfl in_TP 4 (by decide) hw rfl hd kk
theorem gf_TP_tape (C : CX X nL yC Z cc own ret F L) (hw : Cond.fieldLink own index "TunnelPeace" "tape" "LTunnelPeace$Tape;" ∈ TT) (hd : decode cc pc = .ok (.getfield index, 3)) (kk : WX X nL yC Z Q g (pc + 3) lv (.ref (Z.2.1 2) :: st)) : WX X nL yC Z Q g pc lv (.ref (Z.2.1 0) :: st) :=
  x_get C (show 0 < 50 by decide) (e_TP Z _) rfl in_TP 5 (by decide) hw rfl hd kk
theorem gf_TP_sheets (C : CX X nL yC Z cc own ret F L) (hw : Cond.fieldLink own index "TunnelPeace" "sheets" "[LTunnelPeace$Sheet;" ∈ TT) (hd : decode cc pc = .ok (.getfield index, 3)) (kk : WX X nL yC Z Q g (pc + 3) lv (.ref (Z.2.1 4) :: st)) : WX X nL yC Z Q g pc lv (.ref (Z.2.1 0) :: st) :=
  x_get C (show 0 < 50 by decide) (e_TP Z _) rfl in_TP 6 (by decide) hw rfl hd kk
theorem gf_TP_findings (C : CX X nL yC Z cc own ret F L) (hw : Cond.fieldLink own index "TunnelPeace" "findings" "[I" ∈ TT) (hd : decode cc pc = .ok (.getfield index, 3)) (kk : WX X nL yC Z Q g (pc + 3) lv (.ref (Z.2.1 13) :: st)) : WX X nL yC Z Q g pc lv (.ref (Z.2.1 0) :: st) :=
  x_get C (show 0 < 50 by decide) (e_TP Z _) rfl in_TP 7 (by decide) hw rfl hd kk
theorem gf_Fo_now (C : CX X nL yC Z cc own ret F L) (hw : Cond.fieldLink own index "TunnelPeace$Forecast" "now" "LTunnelPeace$Tunnel;" ∈ TT) (hd : decode cc pc = .ok (.getfield index, 3)) (kk : WX X nL yC Z Q g (pc + 3) lv (.ref (Z.2.1 14) :: st)) : WX X nL yC Z Q g pc lv (.ref (Z.2.1 1) :: st) :=
  x_get C (show 1 < 50 by decide) (e_Fo Z (sr yC g 1)) rfl in_Fo 0 (by decide) hw rfl hd kk
theorem gf_Fo_trial (C : CX X nL yC Z cc own ret F L) (hw : Cond.fieldLink own index "TunnelPeace$Forecast" "trial" "LTunnelPeace$Tunnel;" ∈ TT) (hd : decode cc pc = .ok (.getfield index, 3)) (kk : WX X nL yC Z Q g (pc + 3) lv (.ref (Z.2.1 26) :: st)) : WX X nL yC Z Q g pc lv (.ref (Z.2.1 1) :: st) :=
  x_get C (show 1 < 50 by decide) (e_Fo Z (sr yC g 1)) rfl in_Fo 1 (by decide) hw rfl hd kk
theorem gf_Ta_length (C : CX X nL yC Z cc own ret F L) {v : Int32} (hv : g 5 0 = v) (hw : Cond.fieldLink own index "TunnelPeace$Tape" "length" "I" ∈ TT) (hd : decode cc pc = .ok (.getfield index, 3)) (kk : WX X nL yC Z Q g (pc + 3) lv (.int v :: st)) : WX X nL yC Z Q g pc lv (.ref (Z.2.1 2) :: st) :=
  x_get C (show 2 < 50 by decide) (e_Ta Z _) rfl in_Ta 0 (by decide) hw (congrArg (fun z : Int32 => some (Value.int z)) (Eq.trans rfl hv)) hd kk
theorem pf_Ta_length (C : CX X nL yC Z cc own ret F L) {v : Int32} (hG : up g 5 0 v = G) (hw : Cond.fieldLink own index "TunnelPeace$Tape" "length" "I" ∈ TT) (hd : decode cc pc = .ok (.putfield index, 3)) (kk : WX X nL yC Z Q G (pc + 3) lv st) : WX X nL yC Z Q g pc lv (.int v :: .ref (Z.2.1 2) :: st) :=
  x_put C (show 2 < 50 by decide) (fun r => e_Ta Z r) rfl in_Ta ty_Ta tyok_Ta nm_Ta 0 (by decide) rfl hw rfl rfl (fun r => Nat.le_of_ble_eq_true rfl) (fun r => rfl) (sOk_lo (by decide)) hd (x_eqg hG kk)
theorem gf_Ta_bytes (C : CX X nL yC Z cc own ret F L) (hw : Cond.fieldLink own index "TunnelPeace$Tape" "bytes" "[B" ∈ TT) (hd : decode cc pc = .ok (.getfield index, 3)) (kk : WX X nL yC Z Q g (pc + 3) lv (.ref (Z.2.1 3) :: st)) : WX X nL yC Z Q g pc lv (.ref (Z.2.1 2) :: st) :=
  x_get C (show 2 < 50 by decide) (e_Ta Z _) rfl in_Ta 1 (by decide) hw rfl hd kk
theorem gf_Ta_token (C : CX X nL yC Z cc own ret F L) {v : Int32} (hv : g 5 2 = v) (hw : Cond.fieldLink own index "TunnelPeace$Tape" "token" "I" ∈ TT) (hd : decode cc pc = .ok (.getfield index, 3)) (kk : WX X nL yC Z Q g (pc + 3) lv (.int v :: st)) : WX X nL yC Z Q g pc lv (.ref (Z.2.1 2) :: st) :=
  x_get C (show 2 < 50 by decide) (e_Ta Z _) rfl in_Ta 2 (by decide) hw (congrArg (fun z : Int32 => some (Value.int z)) (Eq.trans rfl hv)) hd kk
theorem pf_Ta_token (C : CX X nL yC Z cc own ret F L) {v : Int32} (hG : up g 5 2 v = G) (hw : Cond.fieldLink own index "TunnelPeace$Tape" "token" "I" ∈ TT) (hd : decode cc pc = .ok (.putfield index, 3)) (kk : WX X nL yC Z Q G (pc + 3) lv st) : WX X nL yC Z Q g pc lv (.int v :: .ref (Z.2.1 2) :: st) :=
  x_put C (show 2 < 50 by decide) (fun r => e_Ta Z r) rfl in_Ta ty_Ta tyok_Ta nm_Ta 2 (by decide) rfl hw rfl rfl (fun r => Nat.le_of_ble_eq_true rfl) (fun r => rfl) (sOk_lo (by decide)) hd (x_eqg hG kk)
theorem gf_Ta_begin (C : CX X nL yC Z cc own ret F L) {v : Int32} (hv : g 5 3 = v) (hw : Cond.fieldLink own index "TunnelPeace$Tape" "begin" "I" ∈ TT) (hd : decode cc pc = .ok (.getfield index, 3)) (kk : WX X nL yC Z Q g (pc + 3) lv (.int v :: st)) : WX X nL yC Z Q g pc lv (.ref (Z.2.1 2) :: st) :=
  x_get C (show 2 < 50 by decide) (e_Ta Z _) rfl in_Ta 3 (by decide) hw (congrArg (fun z : Int32 => some (Value.int z)) (Eq.trans rfl hv)) hd kk
theorem pf_Ta_begin (C : CX X nL yC Z cc own ret F L) {v : Int32} (hG : up g 5 3 v = G) (hw : Cond.fieldLink own index "TunnelPeace$Tape" "begin" "I" ∈ TT) (hd : decode cc pc = .ok (.putfield index, 3)) (kk : WX X nL yC Z Q G (pc + 3) lv st) : WX X nL yC Z Q g pc lv (.int v :: .ref (Z.2.1 2) :: st) :=
  x_put C (show 2 < 50 by decide) (fun r => e_Ta Z r) rfl in_Ta ty_Ta tyok_Ta nm_Ta 3 (by decide) rfl hw rfl rfl (fun r => Nat.le_of_ble_eq_true rfl) (fun r => rfl) (sOk_lo (by decide)) hd (x_eqg hG kk)
theorem gf_Ta_end (C : CX X nL yC Z cc own ret F L) {v : Int32} (hv : g 5 4 = v) (hw : Cond.fieldLink own index "TunnelPeace$Tape" "end" "I" ∈ TT) (hd : decode cc pc = .ok (.getfield index, 3)) (kk : WX X nL yC Z Q g (pc + 3) lv (.int v :: st)) : WX X nL yC Z Q g pc lv (.ref (Z.2.1 2) :: st) :=
  x_get C (show 2 < 50 by decide) (e_Ta Z _) rfl in_Ta 4 (by decide) hw (congrArg (fun z : Int32 => some (Value.int z)) (Eq.trans rfl hv)) hd kk
theorem pf_Ta_end (C : CX X nL yC Z cc own ret F L) {v : Int32} (hG : up g 5 4 v = G) (hw : Cond.fieldLink own index "TunnelPeace$Tape" "end" "I" ∈ TT) (hd : decode cc pc = .ok (.putfield index, 3)) (kk : WX X nL yC Z Q G (pc + 3) lv st) : WX X nL yC Z Q g pc lv (.int v :: .ref (Z.2.1 2) :: st) :=
  x_put C (show 2 < 50 by decide) (fun r => e_Ta Z r) rfl in_Ta ty_Ta tyok_Ta nm_Ta 4 (by decide) rfl hw rfl rfl (fun r => Nat.le_of_ble_eq_true rfl) (fun r => rfl) (sOk_lo (by decide)) hd (x_eqg hG kk)
theorem gf_Ta_number (C : CX X nL yC Z cc own ret F L) {v : Int32} (hv : g 5 5 = v) (hw : Cond.fieldLink own index "TunnelPeace$Tape" "number" "I" ∈ TT) (hd : decode cc pc = .ok (.getfield index, 3)) (kk : WX X nL yC Z Q g (pc + 3) lv (.int v :: st)) : WX X nL yC Z Q g pc lv (.ref (Z.2.1 2) :: st) :=
  x_get C (show 2 < 50 by decide) (e_Ta Z _) rfl in_Ta 5 (by decide) hw (congrArg (fun z : Int32 => some (Value.int z)) (Eq.trans rfl hv)) hd kk
theorem pf_Ta_number (C : CX X nL yC Z cc own ret F L) {v : Int32} (hG : up g 5 5 v = G) (hw : Cond.fieldLink own index "TunnelPeace$Tape" "number" "I" ∈ TT) (hd : decode cc pc = .ok (.putfield index, 3)) (kk : WX X nL yC Z Q G (pc + 3) lv st) : WX X nL yC Z Q g pc lv (.int v :: .ref (Z.2.1 2) :: st) :=
  x_put C (show 2 < 50 by decide) (fun r => e_Ta Z r) rfl in_Ta ty_Ta tyok_Ta nm_Ta 5 (by decide) rfl hw rfl rfl (fun r => Nat.le_of_ble_eq_true rfl) (fun r => rfl) (sOk_lo (by decide)) hd (x_eqg hG kk)
theorem gf_Sh_bits (C : CX X nL yC Z cc own ret F L) {s : Nat} (hs : s < 4) {v : Int32} (hv : g (8 + s) 0 = v) (hw : Cond.fieldLink own index "TunnelPeace$Sheet" "bits" "I" ∈ TT) (hd : decode cc pc = .ok (.getfield index, 3)) (kk : WX X nL yC Z Q g (pc + 3) lv (.int v :: st)) : WX X nL yC Z Q g pc lv (.ref (Z.2.1 (5 + s)) :: st) :=
  x_get C (show 5 + s < 50 by omega) (e_Sh Z hs _) rfl in_Sh 0 (by decide) hw (congrArg (fun z : Int32 => some (Value.int z)) (Eq.trans (show g (cSec (5 + s)) (cIdx (5 + s) 0) = g (8 + s) 0 by rw [sec_lo (show 5 + s < 14 by omega), idx_lo (show 5 + s < 14 by omega), show 3 + (5 + s) = 8 + s by omega]) hv)) hd kk
theorem pf_Sh_bits (C : CX X nL yC Z cc own ret F L) {s : Nat} (hs : s < 4) {v : Int32} (hG : up g (8 + s) 0 v = G) (hw : Cond.fieldLink own index "TunnelPeace$Sheet" "bits" "I" ∈ TT) (hd : decode cc pc = .ok (.putfield index, 3)) (kk : WX X nL yC Z Q G (pc + 3) lv st) : WX X nL yC Z Q g pc lv (.int v :: .ref (Z.2.1 (5 + s)) :: st) :=
  x_put C (show 5 + s < 50 by omega) (fun r => e_Sh Z hs r) rfl in_Sh ty_Sh tyok_Sh nm_Sh 0 (by decide) rfl hw rfl rfl (fun r => Nat.le_of_ble_eq_true rfl) (fun r => rfl) (sOk_lo (by omega)) hd (by rw [show yC.2.2.1 (5 + s) = 8 + s from (sec_lo (by omega)).trans (by omega), show yC.2.2.2 (5 + s) 0 = 0 from idx_lo (by omega) 0]; exact x_eqg hG kk)
theorem gf_Sh_length (C : CX X nL yC Z cc own ret F L) {s : Nat} (hs : s < 4) {v : Int32} (hv : g (8 + s) 1 = v) (hw : Cond.fieldLink own index "TunnelPeace$Sheet" "length" "I" ∈ TT) (hd : decode cc pc = .ok (.getfield index, 3)) (kk : WX X nL yC Z Q g (pc + 3) lv (.int v :: st)) : WX X nL yC Z Q g pc lv (.ref (Z.2.1 (5 + s)) :: st) :=
  x_get C (show 5 + s < 50 by omega) (e_Sh Z hs _) rfl in_Sh 1 (by decide) hw (congrArg (fun z : Int32 => some (Value.int z)) (Eq.trans (show g (cSec (5 + s)) (cIdx (5 + s) 1) = g (8 + s) 1 by rw [sec_lo (show 5 + s < 14 by omega), idx_lo (show 5 + s < 14 by omega), show 3 + (5 + s) = 8 + s by omega]) hv)) hd kk
theorem pf_Sh_length (C : CX X nL yC Z cc own ret F L) {s : Nat} (hs : s < 4) {v : Int32} (hG : up g (8 + s) 1 v = G) (hw : Cond.fieldLink own index "TunnelPeace$Sheet" "length" "I" ∈ TT) (hd : decode cc pc = .ok (.putfield index, 3)) (kk : WX X nL yC Z Q G (pc + 3) lv st) : WX X nL yC Z Q g pc lv (.int v :: .ref (Z.2.1 (5 + s)) :: st) :=
  x_put C (show 5 + s < 50 by omega) (fun r => e_Sh Z hs r) rfl in_Sh ty_Sh tyok_Sh nm_Sh 1 (by decide) rfl hw rfl rfl (fun r => Nat.le_of_ble_eq_true rfl) (fun r => rfl) (sOk_lo (by omega)) hd (by rw [show yC.2.2.1 (5 + s) = 8 + s from (sec_lo (by omega)).trans (by omega), show yC.2.2.2 (5 + s) 1 = 1 from idx_lo (by omega) 1]; exact x_eqg hG kk)
theorem gf_Sh_numbers (C : CX X nL yC Z cc own ret F L) {s : Nat} (hs : s < 4) (hw : Cond.fieldLink own index "TunnelPeace$Sheet" "numbers" "[I" ∈ TT) (hd : decode cc pc = .ok (.getfield index, 3)) (kk : WX X nL yC Z Q g (pc + 3) lv (.ref (Z.2.1 (9 + s)) :: st)) : WX X nL yC Z Q g pc lv (.ref (Z.2.1 (5 + s)) :: st) :=
  x_get C (show 5 + s < 50 by omega) (e_Sh Z hs _) rfl in_Sh 2 (by decide) hw rfl hd kk
theorem gf_Mo_now (C : CX X nL yM Z cc own ret F L) (hw : Cond.fieldLink own index "TunnelPeaceModel" "now" "[I" ∈ TT) (hd : decode cc pc = .ok (.getfield index, 3)) (kk : WX X nL yM Z Q g (pc + 3) lv (.ref (Z.2.1 1) :: st)) : WX X nL yM Z Q g pc lv (.ref (Z.2.1 0) :: st) :=
  x_get C (show 0 < 12 by decide) (m_0 Z _) rfl in_Mo 0 (by decide) hw rfl hd kk
theorem gf_Mo_kept (C : CX X nL yM Z cc own ret F L) (hw : Cond.fieldLink own index "TunnelPeaceModel" "kept" "[I" ∈ TT) (hd : decode cc pc = .ok (.getfield index, 3)) (kk : WX X nL yM Z Q g (pc + 3) lv (.ref (Z.2.1 2) :: st)) : WX X nL yM Z Q g pc lv (.ref (Z.2.1 0) :: st) :=
  x_get C (show 0 < 12 by decide) (m_0 Z _) rfl in_Mo 1 (by decide) hw rfl hd kk
theorem gf_Mo_aside (C : CX X nL yM Z cc own ret F L) (hw : Cond.fieldLink own index "TunnelPeaceModel" "aside" "[I" ∈ TT) (hd : decode cc pc = .ok (.getfield index, 3)) (kk : WX X nL yM Z Q g (pc + 3) lv (.ref (Z.2.1 3) :: st)) : WX X nL yM Z Q g pc lv (.ref (Z.2.1 0) :: st) :=
  x_get C (show 0 < 12 by decide) (m_0 Z _) rfl in_Mo 2 (by decide) hw rfl hd kk
theorem gf_Mo_isKept (C : CX X nL yM Z cc own ret F L) {v : Int32} (hv : g 3 3 = v) (hw : Cond.fieldLink own index "TunnelPeaceModel" "isKept" "Z" ∈ TT) (hd : decode cc pc = .ok (.getfield index, 3)) (kk : WX X nL yM Z Q g (pc + 3) lv (.int v :: st)) : WX X nL yM Z Q g pc lv (.ref (Z.2.1 0) :: st) :=
  x_get C (show 0 < 12 by decide) (m_0 Z _) rfl in_Mo 3 (by decide) hw (congrArg (fun z : Int32 => some (Value.int z)) (Eq.trans rfl hv)) hd kk
theorem pf_Mo_isKept (C : CX X nL yM Z cc own ret F L) {v : Int32} (hz : v = 0 ∨ v = 1) (hG : up g 3 3 v = G) (hw : Cond.fieldLink own index "TunnelPeaceModel" "isKept" "Z" ∈ TT) (hd : decode cc pc = .ok (.putfield index, 3)) (kk : WX X nL yM Z Q G (pc + 3) lv st) : WX X nL yM Z Q g pc lv (.int v :: .ref (Z.2.1 0) :: st) :=
  x_put C (show 0 < 12 by decide) (fun r => m_0 Z r) rfl in_Mo ty_Mo tyok_Mo nm_Mo 3 (by decide) rfl hw (by rcases hz with rfl | rfl <;> rfl) (by rcases hz with rfl | rfl <;> rfl) (fun r => Nat.le_of_ble_eq_true rfl) (fun r => rfl) (sOkM 0 _) hd (x_eqg hG kk)
theorem gf_Mo_found (C : CX X nL yM Z cc own ret F L) (hw : Cond.fieldLink own index "TunnelPeaceModel" "found" "[I" ∈ TT) (hd : decode cc pc = .ok (.getfield index, 3)) (kk : WX X nL yM Z Q g (pc + 3) lv (.ref (Z.2.1 4) :: st)) : WX X nL yM Z Q g pc lv (.ref (Z.2.1 0) :: st) :=
  x_get C (show 0 < 12 by decide) (m_0 Z _) rfl in_Mo 4 (by decide) hw rfl hd kk
theorem gf_Mo_tape (C : CX X nL yM Z cc own ret F L) (hw : Cond.fieldLink own index "TunnelPeaceModel" "tape" "[I" ∈ TT) (hd : decode cc pc = .ok (.getfield index, 3)) (kk : WX X nL yM Z Q g (pc + 3) lv (.ref (Z.2.1 5) :: st)) : WX X nL yM Z Q g pc lv (.ref (Z.2.1 0) :: st) :=
  x_get C (show 0 < 12 by decide) (m_0 Z _) rfl in_Mo 5 (by decide) hw rfl hd kk
theorem gf_Mo_taped (C : CX X nL yM Z cc own ret F L) {v : Int32} (hv : g 3 6 = v) (hw : Cond.fieldLink own index "TunnelPeaceModel" "taped" "I" ∈ TT) (hd : decode cc pc = .ok (.getfield index, 3)) (kk : WX X nL yM Z Q g (pc + 3) lv (.int v :: st)) : WX X nL yM Z Q g pc lv (.ref (Z.2.1 0) :: st) :=
  x_get C (show 0 < 12 by decide) (m_0 Z _) rfl in_Mo 6 (by decide) hw (congrArg (fun z : Int32 => some (Value.int z)) (Eq.trans rfl hv)) hd kk
theorem pf_Mo_taped (C : CX X nL yM Z cc own ret F L) {v : Int32} (hG : up g 3 6 v = G) (hw : Cond.fieldLink own index "TunnelPeaceModel" "taped" "I" ∈ TT) (hd : decode cc pc = .ok (.putfield index, 3)) (kk : WX X nL yM Z Q G (pc + 3) lv st) : WX X nL yM Z Q g pc lv (.int v :: .ref (Z.2.1 0) :: st) :=
  x_put C (show 0 < 12 by decide) (fun r => m_0 Z r) rfl in_Mo ty_Mo tyok_Mo nm_Mo 6 (by decide) rfl hw rfl rfl (fun r => Nat.le_of_ble_eq_true rfl) (fun r => rfl) (sOkM 0 _) hd (x_eqg hG kk)
theorem gf_Mo_begins (C : CX X nL yM Z cc own ret F L) {v : Int32} (hv : g 3 7 = v) (hw : Cond.fieldLink own index "TunnelPeaceModel" "begins" "I" ∈ TT) (hd : decode cc pc = .ok (.getfield index, 3)) (kk : WX X nL yM Z Q g (pc + 3) lv (.int v :: st)) : WX X nL yM Z Q g pc lv (.ref (Z.2.1 0) :: st) :=
  x_get C (show 0 < 12 by decide) (m_0 Z _) rfl in_Mo 7 (by decide) hw (congrArg (fun z : Int32 => some (Value.int z)) (Eq.trans rfl hv)) hd kk
theorem pf_Mo_begins (C : CX X nL yM Z cc own ret F L) {v : Int32} (hG : up g 3 7 v = G) (hw : Cond.fieldLink own index "TunnelPeaceModel" "begins" "I" ∈ TT) (hd : decode cc pc = .ok (.putfield index, 3)) (kk : WX X nL yM Z Q G (pc + 3) lv st) : WX X nL yM Z Q g pc lv (.int v :: .ref (Z.2.1 0) :: st) :=
  x_put C (show 0 < 12 by decide) (fun r => m_0 Z r) rfl in_Mo ty_Mo tyok_Mo nm_Mo 7 (by decide) rfl hw rfl rfl (fun r => Nat.le_of_ble_eq_true rfl) (fun r => rfl) (sOkM 0 _) hd (x_eqg hG kk)
theorem gf_Mo_ends (C : CX X nL yM Z cc own ret F L) {v : Int32} (hv : g 3 8 = v) (hw : Cond.fieldLink own index "TunnelPeaceModel" "ends" "I" ∈ TT) (hd : decode cc pc = .ok (.getfield index, 3)) (kk : WX X nL yM Z Q g (pc + 3) lv (.int v :: st)) : WX X nL yM Z Q g pc lv (.ref (Z.2.1 0) :: st) :=
  x_get C (show 0 < 12 by decide) (m_0 Z _) rfl in_Mo 8 (by decide) hw (congrArg (fun z : Int32 => some (Value.int z)) (Eq.trans rfl hv)) hd kk
theorem pf_Mo_ends (C : CX X nL yM Z cc own ret F L) {v : Int32} (hG : up g 3 8 v = G) (hw : Cond.fieldLink own index "TunnelPeaceModel" "ends" "I" ∈ TT) (hd : decode cc pc = .ok (.putfield index, 3)) (kk : WX X nL yM Z Q G (pc + 3) lv st) : WX X nL yM Z Q g pc lv (.int v :: .ref (Z.2.1 0) :: st) :=
  x_put C (show 0 < 12 by decide) (fun r => m_0 Z r) rfl in_Mo ty_Mo tyok_Mo nm_Mo 8 (by decide) rfl hw rfl rfl (fun r => Nat.le_of_ble_eq_true rfl) (fun r => rfl) (sOkM 0 _) hd (x_eqg hG kk)
theorem gf_Mo_sort (C : CX X nL yM Z cc own ret F L) {v : Int32} (hv : g 3 9 = v) (hw : Cond.fieldLink own index "TunnelPeaceModel" "sort" "I" ∈ TT) (hd : decode cc pc = .ok (.getfield index, 3)) (kk : WX X nL yM Z Q g (pc + 3) lv (.int v :: st)) : WX X nL yM Z Q g pc lv (.ref (Z.2.1 0) :: st) :=
  x_get C (show 0 < 12 by decide) (m_0 Z _) rfl in_Mo 9 (by decide) hw (congrArg (fun z : Int32 => some (Value.int z)) (Eq.trans rfl hv)) hd kk
theorem pf_Mo_sort (C : CX X nL yM Z cc own ret F L) {v : Int32} (hG : up g 3 9 v = G) (hw : Cond.fieldLink own index "TunnelPeaceModel" "sort" "I" ∈ TT) (hd : decode cc pc = .ok (.putfield index, 3)) (kk : WX X nL yM Z Q G (pc + 3) lv st) : WX X nL yM Z Q g pc lv (.int v :: .ref (Z.2.1 0) :: st) :=
  x_put C (show 0 < 12 by decide) (fun r => m_0 Z r) rfl in_Mo ty_Mo tyok_Mo nm_Mo 9 (by decide) rfl hw rfl rfl (fun r => Nat.le_of_ble_eq_true rfl) (fun r => rfl) (sOkM 0 _) hd (x_eqg hG kk)
theorem gf_Mo_value (C : CX X nL yM Z cc own ret F L) {v : Int32} (hv : g 3 10 = v) (hw : Cond.fieldLink own index "TunnelPeaceModel" "value" "I" ∈ TT) (hd : decode cc pc = .ok (.getfield index, 3)) (kk : WX X nL yM Z Q g (pc + 3) lv (.int v :: st)) : WX X nL yM Z Q g pc lv (.ref (Z.2.1 0) :: st) :=
  x_get C (show 0 < 12 by decide) (m_0 Z _) rfl in_Mo 10 (by decide) hw (congrArg (fun z : Int32 => some (Value.int z)) (Eq.trans rfl hv)) hd kk
theorem pf_Mo_value (C : CX X nL yM Z cc own ret F L) {v : Int32} (hG : up g 3 10 v = G) (hw : Cond.fieldLink own index "TunnelPeaceModel" "value" "I" ∈ TT) (hd : decode cc pc = .ok (.putfield index, 3)) (kk : WX X nL yM Z Q G (pc + 3) lv st) : WX X nL yM Z Q g pc lv (.int v :: .ref (Z.2.1 0) :: st) :=
  x_put C (show 0 < 12 by decide) (fun r => m_0 Z r) rfl in_Mo ty_Mo tyok_Mo nm_Mo 10 (by decide) rfl hw rfl rfl (fun r => Nat.le_of_ble_eq_true rfl) (fun r => rfl) (sOkM 0 _) hd (x_eqg hG kk)
theorem gf_Mo_isWrong (C : CX X nL yM Z cc own ret F L) {v : Int32} (hv : g 3 11 = v) (hw : Cond.fieldLink own index "TunnelPeaceModel" "isWrong" "Z" ∈ TT) (hd : decode cc pc = .ok (.getfield index, 3)) (kk : WX X nL yM Z Q g (pc + 3) lv (.int v :: st)) : WX X nL yM Z Q g pc lv (.ref (Z.2.1 0) :: st) :=
  x_get C (show 0 < 12 by decide) (m_0 Z _) rfl in_Mo 11 (by decide) hw (congrArg (fun z : Int32 => some (Value.int z)) (Eq.trans rfl hv)) hd kk
theorem pf_Mo_isWrong (C : CX X nL yM Z cc own ret F L) {v : Int32} (hz : v = 0 ∨ v = 1) (hG : up g 3 11 v = G) (hw : Cond.fieldLink own index "TunnelPeaceModel" "isWrong" "Z" ∈ TT) (hd : decode cc pc = .ok (.putfield index, 3)) (kk : WX X nL yM Z Q G (pc + 3) lv st) : WX X nL yM Z Q g pc lv (.int v :: .ref (Z.2.1 0) :: st) :=
  x_put C (show 0 < 12 by decide) (fun r => m_0 Z r) rfl in_Mo ty_Mo tyok_Mo nm_Mo 11 (by decide) rfl hw (by rcases hz with rfl | rfl <;> rfl) (by rcases hz with rfl | rfl <;> rfl) (fun r => Nat.le_of_ble_eq_true rfl) (fun r => rfl) (sOkM 0 _) hd (x_eqg hG kk)
theorem gf_Mo_kindNames (C : CX X nL yM Z cc own ret F L) (hw : Cond.fieldLink own index "TunnelPeaceModel" "kindNames" "[Ljava/lang/String;" ∈ TT) (hd : decode cc pc = .ok (.getfield index, 3)) (kk : WX X nL yM Z Q g (pc + 3) lv (.ref (Z.2.1 6) :: st)) : WX X nL yM Z Q g pc lv (.ref (Z.2.1 0) :: st) :=
  x_get C (show 0 < 12 by decide) (m_0 Z _) rfl in_Mo 12 (by decide) hw rfl hd kk
theorem gf_Mo_items (C : CX X nL yM Z cc own ret F L) (hw : Cond.fieldLink own index "TunnelPeaceModel" "items" "[I" ∈ TT) (hd : decode cc pc = .ok (.getfield index, 3)) (kk : WX X nL yM Z Q g (pc + 3) lv (.ref (Z.2.1 7) :: st)) : WX X nL yM Z Q g pc lv (.ref (Z.2.1 0) :: st) :=
  x_get C (show 0 < 12 by decide) (m_0 Z _) rfl in_Mo 13 (by decide) hw rfl hd kk
theorem gf_Mo_itemMany (C : CX X nL yM Z cc own ret F L) {v : Int32} (hv : g 3 14 = v) (hw : Cond.fieldLink own index "TunnelPeaceModel" "itemMany" "I" ∈ TT) (hd : decode cc pc = .ok (.getfield index, 3)) (kk : WX X nL yM Z Q g (pc + 3) lv (.int v :: st)) : WX X nL yM Z Q g pc lv (.ref (Z.2.1 0) :: st) :=
  x_get C (show 0 < 12 by decide) (m_0 Z _) rfl in_Mo 14 (by decide) hw (congrArg (fun z : Int32 => some (Value.int z)) (Eq.trans rfl hv)) hd kk
theorem pf_Mo_itemMany (C : CX X nL yM Z cc own ret F L) {v : Int32} (hG : up g 3 14 v = G) (hw : Cond.fieldLink own index "TunnelPeaceModel" "itemMany" "I" ∈ TT) (hd : decode cc pc = .ok (.putfield index, 3)) (kk : WX X nL yM Z Q G (pc + 3) lv st) : WX X nL yM Z Q g pc lv (.int v :: .ref (Z.2.1 0) :: st) :=
  x_put C (show 0 < 12 by decide) (fun r => m_0 Z r) rfl in_Mo ty_Mo tyok_Mo nm_Mo 14 (by decide) rfl hw rfl rfl (fun r => Nat.le_of_ble_eq_true rfl) (fun r => rfl) (sOkM 0 _) hd (x_eqg hG kk)
theorem gf_Mo_peopleThen (C : CX X nL yM Z cc own ret F L) {v : Int32} (hv : g 3 15 = v) (hw : Cond.fieldLink own index "TunnelPeaceModel" "peopleThen" "I" ∈ TT) (hd : decode cc pc = .ok (.getfield index, 3)) (kk : WX X nL yM Z Q g (pc + 3) lv (.int v :: st)) : WX X nL yM Z Q g pc lv (.ref (Z.2.1 0) :: st) :=
  x_get C (show 0 < 12 by decide) (m_0 Z _) rfl in_Mo 15 (by decide) hw (congrArg (fun z : Int32 => some (Value.int z)) (Eq.trans rfl hv)) hd kk
theorem pf_Mo_peopleThen (C : CX X nL yM Z cc own ret F L) {v : Int32} (hG : up g 3 15 v = G) (hw : Cond.fieldLink own index "TunnelPeaceModel" "peopleThen" "I" ∈ TT) (hd : decode cc pc = .ok (.putfield index, 3)) (kk : WX X nL yM Z Q G (pc + 3) lv st) : WX X nL yM Z Q g pc lv (.int v :: .ref (Z.2.1 0) :: st) :=
  x_put C (show 0 < 12 by decide) (fun r => m_0 Z r) rfl in_Mo ty_Mo tyok_Mo nm_Mo 15 (by decide) rfl hw rfl rfl (fun r => Nat.le_of_ble_eq_true rfl) (fun r => rfl) (sOkM 0 _) hd (x_eqg hG kk)
theorem gf_Mo_widths (C : CX X nL yM Z cc own ret F L) (hw : Cond.fieldLink own index "TunnelPeaceModel" "widths" "[I" ∈ TT) (hd : decode cc pc = .ok (.getfield index, 3)) (kk : WX X nL yM Z Q g (pc + 3) lv (.ref (Z.2.1 8) :: st)) : WX X nL yM Z Q g pc lv (.ref (Z.2.1 0) :: st) :=
  x_get C (show 0 < 12 by decide) (m_0 Z _) rfl in_Mo 16 (by decide) hw rfl hd kk
theorem gf_Mo_sizes (C : CX X nL yM Z cc own ret F L) (hw : Cond.fieldLink own index "TunnelPeaceModel" "sizes" "[I" ∈ TT) (hd : decode cc pc = .ok (.getfield index, 3)) (kk : WX X nL yM Z Q g (pc + 3) lv (.ref (Z.2.1 9) :: st)) : WX X nL yM Z Q g pc lv (.ref (Z.2.1 0) :: st) :=
  x_get C (show 0 < 12 by decide) (m_0 Z _) rfl in_Mo 17 (by decide) hw rfl hd kk
theorem gf_Mo_numbers (C : CX X nL yM Z cc own ret F L) (hw : Cond.fieldLink own index "TunnelPeaceModel" "numbers" "[I" ∈ TT) (hd : decode cc pc = .ok (.getfield index, 3)) (kk : WX X nL yM Z Q g (pc + 3) lv (.ref (Z.2.1 10) :: st)) : WX X nL yM Z Q g pc lv (.ref (Z.2.1 0) :: st) :=
  x_get C (show 0 < 12 by decide) (m_0 Z _) rfl in_Mo 18 (by decide) hw rfl hd kk
theorem gf_Mo_moved (C : CX X nL yM Z cc own ret F L) (hw : Cond.fieldLink own index "TunnelPeaceModel" "moved" "[I" ∈ TT) (hd : decode cc pc = .ok (.getfield index, 3)) (kk : WX X nL yM Z Q g (pc + 3) lv (.ref (Z.2.1 11) :: st)) : WX X nL yM Z Q g pc lv (.ref (Z.2.1 0) :: st) :=
  x_get C (show 0 < 12 by decide) (m_0 Z _) rfl in_Mo 19 (by decide) hw rfl hd kk
theorem al_li (C : CX X nL yC Z cc own ret F L) {t : Nat} (ht : t < 3) (j : Nat) {x v : Int32} (hx : x = nI j) (hj : j < 6) (hv : g t (4 + j) = v) (hd : decode cc pc = .ok (.iaload, 1)) (kk : WX X nL yC Z Q g (pc + 1) lv (.int v :: st)) : WX X nL yC Z Q g pc lv (.int x :: .ref (Z.2.1 (15 + 12 * t)) :: st) := by
  refine x_iald C (show 15 + 12 * t < 50 by omega) (e_li Z t _) j hx hj (Nat.le_of_ble_eq_true rfl) hd ?_
  rw [tr_at hj, show sr yC g (15 + 12 * t) j = v from (show g (yC.2.2.1 (15 + 12 * t)) (yC.2.2.2 (15 + 12 * t) j) = v by rw [show yC.2.2.1 (15 + 12 * t) = t from sec_li t, show yC.2.2.2 (15 + 12 * t) j = (4 + j) from idx_li t j]; exact hv)]
  exact kk
theorem as_li (C : CX X nL yC Z cc own ret F L) {t : Nat} (ht : t < 3) (j : Nat) {x v : Int32} (hx : x = nI j) (hj : j < 6) (hG : up g t (4 + j) v = G) (hd : decode cc pc = .ok (.iastore, 1)) (kk : WX X nL yC Z Q G (pc + 1) lv st) : WX X nL yC Z Q g pc lv (.int v :: .int x :: .ref (Z.2.1 (15 + 12 * t)) :: st) := by
  refine x_iast C (show 15 + 12 * t < 50 by omega) (fun r => e_li Z t r) j hx hj (Nat.le_of_ble_eq_true rfl) (ok_li ht hj) hd ?_
  rw [show yC.2.2.1 (15 + 12 * t) = t from sec_li t, show yC.2.2.2 (15 + 12 * t) j = (4 + j) from idx_li t j]
  exact x_eqg hG kk
theorem al_sp (C : CX X nL yC Z cc own ret F L) {t : Nat} (ht : t < 3) (j : Nat) {x v : Int32} (hx : x = nI j) (hj : j < 10) (hv : g t (10 + j) = v) (hd : decode cc pc = .ok (.iaload, 1)) (kk : WX X nL yC Z Q g (pc + 1) lv (.int v :: st)) : WX X nL yC Z Q g pc lv (.int x :: .ref (Z.2.1 (16 + 12 * t)) :: st) := by
  refine x_iald C (show 16 + 12 * t < 50 by omega) (e_sp Z t _) j hx hj (Nat.le_of_ble_eq_true rfl) hd ?_
  rw [tr_at hj, show sr yC g (16 + 12 * t) j = v from (show g (yC.2.2.1 (16 + 12 * t)) (yC.2.2.2 (16 + 12 * t) j) = v by rw [show yC.2.2.1 (16 + 12 * t) = t from sec_sp t, show yC.2.2.2 (16 + 12 * t) j = (10 + j) from idx_sp t j]; exact hv)]
  exact kk
theorem as_sp (C : CX X nL yC Z cc own ret F L) {t : Nat} (ht : t < 3) (j : Nat) {x v : Int32} (hx : x = nI j) (hj : j < 10) (hG : up g t (10 + j) v = G) (hd : decode cc pc = .ok (.iastore, 1)) (kk : WX X nL yC Z Q G (pc + 1) lv st) : WX X nL yC Z Q g pc lv (.int v :: .int x :: .ref (Z.2.1 (16 + 12 * t)) :: st) := by
  refine x_iast C (show 16 + 12 * t < 50 by omega) (fun r => e_sp Z t r) j hx hj (Nat.le_of_ble_eq_true rfl) (ok_sp ht hj) hd ?_
  rw [show yC.2.2.1 (16 + 12 * t) = t from sec_sp t, show yC.2.2.2 (16 + 12 * t) j = (10 + j) from idx_sp t j]
  exact x_eqg hG kk
theorem al_nu (C : CX X nL yC Z cc own ret F L) {s : Nat} (hs : s < 4) (j : Nat) {x v : Int32} (hx : x = nI j) (hj : j < 40) (hv : g (12 + s) j = v) (hd : decode cc pc = .ok (.iaload, 1)) (kk : WX X nL yC Z Q g (pc + 1) lv (.int v :: st)) : WX X nL yC Z Q g pc lv (.int x :: .ref (Z.2.1 (9 + s)) :: st) := by
  refine x_iald C (show 9 + s < 50 by omega) (e_nu Z hs _) j hx hj (Nat.le_of_ble_eq_true rfl) hd ?_
  rw [tr_at hj, show sr yC g (9 + s) j = v from (show g (yC.2.2.1 (9 + s)) (yC.2.2.2 (9 + s) j) = v by rw [show yC.2.2.1 (9 + s) = (12 + s) from (sec_lo (show 9 + s < 14 by omega)).trans (by omega), show yC.2.2.2 (9 + s) j = j from idx_lo (show 9 + s < 14 by omega) j]; exact hv)]
  exact kk
theorem as_nu (C : CX X nL yC Z cc own ret F L) {s : Nat} (hs : s < 4) (j : Nat) {x v : Int32} (hx : x = nI j) (hj : j < 40) (hG : up g (12 + s) j v = G) (hd : decode cc pc = .ok (.iastore, 1)) (kk : WX X nL yC Z Q G (pc + 1) lv st) : WX X nL yC Z Q g pc lv (.int v :: .int x :: .ref (Z.2.1 (9 + s)) :: st) := by
  refine x_iast C (show 9 + s < 50 by omega) (fun r => e_nu Z hs r) j hx hj (Nat.le_of_ble_eq_true rfl) (sOk_lo (by omega)) hd ?_
  rw [show yC.2.2.1 (9 + s) = (12 + s) from (sec_lo (show 9 + s < 14 by omega)).trans (by omega), show yC.2.2.2 (9 + s) j = j from idx_lo (show 9 + s < 14 by omega) j]
  exact x_eqg hG kk
theorem al_fi (C : CX X nL yC Z cc own ret F L) (j : Nat) {x v : Int32} (hx : x = nI j) (hj : j < 7) (hv : g 16 j = v) (hd : decode cc pc = .ok (.iaload, 1)) (kk : WX X nL yC Z Q g (pc + 1) lv (.int v :: st)) : WX X nL yC Z Q g pc lv (.int x :: .ref (Z.2.1 13) :: st) := by
  refine x_iald C (show 13 < 50 by decide) (e_fi Z _) j hx hj (Nat.le_of_ble_eq_true rfl) hd ?_
  rw [tr_at hj, show sr yC g 13 j = v from (show g (yC.2.2.1 13) (yC.2.2.2 13 j) = v by rw [show yC.2.2.1 13 = 16 from rfl, show yC.2.2.2 13 j = j from rfl]; exact hv)]
  exact kk
theorem as_fi (C : CX X nL yC Z cc own ret F L) (j : Nat) {x v : Int32} (hx : x = nI j) (hj : j < 7) (hG : up g 16 j v = G) (hd : decode cc pc = .ok (.iastore, 1)) (kk : WX X nL yC Z Q G (pc + 1) lv st) : WX X nL yC Z Q g pc lv (.int v :: .int x :: .ref (Z.2.1 13) :: st) := by
  refine x_iast C (show 13 < 50 by decide) (fun r => e_fi Z r) j hx hj (Nat.le_of_ble_eq_true rfl) (sOk_lo (by decide)) hd ?_
  rw [show yC.2.2.1 13 = 16 from rfl, show yC.2.2.2 13 j = j from rfl]
  exact x_eqg hG kk
theorem al_by (C : CX X nL yC Z cc own ret F L) (j : Nat) {x v : Int32} (hx : x = nI j) (hj : j < 120) (hv : g 6 j = v) (hd : decode cc pc = .ok (.baload, 1)) (kk : WX X nL yC Z Q g (pc + 1) lv (.int v :: st)) : WX X nL yC Z Q g pc lv (.int x :: .ref (Z.2.1 3) :: st) := by
  refine x_bald C (show 3 < 50 by decide) (e_by Z _) j hx hj (Nat.le_of_ble_eq_true rfl) hd ?_
  rw [tr_at hj, show sr yC g 3 j = v from (show g (yC.2.2.1 3) (yC.2.2.2 3 j) = v by rw [show yC.2.2.1 3 = 6 from rfl, show yC.2.2.2 3 j = j from rfl]; exact hv)]
  exact kk
theorem as_by (C : CX X nL yC Z cc own ret F L) (j : Nat) {x v : Int32} (hx : x = nI j) (hj : j < 120) (hG : up g 6 j (v.toInt8.toInt32) = G) (hd : decode cc pc = .ok (.bastore, 1)) (kk : WX X nL yC Z Q G (pc + 1) lv st) : WX X nL yC Z Q g pc lv (.int v :: .int x :: .ref (Z.2.1 3) :: st) := by
  refine x_bast C (show 3 < 50 by decide) (fun r => e_by Z r) j hx hj (Nat.le_of_ble_eq_true rfl) (sOk_lo (by decide)) hd ?_
  rw [show yC.2.2.1 3 = 6 from rfl, show yC.2.2.2 3 j = j from rfl]
  exact x_eqg hG kk
theorem al_m_now (C : CX X nL yM Z cc own ret F L) (j : Nat) {x v : Int32} (hx : x = nI j) (hj : j < 68) (hv : g 0 j = v) (hd : decode cc pc = .ok (.iaload, 1)) (kk : WX X nL yM Z Q g (pc + 1) lv (.int v :: st)) : WX X nL yM Z Q g pc lv (.int x :: .ref (Z.2.1 1) :: st) := by
  refine x_iald C (show 1 < 12 by decide) (show mE Z 1 (sr yM g 1) = .inl (Z.2.2.1 0, 68, .inl (tr 68 (sr yM g 1))) from m_a (k := 1) Z (by decide) (by decide) _) j hx hj (Nat.le_of_ble_eq_true rfl) hd ?_
  rw [tr_at hj, show sr yM g 1 j = v from (show g (yM.2.2.1 1) (yM.2.2.2 1 j) = v by rw [show yM.2.2.1 1 = 0 from rfl, show yM.2.2.2 1 j = j from rfl]; exact hv)]
  exact kk
theorem as_m_now (C : CX X nL yM Z cc own ret F L) (j : Nat) {x v : Int32} (hx : x = nI j) (hj : j < 68) (hG : up g 0 j v = G) (hd : decode cc pc = .ok (.iastore, 1)) (kk : WX X nL yM Z Q G (pc + 1) lv st) : WX X nL yM Z Q g pc lv (.int v :: .int x :: .ref (Z.2.1 1) :: st) := by
  refine x_iast C (show 1 < 12 by decide) (fun r => show mE Z 1 r = .inl (Z.2.2.1 0, 68, .inl (tr 68 r)) from m_a (k := 1) Z (by decide) (by decide) r) j hx hj (Nat.le_of_ble_eq_true rfl) (sOkM 1 _) hd ?_
  rw [show yM.2.2.1 1 = 0 from rfl, show yM.2.2.2 1 j = j from rfl]
  exact x_eqg hG kk
theorem al_m_kept (C : CX X nL yM Z cc own ret F L) (j : Nat) {x v : Int32} (hx : x = nI j) (hj : j < 68) (hv : g 1 j = v) (hd : decode cc pc = .ok (.iaload, 1)) (kk : WX X nL yM Z Q g (pc + 1) lv (.int v :: st)) : WX X nL yM Z Q g pc lv (.int x :: .ref (Z.2.1 2) :: st) := by
  refine x_iald C (show 2 < 12 by decide) (show mE Z 2 (sr yM g 2) = .inl (Z.2.2.1 0, 68, .inl (tr 68 (sr yM g 2))) from m_a (k := 2) Z (by decide) (by decide) _) j hx hj (Nat.le_of_ble_eq_true rfl) hd ?_
  rw [tr_at hj, show sr yM g 2 j = v from (show g (yM.2.2.1 2) (yM.2.2.2 2 j) = v by rw [show yM.2.2.1 2 = 1 from rfl, show yM.2.2.2 2 j = j from rfl]; exact hv)]
  exact kk
theorem as_m_kept (C : CX X nL yM Z cc own ret F L) (j : Nat) {x v : Int32} (hx : x = nI j) (hj : j < 68) (hG : up g 1 j v = G) (hd : decode cc pc = .ok (.iastore, 1)) (kk : WX X nL yM Z Q G (pc + 1) lv st) : WX X nL yM Z Q g pc lv (.int v :: .int x :: .ref (Z.2.1 2) :: st) := by
  refine x_iast C (show 2 < 12 by decide) (fun r => show mE Z 2 r = .inl (Z.2.2.1 0, 68, .inl (tr 68 r)) from m_a (k := 2) Z (by decide) (by decide) r) j hx hj (Nat.le_of_ble_eq_true rfl) (sOkM 2 _) hd ?_
  rw [show yM.2.2.1 2 = 1 from rfl, show yM.2.2.2 2 j = j from rfl]
  exact x_eqg hG kk
theorem al_m_aside (C : CX X nL yM Z cc own ret F L) (j : Nat) {x v : Int32} (hx : x = nI j) (hj : j < 68) (hv : g 2 j = v) (hd : decode cc pc = .ok (.iaload, 1)) (kk : WX X nL yM Z Q g (pc + 1) lv (.int v :: st)) : WX X nL yM Z Q g pc lv (.int x :: .ref (Z.2.1 3) :: st) := by
  refine x_iald C (show 3 < 12 by decide) (show mE Z 3 (sr yM g 3) = .inl (Z.2.2.1 0, 68, .inl (tr 68 (sr yM g 3))) from m_a (k := 3) Z (by decide) (by decide) _) j hx hj (Nat.le_of_ble_eq_true rfl) hd ?_
  rw [tr_at hj, show sr yM g 3 j = v from (show g (yM.2.2.1 3) (yM.2.2.2 3 j) = v by rw [show yM.2.2.1 3 = 2 from rfl, show yM.2.2.2 3 j = j from rfl]; exact hv)]
  exact kk
theorem as_m_aside (C : CX X nL yM Z cc own ret F L) (j : Nat) {x v : Int32} (hx : x = nI j) (hj : j < 68) (hG : up g 2 j v = G) (hd : decode cc pc = .ok (.iastore, 1)) (kk : WX X nL yM Z Q G (pc + 1) lv st) : WX X nL yM Z Q g pc lv (.int v :: .int x :: .ref (Z.2.1 3) :: st) := by
  refine x_iast C (show 3 < 12 by decide) (fun r => show mE Z 3 r = .inl (Z.2.2.1 0, 68, .inl (tr 68 r)) from m_a (k := 3) Z (by decide) (by decide) r) j hx hj (Nat.le_of_ble_eq_true rfl) (sOkM 3 _) hd ?_
  rw [show yM.2.2.1 3 = 2 from rfl, show yM.2.2.2 3 j = j from rfl]
  exact x_eqg hG kk
theorem al_m_found (C : CX X nL yM Z cc own ret F L) (j : Nat) {x v : Int32} (hx : x = nI j) (hj : j < 8) (hv : g 4 j = v) (hd : decode cc pc = .ok (.iaload, 1)) (kk : WX X nL yM Z Q g (pc + 1) lv (.int v :: st)) : WX X nL yM Z Q g pc lv (.int x :: .ref (Z.2.1 4) :: st) := by
  refine x_iald C (show 4 < 12 by decide) (show mE Z 4 (sr yM g 4) = .inl (Z.2.2.1 0, 8, .inl (tr 8 (sr yM g 4))) from m_a (k := 4) Z (by decide) (by decide) _) j hx hj (Nat.le_of_ble_eq_true rfl) hd ?_
  rw [tr_at hj, show sr yM g 4 j = v from (show g (yM.2.2.1 4) (yM.2.2.2 4 j) = v by rw [show yM.2.2.1 4 = 4 from rfl, show yM.2.2.2 4 j = j from rfl]; exact hv)]
  exact kk
theorem as_m_found (C : CX X nL yM Z cc own ret F L) (j : Nat) {x v : Int32} (hx : x = nI j) (hj : j < 8) (hG : up g 4 j v = G) (hd : decode cc pc = .ok (.iastore, 1)) (kk : WX X nL yM Z Q G (pc + 1) lv st) : WX X nL yM Z Q g pc lv (.int v :: .int x :: .ref (Z.2.1 4) :: st) := by
  refine x_iast C (show 4 < 12 by decide) (fun r => show mE Z 4 r = .inl (Z.2.2.1 0, 8, .inl (tr 8 r)) from m_a (k := 4) Z (by decide) (by decide) r) j hx hj (Nat.le_of_ble_eq_true rfl) (sOkM 4 _) hd ?_
  rw [show yM.2.2.1 4 = 4 from rfl, show yM.2.2.2 4 j = j from rfl]
  exact x_eqg hG kk
theorem al_m_tape (C : CX X nL yM Z cc own ret F L) (j : Nat) {x v : Int32} (hx : x = nI j) (hj : j < 120) (hv : g 5 j = v) (hd : decode cc pc = .ok (.iaload, 1)) (kk : WX X nL yM Z Q g (pc + 1) lv (.int v :: st)) : WX X nL yM Z Q g pc lv (.int x :: .ref (Z.2.1 5) :: st) := by
  refine x_iald C (show 5 < 12 by decide) (show mE Z 5 (sr yM g 5) = .inl (Z.2.2.1 0, 120, .inl (tr 120 (sr yM g 5))) from m_a (k := 5) Z (by decide) (by decide) _) j hx hj (Nat.le_of_ble_eq_true rfl) hd ?_
  rw [tr_at hj, show sr yM g 5 j = v from (show g (yM.2.2.1 5) (yM.2.2.2 5 j) = v by rw [show yM.2.2.1 5 = 5 from rfl, show yM.2.2.2 5 j = j from rfl]; exact hv)]
  exact kk
theorem as_m_tape (C : CX X nL yM Z cc own ret F L) (j : Nat) {x v : Int32} (hx : x = nI j) (hj : j < 120) (hG : up g 5 j v = G) (hd : decode cc pc = .ok (.iastore, 1)) (kk : WX X nL yM Z Q G (pc + 1) lv st) : WX X nL yM Z Q g pc lv (.int v :: .int x :: .ref (Z.2.1 5) :: st) := by
  refine x_iast C (show 5 < 12 by decide) (fun r => show mE Z 5 r = .inl (Z.2.2.1 0, 120, .inl (tr 120 r)) from m_a (k := 5) Z (by decide) (by decide) r) j hx hj (Nat.le_of_ble_eq_true rfl) (sOkM 5 _) hd ?_
  rw [show yM.2.2.1 5 = 5 from rfl, show yM.2.2.2 5 j = j from rfl]
  exact x_eqg hG kk
theorem al_m_items (C : CX X nL yM Z cc own ret F L) (j : Nat) {x v : Int32} (hx : x = nI j) (hj : j < 720) (hv : g 7 j = v) (hd : decode cc pc = .ok (.iaload, 1)) (kk : WX X nL yM Z Q g (pc + 1) lv (.int v :: st)) : WX X nL yM Z Q g pc lv (.int x :: .ref (Z.2.1 7) :: st) := by
  refine x_iald C (show 7 < 12 by decide) (show mE Z 7 (sr yM g 7) = .inl (Z.2.2.1 0, 720, .inl (tr 720 (sr yM g 7))) from m_a (k := 7) Z (by decide) (by decide) _) j hx hj (Nat.le_of_ble_eq_true rfl) hd ?_
  rw [tr_at hj, show sr yM g 7 j = v from (show g (yM.2.2.1 7) (yM.2.2.2 7 j) = v by rw [show yM.2.2.1 7 = 7 from rfl, show yM.2.2.2 7 j = j from rfl]; exact hv)]
  exact kk
theorem as_m_items (C : CX X nL yM Z cc own ret F L) (j : Nat) {x v : Int32} (hx : x = nI j) (hj : j < 720) (hG : up g 7 j v = G) (hd : decode cc pc = .ok (.iastore, 1)) (kk : WX X nL yM Z Q G (pc + 1) lv st) : WX X nL yM Z Q g pc lv (.int v :: .int x :: .ref (Z.2.1 7) :: st) := by
  refine x_iast C (show 7 < 12 by decide) (fun r => show mE Z 7 r = .inl (Z.2.2.1 0, 720, .inl (tr 720 r)) from m_a (k := 7) Z (by decide) (by decide) r) j hx hj (Nat.le_of_ble_eq_true rfl) (sOkM 7 _) hd ?_
  rw [show yM.2.2.1 7 = 7 from rfl, show yM.2.2.2 7 j = j from rfl]
  exact x_eqg hG kk
theorem al_m_widths (C : CX X nL yM Z cc own ret F L) (j : Nat) {x v : Int32} (hx : x = nI j) (hj : j < 4) (hv : g 8 j = v) (hd : decode cc pc = .ok (.iaload, 1)) (kk : WX X nL yM Z Q g (pc + 1) lv (.int v :: st)) : WX X nL yM Z Q g pc lv (.int x :: .ref (Z.2.1 8) :: st) := by
  refine x_iald C (show 8 < 12 by decide) (show mE Z 8 (sr yM g 8) = .inl (Z.2.2.1 0, 4, .inl (tr 4 (sr yM g 8))) from m_a (k := 8) Z (by decide) (by decide) _) j hx hj (Nat.le_of_ble_eq_true rfl) hd ?_
  rw [tr_at hj, show sr yM g 8 j = v from (show g (yM.2.2.1 8) (yM.2.2.2 8 j) = v by rw [show yM.2.2.1 8 = 8 from rfl, show yM.2.2.2 8 j = j from rfl]; exact hv)]
  exact kk
theorem as_m_widths (C : CX X nL yM Z cc own ret F L) (j : Nat) {x v : Int32} (hx : x = nI j) (hj : j < 4) (hG : up g 8 j v = G) (hd : decode cc pc = .ok (.iastore, 1)) (kk : WX X nL yM Z Q G (pc + 1) lv st) : WX X nL yM Z Q g pc lv (.int v :: .int x :: .ref (Z.2.1 8) :: st) := by
  refine x_iast C (show 8 < 12 by decide) (fun r => show mE Z 8 r = .inl (Z.2.2.1 0, 4, .inl (tr 4 r)) from m_a (k := 8) Z (by decide) (by decide) r) j hx hj (Nat.le_of_ble_eq_true rfl) (sOkM 8 _) hd ?_
  rw [show yM.2.2.1 8 = 8 from rfl, show yM.2.2.2 8 j = j from rfl]
  exact x_eqg hG kk
theorem al_m_sizes (C : CX X nL yM Z cc own ret F L) (j : Nat) {x v : Int32} (hx : x = nI j) (hj : j < 4) (hv : g 9 j = v) (hd : decode cc pc = .ok (.iaload, 1)) (kk : WX X nL yM Z Q g (pc + 1) lv (.int v :: st)) : WX X nL yM Z Q g pc lv (.int x :: .ref (Z.2.1 9) :: st) := by
  refine x_iald C (show 9 < 12 by decide) (show mE Z 9 (sr yM g 9) = .inl (Z.2.2.1 0, 4, .inl (tr 4 (sr yM g 9))) from m_a (k := 9) Z (by decide) (by decide) _) j hx hj (Nat.le_of_ble_eq_true rfl) hd ?_
  rw [tr_at hj, show sr yM g 9 j = v from (show g (yM.2.2.1 9) (yM.2.2.2 9 j) = v by rw [show yM.2.2.1 9 = 9 from rfl, show yM.2.2.2 9 j = j from rfl]; exact hv)]
  exact kk
theorem as_m_sizes (C : CX X nL yM Z cc own ret F L) (j : Nat) {x v : Int32} (hx : x = nI j) (hj : j < 4) (hG : up g 9 j v = G) (hd : decode cc pc = .ok (.iastore, 1)) (kk : WX X nL yM Z Q G (pc + 1) lv st) : WX X nL yM Z Q g pc lv (.int v :: .int x :: .ref (Z.2.1 9) :: st) := by
  refine x_iast C (show 9 < 12 by decide) (fun r => show mE Z 9 r = .inl (Z.2.2.1 0, 4, .inl (tr 4 r)) from m_a (k := 9) Z (by decide) (by decide) r) j hx hj (Nat.le_of_ble_eq_true rfl) (sOkM 9 _) hd ?_
  rw [show yM.2.2.1 9 = 9 from rfl, show yM.2.2.2 9 j = j from rfl]
  exact x_eqg hG kk
theorem al_m_numbers (C : CX X nL yM Z cc own ret F L) (j : Nat) {x v : Int32} (hx : x = nI j) (hj : j < 160) (hv : g 10 j = v) (hd : decode cc pc = .ok (.iaload, 1)) (kk : WX X nL yM Z Q g (pc + 1) lv (.int v :: st)) : WX X nL yM Z Q g pc lv (.int x :: .ref (Z.2.1 10) :: st) := by
  refine x_iald C (show 10 < 12 by decide) (show mE Z 10 (sr yM g 10) = .inl (Z.2.2.1 0, 160, .inl (tr 160 (sr yM g 10))) from m_a (k := 10) Z (by decide) (by decide) _) j hx hj (Nat.le_of_ble_eq_true rfl) hd ?_
  rw [tr_at hj, show sr yM g 10 j = v from (show g (yM.2.2.1 10) (yM.2.2.2 10 j) = v by rw [show yM.2.2.1 10 = 10 from rfl, show yM.2.2.2 10 j = j from rfl]; exact hv)]
  exact kk
theorem as_m_numbers (C : CX X nL yM Z cc own ret F L) (j : Nat) {x v : Int32} (hx : x = nI j) (hj : j < 160) (hG : up g 10 j v = G) (hd : decode cc pc = .ok (.iastore, 1)) (kk : WX X nL yM Z Q G (pc + 1) lv st) : WX X nL yM Z Q g pc lv (.int v :: .int x :: .ref (Z.2.1 10) :: st) := by
  refine x_iast C (show 10 < 12 by decide) (fun r => show mE Z 10 r = .inl (Z.2.2.1 0, 160, .inl (tr 160 r)) from m_a (k := 10) Z (by decide) (by decide) r) j hx hj (Nat.le_of_ble_eq_true rfl) (sOkM 10 _) hd ?_
  rw [show yM.2.2.1 10 = 10 from rfl, show yM.2.2.2 10 j = j from rfl]
  exact x_eqg hG kk
theorem al_m_moved (C : CX X nL yM Z cc own ret F L) (j : Nat) {x v : Int32} (hx : x = nI j) (hj : j < 40) (hv : g 11 j = v) (hd : decode cc pc = .ok (.iaload, 1)) (kk : WX X nL yM Z Q g (pc + 1) lv (.int v :: st)) : WX X nL yM Z Q g pc lv (.int x :: .ref (Z.2.1 11) :: st) := by
  refine x_iald C (show 11 < 12 by decide) (show mE Z 11 (sr yM g 11) = .inl (Z.2.2.1 0, 40, .inl (tr 40 (sr yM g 11))) from m_a (k := 11) Z (by decide) (by decide) _) j hx hj (Nat.le_of_ble_eq_true rfl) hd ?_
  rw [tr_at hj, show sr yM g 11 j = v from (show g (yM.2.2.1 11) (yM.2.2.2 11 j) = v by rw [show yM.2.2.1 11 = 11 from rfl, show yM.2.2.2 11 j = j from rfl]; exact hv)]
  exact kk
theorem as_m_moved (C : CX X nL yM Z cc own ret F L) (j : Nat) {x v : Int32} (hx : x = nI j) (hj : j < 40) (hG : up g 11 j v = G) (hd : decode cc pc = .ok (.iastore, 1)) (kk : WX X nL yM Z Q G (pc + 1) lv st) : WX X nL yM Z Q g pc lv (.int v :: .int x :: .ref (Z.2.1 11) :: st) := by
  refine x_iast C (show 11 < 12 by decide) (fun r => show mE Z 11 r = .inl (Z.2.2.1 0, 40, .inl (tr 40 r)) from m_a (k := 11) Z (by decide) (by decide) r) j hx hj (Nat.le_of_ble_eq_true rfl) (sOkM 11 _) hd ?_
  rw [show yM.2.2.1 11 = 11 from rfl, show yM.2.2.2 11 j = j from rfl]
  exact x_eqg hG kk
theorem al_pp (C : CX X nL yC Z cc own ret F L) {t : Nat} (ht : t < 3) (j : Nat) {x : Int32} (hx : x = nI j) (hj : j < 8) (hd : decode cc pc = .ok (.aaload, 1)) (kk : WX X nL yC Z Q g (pc + 1) lv (.ref (Z.2.1 (18 + 12 * t + j)) :: st)) : WX X nL yC Z Q g pc lv (.int x :: .ref (Z.2.1 (17 + 12 * t)) :: st) :=
  x_aald C (show 17 + 12 * t < 50 by omega) 2 (e_pp Z t _) rfl j hx hj (Nat.le_of_ble_eq_true rfl) (if_pos hj) hd kk
theorem al_ss (C : CX X nL yC Z cc own ret F L) (j : Nat) {x : Int32} (hx : x = nI j) (hj : j < 4) (hd : decode cc pc = .ok (.aaload, 1)) (kk : WX X nL yC Z Q g (pc + 1) lv (.ref (Z.2.1 (5 + j)) :: st)) : WX X nL yC Z Q g pc lv (.int x :: .ref (Z.2.1 4) :: st) :=
  x_aald C (show 4 < 50 by decide) 3 (e_ss Z (sr yC g 4)) rfl j hx hj (Nat.le_of_ble_eq_true rfl) (if_pos hj) hd kk
theorem al_kn (C : CX X nL yM Z cc own ret F L) (j : Nat) {x : Int32} (hx : x = nI j) (hj : j < 7) (hd : decode cc pc = .ok (.aaload, 1)) (kk : WX X nL yM Z Q g (pc + 1) lv (.ref (Z.2.2.2.2.1 (mTx j)) :: st)) : WX X nL yM Z Q g pc lv (.int x :: .ref (Z.2.1 6) :: st) :=
  x_aald C (show 6 < 12 by decide) 4 (m_6 Z (sr yM g 6)) rfl j hx hj (Nat.le_of_ble_eq_true rfl) (if_pos hj) hd kk
end Fields
end

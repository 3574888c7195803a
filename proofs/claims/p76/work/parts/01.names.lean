-- ===== PART A: goes FIRST, ahead of the names: the tables' words, and 'selects' of the private methods out of them =====
def lw_okq (q : MethodName × Nat) : Prop := (q.1.cls ≠ "java/lang/invoke/MethodHandle" ∧ q.1.cls ≠ "java/lang/invoke/VarHandle") ∧ Cond.instantiable q.1.cls q.2 ∈ tables_1 ∧ Cond.privateMethod q.1 ∈ tables_1 ∧ Cond.instanceMethod q.1 ∈ tables_1
theorem lw_p0 : lw_okq (⟨"ObligingPosts$Tape", "take", "()V"⟩, 8) := ⟨⟨by decide +kernel, by decide +kernel⟩, List.mem_of_getElem? (i := 27) (by decide +kernel), List.mem_of_getElem? (i := 334) (by decide +kernel), List.mem_of_getElem? (i := 335) (by decide +kernel)⟩
theorem lw_p1 : lw_okq (⟨"ObligingPosts$Tape", "readLine", "(LObligingPosts$Heath;)V"⟩, 8) := ⟨⟨by decide +kernel, by decide +kernel⟩, List.mem_of_getElem? (i := 27) (by decide +kernel), List.mem_of_getElem? (i := 351) (by decide +kernel), List.mem_of_getElem? (i := 352) (by decide +kernel)⟩
theorem lw_p2 : lw_okq (⟨"ObligingPosts$Tape", "isWord", "(Ljava/lang/String;)Z"⟩, 8) := ⟨⟨by decide +kernel, by decide +kernel⟩, List.mem_of_getElem? (i := 27) (by decide +kernel), List.mem_of_getElem? (i := 356) (by decide +kernel), List.mem_of_getElem? (i := 357) (by decide +kernel)⟩
theorem lw_p3 : lw_okq (⟨"ObligingPosts$Tape", "readHeath", "(LObligingPosts$Heath;)V"⟩, 8) := ⟨⟨by decide +kernel, by decide +kernel⟩, List.mem_of_getElem? (i := 27) (by decide +kernel), List.mem_of_getElem? (i := 408) (by decide +kernel), List.mem_of_getElem? (i := 409) (by decide +kernel)⟩
theorem lw_p4 : lw_okq (⟨"ObligingPosts$Tape", "takeWord", "(Ljava/lang/String;)V"⟩, 8) := ⟨⟨by decide +kernel, by decide +kernel⟩, List.mem_of_getElem? (i := 27) (by decide +kernel), List.mem_of_getElem? (i := 413) (by decide +kernel), List.mem_of_getElem? (i := 414) (by decide +kernel)⟩
theorem lw_p5 : lw_okq (⟨"ObligingPosts$Tape", "fail", "(I)V"⟩, 8) := ⟨⟨by decide +kernel, by decide +kernel⟩, List.mem_of_getElem? (i := 27) (by decide +kernel), List.mem_of_getElem? (i := 417) (by decide +kernel), List.mem_of_getElem? (i := 418) (by decide +kernel)⟩
theorem lw_p6 : lw_okq (⟨"ObligingPosts$Tape", "takeNumber", "(II)I"⟩, 8) := ⟨⟨by decide +kernel, by decide +kernel⟩, List.mem_of_getElem? (i := 27) (by decide +kernel), List.mem_of_getElem? (i := 421) (by decide +kernel), List.mem_of_getElem? (i := 422) (by decide +kernel)⟩
theorem lw_p7 : lw_okq (⟨"ObligingPosts$Tape", "numberHere", "(II)I"⟩, 8) := ⟨⟨by decide +kernel, by decide +kernel⟩, List.mem_of_getElem? (i := 27) (by decide +kernel), List.mem_of_getElem? (i := 425) (by decide +kernel), List.mem_of_getElem? (i := 426) (by decide +kernel)⟩
theorem lw_p8 : lw_okq (⟨"ObligingPosts$Tape", "readInn", "(LObligingPosts$Heath;)V"⟩, 8) := ⟨⟨by decide +kernel, by decide +kernel⟩, List.mem_of_getElem? (i := 27) (by decide +kernel), List.mem_of_getElem? (i := 432) (by decide +kernel), List.mem_of_getElem? (i := 433) (by decide +kernel)⟩
theorem lw_p9 : lw_okq (⟨"ObligingPosts$Tape", "takeWordOfFew", "(II)V"⟩, 8) := ⟨⟨by decide +kernel, by decide +kernel⟩, List.mem_of_getElem? (i := 27) (by decide +kernel), List.mem_of_getElem? (i := 436) (by decide +kernel), List.mem_of_getElem? (i := 437) (by decide +kernel)⟩
theorem lw_p10 : lw_okq (⟨"ObligingPosts$Tape", "readPost", "(LObligingPosts$Heath;)V"⟩, 8) := ⟨⟨by decide +kernel, by decide +kernel⟩, List.mem_of_getElem? (i := 27) (by decide +kernel), List.mem_of_getElem? (i := 442) (by decide +kernel), List.mem_of_getElem? (i := 443) (by decide +kernel)⟩
theorem lw_p11 : lw_okq (⟨"ObligingPosts$Tape", "readRoad", "(LObligingPosts$Heath;)V"⟩, 8) := ⟨⟨by decide +kernel, by decide +kernel⟩, List.mem_of_getElem? (i := 27) (by decide +kernel), List.mem_of_getElem? (i := 447) (by decide +kernel), List.mem_of_getElem? (i := 448) (by decide +kernel)⟩
theorem lw_p12 : lw_okq (⟨"ObligingPosts$Tape", "readArm", "(LObligingPosts$Heath;)V"⟩, 8) := ⟨⟨by decide +kernel, by decide +kernel⟩, List.mem_of_getElem? (i := 27) (by decide +kernel), List.mem_of_getElem? (i := 458) (by decide +kernel), List.mem_of_getElem? (i := 459) (by decide +kernel)⟩
theorem lw_p13 : lw_okq (⟨"ObligingPosts$Tape", "readWalker", "(LObligingPosts$Heath;)V"⟩, 8) := ⟨⟨by decide +kernel, by decide +kernel⟩, List.mem_of_getElem? (i := 27) (by decide +kernel), List.mem_of_getElem? (i := 463) (by decide +kernel), List.mem_of_getElem? (i := 464) (by decide +kernel)⟩
theorem lw_p14 : lw_okq (⟨"ObligingPosts$Tape", "takeSign", "()V"⟩, 8) := ⟨⟨by decide +kernel, by decide +kernel⟩, List.mem_of_getElem? (i := 27) (by decide +kernel), List.mem_of_getElem? (i := 468) (by decide +kernel), List.mem_of_getElem? (i := 469) (by decide +kernel)⟩
theorem lw_p15 : lw_okq (⟨"ObligingPosts", "changed", "()V"⟩, 12) := ⟨⟨by decide +kernel, by decide +kernel⟩, List.mem_of_getElem? (i := 19) (by decide +kernel), List.mem_of_getElem? (i := 484) (by decide +kernel), List.mem_of_getElem? (i := 485) (by decide +kernel)⟩
def lw_privs_1 : List (MethodName × Nat) := [(⟨"ObligingPosts$Tape", "take", "()V"⟩, 8), (⟨"ObligingPosts$Tape", "readLine", "(LObligingPosts$Heath;)V"⟩, 8), (⟨"ObligingPosts$Tape", "isWord", "(Ljava/lang/String;)Z"⟩, 8), (⟨"ObligingPosts$Tape", "readHeath", "(LObligingPosts$Heath;)V"⟩, 8), (⟨"ObligingPosts$Tape", "takeWord", "(Ljava/lang/String;)V"⟩, 8), (⟨"ObligingPosts$Tape", "fail", "(I)V"⟩, 8), (⟨"ObligingPosts$Tape", "takeNumber", "(II)I"⟩, 8), (⟨"ObligingPosts$Tape", "numberHere", "(II)I"⟩, 8), (⟨"ObligingPosts$Tape", "readInn", "(LObligingPosts$Heath;)V"⟩, 8), (⟨"ObligingPosts$Tape", "takeWordOfFew", "(II)V"⟩, 8), (⟨"ObligingPosts$Tape", "readPost", "(LObligingPosts$Heath;)V"⟩, 8), (⟨"ObligingPosts$Tape", "readRoad", "(LObligingPosts$Heath;)V"⟩, 8), (⟨"ObligingPosts$Tape", "readArm", "(LObligingPosts$Heath;)V"⟩, 8), (⟨"ObligingPosts$Tape", "readWalker", "(LObligingPosts$Heath;)V"⟩, 8), (⟨"ObligingPosts$Tape", "takeSign", "()V"⟩, 8), (⟨"ObligingPosts", "changed", "()V"⟩, 12)]
theorem lw_r1 : ∀ q ∈ lw_privs_1, lw_okq q := List.forall_mem_cons.mpr ⟨lw_p0, List.forall_mem_cons.mpr ⟨lw_p1, List.forall_mem_cons.mpr ⟨lw_p2, List.forall_mem_cons.mpr ⟨lw_p3, List.forall_mem_cons.mpr ⟨lw_p4, List.forall_mem_cons.mpr ⟨lw_p5, List.forall_mem_cons.mpr ⟨lw_p6, List.forall_mem_cons.mpr ⟨lw_p7, List.forall_mem_cons.mpr ⟨lw_p8, List.forall_mem_cons.mpr ⟨lw_p9, List.forall_mem_cons.mpr ⟨lw_p10, List.forall_mem_cons.mpr ⟨lw_p11, List.forall_mem_cons.mpr ⟨lw_p12, List.forall_mem_cons.mpr ⟨lw_p13, List.forall_mem_cons.mpr ⟨lw_p14, List.forall_mem_cons.mpr ⟨lw_p15, fun _ h => absurd h List.not_mem_nil⟩⟩⟩⟩⟩⟩⟩⟩⟩⟩⟩⟩⟩⟩⟩⟩
theorem lw_p16 : lw_okq (⟨"ObligingPosts$Night", "turnByActs", "(I)V"⟩, 9) := ⟨⟨by decide +kernel, by decide +kernel⟩, List.mem_of_getElem? (i := 184) (by decide +kernel), List.mem_of_getElem? (i := 509) (by decide +kernel), List.mem_of_getElem? (i := 510) (by decide +kernel)⟩
theorem lw_p17 : lw_okq (⟨"ObligingPosts$Night", "countGuests", "(I)V"⟩, 9) := ⟨⟨by decide +kernel, by decide +kernel⟩, List.mem_of_getElem? (i := 184) (by decide +kernel), List.mem_of_getElem? (i := 525) (by decide +kernel), List.mem_of_getElem? (i := 526) (by decide +kernel)⟩
theorem lw_p18 : lw_okq (⟨"ObligingPosts$Night", "isSentFrom", "(II)Z"⟩, 9) := ⟨⟨by decide +kernel, by decide +kernel⟩, List.mem_of_getElem? (i := 184) (by decide +kernel), List.mem_of_getElem? (i := 534) (by decide +kernel), List.mem_of_getElem? (i := 535) (by decide +kernel)⟩
theorem lw_p19 : lw_okq (⟨"ObligingPosts$Night", "sendOn", "(II)V"⟩, 9) := ⟨⟨by decide +kernel, by decide +kernel⟩, List.mem_of_getElem? (i := 184) (by decide +kernel), List.mem_of_getElem? (i := 542) (by decide +kernel), List.mem_of_getElem? (i := 543) (by decide +kernel)⟩
theorem lw_p20 : lw_okq (⟨"ObligingPosts$Night", "letsIn", "(I)Z"⟩, 9) := ⟨⟨by decide +kernel, by decide +kernel⟩, List.mem_of_getElem? (i := 184) (by decide +kernel), List.mem_of_getElem? (i := 554) (by decide +kernel), List.mem_of_getElem? (i := 555) (by decide +kernel)⟩
theorem lw_p21 : lw_okq (⟨"ObligingPosts$Night", "stayOn", "(II)V"⟩, 9) := ⟨⟨by decide +kernel, by decide +kernel⟩, List.mem_of_getElem? (i := 184) (by decide +kernel), List.mem_of_getElem? (i := 558) (by decide +kernel), List.mem_of_getElem? (i := 559) (by decide +kernel)⟩
theorem lw_p22 : lw_okq (⟨"ObligingPosts$Night", "isSent", "(II)Z"⟩, 9) := ⟨⟨by decide +kernel, by decide +kernel⟩, List.mem_of_getElem? (i := 184) (by decide +kernel), List.mem_of_getElem? (i := 651) (by decide +kernel), List.mem_of_getElem? (i := 652) (by decide +kernel)⟩
theorem lw_p23 : lw_okq (⟨"ObligingPosts$Night", "postBit", "(II)I"⟩, 9) := ⟨⟨by decide +kernel, by decide +kernel⟩, List.mem_of_getElem? (i := 184) (by decide +kernel), List.mem_of_getElem? (i := 700) (by decide +kernel), List.mem_of_getElem? (i := 701) (by decide +kernel)⟩
theorem lw_p24 : lw_okq (⟨"ObligingPosts$Night", "isRefused", "(III)Z"⟩, 9) := ⟨⟨by decide +kernel, by decide +kernel⟩, List.mem_of_getElem? (i := 184) (by decide +kernel), List.mem_of_getElem? (i := 761) (by decide +kernel), List.mem_of_getElem? (i := 762) (by decide +kernel)⟩
theorem lw_p25 : lw_okq (⟨"ObligingPosts", "areTwo", "(II)Z"⟩, 12) := ⟨⟨by decide +kernel, by decide +kernel⟩, List.mem_of_getElem? (i := 19) (by decide +kernel), List.mem_of_getElem? (i := 815) (by decide +kernel), List.mem_of_getElem? (i := 816) (by decide +kernel)⟩
theorem lw_p26 : lw_okq (⟨"ObligingPosts$Heath", "oneRoadOn", "(I)I"⟩, 16) := ⟨⟨by decide +kernel, by decide +kernel⟩, List.mem_of_getElem? (i := 62) (by decide +kernel), List.mem_of_getElem? (i := 839) (by decide +kernel), List.mem_of_getElem? (i := 840) (by decide +kernel)⟩
theorem lw_p27 : lw_okq (⟨"ObligingPosts", "settingIn", "(I)I"⟩, 12) := ⟨⟨by decide +kernel, by decide +kernel⟩, List.mem_of_getElem? (i := 19) (by decide +kernel), List.mem_of_getElem? (i := 855) (by decide +kernel), List.mem_of_getElem? (i := 856) (by decide +kernel)⟩
theorem lw_p28 : lw_okq (⟨"ObligingPosts$Heath", "leadsToInn", "([III)Z"⟩, 16) := ⟨⟨by decide +kernel, by decide +kernel⟩, List.mem_of_getElem? (i := 62) (by decide +kernel), List.mem_of_getElem? (i := 927) (by decide +kernel), List.mem_of_getElem? (i := 928) (by decide +kernel)⟩
theorem lw_p29 : lw_okq (⟨"ObligingPosts$Heath", "leadsBack", "([III)Z"⟩, 16) := ⟨⟨by decide +kernel, by decide +kernel⟩, List.mem_of_getElem? (i := 62) (by decide +kernel), List.mem_of_getElem? (i := 939) (by decide +kernel), List.mem_of_getElem? (i := 940) (by decide +kernel)⟩
theorem lw_p30 : lw_okq (⟨"ObligingPosts", "runPointed", "(II)V"⟩, 12) := ⟨⟨by decide +kernel, by decide +kernel⟩, List.mem_of_getElem? (i := 19) (by decide +kernel), List.mem_of_getElem? (i := 959) (by decide +kernel), List.mem_of_getElem? (i := 960) (by decide +kernel)⟩
theorem lw_p31 : lw_okq (⟨"ObligingPosts", "refusalOfSeen", "(IZ)I"⟩, 12) := ⟨⟨by decide +kernel, by decide +kernel⟩, List.mem_of_getElem? (i := 19) (by decide +kernel), List.mem_of_getElem? (i := 984) (by decide +kernel), List.mem_of_getElem? (i := 985) (by decide +kernel)⟩
def lw_privs_2 : List (MethodName × Nat) := [(⟨"ObligingPosts$Night", "turnByActs", "(I)V"⟩, 9), (⟨"ObligingPosts$Night", "countGuests", "(I)V"⟩, 9), (⟨"ObligingPosts$Night", "isSentFrom", "(II)Z"⟩, 9), (⟨"ObligingPosts$Night", "sendOn", "(II)V"⟩, 9), (⟨"ObligingPosts$Night", "letsIn", "(I)Z"⟩, 9), (⟨"ObligingPosts$Night", "stayOn", "(II)V"⟩, 9), (⟨"ObligingPosts$Night", "isSent", "(II)Z"⟩, 9), (⟨"ObligingPosts$Night", "postBit", "(II)I"⟩, 9), (⟨"ObligingPosts$Night", "isRefused", "(III)Z"⟩, 9), (⟨"ObligingPosts", "areTwo", "(II)Z"⟩, 12), (⟨"ObligingPosts$Heath", "oneRoadOn", "(I)I"⟩, 16), (⟨"ObligingPosts", "settingIn", "(I)I"⟩, 12), (⟨"ObligingPosts$Heath", "leadsToInn", "([III)Z"⟩, 16), (⟨"ObligingPosts$Heath", "leadsBack", "([III)Z"⟩, 16), (⟨"ObligingPosts", "runPointed", "(II)V"⟩, 12), (⟨"ObligingPosts", "refusalOfSeen", "(IZ)I"⟩, 12)]
theorem lw_r2 : ∀ q ∈ lw_privs_2, lw_okq q := List.forall_mem_cons.mpr ⟨lw_p16, List.forall_mem_cons.mpr ⟨lw_p17, List.forall_mem_cons.mpr ⟨lw_p18, List.forall_mem_cons.mpr ⟨lw_p19, List.forall_mem_cons.mpr ⟨lw_p20, List.forall_mem_cons.mpr ⟨lw_p21, List.forall_mem_cons.mpr ⟨lw_p22, List.forall_mem_cons.mpr ⟨lw_p23, List.forall_mem_cons.mpr ⟨lw_p24, List.forall_mem_cons.mpr ⟨lw_p25, List.forall_mem_cons.mpr ⟨lw_p26, List.forall_mem_cons.mpr ⟨lw_p27, List.forall_mem_cons.mpr ⟨lw_p28, List.forall_mem_cons.mpr ⟨lw_p29, List.forall_mem_cons.mpr ⟨lw_p30, List.forall_mem_cons.mpr ⟨lw_p31, fun _ h => absurd h List.not_mem_nil⟩⟩⟩⟩⟩⟩⟩⟩⟩⟩⟩⟩⟩⟩⟩⟩
theorem lw_p32 : lw_okq (⟨"ObligingPosts", "tellsPlaces", "(LObligingPosts$Slot;)Z"⟩, 12) := ⟨⟨by decide +kernel, by decide +kernel⟩, List.mem_of_getElem? (i := 19) (by decide +kernel), List.mem_of_getElem? (i := 991) (by decide +kernel), List.mem_of_getElem? (i := 992) (by decide +kernel)⟩
theorem lw_p33 : lw_okq (⟨"ObligingPosts", "possibleRoads", "(LObligingPosts$Slot;I)I"⟩, 12) := ⟨⟨by decide +kernel, by decide +kernel⟩, List.mem_of_getElem? (i := 19) (by decide +kernel), List.mem_of_getElem? (i := 997) (by decide +kernel), List.mem_of_getElem? (i := 998) (by decide +kernel)⟩
theorem lw_p34 : lw_okq (⟨"ObligingPosts", "agrees", "(LObligingPosts$Slot;LObligingPosts$Night;)Z"⟩, 12) := ⟨⟨by decide +kernel, by decide +kernel⟩, List.mem_of_getElem? (i := 19) (by decide +kernel), List.mem_of_getElem? (i := 1002) (by decide +kernel), List.mem_of_getElem? (i := 1003) (by decide +kernel)⟩
theorem lw_p35 : lw_okq (⟨"ObligingPosts", "bestQuestion", "(I)I"⟩, 12) := ⟨⟨by decide +kernel, by decide +kernel⟩, List.mem_of_getElem? (i := 19) (by decide +kernel), List.mem_of_getElem? (i := 1010) (by decide +kernel), List.mem_of_getElem? (i := 1011) (by decide +kernel)⟩
theorem lw_p36 : lw_okq (⟨"ObligingPosts", "mostLeft", "(III)I"⟩, 12) := ⟨⟨by decide +kernel, by decide +kernel⟩, List.mem_of_getElem? (i := 19) (by decide +kernel), List.mem_of_getElem? (i := 1014) (by decide +kernel), List.mem_of_getElem? (i := 1015) (by decide +kernel)⟩
theorem lw_p37 : lw_okq (⟨"ObligingPosts", "roadsAlike", "(III)I"⟩, 12) := ⟨⟨by decide +kernel, by decide +kernel⟩, List.mem_of_getElem? (i := 19) (by decide +kernel), List.mem_of_getElem? (i := 1018) (by decide +kernel), List.mem_of_getElem? (i := 1019) (by decide +kernel)⟩
theorem lw_p38 : lw_okq (⟨"ObligingPosts", "runByLaw", "(I)V"⟩, 12) := ⟨⟨by decide +kernel, by decide +kernel⟩, List.mem_of_getElem? (i := 19) (by decide +kernel), List.mem_of_getElem? (i := 1031) (by decide +kernel), List.mem_of_getElem? (i := 1032) (by decide +kernel)⟩
theorem lw_p39 : lw_okq (⟨"ObligingPosts", "worthOf", "(I)I"⟩, 12) := ⟨⟨by decide +kernel, by decide +kernel⟩, List.mem_of_getElem? (i := 19) (by decide +kernel), List.mem_of_getElem? (i := 1047) (by decide +kernel), List.mem_of_getElem? (i := 1048) (by decide +kernel)⟩
theorem lw_p40 : lw_okq (⟨"ObligingPosts", "learnWorths", "()V"⟩, 12) := ⟨⟨by decide +kernel, by decide +kernel⟩, List.mem_of_getElem? (i := 19) (by decide +kernel), List.mem_of_getElem? (i := 1055) (by decide +kernel), List.mem_of_getElem? (i := 1056) (by decide +kernel)⟩
theorem lw_p41 : lw_okq (⟨"ObligingPosts", "gain", "(IIII)I"⟩, 12) := ⟨⟨by decide +kernel, by decide +kernel⟩, List.mem_of_getElem? (i := 19) (by decide +kernel), List.mem_of_getElem? (i := 1074) (by decide +kernel), List.mem_of_getElem? (i := 1075) (by decide +kernel)⟩
theorem lw_p42 : lw_okq (⟨"ObligingPosts", "isFogHour", "(I)Z"⟩, 12) := ⟨⟨by decide +kernel, by decide +kernel⟩, List.mem_of_getElem? (i := 19) (by decide +kernel), List.mem_of_getElem? (i := 1086) (by decide +kernel), List.mem_of_getElem? (i := 1087) (by decide +kernel)⟩
theorem lw_p43 : lw_okq (⟨"ObligingPosts$Fog", "addInside", "(IJ)V"⟩, 4) := ⟨⟨by decide +kernel, by decide +kernel⟩, List.mem_of_getElem? (i := 243) (by decide +kernel), List.mem_of_getElem? (i := 1105) (by decide +kernel), List.mem_of_getElem? (i := 1106) (by decide +kernel)⟩
theorem lw_p44 : lw_okq (⟨"ObligingPosts", "insideByFog", "(I)I"⟩, 12) := ⟨⟨by decide +kernel, by decide +kernel⟩, List.mem_of_getElem? (i := 19) (by decide +kernel), List.mem_of_getElem? (i := 1155) (by decide +kernel), List.mem_of_getElem? (i := 1156) (by decide +kernel)⟩
theorem lw_p45 : lw_okq (⟨"ObligingPosts", "slotsWithRow", "()I"⟩, 12) := ⟨⟨by decide +kernel, by decide +kernel⟩, List.mem_of_getElem? (i := 19) (by decide +kernel), List.mem_of_getElem? (i := 1171) (by decide +kernel), List.mem_of_getElem? (i := 1172) (by decide +kernel)⟩
theorem lw_p46 : lw_okq (⟨"ObligingPosts$Slot", "cut", "(J)J"⟩, 3) := ⟨⟨by decide +kernel, by decide +kernel⟩, List.mem_of_getElem? (i := 1186) (by decide +kernel), List.mem_of_getElem? (i := 1218) (by decide +kernel), List.mem_of_getElem? (i := 1219) (by decide +kernel)⟩
theorem lw_p47 : lw_okq (⟨"ObligingPostsModel", "advance", "()V"⟩, 41) := ⟨⟨by decide +kernel, by decide +kernel⟩, List.mem_of_getElem? (i := 1230) (by decide +kernel), List.mem_of_getElem? (i := 1388) (by decide +kernel), List.mem_of_getElem? (i := 1389) (by decide +kernel)⟩
def lw_privs_3 : List (MethodName × Nat) := [(⟨"ObligingPosts", "tellsPlaces", "(LObligingPosts$Slot;)Z"⟩, 12), (⟨"ObligingPosts", "possibleRoads", "(LObligingPosts$Slot;I)I"⟩, 12), (⟨"ObligingPosts", "agrees", "(LObligingPosts$Slot;LObligingPosts$Night;)Z"⟩, 12), (⟨"ObligingPosts", "bestQuestion", "(I)I"⟩, 12), (⟨"ObligingPosts", "mostLeft", "(III)I"⟩, 12), (⟨"ObligingPosts", "roadsAlike", "(III)I"⟩, 12), (⟨"ObligingPosts", "runByLaw", "(I)V"⟩, 12), (⟨"ObligingPosts", "worthOf", "(I)I"⟩, 12), (⟨"ObligingPosts", "learnWorths", "()V"⟩, 12), (⟨"ObligingPosts", "gain", "(IIII)I"⟩, 12), (⟨"ObligingPosts", "isFogHour", "(I)Z"⟩, 12), (⟨"ObligingPosts$Fog", "addInside", "(IJ)V"⟩, 4), (⟨"ObligingPosts", "insideByFog", "(I)I"⟩, 12), (⟨"ObligingPosts", "slotsWithRow", "()I"⟩, 12), (⟨"ObligingPosts$Slot", "cut", "(J)J"⟩, 3), (⟨"ObligingPostsModel", "advance", "()V"⟩, 41)]
theorem lw_r3 : ∀ q ∈ lw_privs_3, lw_okq q := List.forall_mem_cons.mpr ⟨lw_p32, List.forall_mem_cons.mpr ⟨lw_p33, List.forall_mem_cons.mpr ⟨lw_p34, List.forall_mem_cons.mpr ⟨lw_p35, List.forall_mem_cons.mpr ⟨lw_p36, List.forall_mem_cons.mpr ⟨lw_p37, List.forall_mem_cons.mpr ⟨lw_p38, List.forall_mem_cons.mpr ⟨lw_p39, List.forall_mem_cons.mpr ⟨lw_p40, List.forall_mem_cons.mpr ⟨lw_p41, List.forall_mem_cons.mpr ⟨lw_p42, List.forall_mem_cons.mpr ⟨lw_p43, List.forall_mem_cons.mpr ⟨lw_p44, List.forall_mem_cons.mpr ⟨lw_p45, List.forall_mem_cons.mpr ⟨lw_p46, List.forall_mem_cons.mpr ⟨lw_p47, fun _ h => absurd h List.not_mem_nil⟩⟩⟩⟩⟩⟩⟩⟩⟩⟩⟩⟩⟩⟩⟩⟩
theorem lw_p48 : lw_okq (⟨"ObligingPostsModel", "see", "(I)I"⟩, 41) := ⟨⟨by decide +kernel, by decide +kernel⟩, List.mem_of_getElem? (i := 1230) (by decide +kernel), List.mem_of_getElem? (i := 1392) (by decide +kernel), List.mem_of_getElem? (i := 1393) (by decide +kernel)⟩
theorem lw_p49 : lw_okq (⟨"ObligingPostsModel", "good", "()Z"⟩, 41) := ⟨⟨by decide +kernel, by decide +kernel⟩, List.mem_of_getElem? (i := 1230) (by decide +kernel), List.mem_of_getElem? (i := 1402) (by decide +kernel), List.mem_of_getElem? (i := 1403) (by decide +kernel)⟩
theorem lw_p50 : lw_okq (⟨"ObligingPostsModel", "readLine", "()V"⟩, 41) := ⟨⟨by decide +kernel, by decide +kernel⟩, List.mem_of_getElem? (i := 1230) (by decide +kernel), List.mem_of_getElem? (i := 1406) (by decide +kernel), List.mem_of_getElem? (i := 1407) (by decide +kernel)⟩
theorem lw_p51 : lw_okq (⟨"ObligingPostsModel", "readFirst", "()V"⟩, 41) := ⟨⟨by decide +kernel, by decide +kernel⟩, List.mem_of_getElem? (i := 1230) (by decide +kernel), List.mem_of_getElem? (i := 1410) (by decide +kernel), List.mem_of_getElem? (i := 1411) (by decide +kernel)⟩
theorem lw_p52 : lw_okq (⟨"ObligingPostsModel", "expects", "(Ljava/lang/String;)V"⟩, 41) := ⟨⟨by decide +kernel, by decide +kernel⟩, List.mem_of_getElem? (i := 1230) (by decide +kernel), List.mem_of_getElem? (i := 1415) (by decide +kernel), List.mem_of_getElem? (i := 1416) (by decide +kernel)⟩
theorem lw_p53 : lw_okq (⟨"ObligingPostsModel", "takes", "(Ljava/lang/String;)Z"⟩, 41) := ⟨⟨by decide +kernel, by decide +kernel⟩, List.mem_of_getElem? (i := 1230) (by decide +kernel), List.mem_of_getElem? (i := 1419) (by decide +kernel), List.mem_of_getElem? (i := 1420) (by decide +kernel)⟩
theorem lw_p54 : lw_okq (⟨"ObligingPostsModel", "is", "(Ljava/lang/String;)Z"⟩, 41) := ⟨⟨by decide +kernel, by decide +kernel⟩, List.mem_of_getElem? (i := 1230) (by decide +kernel), List.mem_of_getElem? (i := 1423) (by decide +kernel), List.mem_of_getElem? (i := 1424) (by decide +kernel)⟩
theorem lw_p55 : lw_okq (⟨"ObligingPostsModel", "errs", "(I)V"⟩, 41) := ⟨⟨by decide +kernel, by decide +kernel⟩, List.mem_of_getElem? (i := 1230) (by decide +kernel), List.mem_of_getElem? (i := 1429) (by decide +kernel), List.mem_of_getElem? (i := 1430) (by decide +kernel)⟩
theorem lw_p56 : lw_okq (⟨"ObligingPostsModel", "toldBy", "(Ljava/lang/String;II)I"⟩, 41) := ⟨⟨by decide +kernel, by decide +kernel⟩, List.mem_of_getElem? (i := 1230) (by decide +kernel), List.mem_of_getElem? (i := 1434) (by decide +kernel), List.mem_of_getElem? (i := 1435) (by decide +kernel)⟩
theorem lw_p57 : lw_okq (⟨"ObligingPostsModel", "number", "(II)I"⟩, 41) := ⟨⟨by decide +kernel, by decide +kernel⟩, List.mem_of_getElem? (i := 1230) (by decide +kernel), List.mem_of_getElem? (i := 1438) (by decide +kernel), List.mem_of_getElem? (i := 1439) (by decide +kernel)⟩
theorem lw_p58 : lw_okq (⟨"ObligingPostsModel", "readNext", "()V"⟩, 41) := ⟨⟨by decide +kernel, by decide +kernel⟩, List.mem_of_getElem? (i := 1230) (by decide +kernel), List.mem_of_getElem? (i := 1444) (by decide +kernel), List.mem_of_getElem? (i := 1445) (by decide +kernel)⟩
theorem lw_p59 : lw_okq (⟨"ObligingPostsModel", "isFull", "()Z"⟩, 41) := ⟨⟨by decide +kernel, by decide +kernel⟩, List.mem_of_getElem? (i := 1230) (by decide +kernel), List.mem_of_getElem? (i := 1453) (by decide +kernel), List.mem_of_getElem? (i := 1454) (by decide +kernel)⟩
theorem lw_p60 : lw_okq (⟨"ObligingPostsModel", "readRoad", "()V"⟩, 41) := ⟨⟨by decide +kernel, by decide +kernel⟩, List.mem_of_getElem? (i := 1230) (by decide +kernel), List.mem_of_getElem? (i := 1458) (by decide +kernel), List.mem_of_getElem? (i := 1459) (by decide +kernel)⟩
theorem lw_p61 : lw_okq (⟨"ObligingPostsModel", "readPost", "()I"⟩, 41) := ⟨⟨by decide +kernel, by decide +kernel⟩, List.mem_of_getElem? (i := 1230) (by decide +kernel), List.mem_of_getElem? (i := 1462) (by decide +kernel), List.mem_of_getElem? (i := 1463) (by decide +kernel)⟩
theorem lw_p62 : lw_okq (⟨"ObligingPostsModel", "readArm", "()V"⟩, 41) := ⟨⟨by decide +kernel, by decide +kernel⟩, List.mem_of_getElem? (i := 1230) (by decide +kernel), List.mem_of_getElem? (i := 1468) (by decide +kernel), List.mem_of_getElem? (i := 1469) (by decide +kernel)⟩
theorem lw_p63 : lw_okq (⟨"ObligingPostsModel", "readWalker", "()V"⟩, 41) := ⟨⟨by decide +kernel, by decide +kernel⟩, List.mem_of_getElem? (i := 1230) (by decide +kernel), List.mem_of_getElem? (i := 1472) (by decide +kernel), List.mem_of_getElem? (i := 1473) (by decide +kernel)⟩
def lw_privs_4 : List (MethodName × Nat) := [(⟨"ObligingPostsModel", "see", "(I)I"⟩, 41), (⟨"ObligingPostsModel", "good", "()Z"⟩, 41), (⟨"ObligingPostsModel", "readLine", "()V"⟩, 41), (⟨"ObligingPostsModel", "readFirst", "()V"⟩, 41), (⟨"ObligingPostsModel", "expects", "(Ljava/lang/String;)V"⟩, 41), (⟨"ObligingPostsModel", "takes", "(Ljava/lang/String;)Z"⟩, 41), (⟨"ObligingPostsModel", "is", "(Ljava/lang/String;)Z"⟩, 41), (⟨"ObligingPostsModel", "errs", "(I)V"⟩, 41), (⟨"ObligingPostsModel", "toldBy", "(Ljava/lang/String;II)I"⟩, 41), (⟨"ObligingPostsModel", "number", "(II)I"⟩, 41), (⟨"ObligingPostsModel", "readNext", "()V"⟩, 41), (⟨"ObligingPostsModel", "isFull", "()Z"⟩, 41), (⟨"ObligingPostsModel", "readRoad", "()V"⟩, 41), (⟨"ObligingPostsModel", "readPost", "()I"⟩, 41), (⟨"ObligingPostsModel", "readArm", "()V"⟩, 41), (⟨"ObligingPostsModel", "readWalker", "()V"⟩, 41)]
theorem lw_r4 : ∀ q ∈ lw_privs_4, lw_okq q := List.forall_mem_cons.mpr ⟨lw_p48, List.forall_mem_cons.mpr ⟨lw_p49, List.forall_mem_cons.mpr ⟨lw_p50, List.forall_mem_cons.mpr ⟨lw_p51, List.forall_mem_cons.mpr ⟨lw_p52, List.forall_mem_cons.mpr ⟨lw_p53, List.forall_mem_cons.mpr ⟨lw_p54, List.forall_mem_cons.mpr ⟨lw_p55, List.forall_mem_cons.mpr ⟨lw_p56, List.forall_mem_cons.mpr ⟨lw_p57, List.forall_mem_cons.mpr ⟨lw_p58, List.forall_mem_cons.mpr ⟨lw_p59, List.forall_mem_cons.mpr ⟨lw_p60, List.forall_mem_cons.mpr ⟨lw_p61, List.forall_mem_cons.mpr ⟨lw_p62, List.forall_mem_cons.mpr ⟨lw_p63, fun _ h => absurd h List.not_mem_nil⟩⟩⟩⟩⟩⟩⟩⟩⟩⟩⟩⟩⟩⟩⟩⟩
theorem lw_p64 : lw_okq (⟨"ObligingPostsModel", "isInn", "(J)Z"⟩, 41) := ⟨⟨by decide +kernel, by decide +kernel⟩, List.mem_of_getElem? (i := 1230) (by decide +kernel), List.mem_of_getElem? (i := 1481) (by decide +kernel), List.mem_of_getElem? (i := 1482) (by decide +kernel)⟩
theorem lw_p65 : lw_okq (⟨"ObligingPostsModel", "isPost", "(J)Z"⟩, 41) := ⟨⟨by decide +kernel, by decide +kernel⟩, List.mem_of_getElem? (i := 1230) (by decide +kernel), List.mem_of_getElem? (i := 1489) (by decide +kernel), List.mem_of_getElem? (i := 1490) (by decide +kernel)⟩
theorem lw_p66 : lw_okq (⟨"ObligingPostsModel", "posts", "()I"⟩, 41) := ⟨⟨by decide +kernel, by decide +kernel⟩, List.mem_of_getElem? (i := 1230) (by decide +kernel), List.mem_of_getElem? (i := 1493) (by decide +kernel), List.mem_of_getElem? (i := 1494) (by decide +kernel)⟩
theorem lw_p67 : lw_okq (⟨"ObligingPostsModel", "roadMany", "(I)I"⟩, 41) := ⟨⟨by decide +kernel, by decide +kernel⟩, List.mem_of_getElem? (i := 1230) (by decide +kernel), List.mem_of_getElem? (i := 1497) (by decide +kernel), List.mem_of_getElem? (i := 1498) (by decide +kernel)⟩
theorem lw_p68 : lw_okq (⟨"ObligingPostsModel", "roadTo", "(II)I"⟩, 41) := ⟨⟨by decide +kernel, by decide +kernel⟩, List.mem_of_getElem? (i := 1230) (by decide +kernel), List.mem_of_getElem? (i := 1505) (by decide +kernel), List.mem_of_getElem? (i := 1506) (by decide +kernel)⟩
theorem lw_p69 : lw_okq (⟨"ObligingPostsModel", "armOf", "(I)I"⟩, 41) := ⟨⟨by decide +kernel, by decide +kernel⟩, List.mem_of_getElem? (i := 1230) (by decide +kernel), List.mem_of_getElem? (i := 1513) (by decide +kernel), List.mem_of_getElem? (i := 1514) (by decide +kernel)⟩
theorem lw_p70 : lw_okq (⟨"ObligingPostsModel", "isWalker", "(J)Z"⟩, 41) := ⟨⟨by decide +kernel, by decide +kernel⟩, List.mem_of_getElem? (i := 1230) (by decide +kernel), List.mem_of_getElem? (i := 1521) (by decide +kernel), List.mem_of_getElem? (i := 1522) (by decide +kernel)⟩
theorem lw_p71 : lw_okq (⟨"ObligingPostsModel", "walkers", "()I"⟩, 41) := ⟨⟨by decide +kernel, by decide +kernel⟩, List.mem_of_getElem? (i := 1230) (by decide +kernel), List.mem_of_getElem? (i := 1525) (by decide +kernel), List.mem_of_getElem? (i := 1526) (by decide +kernel)⟩
theorem lw_p72 : lw_okq (⟨"ObligingPostsModel", "isHeath", "()Z"⟩, 41) := ⟨⟨by decide +kernel, by decide +kernel⟩, List.mem_of_getElem? (i := 1230) (by decide +kernel), List.mem_of_getElem? (i := 1537) (by decide +kernel), List.mem_of_getElem? (i := 1538) (by decide +kernel)⟩
theorem lw_p73 : lw_okq (⟨"ObligingPostsModel", "asksHour", "(I)Z"⟩, 41) := ⟨⟨by decide +kernel, by decide +kernel⟩, List.mem_of_getElem? (i := 1230) (by decide +kernel), List.mem_of_getElem? (i := 1545) (by decide +kernel), List.mem_of_getElem? (i := 1546) (by decide +kernel)⟩
theorem lw_p74 : lw_okq (⟨"ObligingPostsModel", "asksHeath", "()Z"⟩, 41) := ⟨⟨by decide +kernel, by decide +kernel⟩, List.mem_of_getElem? (i := 1230) (by decide +kernel), List.mem_of_getElem? (i := 1549) (by decide +kernel), List.mem_of_getElem? (i := 1550) (by decide +kernel)⟩
theorem lw_p75 : lw_okq (⟨"ObligingPostsModel", "asItIs", "()V"⟩, 41) := ⟨⟨by decide +kernel, by decide +kernel⟩, List.mem_of_getElem? (i := 1230) (by decide +kernel), List.mem_of_getElem? (i := 1553) (by decide +kernel), List.mem_of_getElem? (i := 1554) (by decide +kernel)⟩
theorem lw_p76 : lw_okq (⟨"ObligingPostsModel", "goAll", "()V"⟩, 41) := ⟨⟨by decide +kernel, by decide +kernel⟩, List.mem_of_getElem? (i := 1230) (by decide +kernel), List.mem_of_getElem? (i := 1557) (by decide +kernel), List.mem_of_getElem? (i := 1558) (by decide +kernel)⟩
theorem lw_p77 : lw_okq (⟨"ObligingPostsModel", "hours", "()I"⟩, 41) := ⟨⟨by decide +kernel, by decide +kernel⟩, List.mem_of_getElem? (i := 1230) (by decide +kernel), List.mem_of_getElem? (i := 1561) (by decide +kernel), List.mem_of_getElem? (i := 1562) (by decide +kernel)⟩
theorem lw_p78 : lw_okq (⟨"ObligingPostsModel", "goHour", "(I)V"⟩, 41) := ⟨⟨by decide +kernel, by decide +kernel⟩, List.mem_of_getElem? (i := 1230) (by decide +kernel), List.mem_of_getElem? (i := 1565) (by decide +kernel), List.mem_of_getElem? (i := 1566) (by decide +kernel)⟩
theorem lw_p79 : lw_okq (⟨"ObligingPostsModel", "turn", "(II)V"⟩, 41) := ⟨⟨by decide +kernel, by decide +kernel⟩, List.mem_of_getElem? (i := 1230) (by decide +kernel), List.mem_of_getElem? (i := 1569) (by decide +kernel), List.mem_of_getElem? (i := 1570) (by decide +kernel)⟩
def lw_privs_5 : List (MethodName × Nat) := [(⟨"ObligingPostsModel", "isInn", "(J)Z"⟩, 41), (⟨"ObligingPostsModel", "isPost", "(J)Z"⟩, 41), (⟨"ObligingPostsModel", "posts", "()I"⟩, 41), (⟨"ObligingPostsModel", "roadMany", "(I)I"⟩, 41), (⟨"ObligingPostsModel", "roadTo", "(II)I"⟩, 41), (⟨"ObligingPostsModel", "armOf", "(I)I"⟩, 41), (⟨"ObligingPostsModel", "isWalker", "(J)Z"⟩, 41), (⟨"ObligingPostsModel", "walkers", "()I"⟩, 41), (⟨"ObligingPostsModel", "isHeath", "()Z"⟩, 41), (⟨"ObligingPostsModel", "asksHour", "(I)Z"⟩, 41), (⟨"ObligingPostsModel", "asksHeath", "()Z"⟩, 41), (⟨"ObligingPostsModel", "asItIs", "()V"⟩, 41), (⟨"ObligingPostsModel", "goAll", "()V"⟩, 41), (⟨"ObligingPostsModel", "hours", "()I"⟩, 41), (⟨"ObligingPostsModel", "goHour", "(I)V"⟩, 41), (⟨"ObligingPostsModel", "turn", "(II)V"⟩, 41)]
theorem lw_r5 : ∀ q ∈ lw_privs_5, lw_okq q := List.forall_mem_cons.mpr ⟨lw_p64, List.forall_mem_cons.mpr ⟨lw_p65, List.forall_mem_cons.mpr ⟨lw_p66, List.forall_mem_cons.mpr ⟨lw_p67, List.forall_mem_cons.mpr ⟨lw_p68, List.forall_mem_cons.mpr ⟨lw_p69, List.forall_mem_cons.mpr ⟨lw_p70, List.forall_mem_cons.mpr ⟨lw_p71, List.forall_mem_cons.mpr ⟨lw_p72, List.forall_mem_cons.mpr ⟨lw_p73, List.forall_mem_cons.mpr ⟨lw_p74, List.forall_mem_cons.mpr ⟨lw_p75, List.forall_mem_cons.mpr ⟨lw_p76, List.forall_mem_cons.mpr ⟨lw_p77, List.forall_mem_cons.mpr ⟨lw_p78, List.forall_mem_cons.mpr ⟨lw_p79, fun _ h => absurd h List.not_mem_nil⟩⟩⟩⟩⟩⟩⟩⟩⟩⟩⟩⟩⟩⟩⟩⟩
theorem lw_p80 : lw_okq (⟨"ObligingPostsModel", "isHeld", "(II)Z"⟩, 41) := ⟨⟨by decide +kernel, by decide +kernel⟩, List.mem_of_getElem? (i := 1230) (by decide +kernel), List.mem_of_getElem? (i := 1576) (by decide +kernel), List.mem_of_getElem? (i := 1577) (by decide +kernel)⟩
theorem lw_p81 : lw_okq (⟨"ObligingPostsModel", "sendOne", "(II)V"⟩, 41) := ⟨⟨by decide +kernel, by decide +kernel⟩, List.mem_of_getElem? (i := 1230) (by decide +kernel), List.mem_of_getElem? (i := 1580) (by decide +kernel), List.mem_of_getElem? (i := 1581) (by decide +kernel)⟩
theorem lw_p82 : lw_okq (⟨"ObligingPostsModel", "sendBy", "(I)I"⟩, 41) := ⟨⟨by decide +kernel, by decide +kernel⟩, List.mem_of_getElem? (i := 1230) (by decide +kernel), List.mem_of_getElem? (i := 1584) (by decide +kernel), List.mem_of_getElem? (i := 1585) (by decide +kernel)⟩
theorem lw_p83 : lw_okq (⟨"ObligingPostsModel", "isHour", "(J)Z"⟩, 41) := ⟨⟨by decide +kernel, by decide +kernel⟩, List.mem_of_getElem? (i := 1230) (by decide +kernel), List.mem_of_getElem? (i := 1588) (by decide +kernel), List.mem_of_getElem? (i := 1589) (by decide +kernel)⟩
theorem lw_p84 : lw_okq (⟨"ObligingPostsModel", "placeOf", "(II)I"⟩, 41) := ⟨⟨by decide +kernel, by decide +kernel⟩, List.mem_of_getElem? (i := 1230) (by decide +kernel), List.mem_of_getElem? (i := 1592) (by decide +kernel), List.mem_of_getElem? (i := 1593) (by decide +kernel)⟩
theorem lw_p85 : lw_okq (⟨"ObligingPostsModel", "isPlace", "(J)Z"⟩, 41) := ⟨⟨by decide +kernel, by decide +kernel⟩, List.mem_of_getElem? (i := 1230) (by decide +kernel), List.mem_of_getElem? (i := 1604) (by decide +kernel), List.mem_of_getElem? (i := 1605) (by decide +kernel)⟩
theorem lw_p86 : lw_okq (⟨"ObligingPostsModel", "hereOf", "(II)I"⟩, 41) := ⟨⟨by decide +kernel, by decide +kernel⟩, List.mem_of_getElem? (i := 1230) (by decide +kernel), List.mem_of_getElem? (i := 1609) (by decide +kernel), List.mem_of_getElem? (i := 1610) (by decide +kernel)⟩
theorem lw_p87 : lw_okq (⟨"ObligingPostsModel", "isAhead", "(J)Z"⟩, 41) := ⟨⟨by decide +kernel, by decide +kernel⟩, List.mem_of_getElem? (i := 1230) (by decide +kernel), List.mem_of_getElem? (i := 1617) (by decide +kernel), List.mem_of_getElem? (i := 1618) (by decide +kernel)⟩
theorem lw_p88 : lw_okq (⟨"ObligingPostsModel", "asksPost", "(I)Z"⟩, 41) := ⟨⟨by decide +kernel, by decide +kernel⟩, List.mem_of_getElem? (i := 1230) (by decide +kernel), List.mem_of_getElem? (i := 1625) (by decide +kernel), List.mem_of_getElem? (i := 1626) (by decide +kernel)⟩
theorem lw_p89 : lw_okq (⟨"ObligingPostsModel", "sendsOf", "(I)I"⟩, 41) := ⟨⟨by decide +kernel, by decide +kernel⟩, List.mem_of_getElem? (i := 1230) (by decide +kernel), List.mem_of_getElem? (i := 1629) (by decide +kernel), List.mem_of_getElem? (i := 1630) (by decide +kernel)⟩
theorem lw_p90 : lw_okq (⟨"ObligingPostsModel", "asksWalker", "(I)Z"⟩, 41) := ⟨⟨by decide +kernel, by decide +kernel⟩, List.mem_of_getElem? (i := 1230) (by decide +kernel), List.mem_of_getElem? (i := 1641) (by decide +kernel), List.mem_of_getElem? (i := 1642) (by decide +kernel)⟩
theorem lw_p91 : lw_okq (⟨"ObligingPostsModel", "homeOf", "(I)I"⟩, 41) := ⟨⟨by decide +kernel, by decide +kernel⟩, List.mem_of_getElem? (i := 1230) (by decide +kernel), List.mem_of_getElem? (i := 1649) (by decide +kernel), List.mem_of_getElem? (i := 1650) (by decide +kernel)⟩
theorem lw_p92 : lw_okq (⟨"ObligingPostsModel", "isInside", "(II)Z"⟩, 41) := ⟨⟨by decide +kernel, by decide +kernel⟩, List.mem_of_getElem? (i := 1230) (by decide +kernel), List.mem_of_getElem? (i := 1653) (by decide +kernel), List.mem_of_getElem? (i := 1654) (by decide +kernel)⟩
theorem lw_p93 : lw_okq (⟨"ObligingPostsModel", "trailTo", "(II)I"⟩, 41) := ⟨⟨by decide +kernel, by decide +kernel⟩, List.mem_of_getElem? (i := 1230) (by decide +kernel), List.mem_of_getElem? (i := 1665) (by decide +kernel), List.mem_of_getElem? (i := 1666) (by decide +kernel)⟩
theorem lw_p94 : lw_okq (⟨"ObligingPostsModel", "guestsOf", "(II)I"⟩, 41) := ⟨⟨by decide +kernel, by decide +kernel⟩, List.mem_of_getElem? (i := 1230) (by decide +kernel), List.mem_of_getElem? (i := 1682) (by decide +kernel), List.mem_of_getElem? (i := 1683) (by decide +kernel)⟩
theorem lw_p95 : lw_okq (⟨"ObligingPostsModel", "insideAt", "(I)I"⟩, 41) := ⟨⟨by decide +kernel, by decide +kernel⟩, List.mem_of_getElem? (i := 1230) (by decide +kernel), List.mem_of_getElem? (i := 1701) (by decide +kernel), List.mem_of_getElem? (i := 1702) (by decide +kernel)⟩
def lw_privs_6 : List (MethodName × Nat) := [(⟨"ObligingPostsModel", "isHeld", "(II)Z"⟩, 41), (⟨"ObligingPostsModel", "sendOne", "(II)V"⟩, 41), (⟨"ObligingPostsModel", "sendBy", "(I)I"⟩, 41), (⟨"ObligingPostsModel", "isHour", "(J)Z"⟩, 41), (⟨"ObligingPostsModel", "placeOf", "(II)I"⟩, 41), (⟨"ObligingPostsModel", "isPlace", "(J)Z"⟩, 41), (⟨"ObligingPostsModel", "hereOf", "(II)I"⟩, 41), (⟨"ObligingPostsModel", "isAhead", "(J)Z"⟩, 41), (⟨"ObligingPostsModel", "asksPost", "(I)Z"⟩, 41), (⟨"ObligingPostsModel", "sendsOf", "(I)I"⟩, 41), (⟨"ObligingPostsModel", "asksWalker", "(I)Z"⟩, 41), (⟨"ObligingPostsModel", "homeOf", "(I)I"⟩, 41), (⟨"ObligingPostsModel", "isInside", "(II)Z"⟩, 41), (⟨"ObligingPostsModel", "trailTo", "(II)I"⟩, 41), (⟨"ObligingPostsModel", "guestsOf", "(II)I"⟩, 41), (⟨"ObligingPostsModel", "insideAt", "(I)I"⟩, 41)]
theorem lw_r6 : ∀ q ∈ lw_privs_6, lw_okq q := List.forall_mem_cons.mpr ⟨lw_p80, List.forall_mem_cons.mpr ⟨lw_p81, List.forall_mem_cons.mpr ⟨lw_p82, List.forall_mem_cons.mpr ⟨lw_p83, List.forall_mem_cons.mpr ⟨lw_p84, List.forall_mem_cons.mpr ⟨lw_p85, List.forall_mem_cons.mpr ⟨lw_p86, List.forall_mem_cons.mpr ⟨lw_p87, List.forall_mem_cons.mpr ⟨lw_p88, List.forall_mem_cons.mpr ⟨lw_p89, List.forall_mem_cons.mpr ⟨lw_p90, List.forall_mem_cons.mpr ⟨lw_p91, List.forall_mem_cons.mpr ⟨lw_p92, List.forall_mem_cons.mpr ⟨lw_p93, List.forall_mem_cons.mpr ⟨lw_p94, List.forall_mem_cons.mpr ⟨lw_p95, fun _ h => absurd h List.not_mem_nil⟩⟩⟩⟩⟩⟩⟩⟩⟩⟩⟩⟩⟩⟩⟩⟩
theorem lw_p96 : lw_okq (⟨"ObligingPostsModel", "areTwo", "(II)Z"⟩, 41) := ⟨⟨by decide +kernel, by decide +kernel⟩, List.mem_of_getElem? (i := 1230) (by decide +kernel), List.mem_of_getElem? (i := 1722) (by decide +kernel), List.mem_of_getElem? (i := 1723) (by decide +kernel)⟩
theorem lw_p97 : lw_okq (⟨"ObligingPostsModel", "goOn", "(I)I"⟩, 41) := ⟨⟨by decide +kernel, by decide +kernel⟩, List.mem_of_getElem? (i := 1230) (by decide +kernel), List.mem_of_getElem? (i := 1738) (by decide +kernel), List.mem_of_getElem? (i := 1739) (by decide +kernel)⟩
theorem lw_p98 : lw_okq (⟨"ObligingPostsModel", "settingAt", "(I)I"⟩, 41) := ⟨⟨by decide +kernel, by decide +kernel⟩, List.mem_of_getElem? (i := 1230) (by decide +kernel), List.mem_of_getElem? (i := 1750) (by decide +kernel), List.mem_of_getElem? (i := 1751) (by decide +kernel)⟩
theorem lw_p99 : lw_okq (⟨"ObligingPostsModel", "someAt", "(I)V"⟩, 41) := ⟨⟨by decide +kernel, by decide +kernel⟩, List.mem_of_getElem? (i := 1230) (by decide +kernel), List.mem_of_getElem? (i := 1754) (by decide +kernel), List.mem_of_getElem? (i := 1755) (by decide +kernel)⟩
theorem lw_p100 : lw_okq (⟨"ObligingPostsModel", "numberOf", "()I"⟩, 41) := ⟨⟨by decide +kernel, by decide +kernel⟩, List.mem_of_getElem? (i := 1230) (by decide +kernel), List.mem_of_getElem? (i := 1758) (by decide +kernel), List.mem_of_getElem? (i := 1759) (by decide +kernel)⟩
theorem lw_p101 : lw_okq (⟨"ObligingPostsModel", "settingMany", "()I"⟩, 41) := ⟨⟨by decide +kernel, by decide +kernel⟩, List.mem_of_getElem? (i := 1230) (by decide +kernel), List.mem_of_getElem? (i := 1766) (by decide +kernel), List.mem_of_getElem? (i := 1767) (by decide +kernel)⟩
theorem lw_p102 : lw_okq (⟨"ObligingPostsModel", "isTree", "()Z"⟩, 41) := ⟨⟨by decide +kernel, by decide +kernel⟩, List.mem_of_getElem? (i := 1230) (by decide +kernel), List.mem_of_getElem? (i := 1778) (by decide +kernel), List.mem_of_getElem? (i := 1779) (by decide +kernel)⟩
theorem lw_p103 : lw_okq (⟨"ObligingPostsModel", "isHomeBy", "(I)Z"⟩, 41) := ⟨⟨by decide +kernel, by decide +kernel⟩, List.mem_of_getElem? (i := 1230) (by decide +kernel), List.mem_of_getElem? (i := 1782) (by decide +kernel), List.mem_of_getElem? (i := 1783) (by decide +kernel)⟩
theorem lw_p104 : lw_okq (⟨"ObligingPostsModel", "armGoes", "(I)I"⟩, 41) := ⟨⟨by decide +kernel, by decide +kernel⟩, List.mem_of_getElem? (i := 1230) (by decide +kernel), List.mem_of_getElem? (i := 1786) (by decide +kernel), List.mem_of_getElem? (i := 1787) (by decide +kernel)⟩
theorem lw_p105 : lw_okq (⟨"ObligingPostsModel", "soloBegin", "()V"⟩, 41) := ⟨⟨by decide +kernel, by decide +kernel⟩, List.mem_of_getElem? (i := 1230) (by decide +kernel), List.mem_of_getElem? (i := 1802) (by decide +kernel), List.mem_of_getElem? (i := 1803) (by decide +kernel)⟩
theorem lw_p106 : lw_okq (⟨"ObligingPostsModel", "solo", "(I)I"⟩, 41) := ⟨⟨by decide +kernel, by decide +kernel⟩, List.mem_of_getElem? (i := 1230) (by decide +kernel), List.mem_of_getElem? (i := 1806) (by decide +kernel), List.mem_of_getElem? (i := 1807) (by decide +kernel)⟩
theorem lw_p107 : lw_okq (⟨"ObligingPostsModel", "soloSetting", "()I"⟩, 41) := ⟨⟨by decide +kernel, by decide +kernel⟩, List.mem_of_getElem? (i := 1230) (by decide +kernel), List.mem_of_getElem? (i := 1818) (by decide +kernel), List.mem_of_getElem? (i := 1819) (by decide +kernel)⟩
theorem lw_p108 : lw_okq (⟨"ObligingPostsModel", "cameTo", "(II)I"⟩, 41) := ⟨⟨by decide +kernel, by decide +kernel⟩, List.mem_of_getElem? (i := 1230) (by decide +kernel), List.mem_of_getElem? (i := 1839) (by decide +kernel), List.mem_of_getElem? (i := 1840) (by decide +kernel)⟩
theorem lw_p109 : lw_okq (⟨"ObligingPostsModel", "insideLast", "()I"⟩, 41) := ⟨⟨by decide +kernel, by decide +kernel⟩, List.mem_of_getElem? (i := 1230) (by decide +kernel), List.mem_of_getElem? (i := 1848) (by decide +kernel), List.mem_of_getElem? (i := 1849) (by decide +kernel)⟩
theorem lw_p110 : lw_okq (⟨"ObligingPostsModel", "askMay", "(II)I"⟩, 41) := ⟨⟨by decide +kernel, by decide +kernel⟩, List.mem_of_getElem? (i := 1230) (by decide +kernel), List.mem_of_getElem? (i := 1860) (by decide +kernel), List.mem_of_getElem? (i := 1861) (by decide +kernel)⟩
theorem lw_p111 : lw_okq (⟨"ObligingPostsModel", "askSeen", "(I)I"⟩, 41) := ⟨⟨by decide +kernel, by decide +kernel⟩, List.mem_of_getElem? (i := 1230) (by decide +kernel), List.mem_of_getElem? (i := 1864) (by decide +kernel), List.mem_of_getElem? (i := 1865) (by decide +kernel)⟩
def lw_privs_7 : List (MethodName × Nat) := [(⟨"ObligingPostsModel", "areTwo", "(II)Z"⟩, 41), (⟨"ObligingPostsModel", "goOn", "(I)I"⟩, 41), (⟨"ObligingPostsModel", "settingAt", "(I)I"⟩, 41), (⟨"ObligingPostsModel", "someAt", "(I)V"⟩, 41), (⟨"ObligingPostsModel", "numberOf", "()I"⟩, 41), (⟨"ObligingPostsModel", "settingMany", "()I"⟩, 41), (⟨"ObligingPostsModel", "isTree", "()Z"⟩, 41), (⟨"ObligingPostsModel", "isHomeBy", "(I)Z"⟩, 41), (⟨"ObligingPostsModel", "armGoes", "(I)I"⟩, 41), (⟨"ObligingPostsModel", "soloBegin", "()V"⟩, 41), (⟨"ObligingPostsModel", "solo", "(I)I"⟩, 41), (⟨"ObligingPostsModel", "soloSetting", "()I"⟩, 41), (⟨"ObligingPostsModel", "cameTo", "(II)I"⟩, 41), (⟨"ObligingPostsModel", "insideLast", "()I"⟩, 41), (⟨"ObligingPostsModel", "askMay", "(II)I"⟩, 41), (⟨"ObligingPostsModel", "askSeen", "(I)I"⟩, 41)]
theorem lw_r7 : ∀ q ∈ lw_privs_7, lw_okq q := List.forall_mem_cons.mpr ⟨lw_p96, List.forall_mem_cons.mpr ⟨lw_p97, List.forall_mem_cons.mpr ⟨lw_p98, List.forall_mem_cons.mpr ⟨lw_p99, List.forall_mem_cons.mpr ⟨lw_p100, List.forall_mem_cons.mpr ⟨lw_p101, List.forall_mem_cons.mpr ⟨lw_p102, List.forall_mem_cons.mpr ⟨lw_p103, List.forall_mem_cons.mpr ⟨lw_p104, List.forall_mem_cons.mpr ⟨lw_p105, List.forall_mem_cons.mpr ⟨lw_p106, List.forall_mem_cons.mpr ⟨lw_p107, List.forall_mem_cons.mpr ⟨lw_p108, List.forall_mem_cons.mpr ⟨lw_p109, List.forall_mem_cons.mpr ⟨lw_p110, List.forall_mem_cons.mpr ⟨lw_p111, fun _ h => absurd h List.not_mem_nil⟩⟩⟩⟩⟩⟩⟩⟩⟩⟩⟩⟩⟩⟩⟩⟩
theorem lw_p112 : lw_okq (⟨"ObligingPostsModel", "numberAt", "(II)J"⟩, 41) := ⟨⟨by decide +kernel, by decide +kernel⟩, List.mem_of_getElem? (i := 1230) (by decide +kernel), List.mem_of_getElem? (i := 1872) (by decide +kernel), List.mem_of_getElem? (i := 1873) (by decide +kernel)⟩
theorem lw_p113 : lw_okq (⟨"ObligingPostsModel", "mayOf", "(II)I"⟩, 41) := ⟨⟨by decide +kernel, by decide +kernel⟩, List.mem_of_getElem? (i := 1230) (by decide +kernel), List.mem_of_getElem? (i := 1877) (by decide +kernel), List.mem_of_getElem? (i := 1878) (by decide +kernel)⟩
theorem lw_p114 : lw_okq (⟨"ObligingPostsModel", "isSeen", "(I)Z"⟩, 41) := ⟨⟨by decide +kernel, by decide +kernel⟩, List.mem_of_getElem? (i := 1230) (by decide +kernel), List.mem_of_getElem? (i := 1881) (by decide +kernel), List.mem_of_getElem? (i := 1882) (by decide +kernel)⟩
theorem lw_p115 : lw_okq (⟨"ObligingPostsModel", "askOf", "(I)I"⟩, 41) := ⟨⟨by decide +kernel, by decide +kernel⟩, List.mem_of_getElem? (i := 1230) (by decide +kernel), List.mem_of_getElem? (i := 1892) (by decide +kernel), List.mem_of_getElem? (i := 1893) (by decide +kernel)⟩
theorem lw_p116 : lw_okq (⟨"ObligingPostsModel", "worstOf", "(III)I"⟩, 41) := ⟨⟨by decide +kernel, by decide +kernel⟩, List.mem_of_getElem? (i := 1230) (by decide +kernel), List.mem_of_getElem? (i := 1896) (by decide +kernel), List.mem_of_getElem? (i := 1897) (by decide +kernel)⟩
theorem lw_p117 : lw_okq (⟨"ObligingPostsModel", "insideBy", "(I)I"⟩, 41) := ⟨⟨by decide +kernel, by decide +kernel⟩, List.mem_of_getElem? (i := 1230) (by decide +kernel), List.mem_of_getElem? (i := 1912) (by decide +kernel), List.mem_of_getElem? (i := 1913) (by decide +kernel)⟩
theorem lw_p118 : lw_okq (⟨"ObligingPostsModel", "allPosts", "()I"⟩, 41) := ⟨⟨by decide +kernel, by decide +kernel⟩, List.mem_of_getElem? (i := 1230) (by decide +kernel), List.mem_of_getElem? (i := 1924) (by decide +kernel), List.mem_of_getElem? (i := 1925) (by decide +kernel)⟩
theorem lw_p119 : lw_okq (⟨"ObligingPostsModel", "worthOf", "(I)I"⟩, 41) := ⟨⟨by decide +kernel, by decide +kernel⟩, List.mem_of_getElem? (i := 1230) (by decide +kernel), List.mem_of_getElem? (i := 1928) (by decide +kernel), List.mem_of_getElem? (i := 1929) (by decide +kernel)⟩
theorem lw_p120 : lw_okq (⟨"ObligingPostsModel", "getsBy", "(IIIII)I"⟩, 41) := ⟨⟨by decide +kernel, by decide +kernel⟩, List.mem_of_getElem? (i := 1230) (by decide +kernel), List.mem_of_getElem? (i := 1950) (by decide +kernel), List.mem_of_getElem? (i := 1951) (by decide +kernel)⟩
theorem lw_p121 : lw_okq (⟨"ObligingPostsModel", "isFog", "(II)Z"⟩, 41) := ⟨⟨by decide +kernel, by decide +kernel⟩, List.mem_of_getElem? (i := 1230) (by decide +kernel), List.mem_of_getElem? (i := 1962) (by decide +kernel), List.mem_of_getElem? (i := 1963) (by decide +kernel)⟩
theorem lw_p122 : lw_okq (⟨"ObligingPostsModel", "layFog", "(II)V"⟩, 41) := ⟨⟨by decide +kernel, by decide +kernel⟩, List.mem_of_getElem? (i := 1230) (by decide +kernel), List.mem_of_getElem? (i := 1967) (by decide +kernel), List.mem_of_getElem? (i := 1968) (by decide +kernel)⟩
theorem lw_p123 : lw_okq (⟨"ObligingPostsModel", "keepAct", "(I)Z"⟩, 41) := ⟨⟨by decide +kernel, by decide +kernel⟩, List.mem_of_getElem? (i := 1230) (by decide +kernel), List.mem_of_getElem? (i := 1979) (by decide +kernel), List.mem_of_getElem? (i := 1980) (by decide +kernel)⟩
theorem lw_p124 : lw_okq (⟨"ObligingPostsModel", "goDrawn", "(J)V"⟩, 41) := ⟨⟨by decide +kernel, by decide +kernel⟩, List.mem_of_getElem? (i := 1230) (by decide +kernel), List.mem_of_getElem? (i := 2003) (by decide +kernel), List.mem_of_getElem? (i := 2004) (by decide +kernel)⟩
def lw_privs_8 : List (MethodName × Nat) := [(⟨"ObligingPostsModel", "numberAt", "(II)J"⟩, 41), (⟨"ObligingPostsModel", "mayOf", "(II)I"⟩, 41), (⟨"ObligingPostsModel", "isSeen", "(I)Z"⟩, 41), (⟨"ObligingPostsModel", "askOf", "(I)I"⟩, 41), (⟨"ObligingPostsModel", "worstOf", "(III)I"⟩, 41), (⟨"ObligingPostsModel", "insideBy", "(I)I"⟩, 41), (⟨"ObligingPostsModel", "allPosts", "()I"⟩, 41), (⟨"ObligingPostsModel", "worthOf", "(I)I"⟩, 41), (⟨"ObligingPostsModel", "getsBy", "(IIIII)I"⟩, 41), (⟨"ObligingPostsModel", "isFog", "(II)Z"⟩, 41), (⟨"ObligingPostsModel", "layFog", "(II)V"⟩, 41), (⟨"ObligingPostsModel", "keepAct", "(I)Z"⟩, 41), (⟨"ObligingPostsModel", "goDrawn", "(J)V"⟩, 41)]
theorem lw_r8 : ∀ q ∈ lw_privs_8, lw_okq q := List.forall_mem_cons.mpr ⟨lw_p112, List.forall_mem_cons.mpr ⟨lw_p113, List.forall_mem_cons.mpr ⟨lw_p114, List.forall_mem_cons.mpr ⟨lw_p115, List.forall_mem_cons.mpr ⟨lw_p116, List.forall_mem_cons.mpr ⟨lw_p117, List.forall_mem_cons.mpr ⟨lw_p118, List.forall_mem_cons.mpr ⟨lw_p119, List.forall_mem_cons.mpr ⟨lw_p120, List.forall_mem_cons.mpr ⟨lw_p121, List.forall_mem_cons.mpr ⟨lw_p122, List.forall_mem_cons.mpr ⟨lw_p123, List.forall_mem_cons.mpr ⟨lw_p124, fun _ h => absurd h List.not_mem_nil⟩⟩⟩⟩⟩⟩⟩⟩⟩⟩⟩⟩⟩
def lw_privs : List (MethodName × Nat) := lw_privs_1 ++ (lw_privs_2 ++ (lw_privs_3 ++ (lw_privs_4 ++ (lw_privs_5 ++ (lw_privs_6 ++ (lw_privs_7 ++ (lw_privs_8)))))))
def lw_tbl : List Cond := k2_sels lw_privs ++ tables_1
theorem lw_privs_ok : ∀ q ∈ lw_privs, lw_okq q := by
  show ∀ q ∈ lw_privs_1 ++ (lw_privs_2 ++ (lw_privs_3 ++ (lw_privs_4 ++ (lw_privs_5 ++ (lw_privs_6 ++ (lw_privs_7 ++ (lw_privs_8))))))), lw_okq q
  exact List.forall_mem_append.mpr ⟨lw_r1, List.forall_mem_append.mpr ⟨lw_r2, List.forall_mem_append.mpr ⟨lw_r3, List.forall_mem_append.mpr ⟨lw_r4, List.forall_mem_append.mpr ⟨lw_r5, List.forall_mem_append.mpr ⟨lw_r6, List.forall_mem_append.mpr ⟨lw_r7, lw_r8⟩⟩⟩⟩⟩⟩⟩

/-! ===== BEGIN words of one list among another's, by their places ===== -/
theorem goodIn_r {big : List Cond} (ws : List Cond) (ps : List Nat) (hp : ws = ps.filterMap (fun i => big[i]?)) (h : ws.all goodWord = true) : GoodIn big ws := by
  intro w hw
  have h1 := List.all_eq_true.mp h w hw
  rw [hp] at hw
  obtain ⟨i, -, hi⟩ := List.mem_filterMap.mp hw
  have hm : w ∈ big := by first | exact List.mem_of_getElem? hi | exact List.getElem?_mem hi
  exact ⟨hm, good_of_word h1⟩
theorem goodIn_app {big a b : List Cond} (ha : GoodIn big a) (hb : GoodIn big b) : GoodIn big (a ++ b) := fun w h => (List.mem_append.mp h).elim (ha w) (hb w)
theorem goodIn_ca {big a b : List Cond} {c : Cond} (ha : GoodIn big (c :: a)) (hb : GoodIn big b) : GoodIn big (c :: (a ++ b)) := fun w h => (List.mem_cons.mp h).elim (fun e => ha w (List.mem_cons.mpr (Or.inl e))) (fun h => (List.mem_append.mp h).elim (fun h => ha w (List.mem_cons.mpr (Or.inr h))) (hb w))
theorem goodIn_sub {big ws : List Cond} (hm : ∀ w ∈ ws, w ∈ big) (h : ws.all goodWord = true) : GoodIn big ws := fun w hw => ⟨hm w hw, good_of_word (List.all_eq_true.mp h w hw)⟩
/-! ===== END ===== -/

/-! ===== BEGIN printed: names, fields, word lists, decode rows ===== -/
def RX0 : String := "ObligingPosts$Acts"
def TX0 : u_T := fun k => match k with
  | 0 => ("ObligingPosts$Acts", "size", "I", false)
  | 1 => ("ObligingPosts$Acts", "codes", "[I", true)
  | _ => ("ObligingPosts$Acts", "times", "[I", true)
def tyX0 : Nat → FieldType := fun k => match k with
  | 0 => .int
  | 1 => .array .int
  | _ => .array .int
abbrev wsX00 : List Cond := u_ws RX0 TX0 3
theorem nmX0 : ∀ a, a < 3 → ∀ b, b < 3 → a ≠ b → (TX0 a).2.1 ≠ (TX0 b).2.1 := by decide +kernel
theorem tyX0_ok : ∀ k, k < 3 → parseFieldDescriptor (TX0 k).2.2.1 = some (tyX0 k) := by decide +kernel
abbrev cX0_init : ByteArray := prog_2_method_1_code
def yX0_init : MethodName := ⟨RX0, "<init>", "()V"⟩
abbrev cX0_clear : ByteArray := prog_2_method_2_code
def yX0_clear : MethodName := ⟨RX0, "clear", "()V"⟩
abbrev cX0_copyFrom : ByteArray := prog_2_method_3_code
def yX0_copyFrom : MethodName := ⟨RX0, "copyFrom", "(LObligingPosts$Acts;)V"⟩
abbrev cX0_add : ByteArray := prog_2_method_4_code
def yX0_add : MethodName := ⟨RX0, "add", "(III)Z"⟩
abbrev cX0_takeBack : ByteArray := prog_2_method_5_code
def yX0_takeBack : MethodName := ⟨RX0, "takeBack", "()V"⟩
abbrev cX0_timesTurned : ByteArray := prog_2_method_6_code
def yX0_timesTurned : MethodName := ⟨RX0, "timesTurned", "(II)I"⟩
abbrev cX0_isHeld : ByteArray := prog_2_method_7_code
def yX0_isHeld : MethodName := ⟨RX0, "isHeld", "(II)Z"⟩
def RX1 : String := "ObligingPosts$Fog"
def TX1 : u_T := fun k => match k with
  | 0 => ("ObligingPosts$Fog", "heath", "LObligingPosts$Heath;", true)
  | 1 => ("ObligingPosts$Fog", "learned", "I", false)
  | 2 => ("ObligingPosts$Fog", "weights", "[J", true)
  | _ => ("ObligingPosts$Fog", "whole", "J", false)
def tyX1 : Nat → FieldType := fun k => match k with
  | 0 => .object "ObligingPosts$Heath"
  | 1 => .int
  | 2 => .array .long
  | _ => .long
abbrev wsX10 : List Cond := u_ws RX1 TX1 4
theorem nmX1 : ∀ a, a < 4 → ∀ b, b < 4 → a ≠ b → (TX1 a).2.1 ≠ (TX1 b).2.1 := by decide +kernel
theorem tyX1_ok : ∀ k, k < 4 → parseFieldDescriptor (TX1 k).2.2.1 = some (tyX1 k) := by decide +kernel
abbrev cX1_init : ByteArray := prog_3_method_1_code
def yX1_init : MethodName := ⟨RX1, "<init>", "(LObligingPosts$Heath;)V"⟩
abbrev cX1_forget : ByteArray := prog_3_method_2_code
def yX1_forget : MethodName := ⟨RX1, "forget", "()V"⟩
abbrev cX1_learn : ByteArray := prog_3_method_3_code
def yX1_learn : MethodName := ⟨RX1, "learn", "(LObligingPosts$Night;I)V"⟩
abbrev cX1_branch : ByteArray := prog_3_method_4_code
def yX1_branch : MethodName := ⟨RX1, "branch", "(LObligingPosts$Fog;LObligingPosts$Night;IIJ)V"⟩
abbrev cX1_addInside : ByteArray := prog_3_method_5_code
def yX1_addInside : MethodName := ⟨RX1, "addInside", "(IJ)V"⟩
abbrev cX1_drawnFrom : ByteArray := prog_3_method_6_code
def yX1_drawnFrom : MethodName := ⟨RX1, "drawnFrom", "(J)I"⟩
def RX2 : String := "ObligingPosts$Heath"
def TX2 : u_T := fun k => match k with
  | 0 => ("ObligingPosts$Heath", "lines", "I", false)
  | 1 => ("ObligingPosts$Heath", "hours", "I", false)
  | 2 => ("ObligingPosts$Heath", "law", "I", false)
  | 3 => ("ObligingPosts$Heath", "odds", "I", false)
  | 4 => ("ObligingPosts$Heath", "inns", "I", false)
  | 5 => ("ObligingPosts$Heath", "posts", "I", false)
  | 6 => ("ObligingPosts$Heath", "roads", "I", false)
  | 7 => ("ObligingPosts$Heath", "armLines", "I", false)
  | 8 => ("ObligingPosts$Heath", "walkers", "I", false)
  | 9 => ("ObligingPosts$Heath", "rooms", "[I", true)
  | 10 => ("ObligingPosts$Heath", "roadsOf", "[I", true)
  | 11 => ("ObligingPosts$Heath", "goals", "[I", true)
  | 12 => ("ObligingPosts$Heath", "toldArms", "[I", true)
  | 13 => ("ObligingPosts$Heath", "starts", "[I", true)
  | 14 => ("ObligingPosts$Heath", "comings", "[I", true)
  | _ => ("ObligingPosts$Heath", "acts", "LObligingPosts$Acts;", true)
def tyX2 : Nat → FieldType := fun k => match k with
  | 0 => .int
  | 1 => .int
  | 2 => .int
  | 3 => .int
  | 4 => .int
  | 5 => .int
  | 6 => .int
  | 7 => .int
  | 8 => .int
  | 9 => .array .int
  | 10 => .array .int
  | 11 => .array .int
  | 12 => .array .int
  | 13 => .array .int
  | 14 => .array .int
  | _ => .object "ObligingPosts$Acts"
abbrev wsX20 : List Cond := u_ws RX2 TX2 16
theorem nmX2 : ∀ a, a < 16 → ∀ b, b < 16 → a ≠ b → (TX2 a).2.1 ≠ (TX2 b).2.1 := by decide +kernel
theorem tyX2_ok : ∀ k, k < 16 → parseFieldDescriptor (TX2 k).2.2.1 = some (tyX2 k) := by decide +kernel
abbrev cX2_init : ByteArray := prog_4_method_1_code
def yX2_init : MethodName := ⟨RX2, "<init>", "()V"⟩
abbrev cX2_clear : ByteArray := prog_4_method_2_code
def yX2_clear : MethodName := ⟨RX2, "clear", "()V"⟩
abbrev cX2_copyFrom : ByteArray := prog_4_method_3_code
def yX2_copyFrom : MethodName := ⟨RX2, "copyFrom", "(LObligingPosts$Heath;)V"⟩
abbrev cX2_addRoad : ByteArray := prog_4_method_4_code
def yX2_addRoad : MethodName := ⟨RX2, "addRoad", "(II)V"⟩
abbrev cX2_isTold : ByteArray := prog_4_method_5_code
def yX2_isTold : MethodName := ⟨RX2, "isTold", "()Z"⟩
abbrev cX2_hasInn : ByteArray := prog_4_method_6_code
def yX2_hasInn : MethodName := ⟨RX2, "hasInn", "(I)Z"⟩
abbrev cX2_hasPost : ByteArray := prog_4_method_7_code
def yX2_hasPost : MethodName := ⟨RX2, "hasPost", "(I)Z"⟩
abbrev cX2_hasPlace : ByteArray := prog_4_method_8_code
def yX2_hasPlace : MethodName := ⟨RX2, "hasPlace", "(I)Z"⟩
abbrev cX2_hasWalker : ByteArray := prog_4_method_9_code
def yX2_hasWalker : MethodName := ⟨RX2, "hasWalker", "(I)Z"⟩
abbrev cX2_hasHour : ByteArray := prog_4_method_10_code
def yX2_hasHour : MethodName := ⟨RX2, "hasHour", "(I)Z"⟩
abbrev cX2_hasHourAhead : ByteArray := prog_4_method_11_code
def yX2_hasHourAhead : MethodName := ⟨RX2, "hasHourAhead", "(I)Z"⟩
abbrev cX2_hasArm : ByteArray := prog_4_method_12_code
def yX2_hasArm : MethodName := ⟨RX2, "hasArm", "(I)Z"⟩
abbrev cX2_goal : ByteArray := prog_4_method_13_code
def yX2_goal : MethodName := ⟨RX2, "goal", "(II)I"⟩
abbrev cX2_nextRoad : ByteArray := prog_4_method_14_code
def yX2_nextRoad : MethodName := ⟨RX2, "nextRoad", "(II)I"⟩
abbrev cX2_sendBy : ByteArray := prog_4_method_15_code
def yX2_sendBy : MethodName := ⟨RX2, "sendBy", "([IIII)I"⟩
abbrev cX2_innsBeside : ByteArray := prog_4_method_16_code
def yX2_innsBeside : MethodName := ⟨RX2, "innsBeside", "(I)I"⟩
abbrev cX2_postsWithoutRoads : ByteArray := prog_4_method_17_code
def yX2_postsWithoutRoads : MethodName := ⟨RX2, "postsWithoutRoads", "()I"⟩
abbrev cX2_placesFrom : ByteArray := prog_4_method_18_code
def yX2_placesFrom : MethodName := ⟨RX2, "placesFrom", "(I)I"⟩
abbrev cX2_distance : ByteArray := prog_4_method_19_code
def yX2_distance : MethodName := ⟨RX2, "distance", "(II)I"⟩
abbrev cX2_oneRoadOn : ByteArray := prog_4_method_20_code
def yX2_oneRoadOn : MethodName := ⟨RX2, "oneRoadOn", "(I)I"⟩
abbrev cX2_settingNumber : ByteArray := prog_4_method_21_code
def yX2_settingNumber : MethodName := ⟨RX2, "settingNumber", "([II)I"⟩
abbrev cX2_allSettings : ByteArray := prog_4_method_22_code
def yX2_allSettings : MethodName := ⟨RX2, "allSettings", "()I"⟩
abbrev cX2_isTree : ByteArray := prog_4_method_23_code
def yX2_isTree : MethodName := ⟨RX2, "isTree", "([II)Z"⟩
abbrev cX2_leadsToInn : ByteArray := prog_4_method_24_code
def yX2_leadsToInn : MethodName := ⟨RX2, "leadsToInn", "([III)Z"⟩
abbrev cX2_postsOnRings : ByteArray := prog_4_method_25_code
def yX2_postsOnRings : MethodName := ⟨RX2, "postsOnRings", "([II)I"⟩
abbrev cX2_leadsBack : ByteArray := prog_4_method_26_code
def yX2_leadsBack : MethodName := ⟨RX2, "leadsBack", "([III)Z"⟩
def RX3 : String := "ObligingPosts$Lone"
def TX3 : u_T := fun k => match k with
  | 0 => ("ObligingPosts$Lone", "heath", "LObligingPosts$Heath;", true)
  | 1 => ("ObligingPosts$Lone", "arms", "[I", true)
  | _ => ("ObligingPosts$Lone", "timesSent", "I", false)
def tyX3 : Nat → FieldType := fun k => match k with
  | 0 => .object "ObligingPosts$Heath"
  | 1 => .array .int
  | _ => .int
abbrev wsX30 : List Cond := u_ws RX3 TX3 3
theorem nmX3 : ∀ a, a < 3 → ∀ b, b < 3 → a ≠ b → (TX3 a).2.1 ≠ (TX3 b).2.1 := by decide +kernel
theorem tyX3_ok : ∀ k, k < 3 → parseFieldDescriptor (TX3 k).2.2.1 = some (tyX3 k) := by decide +kernel
abbrev cX3_init : ByteArray := prog_5_method_1_code
def yX3_init : MethodName := ⟨RX3, "<init>", "(LObligingPosts$Heath;)V"⟩
abbrev cX3_begin : ByteArray := prog_5_method_2_code
def yX3_begin : MethodName := ⟨RX3, "begin", "()V"⟩
abbrev cX3_setArms : ByteArray := prog_5_method_3_code
def yX3_setArms : MethodName := ⟨RX3, "setArms", "(I)V"⟩
abbrev cX3_sendFrom : ByteArray := prog_5_method_4_code
def yX3_sendFrom : MethodName := ⟨RX3, "sendFrom", "(I)I"⟩
abbrev cX3_settingNow : ByteArray := prog_5_method_5_code
def yX3_settingNow : MethodName := ⟨RX3, "settingNow", "()I"⟩
def RX4 : String := "ObligingPosts$Night"
def TX4 : u_T := fun k => match k with
  | 0 => ("ObligingPosts$Night", "heath", "LObligingPosts$Heath;", true)
  | 1 => ("ObligingPosts$Night", "law", "I", false)
  | 2 => ("ObligingPosts$Night", "turning", "I", false)
  | 3 => ("ObligingPosts$Night", "foggy", "I", false)
  | 4 => ("ObligingPosts$Night", "comings", "[I", true)
  | 5 => ("ObligingPosts$Night", "places", "[I", true)
  | 6 => ("ObligingPosts$Night", "arms", "[I", true)
  | 7 => ("ObligingPosts$Night", "roadsTaken", "[I", true)
  | _ => ("ObligingPosts$Night", "guests", "[I", true)
def tyX4 : Nat → FieldType := fun k => match k with
  | 0 => .object "ObligingPosts$Heath"
  | 1 => .int
  | 2 => .int
  | 3 => .int
  | 4 => .array .int
  | 5 => .array .int
  | 6 => .array .int
  | 7 => .array .int
  | _ => .array .int
abbrev wsX40 : List Cond := u_ws RX4 TX4 9
theorem nmX4 : ∀ a, a < 9 → ∀ b, b < 9 → a ≠ b → (TX4 a).2.1 ≠ (TX4 b).2.1 := by decide +kernel
theorem tyX4_ok : ∀ k, k < 9 → parseFieldDescriptor (TX4 k).2.2.1 = some (tyX4 k) := by decide +kernel
abbrev cX4_init : ByteArray := prog_6_method_1_code
def yX4_init : MethodName := ⟨RX4, "<init>", "(LObligingPosts$Heath;)V"⟩
abbrev cX4_prepare : ByteArray := prog_6_method_2_code
def yX4_prepare : MethodName := ⟨RX4, "prepare", "()V"⟩
abbrev cX4_neverComes : ByteArray := prog_6_method_3_code
def yX4_neverComes : MethodName := ⟨RX4, "neverComes", "(I)V"⟩
abbrev cX4_pointAtFirst : ByteArray := prog_6_method_4_code
def yX4_pointAtFirst : MethodName := ⟨RX4, "pointAtFirst", "(II)V"⟩
abbrev cX4_run : ByteArray := prog_6_method_5_code
def yX4_run : MethodName := ⟨RX4, "run", "()V"⟩
abbrev cX4_begin : ByteArray := prog_6_method_6_code
def yX4_begin : MethodName := ⟨RX4, "begin", "()V"⟩
abbrev cX4_passHour : ByteArray := prog_6_method_7_code
def yX4_passHour : MethodName := ⟨RX4, "passHour", "(I)V"⟩
abbrev cX4_turnByActs : ByteArray := prog_6_method_8_code
def yX4_turnByActs : MethodName := ⟨RX4, "turnByActs", "(I)V"⟩
abbrev cX4_countGuests : ByteArray := prog_6_method_9_code
def yX4_countGuests : MethodName := ⟨RX4, "countGuests", "(I)V"⟩
abbrev cX4_isSentFrom : ByteArray := prog_6_method_10_code
def yX4_isSentFrom : MethodName := ⟨RX4, "isSentFrom", "(II)Z"⟩
abbrev cX4_stayOn : ByteArray := prog_6_method_11_code
def yX4_stayOn : MethodName := ⟨RX4, "stayOn", "(II)V"⟩
abbrev cX4_sendOn : ByteArray := prog_6_method_12_code
def yX4_sendOn : MethodName := ⟨RX4, "sendOn", "(II)V"⟩
abbrev cX4_letsIn : ByteArray := prog_6_method_13_code
def yX4_letsIn : MethodName := ⟨RX4, "letsIn", "(I)Z"⟩
abbrev cX4_placeOf : ByteArray := prog_6_method_14_code
def yX4_placeOf : MethodName := ⟨RX4, "placeOf", "(II)I"⟩
abbrev cX4_armOf : ByteArray := prog_6_method_15_code
def yX4_armOf : MethodName := ⟨RX4, "armOf", "(II)I"⟩
abbrev cX4_isSent : ByteArray := prog_6_method_16_code
def yX4_isSent : MethodName := ⟨RX4, "isSent", "(II)Z"⟩
abbrev cX4_walkersAt : ByteArray := prog_6_method_17_code
def yX4_walkersAt : MethodName := ⟨RX4, "walkersAt", "(II)I"⟩
abbrev cX4_walkersSent : ByteArray := prog_6_method_18_code
def yX4_walkersSent : MethodName := ⟨RX4, "walkersSent", "(I)I"⟩
abbrev cX4_walkersInside : ByteArray := prog_6_method_19_code
def yX4_walkersInside : MethodName := ⟨RX4, "walkersInside", "(I)I"⟩
abbrev cX4_walkersOutside : ByteArray := prog_6_method_20_code
def yX4_walkersOutside : MethodName := ⟨RX4, "walkersOutside", "(I)I"⟩
abbrev cX4_timesPostSent : ByteArray := prog_6_method_21_code
def yX4_timesPostSent : MethodName := ⟨RX4, "timesPostSent", "(I)I"⟩
abbrev cX4_timesRoadUsed : ByteArray := prog_6_method_22_code
def yX4_timesRoadUsed : MethodName := ⟨RX4, "timesRoadUsed", "(II)I"⟩
abbrev cX4_timesWalked : ByteArray := prog_6_method_23_code
def yX4_timesWalked : MethodName := ⟨RX4, "timesWalked", "(I)I"⟩
abbrev cX4_firstHourHome : ByteArray := prog_6_method_24_code
def yX4_firstHourHome : MethodName := ⟨RX4, "firstHourHome", "(I)I"⟩
abbrev cX4_firstHourIn : ByteArray := prog_6_method_25_code
def yX4_firstHourIn : MethodName := ⟨RX4, "firstHourIn", "(II)I"⟩
abbrev cX4_postsVisited : ByteArray := prog_6_method_26_code
def yX4_postsVisited : MethodName := ⟨RX4, "postsVisited", "(I)I"⟩
abbrev cX4_timesReturned : ByteArray := prog_6_method_27_code
def yX4_timesReturned : MethodName := ⟨RX4, "timesReturned", "(I)I"⟩
abbrev cX4_hoursLingered : ByteArray := prog_6_method_28_code
def yX4_hoursLingered : MethodName := ⟨RX4, "hoursLingered", "(I)I"⟩
abbrev cX4_postBit : ByteArray := prog_6_method_29_code
def yX4_postBit : MethodName := ⟨RX4, "postBit", "(II)I"⟩
abbrev cX4_guestsIn : ByteArray := prog_6_method_30_code
def yX4_guestsIn : MethodName := ⟨RX4, "guestsIn", "(II)I"⟩
abbrev cX4_firstHourFull : ByteArray := prog_6_method_31_code
def yX4_firstHourFull : MethodName := ⟨RX4, "firstHourFull", "(I)I"⟩
abbrev cX4_timesRefused : ByteArray := prog_6_method_32_code
def yX4_timesRefused : MethodName := ⟨RX4, "timesRefused", "(I)I"⟩
abbrev cX4_isRefused : ByteArray := prog_6_method_33_code
def yX4_isRefused : MethodName := ⟨RX4, "isRefused", "(III)Z"⟩
abbrev cX4_firstHourAllInside : ByteArray := prog_6_method_34_code
def yX4_firstHourAllInside : MethodName := ⟨RX4, "firstHourAllInside", "()I"⟩
abbrev cX4_mostAtOnePost : ByteArray := prog_6_method_35_code
def yX4_mostAtOnePost : MethodName := ⟨RX4, "mostAtOnePost", "(I)I"⟩
abbrev cX4_firstHourTogether : ByteArray := prog_6_method_36_code
def yX4_firstHourTogether : MethodName := ⟨RX4, "firstHourTogether", "(II)I"⟩
def RX5 : String := "ObligingPosts$Slot"
def TX5 : u_T := fun k => match k with
  | 0 => ("ObligingPosts$Slot", "numbers", "[J", true)
  | 1 => ("ObligingPosts$Slot", "width", "I", false)
  | _ => ("ObligingPosts$Slot", "size", "I", false)
def tyX5 : Nat → FieldType := fun k => match k with
  | 0 => .array .long
  | 1 => .int
  | _ => .int
abbrev wsX50 : List Cond := u_ws RX5 TX5 3
theorem nmX5 : ∀ a, a < 3 → ∀ b, b < 3 → a ≠ b → (TX5 a).2.1 ≠ (TX5 b).2.1 := by decide +kernel
theorem tyX5_ok : ∀ k, k < 3 → parseFieldDescriptor (TX5 k).2.2.1 = some (tyX5 k) := by decide +kernel
abbrev cX5_init : ByteArray := prog_7_method_1_code
def yX5_init : MethodName := ⟨RX5, "<init>", "()V"⟩
abbrev cX5_begin : ByteArray := prog_7_method_2_code
def yX5_begin : MethodName := ⟨RX5, "begin", "(II)V"⟩
abbrev cX5_put : ByteArray := prog_7_method_3_code
def yX5_put : MethodName := ⟨RX5, "put", "(IJ)V"⟩
abbrev cX5_cut : ByteArray := prog_7_method_4_code
def yX5_cut : MethodName := ⟨RX5, "cut", "(J)J"⟩
abbrev cX5_hasPart : ByteArray := prog_7_method_5_code
def yX5_hasPart : MethodName := ⟨RX5, "hasPart", "(II)Z"⟩
def RX6 : String := "ObligingPosts$Tape"
def TX6 : u_T := fun k => match k with
  | 0 => ("ObligingPosts$Tape", "bytes", "[B", true)
  | 1 => ("ObligingPosts$Tape", "size", "I", false)
  | 2 => ("ObligingPosts$Tape", "fault", "I", false)
  | 3 => ("ObligingPosts$Tape", "faultPlace", "I", false)
  | 4 => ("ObligingPosts$Tape", "kind", "I", false)
  | 5 => ("ObligingPosts$Tape", "start", "I", false)
  | 6 => ("ObligingPosts$Tape", "next", "I", false)
  | _ => ("ObligingPosts$Tape", "value", "I", false)
def tyX6 : Nat → FieldType := fun k => match k with
  | 0 => .array .byte
  | 1 => .int
  | 2 => .int
  | 3 => .int
  | 4 => .int
  | 5 => .int
  | 6 => .int
  | _ => .int
abbrev wsX60 : List Cond := u_ws RX6 TX6 8
theorem nmX6 : ∀ a, a < 8 → ∀ b, b < 8 → a ≠ b → (TX6 a).2.1 ≠ (TX6 b).2.1 := by decide +kernel
theorem tyX6_ok : ∀ k, k < 8 → parseFieldDescriptor (TX6 k).2.2.1 = some (tyX6 k) := by decide +kernel
abbrev cX6_init : ByteArray := prog_8_method_1_code
def yX6_init : MethodName := ⟨RX6, "<init>", "()V"⟩
abbrev cX6_append : ByteArray := prog_8_method_2_code
def yX6_append : MethodName := ⟨RX6, "append", "(I)V"⟩
abbrev cX6_readInto : ByteArray := prog_8_method_3_code
def yX6_readInto : MethodName := ⟨RX6, "readInto", "(LObligingPosts$Heath;)V"⟩
abbrev cX6_readLine : ByteArray := prog_8_method_4_code
def yX6_readLine : MethodName := ⟨RX6, "readLine", "(LObligingPosts$Heath;)V"⟩
abbrev cX6_readHeath : ByteArray := prog_8_method_5_code
def yX6_readHeath : MethodName := ⟨RX6, "readHeath", "(LObligingPosts$Heath;)V"⟩
abbrev cX6_readInn : ByteArray := prog_8_method_6_code
def yX6_readInn : MethodName := ⟨RX6, "readInn", "(LObligingPosts$Heath;)V"⟩
abbrev cX6_readPost : ByteArray := prog_8_method_7_code
def yX6_readPost : MethodName := ⟨RX6, "readPost", "(LObligingPosts$Heath;)V"⟩
abbrev cX6_readRoad : ByteArray := prog_8_method_8_code
def yX6_readRoad : MethodName := ⟨RX6, "readRoad", "(LObligingPosts$Heath;)V"⟩
abbrev cX6_readArm : ByteArray := prog_8_method_9_code
def yX6_readArm : MethodName := ⟨RX6, "readArm", "(LObligingPosts$Heath;)V"⟩
abbrev cX6_readWalker : ByteArray := prog_8_method_10_code
def yX6_readWalker : MethodName := ⟨RX6, "readWalker", "(LObligingPosts$Heath;)V"⟩
abbrev cX6_fail : ByteArray := prog_8_method_11_code
def yX6_fail : MethodName := ⟨RX6, "fail", "(I)V"⟩
abbrev cX6_takeSign : ByteArray := prog_8_method_12_code
def yX6_takeSign : MethodName := ⟨RX6, "takeSign", "()V"⟩
abbrev cX6_takeWord : ByteArray := prog_8_method_13_code
def yX6_takeWord : MethodName := ⟨RX6, "takeWord", "(Ljava/lang/String;)V"⟩
abbrev cX6_takeWordOfFew : ByteArray := prog_8_method_14_code
def yX6_takeWordOfFew : MethodName := ⟨RX6, "takeWordOfFew", "(II)V"⟩
abbrev cX6_takeNumber : ByteArray := prog_8_method_15_code
def yX6_takeNumber : MethodName := ⟨RX6, "takeNumber", "(II)I"⟩
abbrev cX6_numberHere : ByteArray := prog_8_method_16_code
def yX6_numberHere : MethodName := ⟨RX6, "numberHere", "(II)I"⟩
abbrev cX6_isWord : ByteArray := prog_8_method_17_code
def yX6_isWord : MethodName := ⟨RX6, "isWord", "(Ljava/lang/String;)Z"⟩
abbrev cX6_take : ByteArray := prog_8_method_18_code
def yX6_take : MethodName := ⟨RX6, "take", "()V"⟩
abbrev cX6_isBlank : ByteArray := prog_8_method_19_code
def yX6_isBlank : MethodName := ⟨RX6, "isBlank", "(I)Z"⟩
abbrev cX6_isLetter : ByteArray := prog_8_method_20_code
def yX6_isLetter : MethodName := ⟨RX6, "isLetter", "(I)Z"⟩
abbrev cX6_isDigit : ByteArray := prog_8_method_21_code
def yX6_isDigit : MethodName := ⟨RX6, "isDigit", "(I)Z"⟩
def RX7 : String := "ObligingPosts"
def TX7 : u_T := fun k => match k with
  | 0 => ("ObligingPosts", "tape", "LObligingPosts$Tape;", true)
  | 1 => ("ObligingPosts", "heath", "LObligingPosts$Heath;", true)
  | 2 => ("ObligingPosts", "draft", "LObligingPosts$Heath;", true)
  | 3 => ("ObligingPosts", "images", "[LObligingPosts$Heath;", true)
  | 4 => ("ObligingPosts", "slots", "[LObligingPosts$Slot;", true)
  | 5 => ("ObligingPosts", "now", "LObligingPosts$Night;", true)
  | 6 => ("ObligingPosts", "other", "LObligingPosts$Night;", true)
  | 7 => ("ObligingPosts", "lone", "LObligingPosts$Lone;", true)
  | 8 => ("ObligingPosts", "fog", "LObligingPosts$Fog;", true)
  | 9 => ("ObligingPosts", "worths", "[I", true)
  | 10 => ("ObligingPosts", "worthsKnown", "Z", false)
  | _ => ("ObligingPosts", "supposed", "[I", true)
def tyX7 : Nat → FieldType := fun k => match k with
  | 0 => .object "ObligingPosts$Tape"
  | 1 => .object "ObligingPosts$Heath"
  | 2 => .object "ObligingPosts$Heath"
  | 3 => .array (.object "ObligingPosts$Heath")
  | 4 => .array (.object "ObligingPosts$Slot")
  | 5 => .object "ObligingPosts$Night"
  | 6 => .object "ObligingPosts$Night"
  | 7 => .object "ObligingPosts$Lone"
  | 8 => .object "ObligingPosts$Fog"
  | 9 => .array .int
  | 10 => .boolean
  | _ => .array .int
abbrev wsX70 : List Cond := u_ws RX7 TX7 12
theorem nmX7 : ∀ a, a < 12 → ∀ b, b < 12 → a ≠ b → (TX7 a).2.1 ≠ (TX7 b).2.1 := by decide +kernel
theorem tyX7_ok : ∀ k, k < 12 → parseFieldDescriptor (TX7 k).2.2.1 = some (tyX7 k) := by decide +kernel
abbrev cX7_init : ByteArray := prog_1_method_1_code
def yX7_init : MethodName := ⟨RX7, "<init>", "()V"⟩
abbrev cX7_feed : ByteArray := prog_1_method_2_code
def yX7_feed : MethodName := ⟨RX7, "feed", "(IIIII)I"⟩
abbrev cX7_end : ByteArray := prog_1_method_3_code
def yX7_end : MethodName := ⟨RX7, "end", "(I)I"⟩
abbrev cX7_heath : ByteArray := prog_1_method_4_code
def yX7_heath : MethodName := ⟨RX7, "heath", "()I"⟩
abbrev cX7_fault : ByteArray := prog_1_method_5_code
def yX7_fault : MethodName := ⟨RX7, "fault", "(I)I"⟩
abbrev cX7_room : ByteArray := prog_1_method_6_code
def yX7_room : MethodName := ⟨RX7, "room", "(I)I"⟩
abbrev cX7_roads : ByteArray := prog_1_method_7_code
def yX7_roads : MethodName := ⟨RX7, "roads", "(I)I"⟩
abbrev cX7_goes : ByteArray := prog_1_method_8_code
def yX7_goes : MethodName := ⟨RX7, "goes", "(II)I"⟩
abbrev cX7_told : ByteArray := prog_1_method_9_code
def yX7_told : MethodName := ⟨RX7, "told", "(I)I"⟩
abbrev cX7_walker : ByteArray := prog_1_method_10_code
def yX7_walker : MethodName := ⟨RX7, "walker", "(II)I"⟩
abbrev cX7_at : ByteArray := prog_1_method_11_code
def yX7_at : MethodName := ⟨RX7, "at", "(II)I"⟩
abbrev cX7_arm : ByteArray := prog_1_method_12_code
def yX7_arm : MethodName := ⟨RX7, "arm", "(II)I"⟩
abbrev cX7_here : ByteArray := prog_1_method_13_code
def yX7_here : MethodName := ⟨RX7, "here", "(II)I"⟩
abbrev cX7_sent : ByteArray := prog_1_method_14_code
def yX7_sent : MethodName := ⟨RX7, "sent", "(I)I"⟩
abbrev cX7_sends : ByteArray := prog_1_method_15_code
def yX7_sends : MethodName := ⟨RX7, "sends", "(I)I"⟩
abbrev cX7_used : ByteArray := prog_1_method_16_code
def yX7_used : MethodName := ⟨RX7, "used", "(II)I"⟩
abbrev cX7_walks : ByteArray := prog_1_method_17_code
def yX7_walks : MethodName := ⟨RX7, "walks", "(I)I"⟩
abbrev cX7_home : ByteArray := prog_1_method_18_code
def yX7_home : MethodName := ⟨RX7, "home", "(I)I"⟩
abbrev cX7_inn : ByteArray := prog_1_method_19_code
def yX7_inn : MethodName := ⟨RX7, "inn", "(I)I"⟩
abbrev cX7_trail : ByteArray := prog_1_method_20_code
def yX7_trail : MethodName := ⟨RX7, "trail", "(I)I"⟩
abbrev cX7_again : ByteArray := prog_1_method_21_code
def yX7_again : MethodName := ⟨RX7, "again", "(I)I"⟩
abbrev cX7_lingers : ByteArray := prog_1_method_22_code
def yX7_lingers : MethodName := ⟨RX7, "lingers", "(I)I"⟩
abbrev cX7_doors : ByteArray := prog_1_method_23_code
def yX7_doors : MethodName := ⟨RX7, "doors", "(I)I"⟩
abbrev cX7_guests : ByteArray := prog_1_method_24_code
def yX7_guests : MethodName := ⟨RX7, "guests", "(II)I"⟩
abbrev cX7_full : ByteArray := prog_1_method_25_code
def yX7_full : MethodName := ⟨RX7, "full", "(I)I"⟩
abbrev cX7_refuses : ByteArray := prog_1_method_26_code
def yX7_refuses : MethodName := ⟨RX7, "refuses", "(I)I"⟩
abbrev cX7_inside : ByteArray := prog_1_method_27_code
def yX7_inside : MethodName := ⟨RX7, "inside", "(I)I"⟩
abbrev cX7_outside : ByteArray := prog_1_method_28_code
def yX7_outside : MethodName := ⟨RX7, "outside", "(I)I"⟩
abbrev cX7_done : ByteArray := prog_1_method_29_code
def yX7_done : MethodName := ⟨RX7, "done", "()I"⟩
abbrev cX7_crowd : ByteArray := prog_1_method_30_code
def yX7_crowd : MethodName := ⟨RX7, "crowd", "(I)I"⟩
abbrev cX7_armless : ByteArray := prog_1_method_31_code
def yX7_armless : MethodName := ⟨RX7, "armless", "()I"⟩
abbrev cX7_meet : ByteArray := prog_1_method_32_code
def yX7_meet : MethodName := ⟨RX7, "meet", "(II)I"⟩
abbrev cX7_busy : ByteArray := prog_1_method_33_code
def yX7_busy : MethodName := ⟨RX7, "busy", "()I"⟩
abbrev cX7_idle : ByteArray := prog_1_method_34_code
def yX7_idle : MethodName := ⟨RX7, "idle", "()I"⟩
abbrev cX7_reach : ByteArray := prog_1_method_35_code
def yX7_reach : MethodName := ⟨RX7, "reach", "(I)I"⟩
abbrev cX7_far : ByteArray := prog_1_method_36_code
def yX7_far : MethodName := ⟨RX7, "far", "(II)I"⟩
abbrev cX7_setting : ByteArray := prog_1_method_37_code
def yX7_setting : MethodName := ⟨RX7, "setting", "(I)I"⟩
abbrev cX7_settings : ByteArray := prog_1_method_38_code
def yX7_settings : MethodName := ⟨RX7, "settings", "()I"⟩
abbrev cX7_same : ByteArray := prog_1_method_39_code
def yX7_same : MethodName := ⟨RX7, "same", "()I"⟩
abbrev cX7_alone : ByteArray := prog_1_method_40_code
def yX7_alone : MethodName := ⟨RX7, "alone", "(I)I"⟩
abbrev cX7_steps : ByteArray := prog_1_method_41_code
def yX7_steps : MethodName := ⟨RX7, "steps", "(I)I"⟩
abbrev cX7_behind : ByteArray := prog_1_method_42_code
def yX7_behind : MethodName := ⟨RX7, "behind", "(I)I"⟩
abbrev cX7_nth : ByteArray := prog_1_method_43_code
def yX7_nth : MethodName := ⟨RX7, "nth", "(II)I"⟩
abbrev cX7_round : ByteArray := prog_1_method_44_code
def yX7_round : MethodName := ⟨RX7, "round", "(I)I"⟩
abbrev cX7_houses : ByteArray := prog_1_method_45_code
def yX7_houses : MethodName := ⟨RX7, "houses", "(III)I"⟩
abbrev cX7_tree : ByteArray := prog_1_method_46_code
def yX7_tree : MethodName := ⟨RX7, "tree", "(I)I"⟩
abbrev cX7_ring : ByteArray := prog_1_method_47_code
def yX7_ring : MethodName := ⟨RX7, "ring", "(I)I"⟩
abbrev cX7_trees : ByteArray := prog_1_method_48_code
def yX7_trees : MethodName := ⟨RX7, "trees", "()I"⟩
abbrev cX7_point : ByteArray := prog_1_method_49_code
def yX7_point : MethodName := ⟨RX7, "point", "(II)I"⟩
abbrev cX7_best : ByteArray := prog_1_method_50_code
def yX7_best : MethodName := ⟨RX7, "best", "()I"⟩
abbrev cX7_crowds : ByteArray := prog_1_method_51_code
def yX7_crowds : MethodName := ⟨RX7, "crowds", "()I"⟩
abbrev cX7_may : ByteArray := prog_1_method_52_code
def yX7_may : MethodName := ⟨RX7, "may", "(II)I"⟩
abbrev cX7_ask : ByteArray := prog_1_method_53_code
def yX7_ask : MethodName := ⟨RX7, "ask", "(II)I"⟩
abbrev cX7_leaves : ByteArray := prog_1_method_54_code
def yX7_leaves : MethodName := ⟨RX7, "leaves", "(II)I"⟩
abbrev cX7_laws : ByteArray := prog_1_method_55_code
def yX7_laws : MethodName := ⟨RX7, "laws", "(I)I"⟩
abbrev cX7_by : ByteArray := prog_1_method_56_code
def yX7_by : MethodName := ⟨RX7, "by", "(I)I"⟩
abbrev cX7_law : ByteArray := prog_1_method_57_code
def yX7_law : MethodName := ⟨RX7, "law", "()I"⟩
abbrev cX7_worth : ByteArray := prog_1_method_58_code
def yX7_worth : MethodName := ⟨RX7, "worth", "(I)I"⟩
abbrev cX7_share : ByteArray := prog_1_method_59_code
def yX7_share : MethodName := ⟨RX7, "share", "(II)I"⟩
abbrev cX7_rests : ByteArray := prog_1_method_60_code
def yX7_rests : MethodName := ⟨RX7, "rests", "(II)I"⟩
abbrev cX7_gets : ByteArray := prog_1_method_61_code
def yX7_gets : MethodName := ⟨RX7, "gets", "(IIII)I"⟩
abbrev cX7_chance : ByteArray := prog_1_method_62_code
def yX7_chance : MethodName := ⟨RX7, "chance", "(III)J"⟩
abbrev cX7_mean : ByteArray := prog_1_method_63_code
def yX7_mean : MethodName := ⟨RX7, "mean", "(II)J"⟩
abbrev cX7_twists : ByteArray := prog_1_method_64_code
def yX7_twists : MethodName := ⟨RX7, "twists", "(II)I"⟩
abbrev cX7_holds : ByteArray := prog_1_method_65_code
def yX7_holds : MethodName := ⟨RX7, "holds", "(II)I"⟩
abbrev cX7_undo : ByteArray := prog_1_method_66_code
def yX7_undo : MethodName := ⟨RX7, "undo", "()I"⟩
abbrev cX7_anew : ByteArray := prog_1_method_67_code
def yX7_anew : MethodName := ⟨RX7, "anew", "()I"⟩
abbrev cX7_drawn : ByteArray := prog_1_method_68_code
def yX7_drawn : MethodName := ⟨RX7, "drawn", "(II)I"⟩
abbrev cX7_luck : ByteArray := prog_1_method_69_code
def yX7_luck : MethodName := ⟨RX7, "luck", "(III)I"⟩
abbrev cX7_rate : ByteArray := prog_1_method_70_code
def yX7_rate : MethodName := ⟨RX7, "rate", "(II)I"⟩
abbrev cX7_count : ByteArray := prog_1_method_71_code
def yX7_count : MethodName := ⟨RX7, "count", "(I)I"⟩
abbrev cX7_image : ByteArray := prog_1_method_72_code
def yX7_image : MethodName := ⟨RX7, "image", "(I)I"⟩
abbrev cX7_back : ByteArray := prog_1_method_73_code
def yX7_back : MethodName := ⟨RX7, "back", "(I)I"⟩
abbrev cX7_row : ByteArray := prog_1_method_74_code
def yX7_row : MethodName := ⟨RX7, "row", "(III)I"⟩
abbrev cX7_write : ByteArray := prog_1_method_75_code
def yX7_write : MethodName := ⟨RX7, "write", "(IIJ)I"⟩
abbrev cX7_paste : ByteArray := prog_1_method_76_code
def yX7_paste : MethodName := ⟨RX7, "paste", "(IIIII)I"⟩
abbrev cX7_changed : ByteArray := prog_1_method_77_code
def yX7_changed : MethodName := ⟨RX7, "changed", "()V"⟩
abbrev cX7_isEither : ByteArray := prog_1_method_78_code
def yX7_isEither : MethodName := ⟨RX7, "isEither", "(I)Z"⟩
abbrev cX7_isFewInARow : ByteArray := prog_1_method_79_code
def yX7_isFewInARow : MethodName := ⟨RX7, "isFewInARow", "(I)Z"⟩
abbrev cX7_isSeed : ByteArray := prog_1_method_80_code
def yX7_isSeed : MethodName := ⟨RX7, "isSeed", "(I)Z"⟩
abbrev cX7_isSlot : ByteArray := prog_1_method_81_code
def yX7_isSlot : MethodName := ⟨RX7, "isSlot", "(I)Z"⟩
abbrev cX7_isFogHour : ByteArray := prog_1_method_82_code
def yX7_isFogHour : MethodName := ⟨RX7, "isFogHour", "(I)Z"⟩
abbrev cX7_areTwo : ByteArray := prog_1_method_83_code
def yX7_areTwo : MethodName := ⟨RX7, "areTwo", "(II)Z"⟩
abbrev cX7_settingIn : ByteArray := prog_1_method_84_code
def yX7_settingIn : MethodName := ⟨RX7, "settingIn", "(I)I"⟩
abbrev cX7_runPointed : ByteArray := prog_1_method_85_code
def yX7_runPointed : MethodName := ⟨RX7, "runPointed", "(II)V"⟩
abbrev cX7_runByLaw : ByteArray := prog_1_method_86_code
def yX7_runByLaw : MethodName := ⟨RX7, "runByLaw", "(I)V"⟩
abbrev cX7_insideByFog : ByteArray := prog_1_method_87_code
def yX7_insideByFog : MethodName := ⟨RX7, "insideByFog", "(I)I"⟩
abbrev cX7_worthOf : ByteArray := prog_1_method_88_code
def yX7_worthOf : MethodName := ⟨RX7, "worthOf", "(I)I"⟩
abbrev cX7_learnWorths : ByteArray := prog_1_method_89_code
def yX7_learnWorths : MethodName := ⟨RX7, "learnWorths", "()V"⟩
abbrev cX7_gain : ByteArray := prog_1_method_90_code
def yX7_gain : MethodName := ⟨RX7, "gain", "(IIII)I"⟩
abbrev cX7_refusalOfSeen : ByteArray := prog_1_method_91_code
def yX7_refusalOfSeen : MethodName := ⟨RX7, "refusalOfSeen", "(IZ)I"⟩
abbrev cX7_tellsPlaces : ByteArray := prog_1_method_92_code
def yX7_tellsPlaces : MethodName := ⟨RX7, "tellsPlaces", "(LObligingPosts$Slot;)Z"⟩
abbrev cX7_agrees : ByteArray := prog_1_method_93_code
def yX7_agrees : MethodName := ⟨RX7, "agrees", "(LObligingPosts$Slot;LObligingPosts$Night;)Z"⟩
abbrev cX7_possibleRoads : ByteArray := prog_1_method_94_code
def yX7_possibleRoads : MethodName := ⟨RX7, "possibleRoads", "(LObligingPosts$Slot;I)I"⟩
abbrev cX7_bestQuestion : ByteArray := prog_1_method_95_code
def yX7_bestQuestion : MethodName := ⟨RX7, "bestQuestion", "(I)I"⟩
abbrev cX7_mostLeft : ByteArray := prog_1_method_96_code
def yX7_mostLeft : MethodName := ⟨RX7, "mostLeft", "(III)I"⟩
abbrev cX7_roadsAlike : ByteArray := prog_1_method_97_code
def yX7_roadsAlike : MethodName := ⟨RX7, "roadsAlike", "(III)I"⟩
abbrev cX7_slotsWithRow : ByteArray := prog_1_method_98_code
def yX7_slotsWithRow : MethodName := ⟨RX7, "slotsWithRow", "()I"⟩
abbrev cX7_partOfFraction : ByteArray := prog_1_method_99_code
def yX7_partOfFraction : MethodName := ⟨RX7, "partOfFraction", "(JJI)J"⟩
abbrev cX7_greatestDivisor : ByteArray := prog_1_method_100_code
def yX7_greatestDivisor : MethodName := ⟨RX7, "greatestDivisor", "(JJ)J"⟩
def RX8 : String := "ObligingPostsModel"
def TX8 : u_T := fun k => match k with
  | 0 => ("ObligingPostsModel", "thrown", "I", false)
  | 1 => ("ObligingPostsModel", "world", "[I", true)
  | 2 => ("ObligingPostsModel", "images", "[I", true)
  | 3 => ("ObligingPostsModel", "hasImage", "[Z", true)
  | 4 => ("ObligingPostsModel", "tape", "[B", true)
  | 5 => ("ObligingPostsModel", "taped", "I", false)
  | 6 => ("ObligingPostsModel", "five", "[I", true)
  | 7 => ("ObligingPostsModel", "size", "I", false)
  | 8 => ("ObligingPostsModel", "at", "I", false)
  | 9 => ("ObligingPostsModel", "from", "I", false)
  | 10 => ("ObligingPostsModel", "token", "I", false)
  | 11 => ("ObligingPostsModel", "value", "I", false)
  | 12 => ("ObligingPostsModel", "faultKind", "I", false)
  | 13 => ("ObligingPostsModel", "faultPlace", "I", false)
  | 14 => ("ObligingPostsModel", "fresh", "[I", true)
  | 15 => ("ObligingPostsModel", "armFirst", "[I", true)
  | 16 => ("ObligingPostsModel", "hourNow", "[I", true)
  | 17 => ("ObligingPostsModel", "lawNow", "I", false)
  | 18 => ("ObligingPostsModel", "fogSet", "I", false)
  | 19 => ("ObligingPostsModel", "turnSet", "I", false)
  | 20 => ("ObligingPostsModel", "armNow", "[I", true)
  | 21 => ("ObligingPostsModel", "placeNow", "[I", true)
  | 22 => ("ObligingPostsModel", "placeAt", "[I", true)
  | 23 => ("ObligingPostsModel", "armAt", "[I", true)
  | 24 => ("ObligingPostsModel", "sentAt", "[I", true)
  | 25 => ("ObligingPostsModel", "sentBy", "[I", true)
  | 26 => ("ObligingPostsModel", "walked", "[I", true)
  | 27 => ("ObligingPostsModel", "guestNow", "[I", true)
  | 28 => ("ObligingPostsModel", "refused", "[I", true)
  | 29 => ("ObligingPostsModel", "some", "[I", true)
  | 30 => ("ObligingPostsModel", "soloSteps", "I", false)
  | 31 => ("ObligingPostsModel", "placeBy", "[I", true)
  | 32 => ("ObligingPostsModel", "askWorst", "I", false)
  | 33 => ("ObligingPostsModel", "worthBy", "[I", true)
  | 34 => ("ObligingPostsModel", "oftenAll", "J", false)
  | 35 => ("ObligingPostsModel", "oftenInside", "J", false)
  | 36 => ("ObligingPostsModel", "oftenMany", "J", false)
  | 37 => ("ObligingPostsModel", "many", "[I", true)
  | 38 => ("ObligingPostsModel", "width", "[I", true)
  | 39 => ("ObligingPostsModel", "numbers", "[J", true)
  | _ => ("ObligingPostsModel", "moving", "[J", true)
def tyX8 : Nat → FieldType := fun k => match k with
  | 0 => .int
  | 1 => .array .int
  | 2 => .array .int
  | 3 => .array .boolean
  | 4 => .array .byte
  | 5 => .int
  | 6 => .array .int
  | 7 => .int
  | 8 => .int
  | 9 => .int
  | 10 => .int
  | 11 => .int
  | 12 => .int
  | 13 => .int
  | 14 => .array .int
  | 15 => .array .int
  | 16 => .array .int
  | 17 => .int
  | 18 => .int
  | 19 => .int
  | 20 => .array .int
  | 21 => .array .int
  | 22 => .array .int
  | 23 => .array .int
  | 24 => .array .int
  | 25 => .array .int
  | 26 => .array .int
  | 27 => .array .int
  | 28 => .array .int
  | 29 => .array .int
  | 30 => .int
  | 31 => .array .int
  | 32 => .int
  | 33 => .array .int
  | 34 => .long
  | 35 => .long
  | 36 => .long
  | 37 => .array .int
  | 38 => .array .int
  | 39 => .array .long
  | _ => .array .long
abbrev wsX80 : List Cond := u_ws RX8 TX8 41
theorem nmX8 : ∀ a, a < 41 → ∀ b, b < 41 → a ≠ b → (TX8 a).2.1 ≠ (TX8 b).2.1 := by decide +kernel
theorem tyX8_ok : ∀ k, k < 41 → parseFieldDescriptor (TX8 k).2.2.1 = some (tyX8 k) := by decide +kernel
abbrev cX8_init : ByteArray := prog_10_method_1_code
def yX8_init : MethodName := ⟨RX8, "<init>", "()V"⟩
abbrev cX8_in : ByteArray := prog_10_method_3_code
def yX8_in : MethodName := ⟨RX8, "in", "(JJJ)Z"⟩
abbrev cX8_bits : ByteArray := prog_10_method_4_code
def yX8_bits : MethodName := ⟨RX8, "bits", "(I)I"⟩
abbrev cX8_bit : ByteArray := prog_10_method_5_code
def yX8_bit : MethodName := ⟨RX8, "bit", "(II)I"⟩
abbrev cX8_image : ByteArray := prog_10_method_6_code
def yX8_image : MethodName := ⟨RX8, "image", "(I)I"⟩
abbrev cX8_back : ByteArray := prog_10_method_7_code
def yX8_back : MethodName := ⟨RX8, "back", "(I)I"⟩
abbrev cX8_isHeath : ByteArray := prog_10_method_8_code
def yX8_isHeath : MethodName := ⟨RX8, "isHeath", "()Z"⟩
abbrev cX8_hours : ByteArray := prog_10_method_9_code
def yX8_hours : MethodName := ⟨RX8, "hours", "()I"⟩
abbrev cX8_posts : ByteArray := prog_10_method_10_code
def yX8_posts : MethodName := ⟨RX8, "posts", "()I"⟩
abbrev cX8_walkers : ByteArray := prog_10_method_11_code
def yX8_walkers : MethodName := ⟨RX8, "walkers", "()I"⟩
abbrev cX8_allPosts : ByteArray := prog_10_method_12_code
def yX8_allPosts : MethodName := ⟨RX8, "allPosts", "()I"⟩
abbrev cX8_isHour : ByteArray := prog_10_method_13_code
def yX8_isHour : MethodName := ⟨RX8, "isHour", "(J)Z"⟩
abbrev cX8_isAhead : ByteArray := prog_10_method_14_code
def yX8_isAhead : MethodName := ⟨RX8, "isAhead", "(J)Z"⟩
abbrev cX8_isPost : ByteArray := prog_10_method_15_code
def yX8_isPost : MethodName := ⟨RX8, "isPost", "(J)Z"⟩
abbrev cX8_isInn : ByteArray := prog_10_method_16_code
def yX8_isInn : MethodName := ⟨RX8, "isInn", "(J)Z"⟩
abbrev cX8_isWalker : ByteArray := prog_10_method_17_code
def yX8_isWalker : MethodName := ⟨RX8, "isWalker", "(J)Z"⟩
abbrev cX8_isPlace : ByteArray := prog_10_method_18_code
def yX8_isPlace : MethodName := ⟨RX8, "isPlace", "(J)Z"⟩
abbrev cX8_roadMany : ByteArray := prog_10_method_19_code
def yX8_roadMany : MethodName := ⟨RX8, "roadMany", "(I)I"⟩
abbrev cX8_roadTo : ByteArray := prog_10_method_20_code
def yX8_roadTo : MethodName := ⟨RX8, "roadTo", "(II)I"⟩
abbrev cX8_armOf : ByteArray := prog_10_method_21_code
def yX8_armOf : MethodName := ⟨RX8, "armOf", "(I)I"⟩
abbrev cX8_feed : ByteArray := prog_10_method_22_code
def yX8_feed : MethodName := ⟨RX8, "feed", "(IIIII)I"⟩
abbrev cX8_end : ByteArray := prog_10_method_23_code
def yX8_end : MethodName := ⟨RX8, "end", "(I)I"⟩
abbrev cX8_see : ByteArray := prog_10_method_24_code
def yX8_see : MethodName := ⟨RX8, "see", "(I)I"⟩
abbrev cX8_advance : ByteArray := prog_10_method_25_code
def yX8_advance : MethodName := ⟨RX8, "advance", "()V"⟩
abbrev cX8_good : ByteArray := prog_10_method_26_code
def yX8_good : MethodName := ⟨RX8, "good", "()Z"⟩
abbrev cX8_errs : ByteArray := prog_10_method_27_code
def yX8_errs : MethodName := ⟨RX8, "errs", "(I)V"⟩
abbrev cX8_is : ByteArray := prog_10_method_28_code
def yX8_is : MethodName := ⟨RX8, "is", "(Ljava/lang/String;)Z"⟩
abbrev cX8_takes : ByteArray := prog_10_method_29_code
def yX8_takes : MethodName := ⟨RX8, "takes", "(Ljava/lang/String;)Z"⟩
abbrev cX8_expects : ByteArray := prog_10_method_30_code
def yX8_expects : MethodName := ⟨RX8, "expects", "(Ljava/lang/String;)V"⟩
abbrev cX8_number : ByteArray := prog_10_method_31_code
def yX8_number : MethodName := ⟨RX8, "number", "(II)I"⟩
abbrev cX8_toldBy : ByteArray := prog_10_method_32_code
def yX8_toldBy : MethodName := ⟨RX8, "toldBy", "(Ljava/lang/String;II)I"⟩
abbrev cX8_fault : ByteArray := prog_10_method_33_code
def yX8_fault : MethodName := ⟨RX8, "fault", "(I)I"⟩
abbrev cX8_readFirst : ByteArray := prog_10_method_34_code
def yX8_readFirst : MethodName := ⟨RX8, "readFirst", "()V"⟩
abbrev cX8_readPost : ByteArray := prog_10_method_35_code
def yX8_readPost : MethodName := ⟨RX8, "readPost", "()I"⟩
abbrev cX8_readRoad : ByteArray := prog_10_method_36_code
def yX8_readRoad : MethodName := ⟨RX8, "readRoad", "()V"⟩
abbrev cX8_readArm : ByteArray := prog_10_method_37_code
def yX8_readArm : MethodName := ⟨RX8, "readArm", "()V"⟩
abbrev cX8_readWalker : ByteArray := prog_10_method_38_code
def yX8_readWalker : MethodName := ⟨RX8, "readWalker", "()V"⟩
abbrev cX8_isFull : ByteArray := prog_10_method_39_code
def yX8_isFull : MethodName := ⟨RX8, "isFull", "()Z"⟩
abbrev cX8_readNext : ByteArray := prog_10_method_40_code
def yX8_readNext : MethodName := ⟨RX8, "readNext", "()V"⟩
abbrev cX8_readLine : ByteArray := prog_10_method_41_code
def yX8_readLine : MethodName := ⟨RX8, "readLine", "()V"⟩
abbrev cX8_heath : ByteArray := prog_10_method_42_code
def yX8_heath : MethodName := ⟨RX8, "heath", "()I"⟩
abbrev cX8_room : ByteArray := prog_10_method_43_code
def yX8_room : MethodName := ⟨RX8, "room", "(I)I"⟩
abbrev cX8_roads : ByteArray := prog_10_method_44_code
def yX8_roads : MethodName := ⟨RX8, "roads", "(I)I"⟩
abbrev cX8_goes : ByteArray := prog_10_method_45_code
def yX8_goes : MethodName := ⟨RX8, "goes", "(II)I"⟩
abbrev cX8_told : ByteArray := prog_10_method_46_code
def yX8_told : MethodName := ⟨RX8, "told", "(I)I"⟩
abbrev cX8_walker : ByteArray := prog_10_method_47_code
def yX8_walker : MethodName := ⟨RX8, "walker", "(II)I"⟩
abbrev cX8_doors : ByteArray := prog_10_method_48_code
def yX8_doors : MethodName := ⟨RX8, "doors", "(I)I"⟩
abbrev cX8_armless : ByteArray := prog_10_method_49_code
def yX8_armless : MethodName := ⟨RX8, "armless", "()I"⟩
abbrev cX8_asItIs : ByteArray := prog_10_method_50_code
def yX8_asItIs : MethodName := ⟨RX8, "asItIs", "()V"⟩
abbrev cX8_turn : ByteArray := prog_10_method_51_code
def yX8_turn : MethodName := ⟨RX8, "turn", "(II)V"⟩
abbrev cX8_sendBy : ByteArray := prog_10_method_52_code
def yX8_sendBy : MethodName := ⟨RX8, "sendBy", "(I)I"⟩
abbrev cX8_isHeld : ByteArray := prog_10_method_53_code
def yX8_isHeld : MethodName := ⟨RX8, "isHeld", "(II)Z"⟩
abbrev cX8_sendOne : ByteArray := prog_10_method_54_code
def yX8_sendOne : MethodName := ⟨RX8, "sendOne", "(II)V"⟩
abbrev cX8_goHour : ByteArray := prog_10_method_55_code
def yX8_goHour : MethodName := ⟨RX8, "goHour", "(I)V"⟩
abbrev cX8_goAll : ByteArray := prog_10_method_56_code
def yX8_goAll : MethodName := ⟨RX8, "goAll", "()V"⟩
abbrev cX8_asksHeath : ByteArray := prog_10_method_57_code
def yX8_asksHeath : MethodName := ⟨RX8, "asksHeath", "()Z"⟩
abbrev cX8_asksHour : ByteArray := prog_10_method_58_code
def yX8_asksHour : MethodName := ⟨RX8, "asksHour", "(I)Z"⟩
abbrev cX8_asksWalker : ByteArray := prog_10_method_59_code
def yX8_asksWalker : MethodName := ⟨RX8, "asksWalker", "(I)Z"⟩
abbrev cX8_asksPost : ByteArray := prog_10_method_60_code
def yX8_asksPost : MethodName := ⟨RX8, "asksPost", "(I)Z"⟩
abbrev cX8_placeOf : ByteArray := prog_10_method_61_code
def yX8_placeOf : MethodName := ⟨RX8, "placeOf", "(II)I"⟩
abbrev cX8_isInside : ByteArray := prog_10_method_62_code
def yX8_isInside : MethodName := ⟨RX8, "isInside", "(II)Z"⟩
abbrev cX8_at : ByteArray := prog_10_method_63_code
def yX8_at : MethodName := ⟨RX8, "at", "(II)I"⟩
abbrev cX8_arm : ByteArray := prog_10_method_64_code
def yX8_arm : MethodName := ⟨RX8, "arm", "(II)I"⟩
abbrev cX8_hereOf : ByteArray := prog_10_method_65_code
def yX8_hereOf : MethodName := ⟨RX8, "hereOf", "(II)I"⟩
abbrev cX8_here : ByteArray := prog_10_method_66_code
def yX8_here : MethodName := ⟨RX8, "here", "(II)I"⟩
abbrev cX8_sent : ByteArray := prog_10_method_67_code
def yX8_sent : MethodName := ⟨RX8, "sent", "(I)I"⟩
abbrev cX8_sendsOf : ByteArray := prog_10_method_68_code
def yX8_sendsOf : MethodName := ⟨RX8, "sendsOf", "(I)I"⟩
abbrev cX8_sends : ByteArray := prog_10_method_69_code
def yX8_sends : MethodName := ⟨RX8, "sends", "(I)I"⟩
abbrev cX8_used : ByteArray := prog_10_method_70_code
def yX8_used : MethodName := ⟨RX8, "used", "(II)I"⟩
abbrev cX8_walks : ByteArray := prog_10_method_71_code
def yX8_walks : MethodName := ⟨RX8, "walks", "(I)I"⟩
abbrev cX8_homeOf : ByteArray := prog_10_method_72_code
def yX8_homeOf : MethodName := ⟨RX8, "homeOf", "(I)I"⟩
abbrev cX8_home : ByteArray := prog_10_method_73_code
def yX8_home : MethodName := ⟨RX8, "home", "(I)I"⟩
abbrev cX8_inn : ByteArray := prog_10_method_74_code
def yX8_inn : MethodName := ⟨RX8, "inn", "(I)I"⟩
abbrev cX8_trailTo : ByteArray := prog_10_method_75_code
def yX8_trailTo : MethodName := ⟨RX8, "trailTo", "(II)I"⟩
abbrev cX8_trail : ByteArray := prog_10_method_76_code
def yX8_trail : MethodName := ⟨RX8, "trail", "(I)I"⟩
abbrev cX8_again : ByteArray := prog_10_method_77_code
def yX8_again : MethodName := ⟨RX8, "again", "(I)I"⟩
abbrev cX8_lingers : ByteArray := prog_10_method_78_code
def yX8_lingers : MethodName := ⟨RX8, "lingers", "(I)I"⟩
abbrev cX8_guestsOf : ByteArray := prog_10_method_79_code
def yX8_guestsOf : MethodName := ⟨RX8, "guestsOf", "(II)I"⟩
abbrev cX8_guests : ByteArray := prog_10_method_80_code
def yX8_guests : MethodName := ⟨RX8, "guests", "(II)I"⟩
abbrev cX8_full : ByteArray := prog_10_method_81_code
def yX8_full : MethodName := ⟨RX8, "full", "(I)I"⟩
abbrev cX8_refuses : ByteArray := prog_10_method_82_code
def yX8_refuses : MethodName := ⟨RX8, "refuses", "(I)I"⟩
abbrev cX8_insideAt : ByteArray := prog_10_method_83_code
def yX8_insideAt : MethodName := ⟨RX8, "insideAt", "(I)I"⟩
abbrev cX8_insideLast : ByteArray := prog_10_method_84_code
def yX8_insideLast : MethodName := ⟨RX8, "insideLast", "()I"⟩
abbrev cX8_inside : ByteArray := prog_10_method_85_code
def yX8_inside : MethodName := ⟨RX8, "inside", "(I)I"⟩
abbrev cX8_outside : ByteArray := prog_10_method_86_code
def yX8_outside : MethodName := ⟨RX8, "outside", "(I)I"⟩
abbrev cX8_done : ByteArray := prog_10_method_87_code
def yX8_done : MethodName := ⟨RX8, "done", "()I"⟩
abbrev cX8_crowd : ByteArray := prog_10_method_88_code
def yX8_crowd : MethodName := ⟨RX8, "crowd", "(I)I"⟩
abbrev cX8_areTwo : ByteArray := prog_10_method_89_code
def yX8_areTwo : MethodName := ⟨RX8, "areTwo", "(II)Z"⟩
abbrev cX8_meet : ByteArray := prog_10_method_90_code
def yX8_meet : MethodName := ⟨RX8, "meet", "(II)I"⟩
abbrev cX8_busy : ByteArray := prog_10_method_91_code
def yX8_busy : MethodName := ⟨RX8, "busy", "()I"⟩
abbrev cX8_idle : ByteArray := prog_10_method_92_code
def yX8_idle : MethodName := ⟨RX8, "idle", "()I"⟩
abbrev cX8_goOn : ByteArray := prog_10_method_93_code
def yX8_goOn : MethodName := ⟨RX8, "goOn", "(I)I"⟩
abbrev cX8_reach : ByteArray := prog_10_method_94_code
def yX8_reach : MethodName := ⟨RX8, "reach", "(I)I"⟩
abbrev cX8_far : ByteArray := prog_10_method_95_code
def yX8_far : MethodName := ⟨RX8, "far", "(II)I"⟩
abbrev cX8_numberOf : ByteArray := prog_10_method_96_code
def yX8_numberOf : MethodName := ⟨RX8, "numberOf", "()I"⟩
abbrev cX8_settingMany : ByteArray := prog_10_method_97_code
def yX8_settingMany : MethodName := ⟨RX8, "settingMany", "()I"⟩
abbrev cX8_someAt : ByteArray := prog_10_method_98_code
def yX8_someAt : MethodName := ⟨RX8, "someAt", "(I)V"⟩
abbrev cX8_settingAt : ByteArray := prog_10_method_99_code
def yX8_settingAt : MethodName := ⟨RX8, "settingAt", "(I)I"⟩
abbrev cX8_setting : ByteArray := prog_10_method_100_code
def yX8_setting : MethodName := ⟨RX8, "setting", "(I)I"⟩
abbrev cX8_settings : ByteArray := prog_10_method_101_code
def yX8_settings : MethodName := ⟨RX8, "settings", "()I"⟩
abbrev cX8_same : ByteArray := prog_10_method_102_code
def yX8_same : MethodName := ⟨RX8, "same", "()I"⟩
abbrev cX8_armGoes : ByteArray := prog_10_method_103_code
def yX8_armGoes : MethodName := ⟨RX8, "armGoes", "(I)I"⟩
abbrev cX8_isHomeBy : ByteArray := prog_10_method_104_code
def yX8_isHomeBy : MethodName := ⟨RX8, "isHomeBy", "(I)Z"⟩
abbrev cX8_isTree : ByteArray := prog_10_method_105_code
def yX8_isTree : MethodName := ⟨RX8, "isTree", "()Z"⟩
abbrev cX8_tree : ByteArray := prog_10_method_106_code
def yX8_tree : MethodName := ⟨RX8, "tree", "(I)I"⟩
abbrev cX8_ring : ByteArray := prog_10_method_107_code
def yX8_ring : MethodName := ⟨RX8, "ring", "(I)I"⟩
abbrev cX8_trees : ByteArray := prog_10_method_108_code
def yX8_trees : MethodName := ⟨RX8, "trees", "()I"⟩
abbrev cX8_soloBegin : ByteArray := prog_10_method_109_code
def yX8_soloBegin : MethodName := ⟨RX8, "soloBegin", "()V"⟩
abbrev cX8_solo : ByteArray := prog_10_method_110_code
def yX8_solo : MethodName := ⟨RX8, "solo", "(I)I"⟩
abbrev cX8_soloSetting : ByteArray := prog_10_method_111_code
def yX8_soloSetting : MethodName := ⟨RX8, "soloSetting", "()I"⟩
abbrev cX8_alone : ByteArray := prog_10_method_112_code
def yX8_alone : MethodName := ⟨RX8, "alone", "(I)I"⟩
abbrev cX8_steps : ByteArray := prog_10_method_113_code
def yX8_steps : MethodName := ⟨RX8, "steps", "(I)I"⟩
abbrev cX8_behind : ByteArray := prog_10_method_114_code
def yX8_behind : MethodName := ⟨RX8, "behind", "(I)I"⟩
abbrev cX8_nth : ByteArray := prog_10_method_115_code
def yX8_nth : MethodName := ⟨RX8, "nth", "(II)I"⟩
abbrev cX8_round : ByteArray := prog_10_method_116_code
def yX8_round : MethodName := ⟨RX8, "round", "(I)I"⟩
abbrev cX8_houses : ByteArray := prog_10_method_117_code
def yX8_houses : MethodName := ⟨RX8, "houses", "(III)I"⟩
abbrev cX8_cameTo : ByteArray := prog_10_method_118_code
def yX8_cameTo : MethodName := ⟨RX8, "cameTo", "(II)I"⟩
abbrev cX8_point : ByteArray := prog_10_method_119_code
def yX8_point : MethodName := ⟨RX8, "point", "(II)I"⟩
abbrev cX8_best : ByteArray := prog_10_method_120_code
def yX8_best : MethodName := ⟨RX8, "best", "()I"⟩
abbrev cX8_crowds : ByteArray := prog_10_method_121_code
def yX8_crowds : MethodName := ⟨RX8, "crowds", "()I"⟩
abbrev cX8_numberAt : ByteArray := prog_10_method_122_code
def yX8_numberAt : MethodName := ⟨RX8, "numberAt", "(II)J"⟩
abbrev cX8_askSeen : ByteArray := prog_10_method_123_code
def yX8_askSeen : MethodName := ⟨RX8, "askSeen", "(I)I"⟩
abbrev cX8_isSeen : ByteArray := prog_10_method_124_code
def yX8_isSeen : MethodName := ⟨RX8, "isSeen", "(I)Z"⟩
abbrev cX8_cellOf : ByteArray := prog_10_method_125_code
def yX8_cellOf : MethodName := ⟨RX8, "cellOf", "(III)I"⟩
abbrev cX8_mayOf : ByteArray := prog_10_method_126_code
def yX8_mayOf : MethodName := ⟨RX8, "mayOf", "(II)I"⟩
abbrev cX8_askMay : ByteArray := prog_10_method_127_code
def yX8_askMay : MethodName := ⟨RX8, "askMay", "(II)I"⟩
abbrev cX8_may : ByteArray := prog_10_method_128_code
def yX8_may : MethodName := ⟨RX8, "may", "(II)I"⟩
abbrev cX8_worstOf : ByteArray := prog_10_method_129_code
def yX8_worstOf : MethodName := ⟨RX8, "worstOf", "(III)I"⟩
abbrev cX8_askOf : ByteArray := prog_10_method_130_code
def yX8_askOf : MethodName := ⟨RX8, "askOf", "(I)I"⟩
abbrev cX8_ask : ByteArray := prog_10_method_131_code
def yX8_ask : MethodName := ⟨RX8, "ask", "(II)I"⟩
abbrev cX8_leaves : ByteArray := prog_10_method_132_code
def yX8_leaves : MethodName := ⟨RX8, "leaves", "(II)I"⟩
abbrev cX8_laws : ByteArray := prog_10_method_133_code
def yX8_laws : MethodName := ⟨RX8, "laws", "(I)I"⟩
abbrev cX8_insideBy : ByteArray := prog_10_method_134_code
def yX8_insideBy : MethodName := ⟨RX8, "insideBy", "(I)I"⟩
abbrev cX8_by : ByteArray := prog_10_method_135_code
def yX8_by : MethodName := ⟨RX8, "by", "(I)I"⟩
abbrev cX8_law : ByteArray := prog_10_method_136_code
def yX8_law : MethodName := ⟨RX8, "law", "()I"⟩
abbrev cX8_worthOf : ByteArray := prog_10_method_137_code
def yX8_worthOf : MethodName := ⟨RX8, "worthOf", "(I)I"⟩
abbrev cX8_worth : ByteArray := prog_10_method_138_code
def yX8_worth : MethodName := ⟨RX8, "worth", "(I)I"⟩
abbrev cX8_factorial : ByteArray := prog_10_method_139_code
def yX8_factorial : MethodName := ⟨RX8, "factorial", "(I)I"⟩
abbrev cX8_divisor : ByteArray := prog_10_method_140_code
def yX8_divisor : MethodName := ⟨RX8, "divisor", "(JJ)J"⟩
abbrev cX8_part : ByteArray := prog_10_method_141_code
def yX8_part : MethodName := ⟨RX8, "part", "(JJI)J"⟩
abbrev cX8_share : ByteArray := prog_10_method_142_code
def yX8_share : MethodName := ⟨RX8, "share", "(II)I"⟩
abbrev cX8_getsBy : ByteArray := prog_10_method_143_code
def yX8_getsBy : MethodName := ⟨RX8, "getsBy", "(IIIII)I"⟩
abbrev cX8_rests : ByteArray := prog_10_method_144_code
def yX8_rests : MethodName := ⟨RX8, "rests", "(II)I"⟩
abbrev cX8_gets : ByteArray := prog_10_method_145_code
def yX8_gets : MethodName := ⟨RX8, "gets", "(IIII)I"⟩
abbrev cX8_layFog : ByteArray := prog_10_method_146_code
def yX8_layFog : MethodName := ⟨RX8, "layFog", "(II)V"⟩
abbrev cX8_isFog : ByteArray := prog_10_method_147_code
def yX8_isFog : MethodName := ⟨RX8, "isFog", "(II)Z"⟩
abbrev cX8_chance : ByteArray := prog_10_method_148_code
def yX8_chance : MethodName := ⟨RX8, "chance", "(III)J"⟩
abbrev cX8_mean : ByteArray := prog_10_method_149_code
def yX8_mean : MethodName := ⟨RX8, "mean", "(II)J"⟩
abbrev cX8_keepAct : ByteArray := prog_10_method_150_code
def yX8_keepAct : MethodName := ⟨RX8, "keepAct", "(I)Z"⟩
abbrev cX8_twists : ByteArray := prog_10_method_151_code
def yX8_twists : MethodName := ⟨RX8, "twists", "(II)I"⟩
abbrev cX8_holds : ByteArray := prog_10_method_152_code
def yX8_holds : MethodName := ⟨RX8, "holds", "(II)I"⟩
abbrev cX8_undo : ByteArray := prog_10_method_153_code
def yX8_undo : MethodName := ⟨RX8, "undo", "()I"⟩
abbrev cX8_anew : ByteArray := prog_10_method_154_code
def yX8_anew : MethodName := ⟨RX8, "anew", "()I"⟩
abbrev cX8_goDrawn : ByteArray := prog_10_method_155_code
def yX8_goDrawn : MethodName := ⟨RX8, "goDrawn", "(J)V"⟩
abbrev cX8_isSeed : ByteArray := prog_10_method_156_code
def yX8_isSeed : MethodName := ⟨RX8, "isSeed", "(I)Z"⟩
abbrev cX8_drawn : ByteArray := prog_10_method_157_code
def yX8_drawn : MethodName := ⟨RX8, "drawn", "(II)I"⟩
abbrev cX8_luck : ByteArray := prog_10_method_158_code
def yX8_luck : MethodName := ⟨RX8, "luck", "(III)I"⟩
abbrev cX8_rate : ByteArray := prog_10_method_159_code
def yX8_rate : MethodName := ⟨RX8, "rate", "(II)I"⟩
abbrev cX8_count : ByteArray := prog_10_method_160_code
def yX8_count : MethodName := ⟨RX8, "count", "(I)I"⟩
abbrev cX8_isSlot : ByteArray := prog_10_method_161_code
def yX8_isSlot : MethodName := ⟨RX8, "isSlot", "(I)Z"⟩
abbrev cX8_clipped : ByteArray := prog_10_method_162_code
def yX8_clipped : MethodName := ⟨RX8, "clipped", "(JI)J"⟩
abbrev cX8_row : ByteArray := prog_10_method_163_code
def yX8_row : MethodName := ⟨RX8, "row", "(III)I"⟩
abbrev cX8_write : ByteArray := prog_10_method_164_code
def yX8_write : MethodName := ⟨RX8, "write", "(IIJ)I"⟩
abbrev cX8_paste : ByteArray := prog_10_method_165_code
def yX8_paste : MethodName := ⟨RX8, "paste", "(IIIII)I"⟩
def RJx145de : String := "java/io/Serializable"
def TJx145de : u_T := fun k => match k with
  | _ => ("", "", "", false)
def tyJx145de : Nat → FieldType := fun k => match k with
  | _ => .int
abbrev wsJx145de0 : List Cond := u_ws RJx145de TJx145de 0
theorem nmJx145de : ∀ a, a < 0 → ∀ b, b < 0 → a ≠ b → (TJx145de a).2.1 ≠ (TJx145de b).2.1 := by decide +kernel
theorem tyJx145de_ok : ∀ k, k < 0 → parseFieldDescriptor (TJx145de k).2.2.1 = some (tyJx145de k) := by decide +kernel
def RJx9f9b0 : String := "java/lang/CharSequence"
def TJx9f9b0 : u_T := fun k => match k with
  | _ => ("", "", "", false)
def tyJx9f9b0 : Nat → FieldType := fun k => match k with
  | _ => .int
abbrev wsJx9f9b00 : List Cond := u_ws RJx9f9b0 TJx9f9b0 0
theorem nmJx9f9b0 : ∀ a, a < 0 → ∀ b, b < 0 → a ≠ b → (TJx9f9b0 a).2.1 ≠ (TJx9f9b0 b).2.1 := by decide +kernel
theorem tyJx9f9b0_ok : ∀ k, k < 0 → parseFieldDescriptor (TJx9f9b0 k).2.2.1 = some (tyJx9f9b0 k) := by decide +kernel
def RJxb160c : String := "java/lang/Comparable"
def TJxb160c : u_T := fun k => match k with
  | _ => ("", "", "", false)
def tyJxb160c : Nat → FieldType := fun k => match k with
  | _ => .int
abbrev wsJxb160c0 : List Cond := u_ws RJxb160c TJxb160c 0
theorem nmJxb160c : ∀ a, a < 0 → ∀ b, b < 0 → a ≠ b → (TJxb160c a).2.1 ≠ (TJxb160c b).2.1 := by decide +kernel
theorem tyJxb160c_ok : ∀ k, k < 0 → parseFieldDescriptor (TJxb160c k).2.2.1 = some (tyJxb160c k) := by decide +kernel
def RJ6 : String := "java/lang/Integer"
def TJ6 : u_T := fun k => match k with
  | _ => ("", "", "", false)
def tyJ6 : Nat → FieldType := fun k => match k with
  | _ => .int
abbrev wsJ60 : List Cond := u_ws RJ6 TJ6 0
theorem nmJ6 : ∀ a, a < 0 → ∀ b, b < 0 → a ≠ b → (TJ6 a).2.1 ≠ (TJ6 b).2.1 := by decide +kernel
theorem tyJ6_ok : ∀ k, k < 0 → parseFieldDescriptor (TJ6 k).2.2.1 = some (tyJ6 k) := by decide +kernel
abbrev cJ6_bitCount_0f7a4 : ByteArray := prog_11_method_49_code
def yJ6_bitCount_0f7a4 : MethodName := ⟨RJ6, "bitCount", "(I)I"⟩
def RJ9 : String := "java/lang/Math"
def TJ9 : u_T := fun k => match k with
  | _ => ("", "", "", false)
def tyJ9 : Nat → FieldType := fun k => match k with
  | _ => .int
abbrev wsJ90 : List Cond := u_ws RJ9 TJ9 0
theorem nmJ9 : ∀ a, a < 0 → ∀ b, b < 0 → a ≠ b → (TJ9 a).2.1 ≠ (TJ9 b).2.1 := by decide +kernel
theorem tyJ9_ok : ∀ k, k < 0 → parseFieldDescriptor (TJ9 k).2.2.1 = some (tyJ9 k) := by decide +kernel
abbrev cJ9_abs_067f4 : ByteArray := prog_12_method_61_code
def yJ9_abs_067f4 : MethodName := ⟨RJ9, "abs", "(J)J"⟩
abbrev cJ9_max_7cf53 : ByteArray := prog_12_method_65_code
def yJ9_max_7cf53 : MethodName := ⟨RJ9, "max", "(II)I"⟩
abbrev cJ9_min_7cf53 : ByteArray := prog_12_method_69_code
def yJ9_min_7cf53 : MethodName := ⟨RJ9, "min", "(II)I"⟩
def RJ0 : String := "java/lang/String"
def TJ0 : u_T := fun k => match k with
  | _ => ("", "", "", false)
def tyJ0 : Nat → FieldType := fun k => match k with
  | _ => .int
abbrev wsJ00 : List Cond := u_ws RJ0 TJ0 0
theorem nmJ0 : ∀ a, a < 0 → ∀ b, b < 0 → a ≠ b → (TJ0 a).2.1 ≠ (TJ0 b).2.1 := by decide +kernel
theorem tyJ0_ok : ∀ k, k < 0 → parseFieldDescriptor (TJ0 k).2.2.1 = some (tyJ0 k) := by decide +kernel
abbrev cJ0_length_8abf5 : ByteArray := prog_13_method_54_code
def yJ0_length_8abf5 : MethodName := ⟨RJ0, "length", "()I"⟩
abbrev cJ0_charAt_5068e : ByteArray := prog_13_method_56_code
def yJ0_charAt_5068e : MethodName := ⟨RJ0, "charAt", "(I)C"⟩
abbrev cJ0_coder_7d493 : ByteArray := prog_13_method_152_code
def yJ0_coder_7d493 : MethodName := ⟨RJ0, "coder", "()B"⟩
abbrev cJ0_isLatin1_aae02 : ByteArray := prog_13_method_154_code
def yJ0_isLatin1_aae02 : MethodName := ⟨RJ0, "isLatin1", "()Z"⟩
abbrev cJ0_checkIndex_df160 : ByteArray := prog_13_method_155_code
def yJ0_checkIndex_df160 : MethodName := ⟨RJ0, "checkIndex", "(II)V"⟩
def RJ1 : String := "java/lang/StringLatin1"
def TJ1 : u_T := fun k => match k with
  | _ => ("", "", "", false)
def tyJ1 : Nat → FieldType := fun k => match k with
  | _ => .int
abbrev wsJ10 : List Cond := u_ws RJ1 TJ1 0
theorem nmJ1 : ∀ a, a < 0 → ∀ b, b < 0 → a ≠ b → (TJ1 a).2.1 ≠ (TJ1 b).2.1 := by decide +kernel
theorem tyJ1_ok : ∀ k, k < 0 → parseFieldDescriptor (TJ1 k).2.2.1 = some (tyJ1 k) := by decide +kernel
abbrev cJ1_charAt_3b067 : ByteArray := prog_14_method_2_code
def yJ1_charAt_3b067 : MethodName := ⟨RJ1, "charAt", "([BI)C"⟩
def RJ2 : String := "java/lang/StringUTF16"
def TJ2 : u_T := fun k => match k with
  | _ => ("", "", "", false)
def tyJ2 : Nat → FieldType := fun k => match k with
  | _ => .int
abbrev wsJ20 : List Cond := u_ws RJ2 TJ2 0
theorem nmJ2 : ∀ a, a < 0 → ∀ b, b < 0 → a ≠ b → (TJ2 a).2.1 ≠ (TJ2 b).2.1 := by decide +kernel
theorem tyJ2_ok : ∀ k, k < 0 → parseFieldDescriptor (TJ2 k).2.2.1 = some (tyJ2 k) := by decide +kernel
abbrev cJ2_getChar_3b067 : ByteArray := prog_15_method_5_code
def yJ2_getChar_3b067 : MethodName := ⟨RJ2, "getChar", "([BI)C"⟩
abbrev cJ2_length_9d52b : ByteArray := prog_15_method_6_code
def yJ2_length_9d52b : MethodName := ⟨RJ2, "length", "([B)I"⟩
abbrev cJ2_charAt_3b067 : ByteArray := prog_15_method_83_code
def yJ2_charAt_3b067 : MethodName := ⟨RJ2, "charAt", "([BI)C"⟩
abbrev cJ2_checkIndex_2214a : ByteArray := prog_15_method_91_code
def yJ2_checkIndex_2214a : MethodName := ⟨RJ2, "checkIndex", "(I[B)V"⟩
def RJ10 : String := "java/lang/System"
def TJ10 : u_T := fun k => match k with
  | _ => ("", "", "", false)
def tyJ10 : Nat → FieldType := fun k => match k with
  | _ => .int
abbrev wsJ100 : List Cond := u_ws RJ10 TJ10 0
theorem nmJ10 : ∀ a, a < 0 → ∀ b, b < 0 → a ≠ b → (TJ10 a).2.1 ≠ (TJ10 b).2.1 := by decide +kernel
theorem tyJ10_ok : ∀ k, k < 0 → parseFieldDescriptor (TJ10 k).2.2.1 = some (tyJ10 k) := by decide +kernel
def RJxfd54e : String := "java/lang/constant/Constable"
def TJxfd54e : u_T := fun k => match k with
  | _ => ("", "", "", false)
def tyJxfd54e : Nat → FieldType := fun k => match k with
  | _ => .int
abbrev wsJxfd54e0 : List Cond := u_ws RJxfd54e TJxfd54e 0
theorem nmJxfd54e : ∀ a, a < 0 → ∀ b, b < 0 → a ≠ b → (TJxfd54e a).2.1 ≠ (TJxfd54e b).2.1 := by decide +kernel
theorem tyJxfd54e_ok : ∀ k, k < 0 → parseFieldDescriptor (TJxfd54e k).2.2.1 = some (tyJxfd54e k) := by decide +kernel
def RJx3cf43 : String := "java/lang/constant/ConstantDesc"
def TJx3cf43 : u_T := fun k => match k with
  | _ => ("", "", "", false)
def tyJx3cf43 : Nat → FieldType := fun k => match k with
  | _ => .int
abbrev wsJx3cf430 : List Cond := u_ws RJx3cf43 TJx3cf43 0
theorem nmJx3cf43 : ∀ a, a < 0 → ∀ b, b < 0 → a ≠ b → (TJx3cf43 a).2.1 ≠ (TJx3cf43 b).2.1 := by decide +kernel
theorem tyJx3cf43_ok : ∀ k, k < 0 → parseFieldDescriptor (TJx3cf43 k).2.2.1 = some (tyJx3cf43 k) := by decide +kernel
def RJ7 : String := "java/util/Arrays"
def TJ7 : u_T := fun k => match k with
  | _ => ("", "", "", false)
def tyJ7 : Nat → FieldType := fun k => match k with
  | _ => .int
abbrev wsJ70 : List Cond := u_ws RJ7 TJ7 0
theorem nmJ7 : ∀ a, a < 0 → ∀ b, b < 0 → a ≠ b → (TJ7 a).2.1 ≠ (TJ7 b).2.1 := by decide +kernel
theorem tyJ7_ok : ∀ k, k < 0 → parseFieldDescriptor (TJ7 k).2.2.1 = some (tyJ7 k) := by decide +kernel
abbrev cJ7_fill_d0a16 : ByteArray := prog_17_method_101_code
def yJ7_fill_d0a16 : MethodName := ⟨RJ7, "fill", "([JJ)V"⟩
abbrev cJ7_fill_53178 : ByteArray := prog_17_method_103_code
def yJ7_fill_53178 : MethodName := ⟨RJ7, "fill", "([II)V"⟩
def RJ3 : String := "jdk/internal/util/Preconditions"
def TJ3 : u_T := fun k => match k with
  | _ => ("", "", "", false)
def tyJ3 : Nat → FieldType := fun k => match k with
  | _ => .int
abbrev wsJ30 : List Cond := u_ws RJ3 TJ3 0
theorem nmJ3 : ∀ a, a < 0 → ∀ b, b < 0 → a ≠ b → (TJ3 a).2.1 ≠ (TJ3 b).2.1 := by decide +kernel
theorem tyJ3_ok : ∀ k, k < 0 → parseFieldDescriptor (TJ3 k).2.2.1 = some (tyJ3 k) := by decide +kernel
abbrev cJ3_checkIndex_8e157 : ByteArray := prog_18_method_11_code
def yJ3_checkIndex_8e157 : MethodName := ⟨RJ3, "checkIndex", "(IILjava/util/function/BiFunction;)I"⟩
def RL : String := "ObligingPostsLaw"
abbrev cL_law : ByteArray := code
def yL_law : MethodName := ⟨RL, "law", "([I)Z"⟩
abbrev vwCl : List vw_C := [(RX0, TX0, 3), (RX1, TX1, 4), (RX2, TX2, 16), (RX3, TX3, 3), (RX4, TX4, 9), (RX5, TX5, 3), (RX6, TX6, 8), (RX7, TX7, 12), (RX8, TX8, 41)]
def tblG : List Cond := lw_tbl.filter goodWord
theorem gwA {w : Cond} (h : w ∈ lw_tbl) (g : goodWord w = true) : w ∈ tblG := List.mem_filter.mpr ⟨h, g⟩
theorem gw0 {w : Cond} (i : Nat) (h : (k2_sels lw_privs)[i]? = some w) (g : goodWord w = true) : w ∈ tblG := gwA (List.mem_append_left _ (List.mem_of_getElem? h)) g
theorem gw1 {w : Cond} (i : Nat) (h : tables_1_1[i]? = some w) (g : goodWord w = true) : w ∈ tblG := gwA (List.mem_append_right _ (show w ∈ tables_1 from (List.mem_append_left _ (List.mem_of_getElem? h)))) g
theorem gw2 {w : Cond} (i : Nat) (h : tables_1_2[i]? = some w) (g : goodWord w = true) : w ∈ tblG := gwA (List.mem_append_right _ (show w ∈ tables_1 from (List.mem_append_right _ (List.mem_append_left _ (List.mem_of_getElem? h))))) g
theorem gw3 {w : Cond} (i : Nat) (h : tables_1_3[i]? = some w) (g : goodWord w = true) : w ∈ tblG := gwA (List.mem_append_right _ (show w ∈ tables_1 from (List.mem_append_right _ (List.mem_append_right _ (List.mem_append_left _ (List.mem_of_getElem? h)))))) g
theorem gw4 {w : Cond} (i : Nat) (h : tables_1_4[i]? = some w) (g : goodWord w = true) : w ∈ tblG := gwA (List.mem_append_right _ (show w ∈ tables_1 from (List.mem_append_right _ (List.mem_append_right _ (List.mem_append_right _ (List.mem_append_left _ (List.mem_of_getElem? h))))))) g
theorem gw5 {w : Cond} (i : Nat) (h : tables_1_5[i]? = some w) (g : goodWord w = true) : w ∈ tblG := gwA (List.mem_append_right _ (show w ∈ tables_1 from (List.mem_append_right _ (List.mem_append_right _ (List.mem_append_right _ (List.mem_append_right _ (List.mem_append_left _ (List.mem_of_getElem? h)))))))) g
theorem gw6 {w : Cond} (i : Nat) (h : tables_1_6[i]? = some w) (g : goodWord w = true) : w ∈ tblG := gwA (List.mem_append_right _ (show w ∈ tables_1 from (List.mem_append_right _ (List.mem_append_right _ (List.mem_append_right _ (List.mem_append_right _ (List.mem_append_right _ (List.mem_append_left _ (List.mem_of_getElem? h))))))))) g
theorem gw7 {w : Cond} (i : Nat) (h : tables_1_7[i]? = some w) (g : goodWord w = true) : w ∈ tblG := gwA (List.mem_append_right _ (show w ∈ tables_1 from (List.mem_append_right _ (List.mem_append_right _ (List.mem_append_right _ (List.mem_append_right _ (List.mem_append_right _ (List.mem_append_right _ (List.mem_append_left _ (List.mem_of_getElem? h)))))))))) g
theorem gw8 {w : Cond} (i : Nat) (h : tables_1_8[i]? = some w) (g : goodWord w = true) : w ∈ tblG := gwA (List.mem_append_right _ (show w ∈ tables_1 from (List.mem_append_right _ (List.mem_append_right _ (List.mem_append_right _ (List.mem_append_right _ (List.mem_append_right _ (List.mem_append_right _ (List.mem_append_right _ (List.mem_append_left _ (List.mem_of_getElem? h))))))))))) g
theorem gw9 {w : Cond} (i : Nat) (h : tables_1_9[i]? = some w) (g : goodWord w = true) : w ∈ tblG := gwA (List.mem_append_right _ (show w ∈ tables_1 from (List.mem_append_right _ (List.mem_append_right _ (List.mem_append_right _ (List.mem_append_right _ (List.mem_append_right _ (List.mem_append_right _ (List.mem_append_right _ (List.mem_append_right _ (List.mem_of_getElem? h))))))))))) g
theorem tblG_hts {args : Array Value} {s : State} (h : ∀ w ∈ lw_tbl, w.before args s = true) : ∀ w ∈ tblG, w.before args s = true := fun w hw => h w (List.mem_filter.mp hw).1

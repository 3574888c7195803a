section
-- ===== PART A: goes FIRST, ahead of the names: the tables' words, and 'selects' of the private methods out of them =====
def lw_okq (q : MethodName × Nat) : Prop := (q.1.cls ≠ "java/lang/invoke/MethodHandle" ∧ q.1.cls ≠ "java/lang/invoke/VarHandle") ∧ Cond.instantiable q.1.cls q.2 ∈ tables_1 ∧ Cond.privateMethod q.1 ∈ tables_1 ∧ Cond.instanceMethod q.1 ∈ tables_1
theorem lw_p0 : lw_okq (⟨"ObligingPosts$Tape", "take", "()V"⟩, 8) := ⟨⟨by decide +kernel, by decide +kernel⟩, List.mem_of_getElem? (i := 27) (by decide +kernel), List.mem_of_getElem? (i := 334) (by decide +kernel), List.mem_of_getElem? (i := 335) (by decide +kernel)⟩
theorem lw_p1 : lw_okq (⟨"ObligingPosts$Tape", "readLine", "(LObligingPosts$Heath;)V"⟩, 8) := ⟨⟨by decide +kernel, by decide +kernel⟩, List.mem_of_getElem? (i := 27) (by decide +kernel), List.mem_of_getElem? (i := 351) (by decide +kernel), List.mem_of_getElem? (i := 352) (by decide +kernel)⟩
theorem lw_p2 : lw_okq (⟨"ObligingPosts$Tape", "isWord", "(Ljava/lang/String;)Z"⟩, 8) := ⟨⟨by decide +kernel, by decide +kernel⟩, List.mem_of_getElem? (i := 27) (by decide +kernel), List.mem_of_getElem? (i := 356) (by decide +kernel), List.mem_of_getElem? (i := 357) (by decide +kernel)⟩
theorem lw_p3 : lw_okq (⟨"ObligingPosts$Tape", "readHeath", "(LObligingPosts$Heath;)V"⟩, 8) := ⟨⟨by decide +kernel, by decide +kernel⟩, List.mem_of_getElem? (i := 27) (by decide +kernel), List.mem_of_getElem? (i := 408) (by decide +kernel), List.mem_of_getElem? (i := 409) (by decide +kernel)⟩
theorem lw_p4 : lw_okq (⟨"ObligingPosts$Tape", "takeWord", "(Ljava/lang/String;)V"⟩, 8) := ⟨⟨by decide +kernel, by decide +kernel⟩, List.mem_of_getElem? (i := 27) (by decide +kernel), List.mem_of_getElem? (i := 413) (by decide +kernel), List.mem_of_getElem? (i := 414) (by decide +kernel)⟩
theorem lw_p5 : lw_okq (⟨"ObligingPosts$Tape", "fail", "(I)V"⟩, 8) := ⟨⟨by decide +kernel, by decide +kernel⟩, List.mem_of_getElem? (i := 27) (by decide +kernel), List.mem_of_getElem? (i := 417) (by decide +kernel), List.mem_of_getElem? (i := 418) (by decide +kernel)⟩
theorem lw_p6 : lw_okq (⟨"ObligingPosts$Tape", "takeNumber", "(II)I"⟩, 8) := ⟨⟨by decide +kernel, by decide +kernel⟩, List.mem_of_getElem? (i := 27) (by decide +kernel), List.mem_of_getElem? (i := 421) (by decide +kernel), List.mem_of_getElem? (i := 422) (by decide +kernel)⟩
theorem lw_p7 : lw_okq (⟨"ObligingPosts$Tape", "numberHere", "(II)I"⟩, 8) := ⟨⟨by decide +kernel, by decide +kernel⟩, List.mem_of_getElem? (i := 27) (by decide +kernel), List.mem_of_getElem? (i := 425) (by decide +kernel), List.mem_of_getElem? (i := 426) (by decide +kernel)⟩
theorem lw_p8 : lw_okq (⟨"ObligingPosts$Tape", "readInn", "(LObligingPosts$Heath;)V"⟩, 8) := ⟨⟨by decide +kernel, by decide +kernel⟩, List.mem_of_getElem? (i := 27) (by decide +kernel), List.mem_of_getElem? (i := 432) (by decide +kernel), List.mem_of_getElem? (i := 433) (by decide +kernel)⟩
theorem lw_p9 : lw_okq (⟨"ObligingPosts$Tape", "takeWordOfFew", "(II)V"⟩, 8) := ⟨⟨by decide +kernel, by decide +kernel⟩, List.mem_of_getElem? (i := 27) (by decide +kernel), List.mem_of_getElem? (i := 436) (by decide +kernel), List.mem_of_getElem? (i := 437) (by decide +kernel)⟩
theorem lw_p10 : lw_okq (⟨"ObligingPosts$Tape", "readPost", "(LObligingPosts$Heath;)V"⟩, 8) := ⟨⟨by decide +kernel, by decide +kernel⟩, List.mem_of_getElem? (i := 27) (by decide +kernel), List.mem_of_getElem? (i := 442) (by decide +kernel), List.mem_of_getElem? (i := 443) (by decide +kernel)⟩
theorem lw_p11 : lw_okq (⟨"ObligingPosts$Tape", "readRoad", "(LObligingPosts$Heath;)V"⟩, 8) := ⟨⟨by decide +kernel, by decide +kernel⟩, List.mem_of_getElem? (i := 27) (by decide +kernel), List.mem_of_getElem? (i := 447) (by decide +kernel), List.mem_of_getElem? (i := 448) (by decide +kernel)⟩
theorem lw_p12 : lw_okq (⟨"ObligingPosts$Tape", "readArm", "(LObligingPosts$Heath;)V"⟩, 8) := ⟨⟨by decide +kernel, by decide +kernel⟩, List.mem_of_getElem? (i := 27) (by decide +kernel), List.mem_of_getElem? (i := 458) (by decide +kernel), List.mem_of_getElem? (i := 459) (by decide +kernel)⟩
theorem lw_p13 : lw_okq (⟨"ObligingPosts$Tape", "readWalker", "(LObligingPosts$Heath;)V"⟩, 8) := ⟨⟨by decide +kernel, by decide +kernel⟩, List.mem_of_getElem? (i := 27) (by decide +kernel), List.mem_of_getElem? (i := 463) (by decide +kernel), List.mem_of_getElem? (i := 464) (by decide +kernel)⟩
theorem lw_p14 : lw_okq (⟨"ObligingPosts$Tape", "takeSign", "()V"⟩, 8) := ⟨⟨by decide +kernel, by decide +kernel⟩, List.mem_of_getElem? (i := 27) (by decide +kernel), List.mem_of_getElem? (i := 468) (by decide +kernel), List.mem_of_getElem? (i := 469) (by decide +kernel)⟩
theorem lw_p15 : lw_okq (⟨"ObligingPosts", "changed", "()V"⟩, 12) := ⟨⟨by decide +kernel, by decide +kernel⟩, List.mem_of_getElem? (i := 19) (by decide +kernel), List.mem_of_getElem? (i := 484) (by decide +kernel), List.mem_of_getElem? (i := 485) (by decide +kernel)⟩
def lw_privs_1 : List (MethodName × Nat) := [(⟨"ObligingPosts$Tape", "take", "()V"⟩, 8), (⟨"ObligingPosts$Tape", "readLine", "(LObligingPosts$Heath;)V"⟩, 8), (⟨"ObligingPosts$Tape", "isWord", "(Ljava/lang/String;)Z"⟩, 8), (⟨"ObligingPosts$Tape", "readHeath", "(LObligingPosts$Heath;)V"⟩, 8), (⟨"ObligingPosts$Tape", "takeWord", "(Ljava/lang/String;)V"⟩, 8), (⟨"ObligingPosts$Tape", "fail", "(I)V"⟩, 8), (⟨"ObligingPosts$Tape", "takeNumber", "(II)I"⟩, 8), (⟨"ObligingPosts$Tape", "numberHere", "(II)I"⟩, 8), (⟨"ObligingPosts$Tape", "readInn", "(LObligingPosts$Heath;)V"⟩, 8), (⟨"ObligingPosts$Tape", "takeWordOfFew", "(II)V"⟩, 8), (⟨"ObligingPosts$Tape", "readPost", "(LObligingPosts$Heath;)V"⟩, 8), (⟨"ObligingPosts$Tape", "readRoad", "(LObligingPosts$Heath;)V"⟩, 8), (⟨"ObligingPosts$Tape", "readArm", "(LObligingPosts$Heath;)V"⟩, 8), (⟨"ObligingPosts$Tape", "readWalker", "(LObligingPosts$Heath;)V"⟩, 8), (⟨"ObligingPosts$Tape", "takeSign", "()V"⟩, 8), (⟨"ObligingPosts", "changed", "()V"⟩, 12)]
theorem lw_r1 : ∀ q ∈ lw_privs_1, lw_okq q := List.forall_mem_cons.mpr ⟨lw_p0, List.forall_mem_cons.mpr ⟨lw_p1, List.forall_mem_cons.mpr ⟨lw_p2, List.forall_mem_cons.mpr ⟨lw_p3, List.forall_mem_cons.mpr ⟨lw_p4, List.forall_mem_cons.mpr ⟨lw_p5, List.forall_mem_cons.mpr ⟨lw_p6, List.forall_mem_cons.mpr ⟨lw_p7, List.forall_mem_cons.mpr ⟨lw_p8, List.forall_mem_cons.mpr ⟨lw_p9, List.forall_mem_cons.mpr ⟨lw_p10, List.forall_mem_cons.mpr ⟨lw_p11, List.forall_mem_cons.mpr ⟨lw_p12, List.forall_mem_cons.mpr ⟨lw_p13, List.forall_mem_cons.mpr ⟨lw_p14, List.forall_mem_cons.mpr ⟨lw_p15, fun _ h => absurd h List.not_mem_nil⟩⟩⟩⟩⟩⟩⟩⟩⟩⟩⟩⟩⟩⟩⟩⟩
theorem lw_p16 : lw_okq (⟨"ObligingPosts$Night", "turnByActs", "(I)V"⟩, 9) := ⟨⟨by decide +kernel, by decide +kernel⟩, List.mem_of_getElem? (i := 184) (by decide +kernel), List.mem_of_getElem? (i := 509) (by decide +kernel), List.mem_of_getElem? (i := 510) (by decide +kernel)⟩
theorem lw_p17 : lw_okq (⟨"ObligingPosts$Night", "countGuests", "(I)V"⟩, 9) := ⟨⟨by decide +kernel, by decide +kernel⟩, List.mem_of_getElem? (i := 184) (by decide +kernel), List.mem_of_getElem? (i := 525) (by decide +kernel), List.mem_of_getElem? (i := 526) (by decide +kernel)⟩
theorem lw_p18 : lw_okq (⟨"ObligingPosts$Night", "isSentFrom", "(II)Z"⟩, 9) := ⟨⟨by decide +kernel, by decide +kernel⟩, List.mem_of_getElem? (i := 184) (by decide +kernel), List.mem_of_getElem? (i := 534) (by decide +kernel), List.mem_of_getElem? (i := 535) (by decide +kernel)⟩
theorem lw_p19 : lw_okq (⟨"ObligingPosts$Night", "sendOn", "(II)V"⟩, 9) := ⟨⟨by decide +kernel, by decide +kernel⟩, List.mem_of_getElem? (i := 184) (by decide +kernel), List.mem_of_getElem? (i := 542) (by decide +kernel), List.mem_of_getElem? (i := 543) (by decide +kernel)⟩
theorem lw_p20 : lw_okq (⟨"ObligingPosts$Night", "letsIn", "(I)Z"⟩, 9) := ⟨⟨by decide +kernel, by decide +kernel⟩, List.mem_of_getElem? (i := 184) (by decide +kernel), List.mem_of_getElem? (i := 554) (by decide +kernel), List.mem_of_getElem? (i := 555) (by decide +kernel)⟩
theorem lw_p21 : lw_okq (⟨"ObligingPosts$Night", "stayOn", "(II)V"⟩, 9) := ⟨⟨by decide +kernel, by decide +kernel⟩, List.mem_of_getElem? (i := 184) (by decide +kernel), List.mem_of_getElem? (i := 558) (by decide +kernel), List.mem_of_getElem? (i := 559) (by decide +kernel)⟩
theorem lw_p22 : lw_okq (⟨"ObligingPosts$Night", "isSent", "(II)Z"⟩, 9) := ⟨⟨by decide +kernel, by decide +kernel⟩, List.mem_of_getElem? (i := 184) (by decide +kernel), List.mem_of_getElem? (i := 651) (by decide +kernel), List.mem_of_getElem? (i := 652) (by decide +kernel)⟩
theorem lw_p23 : lw_okq (⟨"ObligingPosts$Night", "postBit", "(II)I"⟩, 9) := ⟨⟨by decide +kernel, by decide +kernel⟩, List.mem_of_getElem? (i := 184) (by decide +kernel), List.mem_of_getElem? (i := 700) (by decide +kernel), List.mem_of_getElem? (i := 701) (by decide +kernel)⟩
theorem lw_p24 : lw_okq (⟨"ObligingPosts$Night", "isRefused", "(III)Z"⟩, 9) := ⟨⟨by decide +kernel, by decide +kernel⟩, List.mem_of_getElem? (i := 184) (by decide +kernel), List.mem_of_getElem? (i := 761) (by decide +kernel), List.mem_of_getElem? (i := 762) (by decide +kernel)⟩
theorem lw_p25 : lw_okq (⟨"ObligingPosts", "areTwo", "(II)Z"⟩, 12) := ⟨⟨by decide +kernel, by decide +kernel⟩, List.mem_of_getElem? (i := 19) (by decide +kernel), List.mem_of_getElem? (i := 815) (by decide +kernel), List.mem_of_getElem? (i := 816) (by decide +kernel)⟩
theorem lw_p26 : lw_okq (⟨"ObligingPosts$Heath", "oneRoadOn", "(I)I"⟩, 16) := ⟨⟨by decide +kernel, by decide +kernel⟩, List.mem_of_getElem? (i := 62) (by decide +kernel), List.mem_of_getElem? (i := 839) (by decide +kernel), List.mem_of_getElem? (i := 840) (by decide +kernel)⟩
theorem lw_p27 : lw_okq (⟨"ObligingPosts", "settingIn", "(I)I"⟩, 12) := ⟨⟨by decide +kernel, by decide +kernel⟩, List.mem_of_getElem? (i := 19) (by decide +kernel), List.mem_of_getElem? (i := 855) (by decide +kernel), List.mem_of_getElem? (i := 856) (by decide +kernel)⟩
theorem lw_p28 : lw_okq (⟨"ObligingPosts$Heath", "leadsToInn", "([III)Z"⟩, 16) := ⟨⟨by decide +kernel, by decide +kernel⟩, List.mem_of_getElem? (i := 62) (by decide +kernel), List.mem_of_getElem? (i := 927) (by decide +kernel), List.mem_of_getElem? (i := 928) (by decide +kernel)⟩
theorem lw_p29 : lw_okq (⟨"ObligingPosts$Heath", "leadsBack", "([III)Z"⟩, 16) := ⟨⟨by decide +kernel, by decide +kernel⟩, List.mem_of_getElem? (i := 62) (by decide +kernel), List.mem_of_getElem? (i := 939) (by decide +kernel), List.mem_of_getElem? (i := 940) (by decide +kernel)⟩
theorem lw_p30 : lw_okq (⟨"ObligingPosts", "runPointed", "(II)V"⟩, 12) := ⟨⟨by decide +kernel, by decide +kernel⟩, List.mem_of_getElem? (i := 19) (by decide +kernel), List.mem_of_getElem? (i := 959) (by decide +kernel), List.mem_of_getElem? (i := 960) (by decide +kernel)⟩
theorem lw_p31 : lw_okq (⟨"ObligingPosts", "refusalOfSeen", "(IZ)I"⟩, 12) := ⟨⟨by decide +kernel, by decide +kernel⟩, List.mem_of_getElem? (i := 19) (by decide +kernel), List.mem_of_getElem? (i := 984) (by decide +kernel), List.mem_of_getElem? (i := 985) (by decide +kernel)⟩
def lw_privs_2 : List (MethodName × Nat) := [(⟨"ObligingPosts$Night", "turnByActs", "(I)V"⟩, 9), (⟨"ObligingPosts$Night", "countGuests", "(I)V"⟩, 9), (⟨"ObligingPosts$Night", "isSentFrom", "(II)Z"⟩, 9), (⟨"ObligingPosts$Night", "sendOn", "(II)V"⟩, 9), (⟨"ObligingPosts$Night", "letsIn", "(I)Z"⟩, 9), (⟨"ObligingPosts$Night", "stayOn", "(II)V"⟩, 9), (⟨"ObligingPosts$Night", "isSent", "(II)Z"⟩, 9), (⟨"ObligingPosts$Night", "postBit", "(II)I"⟩, 9), (⟨"ObligingPosts$Night", "isRefused", "(III)Z"⟩, 9), (⟨"ObligingPosts", "areTwo", "(II)Z"⟩, 12), (⟨"ObligingPosts$Heath", "oneRoadOn", "(I)I"⟩, 16), (⟨"ObligingPosts", "settingIn", "(I)I"⟩, 12), (⟨"ObligingPosts$Heath", "leadsToInn", "([III)Z"⟩, 16), (⟨"ObligingPosts$Heath", "leadsBack", "([III)Z"⟩, 16), (⟨"ObligingPosts", "runPointed", "(II)V"⟩, 12), (⟨"ObligingPosts", "refusalOfSeen", "(IZ)I"⟩, 12)]
theorem lw_r2 : ∀ q ∈ lw_privs_2, lw_okq q := List.forall_mem_cons.mpr ⟨lw_p16, List.forall_mem_cons.mpr ⟨lw_p17, List.forall_mem_cons.mpr ⟨lw_p18, List.forall_mem_cons.mpr ⟨lw_p19, List.forall_mem_cons.mpr ⟨lw_p20, List.forall_mem_cons.mpr ⟨lw_p21, List.forall_mem_cons.mpr ⟨lw_p22, List.forall_mem_cons.mpr ⟨lw_p23, List.forall_mem_cons.mpr ⟨lw_p24, List.forall_mem_cons.mpr ⟨lw_p25, List.forall_mem_cons.mpr ⟨lw_p26, List.forall_mem_cons.mpr ⟨lw_p27, List.forall_mem_cons.mpr ⟨lw_p28, List.forall_mem_cons.mpr ⟨lw_p29, List.forall_mem_cons.mpr ⟨lw_p30, List.forall_mem_cons.mpr ⟨lw_p31, fun _ h => absurd h List.not_mem_nil⟩⟩⟩⟩⟩⟩⟩⟩⟩⟩⟩⟩⟩⟩⟩⟩
theorem lw_p32 : lw_okq (⟨"ObligingPosts", "tellsPlaces", "(LObligingPosts$Slot;)Z"⟩, 12) := ⟨⟨by decide +kernel, by decide +kernel⟩, List.mem_of_getElem? (i := 19) (by decide +kernel), List.mem_of_getElem? (i := 991) (by decide +kernel), List.mem_of_getElem? (i := 992) (by decide +kernel)⟩
theorem lw_p33 : lw_okq (⟨"ObligingPosts", "possibleRoads", "(LObligingPosts$Slot;I)I"⟩, 12) := ⟨⟨by decide +kernel, by decide +kernel⟩, List.mem_of_getElem? (i := 19) (by decide +kernel), List.mem_of_getElem? (i := 997) (by decide +kernel), List.mem_of_getElem? (i := 998) (by decide +kernel)⟩
theorem lw_p34 : lw_okq (⟨"ObligingPosts", "agrees", "(LObligingPosts$Slot;LObligingPosts$Night;)Z"⟩, 12) := ⟨⟨by decide +kernel, by decide +kernel⟩, List.mem_of_getElem? (i := 19) (by decide +kernel), List.mem_of_getElem? (i := 1002) (by decide +kernel), List.mem_of_getElem? (i := 1003) (by decide +kernel)⟩
theorem lw_p35 : lw_okq (⟨"ObligingPosts", "bestQuestion", "(I)I"⟩, 12) := ⟨⟨by decide +kernel, by decide +kernel⟩, List.mem_of_getElem? (i := 19) (by decide +kernel), List.mem_of_getElem? (i := 1010) (by decide +kernel), List.mem_of_getElem? (i := 1011) (by decide +kernel)⟩
theorem lw_p36 : lw_okq (⟨"ObligingPosts", "mostLeft", "(III)I"⟩, 12) := ⟨⟨by decide +kernel, by decide +kernel⟩, List.mem_of_getElem? (i := 19) (by decide +kernel), List.mem_of_getElem? (i := 1014) (by decide +kernel), List.mem_of_getElem? (i := 1015) (by decide +kernel)⟩
theorem lw_p37 : lw_okq (⟨"ObligingPosts", "roadsAlike", "(III)I"⟩, 12) := ⟨⟨by decide +kernel, by decide +kernel⟩, List.mem_of_getElem? (i := 19) (by decide +kernel), List.mem_of_getElem? (i := 1018) (by decide +kernel), List.mem_of_getElem? (i := 1019) (by decide +kernel)⟩
theorem lw_p38 : lw_okq (⟨"ObligingPosts", "runByLaw", "(I)V"⟩, 12) := ⟨⟨by decide +kernel, by decide +kernel⟩, List.mem_of_getElem? (i := 19) (by decide +kernel), List.mem_of_getElem? (i := 1031) (by decide +kernel), List.mem_of_getElem? (i := 1032) (by decide +kernel)⟩
theorem lw_p39 : lw_okq (⟨"ObligingPosts", "worthOf", "(I)I"⟩, 12) := ⟨⟨by decide +kernel, by decide +kernel⟩, List.mem_of_getElem? (i := 19) (by decide +kernel), List.mem_of_getElem? (i := 1047) (by decide +kernel), List.mem_of_getElem? (i := 1048) (by decide +kernel)⟩
theorem lw_p40 : lw_okq (⟨"ObligingPosts", "learnWorths", "()V"⟩, 12) := ⟨⟨by decide +kernel, by decide +kernel⟩, List.mem_of_getElem? (i := 19) (by decide +kernel), List.mem_of_getElem? (i := 1055) (by decide +kernel), List.mem_of_getElem? (i := 1056) (by decide +kernel)⟩
theorem lw_p41 : lw_okq (⟨"ObligingPosts", "gain", "(IIII)I"⟩, 12) := ⟨⟨by decide +kernel, by decide +kernel⟩, List.mem_of_getElem? (i := 19) (by decide +kernel), List.mem_of_getElem? (i := 1074) (by decide +kernel), List.mem_of_getElem? (i := 1075) (by decide +kernel)⟩
theorem lw_p42 : lw_okq (⟨"ObligingPosts", "isFogHour", "(I)Z"⟩, 12) := ⟨⟨by decide +kernel, by decide +kernel⟩, List.mem_of_getElem? (i := 19) (by decide +kernel), List.mem_of_getElem? (i := 1086) (by decide +kernel), List.mem_of_getElem? (i := 1087) (by decide +kernel)⟩
theorem lw_p43 : lw_okq (⟨"ObligingPosts$Fog", "addInside", "(IJ)V"⟩, 4) := ⟨⟨by decide +kernel, by decide +kernel⟩, List.mem_of_getElem? (i := 243) (by decide +kernel), List.mem_of_getElem? (i := 1105) (by decide +kernel), List.mem_of_getElem? (i := 1106) (by decide +kernel)⟩
theorem lw_p44 : lw_okq (⟨"ObligingPosts", "insideByFog", "(I)I"⟩, 12) := ⟨⟨by decide +kernel, by decide +kernel⟩, List.mem_of_getElem? (i := 19) (by decide +kernel), List.mem_of_getElem? (i := 1155) (by decide +kernel), List.mem_of_getElem? (i := 1156) (by decide +kernel)⟩
theorem lw_p45 : lw_okq (⟨"ObligingPosts", "slotsWithRow", "()I"⟩, 12) := ⟨⟨by decide +kernel, by decide +kernel⟩, List.mem_of_getElem? (i := 19) (by decide +kernel), List.mem_of_getElem? (i := 1171) (by decide +kernel), List.mem_of_getElem? (i := 1172) (by decide +kernel)⟩
theorem lw_p46 : lw_okq (⟨"ObligingPosts$Slot", "cut", "(J)J"⟩, 3) := ⟨⟨by decide +kernel, by decide +kernel⟩, List.mem_of_getElem? (i := 1186) (by decide +kernel), List.mem_of_getElem? (i := 1218) (by decide +kernel), List.mem_of_getElem? (i := 1219) (by decide +kernel)⟩
theorem lw_p47 : lw_okq (⟨"ObligingPostsModel", "advance", "()V"⟩, 41) := ⟨⟨by decide +kernel, by decide +kernel⟩, List.mem_of_getElem? (i := 1230) (by decide +kernel), List.mem_of_getElem? (i := 1388) (by decide +kernel), List.mem_of_getElem? (i := 1389) (by decide +kernel)⟩
def lw_privs_3 : List (MethodName × Nat) := [(⟨"ObligingPosts", "tellsPlaces", "(LObligingPosts$Slot;)Z"⟩, 12), (⟨"ObligingPosts", "possibleRoads", "(LObligingPosts$Slot;I)I"⟩, 12), (⟨"ObligingPosts", "agrees", "(LObligingPosts$Slot;LObligingPosts$Night;)Z"⟩, 12), (⟨"ObligingPosts", "bestQuestion", "(I)I"⟩, 12), (⟨"ObligingPosts", "mostLeft", "(III)I"⟩, 12), (⟨"ObligingPosts", "roadsAlike", "(III)I"⟩, 12), (⟨"ObligingPosts", "runByLaw", "(I)V"⟩, 12), (⟨"ObligingPosts", "worthOf", "(I)I"⟩, 12), (⟨"ObligingPosts", "learnWorths", "()V"⟩, 12), (⟨"ObligingPosts", "gain", "(IIII)I"⟩, 12), (⟨"ObligingPosts", "isFogHour", "(I)Z"⟩, 12), (⟨"ObligingPosts$Fog", "addInside", "(IJ)V"⟩, 4), (⟨"ObligingPosts", "insideByFog", "(I)I"⟩, 12), (⟨"ObligingPosts", "slotsWithRow", "()I"⟩, 12), (⟨"ObligingPosts$Slot", "cut", "(J)J"⟩, 3), (⟨"ObligingPostsModel", "advance", "()V"⟩, 41)]
theorem lw_r3 : ∀ q ∈ lw_privs_3, lw_okq q := List.forall_mem_cons.mpr ⟨lw_p32, List.forall_mem_cons.mpr ⟨lw_p33, List.forall_mem_cons.mpr ⟨lw_p34, List.forall_mem_cons.mpr ⟨lw_p35, List.forall_mem_cons.mpr ⟨lw_p36, List.forall_mem_cons.mpr ⟨lw_p37, List.forall_mem_cons.mpr ⟨lw_p38, List.forall_mem_cons.mpr ⟨lw_p39, List.forall_mem_cons.mpr ⟨lw_p40, List.forall_mem_cons.mpr ⟨lw_p41, List.forall_mem_cons.mpr ⟨lw_p42, List.forall_mem_cons.mpr ⟨lw_p43, List.forall_mem_cons.mpr ⟨lw_p44, List.forall_mem_cons.mpr ⟨lw_p45, List.forall_mem_cons.mpr ⟨lw_p46, List.forall_mem_cons.mpr ⟨lw_p47, fun _ h => absurd h List.not_mem_nil⟩⟩⟩⟩⟩⟩⟩⟩⟩⟩⟩⟩⟩⟩⟩⟩
theorem lw_p48 : lw_okq (⟨"ObligingPostsModel", "see", "(I)I"⟩, 41) := ⟨⟨by decide +kernel, by decide +kernel⟩, List.mem_of_getElem? (i := 1230) (by decide +kernel), List.mem_of_getElem? (i := 1392) (by decide +kernel), List.mem_of_getElem? (i := 1393) (by decide +kernel)⟩
theorem lw_p49 : lw_okq (⟨"ObligingPostsModel", "good", "()Z"⟩, 41) := ⟨⟨by decide +kernel, by decide +kernel⟩, List.mem_of_getElem? (i := 1230) (by decide +kernel), List.mem_of_getElem? (i := 1402) (by decide +kernel), List.mem_of_getElem? (i := 1403) (by decide +kernel)⟩
theorem lw_p50 : lw_okq (⟨"ObligingPostsModel", "readLine", "()V"⟩, 41) := ⟨⟨by decide +kernel, by decide +kernel⟩, List.mem_of_getElem? (i := 1230) (by decide +kernel), List.mem_of_getElem? (i := 1406) (by decide +kernel), List.mem_of_getElem? (i := 1407) (by decide +kernel)⟩
theorem lw_p51 : lw_okq (⟨"ObligingPostsModel", "readFirst", "()V"⟩, 41) := ⟨⟨by decide +kernel, by decide +kernel⟩, List.mem_of_getElem? (i := 1230) (by decide +kernel), List.mem_of_getElem? (i := 1410) (by decide +kernel), List.mem_of_getElem? (i := 1411) (by decide +kernel)⟩
theorem lw_p52 : lw_okq (⟨"ObligingPostsModel", "expects", "(Ljava/lang/String;)V"⟩, 41) := ⟨⟨by decide +kernel, by decide +kernel⟩, List.mem_of_getElem? (i := 1230) (by decide +kernel), List.mem_of_getElem? (i := 1415) (by decide +kernel), List.mem_of_getElem? (i := 1416) (by decide +kernel)⟩
theorem lw_p53 : lw_okq (⟨"ObligingPostsModel", "takes", "(Ljava/lang/String;)Z"⟩, 41) := ⟨⟨by decide +kernel, by decide +kernel⟩, List.mem_of_getElem? (i := 1230) (by decide +kernel), List.mem_of_getElem? (i := 1419) (by decide +kernel), List.mem_of_getElem? (i := 1420) (by decide +kernel)⟩
theorem lw_p54 : lw_okq (⟨"ObligingPostsModel", "is", "(Ljava/lang/String;)Z"⟩, 41) := ⟨⟨by decide +kernel, by decide +kernel⟩, List.mem_of_getElem? (i := 1230) (by decide +kernel), List.mem_of_getElem? (i := 1423) (by decide +kernel), List.mem_of_getElem? (i := 1424) (by decide +kernel)⟩
theorem lw_p55 : lw_okq (⟨"ObligingPostsModel", "errs", "(I)V"⟩, 41) := ⟨⟨by decide +kernel, by decide +kernel⟩, List.mem_of_getElem? (i := 1230) (by decide +kernel), List.mem_of_getElem? (i := 1429) (by decide +kernel), List.mem_of_getElem? (i := 1430) (by decide +kernel)⟩
theorem lw_p56 : lw_okq (⟨"ObligingPostsModel", "toldBy", "(Ljava/lang/String;II)I"⟩, 41) := ⟨⟨by decide +kernel, by decide +kernel⟩, List.mem_of_getElem? (i := 1230) (by decide +kernel), List.mem_of_getElem? (i := 1434) (by decide +kernel), List.mem_of_getElem? (i := 1435) (by decide +kernel)⟩
theorem lw_p57 : lw_okq (⟨"ObligingPostsModel", "number", "(II)I"⟩, 41) := ⟨⟨by decide +kernel, by decide +kernel⟩, List.mem_of_getElem? (i := 1230) (by decide +kernel), List.mem_of_getElem? (i := 1438) (by decide +kernel), List.mem_of_getElem? (i := 1439) (by decide +kernel)⟩
theorem lw_p58 : lw_okq (⟨"ObligingPostsModel", "readNext", "()V"⟩, 41) := ⟨⟨by decide +kernel, by decide +kernel⟩, List.mem_of_getElem? (i := 1230) (by decide +kernel), List.mem_of_getElem? (i := 1444) (by decide +kernel), List.mem_of_getElem? (i := 1445) (by decide +kernel)⟩
theorem lw_p59 : lw_okq (⟨"ObligingPostsModel", "isFull", "()Z"⟩, 41) := ⟨⟨by decide +kernel, by decide +kernel⟩, List.mem_of_getElem? (i := 1230) (by decide +kernel), List.mem_of_getElem? (i := 1453) (by decide +kernel), List.mem_of_getElem? (i := 1454) (by decide +kernel)⟩
theorem lw_p60 : lw_okq (⟨"ObligingPostsModel", "readRoad", "()V"⟩, 41) := ⟨⟨by decide +kernel, by decide +kernel⟩, List.mem_of_getElem? (i := 1230) (by decide +kernel), List.mem_of_getElem? (i := 1458) (by decide +kernel), List.mem_of_getElem? (i := 1459) (by decide +kernel)⟩
theorem lw_p61 : lw_okq (⟨"ObligingPostsModel", "readPost", "()I"⟩, 41) := ⟨⟨by decide +kernel, by decide +kernel⟩, List.mem_of_getElem? (i := 1230) (by decide +kernel), List.mem_of_getElem? (i := 1462) (by decide +kernel), List.mem_of_getElem? (i := 1463) (by decide +kernel)⟩
theorem lw_p62 : lw_okq (⟨"ObligingPostsModel", "readArm", "()V"⟩, 41) := ⟨⟨by decide +kernel, by decide +kernel⟩, List.mem_of_getElem? (i := 1230) (by decide +kernel), List.mem_of_getElem? (i := 1468) (by decide +kernel), List.mem_of_getElem? (i := 1469) (by decide +kernel)⟩
theorem lw_p63 : lw_okq (⟨"ObligingPostsModel", "readWalker", "()V"⟩, 41) := ⟨⟨by decide +kernel, by decide +kernel⟩, List.mem_of_getElem? (i := 1230) (by decide +kernel), List.mem_of_getElem? (i := 1472) (by decide +kernel), List.mem_of_getElem? (i := 1473) (by decide +kernel)⟩
def lw_privs_4 : List (MethodName × Nat) := [(⟨"ObligingPostsModel", "see", "(I)I"⟩, 41), (⟨"ObligingPostsModel", "good", "()Z"⟩, 41), (⟨"ObligingPostsModel", "readLine", "()V"⟩, 41), (⟨"ObligingPostsModel", "readFirst", "()V"⟩, 41), (⟨"ObligingPostsModel", "expects", "(Ljava/lang/String;)V"⟩, 41), (⟨"ObligingPostsModel", "takes", "(Ljava/lang/String;)Z"⟩, 41), (⟨"ObligingPostsModel", "is", "(Ljava/lang/String;)Z"⟩, 41), (⟨"ObligingPostsModel", "errs", "(I)V"⟩, 41), (⟨"ObligingPostsModel", "toldBy", "(Ljava/lang/String;II)I"⟩, 41), (⟨"ObligingPostsModel", "number", "(II)I"⟩, 41), (⟨"ObligingPostsModel", "readNext", "()V"⟩, 41), (⟨"ObligingPostsModel", "isFull", "()Z"⟩, 41), (⟨"ObligingPostsModel", "readRoad", "()V"⟩, 41), (⟨"ObligingPostsModel", "readPost", "()I"⟩, 41), (⟨"ObligingPostsModel", "readArm", "()V"⟩, 41), (⟨"ObligingPostsModel", "readWalker", "()V"⟩, 41)]
theorem lw_r4 : ∀ q ∈ lw_privs_4, lw_okq q := List.forall_mem_cons.mpr ⟨lw_p48, List.forall_mem_cons.mpr ⟨lw_p49, List.forall_mem_cons.mpr ⟨lw_p50, List.forall_mem_cons.mpr ⟨lw_p51, List.forall_mem_cons.mpr ⟨lw_p52, List.forall_mem_cons.mpr ⟨lw_p53, List.forall_mem_cons.mpr ⟨lw_p54, List.forall_mem_cons.mpr ⟨lw_p55, List.forall_mem_cons.mpr ⟨lw_p56, List.forall_mem_cons.mpr ⟨lw_p57, List.forall_mem_cons.mpr ⟨lw_p58, List.forall_mem_cons.mpr ⟨lw_p59, List.forall_mem_cons.mpr ⟨lw_p60, List.forall_mem_cons.mpr ⟨lw_p61, List.forall_mem_cons.mpr ⟨lw_p62, List.forall_mem_cons.mpr ⟨lw_p63, fun _ h => absurd h List.not_mem_nil⟩⟩⟩⟩⟩⟩⟩⟩⟩⟩⟩⟩⟩⟩⟩⟩
theorem lw_p64 : lw_okq (⟨"ObligingPostsModel", "isInn", "(J)Z"⟩, 41) := ⟨⟨by decide +kernel, by decide +kernel⟩, List.mem_of_getElem? (i := 1230) (by decide +kernel), List.mem_of_getElem? (i := 1481) (by decide +kernel), List.mem_of_getElem? (i := 1482) (by decide +kernel)⟩
theorem lw_p65 : lw_okq (⟨"ObligingPostsModel", "isPost", "(J)Z"⟩, 41) := ⟨⟨by decide +kernel, by decide +kernel⟩, List.mem_of_getElem? (i := 1230) (by decide +kernel), List.mem_of_getElem? (i := 1489) (by decide +kernel), List.mem_of_getElem? (i := 1490) (by decide +kernel)⟩
theorem lw_p66 : lw_okq (⟨"ObligingPostsModel", "posts", "()I"⟩, 41) := ⟨⟨by decide +kernel, by decide +kernel⟩, List.mem_of_getElem? (i := 1230) (by decide +kernel), List.mem_of_getElem? (i := 1493) (by decide +kernel), List.mem_of_getElem? (i := 1494) (by decide +kernel)⟩
theorem lw_p67 : lw_okq (⟨"ObligingPostsModel", "roadMany", "(I)I"⟩, 41) := ⟨⟨by decide +kernel, by decide +kernel⟩, List.mem_of_getElem? (i := 1230) (by decide +kernel), List.mem_of_getElem? (i := 1497) (by decide +kernel), List.mem_of_getElem? (i := 1498) (by decide +kernel)⟩
theorem lw_p68 : lw_okq (⟨"ObligingPostsModel", "roadTo", "(II)I"⟩, 41) := ⟨⟨by decide +kernel, by decide +kernel⟩, List.mem_of_getElem? (i := 1230) (by decide +kernel), List.mem_of_getElem? (i := 1505) (by decide +kernel), List.mem_of_getElem? (i := 1506) (by decide +kernel)⟩
theorem lw_p69 : lw_okq (⟨"ObligingPostsModel", "armOf", "(I)I"⟩, 41) := ⟨⟨by decide +kernel, by decide +kernel⟩, List.mem_of_getElem? (i := 1230) (by decide +kernel), List.mem_of_getElem? (i := 1513) (by decide +kernel), List.mem_of_getElem? (i := 1514) (by decide +kernel)⟩
theorem lw_p70 : lw_okq (⟨"ObligingPostsModel", "isWalker", "(J)Z"⟩, 41) := ⟨⟨by decide +kernel, by decide +kernel⟩, List.mem_of_getElem? (i := 1230) (by decide +kernel), List.mem_of_getElem? (i := 1521) (by decide +kernel), List.mem_of_getElem? (i := 1522) (by decide +kernel)⟩
theorem lw_p71 : lw_okq (⟨"ObligingPostsModel", "walkers", "()I"⟩, 41) := ⟨⟨by decide +kernel, by decide +kernel⟩, List.mem_of_getElem? (i := 1230) (by decide +kernel), List.mem_of_getElem? (i := 1525) (by decide +kernel), List.mem_of_getElem? (i := 1526) (by decide +kernel)⟩
theorem lw_p72 : lw_okq (⟨"ObligingPostsModel", "isHeath", "()Z"⟩, 41) := ⟨⟨by decide +kernel, by decide +kernel⟩, List.mem_of_getElem? (i := 1230) (by decide +kernel), List.mem_of_getElem? (i := 1537) (by decide +kernel), List.mem_of_getElem? (i := 1538) (by decide +kernel)⟩
theorem lw_p73 : lw_okq (⟨"ObligingPostsModel", "asksHour", "(I)Z"⟩, 41) := ⟨⟨by decide +kernel, by decide +kernel⟩, List.mem_of_getElem? (i := 1230) (by decide +kernel), List.mem_of_getElem? (i := 1545) (by decide +kernel), List.mem_of_getElem? (i := 1546) (by decide +kernel)⟩
theorem lw_p74 : lw_okq (⟨"ObligingPostsModel", "asksHeath", "()Z"⟩, 41) := ⟨⟨by decide +kernel, by decide +kernel⟩, List.mem_of_getElem? (i := 1230) (by decide +kernel), List.mem_of_getElem? (i := 1549) (by decide +kernel), List.mem_of_getElem? (i := 1550) (by decide +kernel)⟩
theorem lw_p75 : lw_okq (⟨"ObligingPostsModel", "asItIs", "()V"⟩, 41) := ⟨⟨by decide +kernel, by decide +kernel⟩, List.mem_of_getElem? (i := 1230) (by decide +kernel), List.mem_of_getElem? (i := 1553) (by decide +kernel), List.mem_of_getElem? (i := 1554) (by decide +kernel)⟩
theorem lw_p76 : lw_okq (⟨"ObligingPostsModel", "goAll", "()V"⟩, 41) := ⟨⟨by decide +kernel, by decide +kernel⟩, List.mem_of_getElem? (i := 1230) (by decide +kernel), List.mem_of_getElem? (i := 1557) (by decide +kernel), List.mem_of_getElem? (i := 1558) (by decide +kernel)⟩
theorem lw_p77 : lw_okq (⟨"ObligingPostsModel", "hours", "()I"⟩, 41) := ⟨⟨by decide +kernel, by decide +kernel⟩, List.mem_of_getElem? (i := 1230) (by decide +kernel), List.mem_of_getElem? (i := 1561) (by decide +kernel), List.mem_of_getElem? (i := 1562) (by decide +kernel)⟩
theorem lw_p78 : lw_okq (⟨"ObligingPostsModel", "goHour", "(I)V"⟩, 41) := ⟨⟨by decide +kernel, by decide +kernel⟩, List.mem_of_getElem? (i := 1230) (by decide +kernel), List.mem_of_getElem? (i := 1565) (by decide +kernel), List.mem_of_getElem? (i := 1566) (by decide +kernel)⟩
theorem lw_p79 : lw_okq (⟨"ObligingPostsModel", "turn", "(II)V"⟩, 41) := ⟨⟨by decide +kernel, by decide +kernel⟩, List.mem_of_getElem? (i := 1230) (by decide +kernel), List.mem_of_getElem? (i := 1569) (by decide +kernel), List.mem_of_getElem? (i := 1570) (by decide +kernel)⟩
def lw_privs_5 : List (MethodName × Nat) := [(⟨"ObligingPostsModel", "isInn", "(J)Z"⟩, 41), (⟨"ObligingPostsModel", "isPost", "(J)Z"⟩, 41), (⟨"ObligingPostsModel", "posts", "()I"⟩, 41), (⟨"ObligingPostsModel", "roadMany", "(I)I"⟩, 41), (⟨"ObligingPostsModel", "roadTo", "(II)I"⟩, 41), (⟨"ObligingPostsModel", "armOf", "(I)I"⟩, 41), (⟨"ObligingPostsModel", "isWalker", "(J)Z"⟩, 41), (⟨"ObligingPostsModel", "walkers", "()I"⟩, 41), (⟨"ObligingPostsModel", "isHeath", "()Z"⟩, 41), (⟨"ObligingPostsModel", "asksHour", "(I)Z"⟩, 41), (⟨"ObligingPostsModel", "asksHeath", "()Z"⟩, 41), (⟨"ObligingPostsModel", "asItIs", "()V"⟩, 41), (⟨"ObligingPostsModel", "goAll", "()V"⟩, 41), (⟨"ObligingPostsModel", "hours", "()I"⟩, 41), (⟨"ObligingPostsModel", "goHour", "(I)V"⟩, 41), (⟨"ObligingPostsModel", "turn", "(II)V"⟩, 41)]
theorem lw_r5 : ∀ q ∈ lw_privs_5, lw_okq q := List.forall_mem_cons.mpr ⟨lw_p64, List.forall_mem_cons.mpr ⟨lw_p65, List.forall_mem_cons.mpr ⟨lw_p66, List.forall_mem_cons.mpr ⟨lw_p67, List.forall_mem_cons.mpr ⟨lw_p68, List.forall_mem_cons.mpr ⟨lw_p69, List.forall_mem_cons.mpr ⟨lw_p70, List.forall_mem_cons.mpr ⟨lw_p71, List.forall_mem_cons.mpr ⟨lw_p72, List.forall_mem_cons.mpr ⟨lw_p73, List.forall_mem_cons.mpr ⟨lw_p74, List.forall_mem_cons.mpr ⟨lw_p75, List.forall_mem_cons.mpr ⟨lw_p76, List.forall_mem_cons.mpr ⟨lw_p77, List.forall_mem_cons.mpr ⟨lw_p78, List.forall_mem_cons.mpr ⟨lw_p79, fun _ h => absurd h List.not_mem_nil⟩⟩⟩⟩⟩⟩⟩⟩⟩⟩⟩⟩⟩⟩⟩⟩
theorem lw_p80 : lw_okq (⟨"ObligingPostsModel", "isHeld", "(II)Z"⟩, 41) := ⟨⟨by decide +kernel, by decide +kernel⟩, List.mem_of_getElem? (i := 1230) (by decide +kernel), List.mem_of_getElem? (i := 1576) (by decide +kernel), List.mem_of_getElem? (i := 1577) (by decide +kernel)⟩
theorem lw_p81 : lw_okq (⟨"ObligingPostsModel", "sendOne", "(II)V"⟩, 41) := ⟨⟨by decide +kernel, by decide +kernel⟩, List.mem_of_getElem? (i := 1230) (by decide +kernel), List.mem_of_getElem? (i := 1580) (by decide +kernel), List.mem_of_getElem? (i := 1581) (by decide +kernel)⟩
theorem lw_p82 : lw_okq (⟨"ObligingPostsModel", "sendBy", "(I)I"⟩, 41) := ⟨⟨by decide +kernel, by decide +kernel⟩, List.mem_of_getElem? (i := 1230) (by decide +kernel), List.mem_of_getElem? (i := 1584) (by decide +kernel), List.mem_of_getElem? (i := 1585) (by decide +kernel)⟩
theorem lw_p83 : lw_okq (⟨"ObligingPostsModel", "isHour", "(J)Z"⟩, 41) := ⟨⟨by decide +kernel, by decide +kernel⟩, List.mem_of_getElem? (i := 1230) (by decide +kernel), List.mem_of_getElem? (i := 1588) (by decide +kernel), List.mem_of_getElem? (i := 1589) (by decide +kernel)⟩
theorem lw_p84 : lw_okq (⟨"ObligingPostsModel", "placeOf", "(II)I"⟩, 41) := ⟨⟨by decide +kernel, by decide +kernel⟩, List.mem_of_getElem? (i := 1230) (by decide +kernel), List.mem_of_getElem? (i := 1592) (by decide +kernel), List.mem_of_getElem? (i := 1593) (by decide +kernel)⟩
theorem lw_p85 : lw_okq (⟨"ObligingPostsModel", "isPlace", "(J)Z"⟩, 41) := ⟨⟨by decide +kernel, by decide +kernel⟩, List.mem_of_getElem? (i := 1230) (by decide +kernel), List.mem_of_getElem? (i := 1604) (by decide +kernel), List.mem_of_getElem? (i := 1605) (by decide +kernel)⟩
theorem lw_p86 : lw_okq (⟨"ObligingPostsModel", "hereOf", "(II)I"⟩, 41) := ⟨⟨by decide +kernel, by decide +kernel⟩, List.mem_of_getElem? (i := 1230) (by decide +kernel), List.mem_of_getElem? (i := 1609) (by decide +kernel), List.mem_of_getElem? (i := 1610) (by decide +kernel)⟩
theorem lw_p87 : lw_okq (⟨"ObligingPostsModel", "isAhead", "(J)Z"⟩, 41) := ⟨⟨by decide +kernel, by decide +kernel⟩, List.mem_of_getElem? (i := 1230) (by decide +kernel), List.mem_of_getElem? (i := 1617) (by decide +kernel), List.mem_of_getElem? (i := 1618) (by decide +kernel)⟩
theorem lw_p88 : lw_okq (⟨"ObligingPostsModel", "asksPost", "(I)Z"⟩, 41) := ⟨⟨by decide +kernel, by decide +kernel⟩, List.mem_of_getElem? (i := 1230) (by decide +kernel), List.mem_of_getElem? (i := 1625) (by decide +kernel), List.mem_of_getElem? (i := 1626) (by decide +kernel)⟩
theorem lw_p89 : lw_okq (⟨"ObligingPostsModel", "sendsOf", "(I)I"⟩, 41) := ⟨⟨by decide +kernel, by decide +kernel⟩, List.mem_of_getElem? (i := 1230) (by decide +kernel), List.mem_of_getElem? (i := 1629) (by decide +kernel), List.mem_of_getElem? (i := 1630) (by decide +kernel)⟩
theorem lw_p90 : lw_okq (⟨"ObligingPostsModel", "asksWalker", "(I)Z"⟩, 41) := ⟨⟨by decide +kernel, by decide +kernel⟩, List.mem_of_getElem? (i := 1230) (by decide +kernel), List.mem_of_getElem? (i := 1641) (by decide +kernel), List.mem_of_getElem? (i := 1642) (by decide +kernel)⟩
theorem lw_p91 : lw_okq (⟨"ObligingPostsModel", "homeOf", "(I)I"⟩, 41) := ⟨⟨by decide +kernel, by decide +kernel⟩, List.mem_of_getElem? (i := 1230) (by decide +kernel), List.mem_of_getElem? (i := 1649) (by decide +kernel), List.mem_of_getElem? (i := 1650) (by decide +kernel)⟩
theorem lw_p92 : lw_okq (⟨"ObligingPostsModel", "isInside", "(II)Z"⟩, 41) := ⟨⟨by decide +kernel, by decide +kernel⟩, List.mem_of_getElem? (i := 1230) (by decide +kernel), List.mem_of_getElem? (i := 1653) (by decide +kernel), List.mem_of_getElem? (i := 1654) (by decide +kernel)⟩
theorem lw_p93 : lw_okq (⟨"ObligingPostsModel", "trailTo", "(II)I"⟩, 41) := ⟨⟨by decide +kernel, by decide +kernel⟩, List.mem_of_getElem? (i := 1230) (by decide +kernel), List.mem_of_getElem? (i := 1665) (by decide +kernel), List.mem_of_getElem? (i := 1666) (by decide +kernel)⟩
theorem lw_p94 : lw_okq (⟨"ObligingPostsModel", "guestsOf", "(II)I"⟩, 41) := ⟨⟨by decide +kernel, by decide +kernel⟩, List.mem_of_getElem? (i := 1230) (by decide +kernel), List.mem_of_getElem? (i := 1682) (by decide +kernel), List.mem_of_getElem? (i := 1683) (by decide +kernel)⟩
theorem lw_p95 : lw_okq (⟨"ObligingPostsModel", "insideAt", "(I)I"⟩, 41) := ⟨⟨by decide +kernel, by decide +kernel⟩, List.mem_of_getElem? (i := 1230) (by decide +kernel), List.mem_of_getElem? (i := 1701) (by decide +kernel), List.mem_of_getElem? (i := 1702) (by decide +kernel)⟩
def lw_privs_6 : List (MethodName × Nat) := [(⟨"ObligingPostsModel", "isHeld", "(II)Z"⟩, 41), (⟨"ObligingPostsModel", "sendOne", "(II)V"⟩, 41), (⟨"ObligingPostsModel", "sendBy", "(I)I"⟩, 41), (⟨"ObligingPostsModel", "isHour", "(J)Z"⟩, 41), (⟨"ObligingPostsModel", "placeOf", "(II)I"⟩, 41), (⟨"ObligingPostsModel", "isPlace", "(J)Z"⟩, 41), (⟨"ObligingPostsModel", "hereOf", "(II)I"⟩, 41), (⟨"ObligingPostsModel", "isAhead", "(J)Z"⟩, 41), (⟨"ObligingPostsModel", "asksPost", "(I)Z"⟩, 41), (⟨"ObligingPostsModel", "sendsOf", "(I)I"⟩, 41), (⟨"ObligingPostsModel", "asksWalker", "(I)Z"⟩, 41), (⟨"ObligingPostsModel", "homeOf", "(I)I"⟩, 41), (⟨"ObligingPostsModel", "isInside", "(II)Z"⟩, 41), (⟨"ObligingPostsModel", "trailTo", "(II)I"⟩, 41), (⟨"ObligingPostsModel", "guestsOf", "(II)I"⟩, 41), (⟨"ObligingPostsModel", "insideAt", "(I)I"⟩, 41)]
theorem lw_r6 : ∀ q ∈ lw_privs_6, lw_okq q := List.forall_mem_cons.mpr ⟨lw_p80, List.forall_mem_cons.mpr ⟨lw_p81, List.forall_mem_cons.mpr ⟨lw_p82, List.forall_mem_cons.mpr ⟨lw_p83, List.forall_mem_cons.mpr ⟨lw_p84, List.forall_mem_cons.mpr ⟨lw_p85, List.forall_mem_cons.mpr ⟨lw_p86, List.forall_mem_cons.mpr ⟨lw_p87, List.forall_mem_cons.mpr ⟨lw_p88, List.forall_mem_cons.mpr ⟨lw_p89, List.forall_mem_cons.mpr ⟨lw_p90, List.forall_mem_cons.mpr ⟨lw_p91, List.forall_mem_cons.mpr ⟨lw_p92, List.forall_mem_cons.mpr ⟨lw_p93, List.forall_mem_cons.mpr ⟨lw_p94, List.forall_mem_cons.mpr ⟨lw_p95, fun _ h => absurd h List.not_mem_nil⟩⟩⟩⟩⟩⟩⟩⟩⟩⟩⟩⟩⟩⟩⟩⟩
theorem lw_p96 : lw_okq (⟨"ObligingPostsModel", "areTwo", "(II)Z"⟩, 41) := ⟨⟨by decide +kernel, by decide +kernel⟩, List.mem_of_getElem? (i := 1230) (by decide +kernel), List.mem_of_getElem? (i := 1722) (by decide +kernel), List.mem_of_getElem? (i := 1723) (by decide +kernel)⟩
theorem lw_p97 : lw_okq (⟨"ObligingPostsModel", "goOn", "(I)I"⟩, 41) := ⟨⟨by decide +kernel, by decide +kernel⟩, List.mem_of_getElem? (i := 1230) (by decide +kernel), List.mem_of_getElem? (i := 1738) (by decide +kernel), List.mem_of_getElem? (i := 1739) (by decide +kernel)⟩
theorem lw_p98 : lw_okq (⟨"ObligingPostsModel", "settingAt", "(I)I"⟩, 41) := ⟨⟨by decide +kernel, by decide +kernel⟩, List.mem_of_getElem? (i := 1230) (by decide +kernel), List.mem_of_getElem? (i := 1750) (by decide +kernel), List.mem_of_getElem? (i := 1751) (by decide +kernel)⟩
theorem lw_p99 : lw_okq (⟨"ObligingPostsModel", "someAt", "(I)V"⟩, 41) := ⟨⟨by decide +kernel, by decide +kernel⟩, List.mem_of_getElem? (i := 1230) (by decide +kernel), List.mem_of_getElem? (i := 1754) (by decide +kernel), List.mem_of_getElem? (i := 1755) (by decide +kernel)⟩
theorem lw_p100 : lw_okq (⟨"ObligingPostsModel", "numberOf", "()I"⟩, 41) := ⟨⟨by decide +kernel, by decide +kernel⟩, List.mem_of_getElem? (i := 1230) (by decide +kernel), List.mem_of_getElem? (i := 1758) (by decide +kernel), List.mem_of_getElem? (i := 1759) (by decide +kernel)⟩
theorem lw_p101 : lw_okq (⟨"ObligingPostsModel", "settingMany", "()I"⟩, 41) := ⟨⟨by decide +kernel, by decide +kernel⟩, List.mem_of_getElem? (i := 1230) (by decide +kernel), List.mem_of_getElem? (i := 1766) (by decide +kernel), List.mem_of_getElem? (i := 1767) (by decide +kernel)⟩
theorem lw_p102 : lw_okq (⟨"ObligingPostsModel", "isTree", "()Z"⟩, 41) := ⟨⟨by decide +kernel, by decide +kernel⟩, List.mem_of_getElem? (i := 1230) (by decide +kernel), List.mem_of_getElem? (i := 1778) (by decide +kernel), List.mem_of_getElem? (i := 1779) (by decide +kernel)⟩
theorem lw_p103 : lw_okq (⟨"ObligingPostsModel", "isHomeBy", "(I)Z"⟩, 41) := ⟨⟨by decide +kernel, by decide +kernel⟩, List.mem_of_getElem? (i := 1230) (by decide +kernel), List.mem_of_getElem? (i := 1782) (by decide +kernel), List.mem_of_getElem? (i := 1783) (by decide +kernel)⟩
theorem lw_p104 : lw_okq (⟨"ObligingPostsModel", "armGoes", "(I)I"⟩, 41) := ⟨⟨by decide +kernel, by decide +kernel⟩, List.mem_of_getElem? (i := 1230) (by decide +kernel), List.mem_of_getElem? (i := 1786) (by decide +kernel), List.mem_of_getElem? (i := 1787) (by decide +kernel)⟩
theorem lw_p105 : lw_okq (⟨"ObligingPostsModel", "soloBegin", "()V"⟩, 41) := ⟨⟨by decide +kernel, by decide +kernel⟩, List.mem_of_getElem? (i := 1230) (by decide +kernel), List.mem_of_getElem? (i := 1802) (by decide +kernel), List.mem_of_getElem? (i := 1803) (by decide +kernel)⟩
theorem lw_p106 : lw_okq (⟨"ObligingPostsModel", "solo", "(I)I"⟩, 41) := ⟨⟨by decide +kernel, by decide +kernel⟩, List.mem_of_getElem? (i := 1230) (by decide +kernel), List.mem_of_getElem? (i := 1806) (by decide +kernel), List.mem_of_getElem? (i := 1807) (by decide +kernel)⟩
theorem lw_p107 : lw_okq (⟨"ObligingPostsModel", "soloSetting", "()I"⟩, 41) := ⟨⟨by decide +kernel, by decide +kernel⟩, List.mem_of_getElem? (i := 1230) (by decide +kernel), List.mem_of_getElem? (i := 1818) (by decide +kernel), List.mem_of_getElem? (i := 1819) (by decide +kernel)⟩
theorem lw_p108 : lw_okq (⟨"ObligingPostsModel", "cameTo", "(II)I"⟩, 41) := ⟨⟨by decide +kernel, by decide +kernel⟩, List.mem_of_getElem? (i := 1230) (by decide +kernel), List.mem_of_getElem? (i := 1839) (by decide +kernel), List.mem_of_getElem? (i := 1840) (by decide +kernel)⟩
theorem lw_p109 : lw_okq (⟨"ObligingPostsModel", "insideLast", "()I"⟩, 41) := ⟨⟨by decide +kernel, by decide +kernel⟩, List.mem_of_getElem? (i := 1230) (by decide +kernel), List.mem_of_getElem? (i := 1848) (by decide +kernel), List.mem_of_getElem? (i := 1849) (by decide +kernel)⟩
theorem lw_p110 : lw_okq (⟨"ObligingPostsModel", "askMay", "(II)I"⟩, 41) := ⟨⟨by decide +kernel, by decide +kernel⟩, List.mem_of_getElem? (i := 1230) (by decide +kernel), List.mem_of_getElem? (i := 1860) (by decide +kernel), List.mem_of_getElem? (i := 1861) (by decide +kernel)⟩
theorem lw_p111 : lw_okq (⟨"ObligingPostsModel", "askSeen", "(I)I"⟩, 41) := ⟨⟨by decide +kernel, by decide +kernel⟩, List.mem_of_getElem? (i := 1230) (by decide +kernel), List.mem_of_getElem? (i := 1864) (by decide +kernel), List.mem_of_getElem? (i := 1865) (by decide +kernel)⟩
def lw_privs_7 : List (MethodName × Nat) := [(⟨"ObligingPostsModel", "areTwo", "(II)Z"⟩, 41), (⟨"ObligingPostsModel", "goOn", "(I)I"⟩, 41), (⟨"ObligingPostsModel", "settingAt", "(I)I"⟩, 41), (⟨"ObligingPostsModel", "someAt", "(I)V"⟩, 41), (⟨"ObligingPostsModel", "numberOf", "()I"⟩, 41), (⟨"ObligingPostsModel", "settingMany", "()I"⟩, 41), (⟨"ObligingPostsModel", "isTree", "()Z"⟩, 41), (⟨"ObligingPostsModel", "isHomeBy", "(I)Z"⟩, 41), (⟨"ObligingPostsModel", "armGoes", "(I)I"⟩, 41), (⟨"ObligingPostsModel", "soloBegin", "()V"⟩, 41), (⟨"ObligingPostsModel", "solo", "(I)I"⟩, 41), (⟨"ObligingPostsModel", "soloSetting", "()I"⟩, 41), (⟨"ObligingPostsModel", "cameTo", "(II)I"⟩, 41), (⟨"ObligingPostsModel", "insideLast", "()I"⟩, 41), (⟨"ObligingPostsModel", "askMay", "(II)I"⟩, 41), (⟨"ObligingPostsModel", "askSeen", "(I)I"⟩, 41)]
theorem lw_r7 : ∀ q ∈ lw_privs_7, lw_okq q := List.forall_mem_cons.mpr ⟨lw_p96, List.forall_mem_cons.mpr ⟨lw_p97, List.forall_mem_cons.mpr ⟨lw_p98, List.forall_mem_cons.mpr ⟨lw_p99, List.forall_mem_cons.mpr ⟨lw_p100, List.forall_mem_cons.mpr ⟨lw_p101, List.forall_mem_cons.mpr ⟨lw_p102, List.forall_mem_cons.mpr ⟨lw_p103, List.forall_mem_cons.mpr ⟨lw_p104, List.forall_mem_cons.mpr ⟨lw_p105, List.forall_mem_cons.mpr ⟨lw_p106, List.forall_mem_cons.mpr ⟨lw_p107, List.forall_mem_cons.mpr ⟨lw_p108, List.forall_mem_cons.mpr ⟨lw_p109, List.forall_mem_cons.mpr ⟨lw_p110, List.forall_mem_cons.mpr ⟨lw_p111, fun _ h => absurd h List.not_mem_nil⟩⟩⟩⟩⟩⟩⟩⟩⟩⟩⟩⟩⟩⟩⟩⟩
theorem lw_p112 : lw_okq (⟨"ObligingPostsModel", "numberAt", "(II)J"⟩, 41) := ⟨⟨by decide +kernel, by decide +kernel⟩, List.mem_of_getElem? (i := 1230) (by decide +kernel), List.mem_of_getElem? (i := 1872) (by decide +kernel), List.mem_of_getElem? (i := 1873) (by decide +kernel)⟩
theorem lw_p113 : lw_okq (⟨"ObligingPostsModel", "mayOf", "(II)I"⟩, 41) := ⟨⟨by decide +kernel, by decide +kernel⟩, List.mem_of_getElem? (i := 1230) (by decide +kernel), List.mem_of_getElem? (i := 1877) (by decide +kernel), List.mem_of_getElem? (i := 1878) (by decide +kernel)⟩
theorem lw_p114 : lw_okq (⟨"ObligingPostsModel", "isSeen", "(I)Z"⟩, 41) := ⟨⟨by decide +kernel, by decide +kernel⟩, List.mem_of_getElem? (i := 1230) (by decide +kernel), List.mem_of_getElem? (i := 1881) (by decide +kernel), List.mem_of_getElem? (i := 1882) (by decide +kernel)⟩
theorem lw_p115 : lw_okq (⟨"ObligingPostsModel", "askOf", "(I)I"⟩, 41) := ⟨⟨by decide +kernel, by decide +kernel⟩, List.mem_of_getElem? (i := 1230) (by decide +kernel), List.mem_of_getElem? (i := 1892) (by decide +kernel), List.mem_of_getElem? (i := 1893) (by decide +kernel)⟩
theorem lw_p116 : lw_okq (⟨"ObligingPostsModel", "worstOf", "(III)I"⟩, 41) := ⟨⟨by decide +kernel, by decide +kernel⟩, List.mem_of_getElem? (i := 1230) (by decide +kernel), List.mem_of_getElem? (i := 1896) (by decide +kernel), List.mem_of_getElem? (i := 1897) (by decide +kernel)⟩
theorem lw_p117 : lw_okq (⟨"ObligingPostsModel", "insideBy", "(I)I"⟩, 41) := ⟨⟨by decide +kernel, by decide +kernel⟩, List.mem_of_getElem? (i := 1230) (by decide +kernel), List.mem_of_getElem? (i := 1912) (by decide +kernel), List.mem_of_getElem? (i := 1913) (by decide +kernel)⟩
theorem lw_p118 : lw_okq (⟨"ObligingPostsModel", "allPosts", "()I"⟩, 41) := ⟨⟨by decide +kernel, by decide +kernel⟩, List.mem_of_getElem? (i := 1230) (by decide +kernel), List.mem_of_getElem? (i := 1924) (by decide +kernel), List.mem_of_getElem? (i := 1925) (by decide +kernel)⟩
theorem lw_p119 : lw_okq (⟨"ObligingPostsModel", "worthOf", "(I)I"⟩, 41) := ⟨⟨by decide +kernel, by decide +kernel⟩, List.mem_of_getElem? (i := 1230) (by decide +kernel), List.mem_of_getElem? (i := 1928) (by decide +kernel), List.mem_of_getElem? (i := 1929) (by decide +kernel)⟩
theorem lw_p120 : lw_okq (⟨"ObligingPostsModel", "getsBy", "(IIIII)I"⟩, 41) := ⟨⟨by decide +kernel, by decide +kernel⟩, List.mem_of_getElem? (i := 1230) (by decide +kernel), List.mem_of_getElem? (i := 1950) (by decide +kernel), List.mem_of_getElem? (i := 1951) (by decide +kernel)⟩
theorem lw_p121 : lw_okq (⟨"ObligingPostsModel", "isFog", "(II)Z"⟩, 41) := ⟨⟨by decide +kernel, by decide +kernel⟩, List.mem_of_getElem? (i := 1230) (by decide +kernel), List.mem_of_getElem? (i := 1962) (by decide +kernel), List.mem_of_getElem? (i := 1963) (by decide +kernel)⟩
theorem lw_p122 : lw_okq (⟨"ObligingPostsModel", "layFog", "(II)V"⟩, 41) := ⟨⟨by decide +kernel, by decide +kernel⟩, List.mem_of_getElem? (i := 1230) (by decide +kernel), List.mem_of_getElem? (i := 1967) (by decide +kernel), List.mem_of_getElem? (i := 1968) (by decide +kernel)⟩
theorem lw_p123 : lw_okq (⟨"ObligingPostsModel", "keepAct", "(I)Z"⟩, 41) := ⟨⟨by decide +kernel, by decide +kernel⟩, List.mem_of_getElem? (i := 1230) (by decide +kernel), List.mem_of_getElem? (i := 1979) (by decide +kernel), List.mem_of_getElem? (i := 1980) (by decide +kernel)⟩
theorem lw_p124 : lw_okq (⟨"ObligingPostsModel", "goDrawn", "(J)V"⟩, 41) := ⟨⟨by decide +kernel, by decide +kernel⟩, List.mem_of_getElem? (i := 1230) (by decide +kernel), List.mem_of_getElem? (i := 2003) (by decide +kernel), List.mem_of_getElem? (i := 2004) (by decide +kernel)⟩
def lw_privs_8 : List (MethodName × Nat) := [(⟨"ObligingPostsModel", "numberAt", "(II)J"⟩, 41), (⟨"ObligingPostsModel", "mayOf", "(II)I"⟩, 41), (⟨"ObligingPostsModel", "isSeen", "(I)Z"⟩, 41), (⟨"ObligingPostsModel", "askOf", "(I)I"⟩, 41), (⟨"ObligingPostsModel", "worstOf", "(III)I"⟩, 41), (⟨"ObligingPostsModel", "insideBy", "(I)I"⟩, 41), (⟨"ObligingPostsModel", "allPosts", "()I"⟩, 41), (⟨"ObligingPostsModel", "worthOf", "(I)I"⟩, 41), (⟨"ObligingPostsModel", "getsBy", "(IIIII)I"⟩, 41), (⟨"ObligingPostsModel", "isFog", "(II)Z"⟩, 41), (⟨"ObligingPostsModel", "layFog", "(II)V"⟩, 41), (⟨"ObligingPostsModel", "keepAct", "(I)Z"⟩, 41), (⟨"ObligingPostsModel", "goDrawn", "(J)V"⟩, 41)]
theorem lw_r8 : ∀ q ∈ lw_privs_8, lw_okq q := List.forall_mem_cons.mpr ⟨lw_p112, List.forall_mem_cons.mpr ⟨lw_p113, List.forall_mem_cons.mpr ⟨lw_p114, List.forall_mem_cons.mpr ⟨lw_p115, List.forall_mem_cons.mpr ⟨lw_p116, List.forall_mem_cons.mpr ⟨lw_p117, List.forall_mem_cons.mpr ⟨lw_p118, List.forall_mem_cons.mpr ⟨lw_p119, List.forall_mem_cons.mpr ⟨lw_p120, List.forall_mem_cons.mpr ⟨lw_p121, List.forall_mem_cons.mpr ⟨lw_p122, List.forall_mem_cons.mpr ⟨lw_p123, List.forall_mem_cons.mpr ⟨lw_p124, fun _ h => absurd h List.not_mem_nil⟩⟩⟩⟩⟩⟩⟩⟩⟩⟩⟩⟩⟩
def lw_privs : List (MethodName × Nat) := lw_privs_1 ++ (lw_privs_2 ++ (lw_privs_3 ++ (lw_privs_4 ++ (lw_privs_5 ++ (lw_privs_6 ++ (lw_privs_7 ++ (lw_privs_8)))))))
def lw_tbl : List Cond := k2_sels lw_privs ++ tables_1
theorem lw_privs_ok : ∀ q ∈ lw_privs, lw_okq q := by
  show ∀ q ∈ lw_privs_1 ++ (lw_privs_2 ++ (lw_privs_3 ++ (lw_privs_4 ++ (lw_privs_5 ++ (lw_privs_6 ++ (lw_privs_7 ++ (lw_privs_8))))))), lw_okq q
  exact List.forall_mem_append.mpr ⟨lw_r1, List.forall_mem_append.mpr ⟨lw_r2, List.forall_mem_append.mpr ⟨lw_r3, List.forall_mem_append.mpr ⟨lw_r4, List.forall_mem_append.mpr ⟨lw_r5, List.forall_mem_append.mpr ⟨lw_r6, List.forall_mem_append.mpr ⟨lw_r7, lw_r8⟩⟩⟩⟩⟩⟩⟩

/-! ===== BEGIN words of one list among another's, by their places ===== -/
theorem goodIn_r {big : List Cond} (ws : List Cond) (ps : List Nat) (hp : ws = ps.filterMap (fun i => big[i]?)) (h : ws.all goodWord = true) : GoodIn big ws := by
  intro w hw
  have h1 := List.all_eq_true.mp h w hw
  rw [hp] at hw
  obtain ⟨i, -, hi⟩ := List.mem_filterMap.mp hw
  have hm : w ∈ big := by first | exact List.mem_of_getElem? hi | exact List.getElem?_mem hi
  exact ⟨hm, good_of_word h1⟩
theorem goodIn_app {big a b : List Cond} (ha : GoodIn big a) (hb : GoodIn big b) : GoodIn big (a ++ b) := fun w h => (List.mem_append.mp h).elim (ha w) (hb w)
theorem goodIn_ca {big a b : List Cond} {c : Cond} (ha : GoodIn big (c :: a)) (hb : GoodIn big b) : GoodIn big (c :: (a ++ b)) := fun w h => (List.mem_cons.mp h).elim (fun e => ha w (List.mem_cons.mpr (Or.inl e))) (fun h => (List.mem_append.mp h).elim (fun h => ha w (List.mem_cons.mpr (Or.inr h))) (hb w))
theorem goodIn_sub {big ws : List Cond} (hm : ∀ w ∈ ws, w ∈ big) (h : ws.all goodWord = true) : GoodIn big ws := fun w hw => ⟨hm w hw, good_of_word (List.all_eq_true.mp h w hw)⟩
/-! ===== END ===== -/

/-! ===== BEGIN printed: names, fields, word lists, decode rows ===== -/
def RX0 : String := "ObligingPosts$Acts"
def TX0 : u_T := fun k => match k with
  | 0 => ("ObligingPosts$Acts", "size", "I", false)
  | 1 => ("ObligingPosts$Acts", "codes", "[I", true)
  | _ => ("ObligingPosts$Acts", "times", "[I", true)
def tyX0 : Nat → FieldType := fun k => match k with
  | 0 => .int
  | 1 => .array .int
  | _ => .array .int
abbrev wsX00 : List Cond := u_ws RX0 TX0 3
theorem nmX0 : ∀ a, a < 3 → ∀ b, b < 3 → a ≠ b → (TX0 a).2.1 ≠ (TX0 b).2.1 := by decide +kernel
theorem tyX0_ok : ∀ k, k < 3 → parseFieldDescriptor (TX0 k).2.2.1 = some (tyX0 k) := by decide +kernel
abbrev cX0_init : ByteArray := prog_2_method_1_code
def yX0_init : MethodName := ⟨RX0, "<init>", "()V"⟩
abbrev cX0_clear : ByteArray := prog_2_method_2_code
def yX0_clear : MethodName := ⟨RX0, "clear", "()V"⟩
abbrev cX0_copyFrom : ByteArray := prog_2_method_3_code
def yX0_copyFrom : MethodName := ⟨RX0, "copyFrom", "(LObligingPosts$Acts;)V"⟩
abbrev cX0_add : ByteArray := prog_2_method_4_code
def yX0_add : MethodName := ⟨RX0, "add", "(III)Z"⟩
abbrev cX0_takeBack : ByteArray := prog_2_method_5_code
def yX0_takeBack : MethodName := ⟨RX0, "takeBack", "()V"⟩
abbrev cX0_timesTurned : ByteArray := prog_2_method_6_code
def yX0_timesTurned : MethodName := ⟨RX0, "timesTurned", "(II)I"⟩
abbrev cX0_isHeld : ByteArray := prog_2_method_7_code
def yX0_isHeld : MethodName := ⟨RX0, "isHeld", "(II)Z"⟩
def RX1 : String := "ObligingPosts$Fog"
def TX1 : u_T := fun k => match k with
  | 0 => ("ObligingPosts$Fog", "heath", "LObligingPosts$Heath;", true)
  | 1 => ("ObligingPosts$Fog", "learned", "I", false)
  | 2 => ("ObligingPosts$Fog", "weights", "[J", true)
  | _ => ("ObligingPosts$Fog", "whole", "J", false)
def tyX1 : Nat → FieldType := fun k => match k with
  | 0 => .object "ObligingPosts$Heath"
  | 1 => .int
  | 2 => .array .long
  | _ => .long
abbrev wsX10 : List Cond := u_ws RX1 TX1 4
theorem nmX1 : ∀ a, a < 4 → ∀ b, b < 4 → a ≠ b → (TX1 a).2.1 ≠ (TX1 b).2.1 := by decide +kernel
theorem tyX1_ok : ∀ k, k < 4 → parseFieldDescriptor (TX1 k).2.2.1 = some (tyX1 k) := by decide +kernel
abbrev cX1_init : ByteArray := prog_3_method_1_code
def yX1_init : MethodName := ⟨RX1, "<init>", "(LObligingPosts$Heath;)V"⟩
abbrev cX1_forget : ByteArray := prog_3_method_2_code
def yX1_forget : MethodName := ⟨RX1, "forget", "()V"⟩
abbrev cX1_learn : ByteArray := prog_3_method_3_code
def yX1_learn : MethodName := ⟨RX1, "learn", "(LObligingPosts$Night;I)V"⟩
abbrev cX1_branch : ByteArray := prog_3_method_4_code
def yX1_branch : MethodName := ⟨RX1, "branch", "(LObligingPosts$Fog;LObligingPosts$Night;IIJ)V"⟩
abbrev cX1_addInside : ByteArray := prog_3_method_5_code
def yX1_addInside : MethodName := ⟨RX1, "addInside", "(IJ)V"⟩
abbrev cX1_drawnFrom : ByteArray := prog_3_method_6_code
def yX1_drawnFrom : MethodName := ⟨RX1, "drawnFrom", "(J)I"⟩
def RX2 : String := "ObligingPosts$Heath"
def TX2 : u_T := fun k => match k with
  | 0 => ("ObligingPosts$Heath", "lines", "I", false)
  | 1 => ("ObligingPosts$Heath", "hours", "I", false)
  | 2 => ("ObligingPosts$Heath", "law", "I", false)
  | 3 => ("ObligingPosts$Heath", "odds", "I", false)
  | 4 => ("ObligingPosts$Heath", "inns", "I", false)
  | 5 => ("ObligingPosts$Heath", "posts", "I", false)
  | 6 => ("ObligingPosts$Heath", "roads", "I", false)
  | 7 => ("ObligingPosts$Heath", "armLines", "I", false)
  | 8 => ("ObligingPosts$Heath", "walkers", "I", false)
  | 9 => ("ObligingPosts$Heath", "rooms", "[I", true)
  | 10 => ("ObligingPosts$Heath", "roadsOf", "[I", true)
  | 11 => ("ObligingPosts$Heath", "goals", "[I", true)
  | 12 => ("ObligingPosts$Heath", "toldArms", "[I", true)
  | 13 => ("ObligingPosts$Heath", "starts", "[I", true)
  | 14 => ("ObligingPosts$Heath", "comings", "[I", true)
  | _ => ("ObligingPosts$Heath", "acts", "LObligingPosts$Acts;", true)
def tyX2 : Nat → FieldType := fun k => match k with
  | 0 => .int
  | 1 => .int
  | 2 => .int
  | 3 => .int
  | 4 => .int
  | 5 => .int
  | 6 => .int
  | 7 => .int
  | 8 => .int
  | 9 => .array .int
  | 10 => .array .int
  | 11 => .array .int
  | 12 => .array .int
  | 13 => .array .int
  | 14 => .array .int
  | _ => .object "ObligingPosts$Acts"
abbrev wsX20 : List Cond := u_ws RX2 TX2 16
theorem nmX2 : ∀ a, a < 16 → ∀ b, b < 16 → a ≠ b → (TX2 a).2.1 ≠ (TX2 b).2.1 := by decide +kernel
theorem tyX2_ok : ∀ k, k < 16 → parseFieldDescriptor (TX2 k).2.2.1 = some (tyX2 k) := by decide +kernel
abbrev cX2_init : ByteArray := prog_4_method_1_code
def yX2_init : MethodName := ⟨RX2, "<init>", "()V"⟩
abbrev cX2_clear : ByteArray := prog_4_method_2_code
def yX2_clear : MethodName := ⟨RX2, "clear", "()V"⟩
abbrev cX2_copyFrom : ByteArray := prog_4_method_3_code
def yX2_copyFrom : MethodName := ⟨RX2, "copyFrom", "(LObligingPosts$Heath;)V"⟩
abbrev cX2_addRoad : ByteArray := prog_4_method_4_code
def yX2_addRoad : MethodName := ⟨RX2, "addRoad", "(II)V"⟩
abbrev cX2_isTold : ByteArray := prog_4_method_5_code
def yX2_isTold : MethodName := ⟨RX2, "isTold", "()Z"⟩
abbrev cX2_hasInn : ByteArray := prog_4_method_6_code
def yX2_hasInn : MethodName := ⟨RX2, "hasInn", "(I)Z"⟩
abbrev cX2_hasPost : ByteArray := prog_4_method_7_code
def yX2_hasPost : MethodName := ⟨RX2, "hasPost", "(I)Z"⟩
abbrev cX2_hasPlace : ByteArray := prog_4_method_8_code
def yX2_hasPlace : MethodName := ⟨RX2, "hasPlace", "(I)Z"⟩
abbrev cX2_hasWalker : ByteArray := prog_4_method_9_code
def yX2_hasWalker : MethodName := ⟨RX2, "hasWalker", "(I)Z"⟩
abbrev cX2_hasHour : ByteArray := prog_4_method_10_code
def yX2_hasHour : MethodName := ⟨RX2, "hasHour", "(I)Z"⟩
abbrev cX2_hasHourAhead : ByteArray := prog_4_method_11_code
def yX2_hasHourAhead : MethodName := ⟨RX2, "hasHourAhead", "(I)Z"⟩
abbrev cX2_hasArm : ByteArray := prog_4_method_12_code
def yX2_hasArm : MethodName := ⟨RX2, "hasArm", "(I)Z"⟩
abbrev cX2_goal : ByteArray := prog_4_method_13_code
def yX2_goal : MethodName := ⟨RX2, "goal", "(II)I"⟩
abbrev cX2_nextRoad : ByteArray := prog_4_method_14_code
def yX2_nextRoad : MethodName := ⟨RX2, "nextRoad", "(II)I"⟩
abbrev cX2_sendBy : ByteArray := prog_4_method_15_code
def yX2_sendBy : MethodName := ⟨RX2, "sendBy", "([IIII)I"⟩
abbrev cX2_innsBeside : ByteArray := prog_4_method_16_code
def yX2_innsBeside : MethodName := ⟨RX2, "innsBeside", "(I)I"⟩
abbrev cX2_postsWithoutRoads : ByteArray := prog_4_method_17_code
def yX2_postsWithoutRoads : MethodName := ⟨RX2, "postsWithoutRoads", "()I"⟩
abbrev cX2_placesFrom : ByteArray := prog_4_method_18_code
def yX2_placesFrom : MethodName := ⟨RX2, "placesFrom", "(I)I"⟩
abbrev cX2_distance : ByteArray := prog_4_method_19_code
def yX2_distance : MethodName := ⟨RX2, "distance", "(II)I"⟩
abbrev cX2_oneRoadOn : ByteArray := prog_4_method_20_code
def yX2_oneRoadOn : MethodName := ⟨RX2, "oneRoadOn", "(I)I"⟩
abbrev cX2_settingNumber : ByteArray := prog_4_method_21_code
def yX2_settingNumber : MethodName := ⟨RX2, "settingNumber", "([II)I"⟩
abbrev cX2_allSettings : ByteArray := prog_4_method_22_code
def yX2_allSettings : MethodName := ⟨RX2, "allSettings", "()I"⟩
abbrev cX2_isTree : ByteArray := prog_4_method_23_code
def yX2_isTree : MethodName := ⟨RX2, "isTree", "([II)Z"⟩
abbrev cX2_leadsToInn : ByteArray := prog_4_method_24_code
def yX2_leadsToInn : MethodName := ⟨RX2, "leadsToInn", "([III)Z"⟩
abbrev cX2_postsOnRings : ByteArray := prog_4_method_25_code
def yX2_postsOnRings : MethodName := ⟨RX2, "postsOnRings", "([II)I"⟩
abbrev cX2_leadsBack : ByteArray := prog_4_method_26_code
def yX2_leadsBack : MethodName := ⟨RX2, "leadsBack", "([III)Z"⟩
def RX3 : String := "ObligingPosts$Lone"
def TX3 : u_T := fun k => match k with
  | 0 => ("ObligingPosts$Lone", "heath", "LObligingPosts$Heath;", true)
  | 1 => ("ObligingPosts$Lone", "arms", "[I", true)
  | _ => ("ObligingPosts$Lone", "timesSent", "I", false)
def tyX3 : Nat → FieldType := fun k => match k with
  | 0 => .object "ObligingPosts$Heath"
  | 1 => .array .int
  | _ => .int
abbrev wsX30 : List Cond := u_ws RX3 TX3 3
theorem nmX3 : ∀ a, a < 3 → ∀ b, b < 3 → a ≠ b → (TX3 a).2.1 ≠ (TX3 b).2.1 := by decide +kernel
theorem tyX3_ok : ∀ k, k < 3 → parseFieldDescriptor (TX3 k).2.2.1 = some (tyX3 k) := by decide +kernel
abbrev cX3_init : ByteArray := prog_5_method_1_code
def yX3_init : MethodName := ⟨RX3, "<init>", "(LObligingPosts$Heath;)V"⟩
abbrev cX3_begin : ByteArray := prog_5_method_2_code
def yX3_begin : MethodName := ⟨RX3, "begin", "()V"⟩
abbrev cX3_setArms : ByteArray := prog_5_method_3_code
def yX3_setArms : MethodName := ⟨RX3, "setArms", "(I)V"⟩
abbrev cX3_sendFrom : ByteArray := prog_5_method_4_code
def yX3_sendFrom : MethodName := ⟨RX3, "sendFrom", "(I)I"⟩
abbrev cX3_settingNow : ByteArray := prog_5_method_5_code
def yX3_settingNow : MethodName := ⟨RX3, "settingNow", "()I"⟩
def RX4 : String := "ObligingPosts$Night"
def TX4 : u_T := fun k => match k with
  | 0 => ("ObligingPosts$Night", "heath", "LObligingPosts$Heath;", true)
  | 1 => ("ObligingPosts$Night", "law", "I", false)
  | 2 => ("ObligingPosts$Night", "turning", "I", false)
  | 3 => ("ObligingPosts$Night", "foggy", "I", false)
  | 4 => ("ObligingPosts$Night", "comings", "[I", true)
  | 5 => ("ObligingPosts$Night", "places", "[I", true)
  | 6 => ("ObligingPosts$Night", "arms", "[I", true)
  | 7 => ("ObligingPosts$Night", "roadsTaken", "[I", true)
  | _ => ("ObligingPosts$Night", "guests", "[I", true)
def tyX4 : Nat → FieldType := fun k => match k with
  | 0 => .object "ObligingPosts$Heath"
  | 1 => .int
  | 2 => .int
  | 3 => .int
  | 4 => .array .int
  | 5 => .array .int
  | 6 => .array .int
  | 7 => .array .int
  | _ => .array .int
abbrev wsX40 : List Cond := u_ws RX4 TX4 9
theorem nmX4 : ∀ a, a < 9 → ∀ b, b < 9 → a ≠ b → (TX4 a).2.1 ≠ (TX4 b).2.1 := by decide +kernel
theorem tyX4_ok : ∀ k, k < 9 → parseFieldDescriptor (TX4 k).2.2.1 = some (tyX4 k) := by decide +kernel
abbrev cX4_init : ByteArray := prog_6_method_1_code
def yX4_init : MethodName := ⟨RX4, "<init>", "(LObligingPosts$Heath;)V"⟩
abbrev cX4_prepare : ByteArray := prog_6_method_2_code
def yX4_prepare : MethodName := ⟨RX4, "prepare", "()V"⟩
abbrev cX4_neverComes : ByteArray := prog_6_method_3_code
def yX4_neverComes : MethodName := ⟨RX4, "neverComes", "(I)V"⟩
abbrev cX4_pointAtFirst : ByteArray := prog_6_method_4_code
def yX4_pointAtFirst : MethodName := ⟨RX4, "pointAtFirst", "(II)V"⟩
abbrev cX4_run : ByteArray := prog_6_method_5_code
def yX4_run : MethodName := ⟨RX4, "run", "()V"⟩
abbrev cX4_begin : ByteArray := prog_6_method_6_code
def yX4_begin : MethodName := ⟨RX4, "begin", "()V"⟩
abbrev cX4_passHour : ByteArray := prog_6_method_7_code
def yX4_passHour : MethodName := ⟨RX4, "passHour", "(I)V"⟩
abbrev cX4_turnByActs : ByteArray := prog_6_method_8_code
def yX4_turnByActs : MethodName := ⟨RX4, "turnByActs", "(I)V"⟩
abbrev cX4_countGuests : ByteArray := prog_6_method_9_code
def yX4_countGuests : MethodName := ⟨RX4, "countGuests", "(I)V"⟩
abbrev cX4_isSentFrom : ByteArray := prog_6_method_10_code
def yX4_isSentFrom : MethodName := ⟨RX4, "isSentFrom", "(II)Z"⟩
abbrev cX4_stayOn : ByteArray := prog_6_method_11_code
def yX4_stayOn : MethodName := ⟨RX4, "stayOn", "(II)V"⟩
abbrev cX4_sendOn : ByteArray := prog_6_method_12_code
def yX4_sendOn : MethodName := ⟨RX4, "sendOn", "(II)V"⟩
abbrev cX4_letsIn : ByteArray := prog_6_method_13_code
def yX4_letsIn : MethodName := ⟨RX4, "letsIn", "(I)Z"⟩
abbrev cX4_placeOf : ByteArray := prog_6_method_14_code
def yX4_placeOf : MethodName := ⟨RX4, "placeOf", "(II)I"⟩
abbrev cX4_armOf : ByteArray := prog_6_method_15_code
def yX4_armOf : MethodName := ⟨RX4, "armOf", "(II)I"⟩
abbrev cX4_isSent : ByteArray := prog_6_method_16_code
def yX4_isSent : MethodName := ⟨RX4, "isSent", "(II)Z"⟩
abbrev cX4_walkersAt : ByteArray := prog_6_method_17_code
def yX4_walkersAt : MethodName := ⟨RX4, "walkersAt", "(II)I"⟩
abbrev cX4_walkersSent : ByteArray := prog_6_method_18_code
def yX4_walkersSent : MethodName := ⟨RX4, "walkersSent", "(I)I"⟩
abbrev cX4_walkersInside : ByteArray := prog_6_method_19_code
def yX4_walkersInside : MethodName := ⟨RX4, "walkersInside", "(I)I"⟩
abbrev cX4_walkersOutside : ByteArray := prog_6_method_20_code
def yX4_walkersOutside : MethodName := ⟨RX4, "walkersOutside", "(I)I"⟩
abbrev cX4_timesPostSent : ByteArray := prog_6_method_21_code
def yX4_timesPostSent : MethodName := ⟨RX4, "timesPostSent", "(I)I"⟩
abbrev cX4_timesRoadUsed : ByteArray := prog_6_method_22_code
def yX4_timesRoadUsed : MethodName := ⟨RX4, "timesRoadUsed", "(II)I"⟩
abbrev cX4_timesWalked : ByteArray := prog_6_method_23_code
def yX4_timesWalked : MethodName := ⟨RX4, "timesWalked", "(I)I"⟩
abbrev cX4_firstHourHome : ByteArray := prog_6_method_24_code
def yX4_firstHourHome : MethodName := ⟨RX4, "firstHourHome", "(I)I"⟩
abbrev cX4_firstHourIn : ByteArray := prog_6_method_25_code
def yX4_firstHourIn : MethodName := ⟨RX4, "firstHourIn", "(II)I"⟩
abbrev cX4_postsVisited : ByteArray := prog_6_method_26_code
def yX4_postsVisited : MethodName := ⟨RX4, "postsVisited", "(I)I"⟩
abbrev cX4_timesReturned : ByteArray := prog_6_method_27_code
def yX4_timesReturned : MethodName := ⟨RX4, "timesReturned", "(I)I"⟩
abbrev cX4_hoursLingered : ByteArray := prog_6_method_28_code
def yX4_hoursLingered : MethodName := ⟨RX4, "hoursLingered", "(I)I"⟩
abbrev cX4_postBit : ByteArray := prog_6_method_29_code
def yX4_postBit : MethodName := ⟨RX4, "postBit", "(II)I"⟩
abbrev cX4_guestsIn : ByteArray := prog_6_method_30_code
def yX4_guestsIn : MethodName := ⟨RX4, "guestsIn", "(II)I"⟩
abbrev cX4_firstHourFull : ByteArray := prog_6_method_31_code
def yX4_firstHourFull : MethodName := ⟨RX4, "firstHourFull", "(I)I"⟩
abbrev cX4_timesRefused : ByteArray := prog_6_method_32_code
def yX4_timesRefused : MethodName := ⟨RX4, "timesRefused", "(I)I"⟩
abbrev cX4_isRefused : ByteArray := prog_6_method_33_code
def yX4_isRefused : MethodName := ⟨RX4, "isRefused", "(III)Z"⟩
abbrev cX4_firstHourAllInside : ByteArray := prog_6_method_34_code
def yX4_firstHourAllInside : MethodName := ⟨RX4, "firstHourAllInside", "()I"⟩
abbrev cX4_mostAtOnePost : ByteArray := prog_6_method_35_code
def yX4_mostAtOnePost : MethodName := ⟨RX4, "mostAtOnePost", "(I)I"⟩
abbrev cX4_firstHourTogether : ByteArray := prog_6_method_36_code
def yX4_firstHourTogether : MethodName := ⟨RX4, "firstHourTogether", "(II)I"⟩
def RX5 : String := "ObligingPosts$Slot"
def TX5 : u_T := fun k => match k with
  | 0 => ("ObligingPosts$Slot", "numbers", "[J", true)
  | 1 => ("ObligingPosts$Slot", "width", "I", false)
  | _ => ("ObligingPosts$Slot", "size", "I", false)
def tyX5 : Nat → FieldType := fun k => match k with
  | 0 => .array .long
  | 1 => .int
  | _ => .int
abbrev wsX50 : List Cond := u_ws RX5 TX5 3
theorem nmX5 : ∀ a, a < 3 → ∀ b, b < 3 → a ≠ b → (TX5 a).2.1 ≠ (TX5 b).2.1 := by decide +kernel
theorem tyX5_ok : ∀ k, k < 3 → parseFieldDescriptor (TX5 k).2.2.1 = some (tyX5 k) := by decide +kernel
abbrev cX5_init : ByteArray := prog_7_method_1_code
def yX5_init : MethodName := ⟨RX5, "<init>", "()V"⟩
abbrev cX5_begin : ByteArray := prog_7_method_2_code
def yX5_begin : MethodName := ⟨RX5, "begin", "(II)V"⟩
abbrev cX5_put : ByteArray := prog_7_method_3_code
def yX5_put : MethodName := ⟨RX5, "put", "(IJ)V"⟩
abbrev cX5_cut : ByteArray := prog_7_method_4_code
def yX5_cut : MethodName := ⟨RX5, "cut", "(J)J"⟩
abbrev cX5_hasPart : ByteArray := prog_7_method_5_code
def yX5_hasPart : MethodName := ⟨RX5, "hasPart", "(II)Z"⟩
def RX6 : String := "ObligingPosts$Tape"
def TX6 : u_T := fun k => match k with
  | 0 => ("ObligingPosts$Tape", "bytes", "[B", true)
  | 1 => ("ObligingPosts$Tape", "size", "I", false)
  | 2 => ("ObligingPosts$Tape", "fault", "I", false)
  | 3 => ("ObligingPosts$Tape", "faultPlace", "I", false)
  | 4 => ("ObligingPosts$Tape", "kind", "I", false)
  | 5 => ("ObligingPosts$Tape", "start", "I", false)
  | 6 => ("ObligingPosts$Tape", "next", "I", false)
  | _ => ("ObligingPosts$Tape", "value", "I", false)
def tyX6 : Nat → FieldType := fun k => match k with
  | 0 => .array .byte
  | 1 => .int
  | 2 => .int
  | 3 => .int
  | 4 => .int
  | 5 => .int
  | 6 => .int
  | _ => .int
abbrev wsX60 : List Cond := u_ws RX6 TX6 8
theorem nmX6 : ∀ a, a < 8 → ∀ b, b < 8 → a ≠ b → (TX6 a).2.1 ≠ (TX6 b).2.1 := by decide +kernel
theorem tyX6_ok : ∀ k, k < 8 → parseFieldDescriptor (TX6 k).2.2.1 = some (tyX6 k) := by decide +kernel
abbrev cX6_init : ByteArray := prog_8_method_1_code
def yX6_init : MethodName := ⟨RX6, "<init>", "()V"⟩
abbrev cX6_append : ByteArray := prog_8_method_2_code
def yX6_append : MethodName := ⟨RX6, "append", "(I)V"⟩
abbrev cX6_readInto : ByteArray := prog_8_method_3_code
def yX6_readInto : MethodName := ⟨RX6, "readInto", "(LObligingPosts$Heath;)V"⟩
abbrev cX6_readLine : ByteArray := prog_8_method_4_code
def yX6_readLine : MethodName := ⟨RX6, "readLine", "(LObligingPosts$Heath;)V"⟩
abbrev cX6_readHeath : ByteArray := prog_8_method_5_code
def yX6_readHeath : MethodName := ⟨RX6, "readHeath", "(LObligingPosts$Heath;)V"⟩
abbrev cX6_readInn : ByteArray := prog_8_method_6_code
def yX6_readInn : MethodName := ⟨RX6, "readInn", "(LObligingPosts$Heath;)V"⟩
abbrev cX6_readPost : ByteArray := prog_8_method_7_code
def yX6_readPost : MethodName := ⟨RX6, "readPost", "(LObligingPosts$Heath;)V"⟩
abbrev cX6_readRoad : ByteArray := prog_8_method_8_code
def yX6_readRoad : MethodName := ⟨RX6, "readRoad", "(LObligingPosts$Heath;)V"⟩
abbrev cX6_readArm : ByteArray := prog_8_method_9_code
def yX6_readArm : MethodName := ⟨RX6, "readArm", "(LObligingPosts$Heath;)V"⟩
abbrev cX6_readWalker : ByteArray := prog_8_method_10_code
def yX6_readWalker : MethodName := ⟨RX6, "readWalker", "(LObligingPosts$Heath;)V"⟩
abbrev cX6_fail : ByteArray := prog_8_method_11_code
def yX6_fail : MethodName := ⟨RX6, "fail", "(I)V"⟩
abbrev cX6_takeSign : ByteArray := prog_8_method_12_code
def yX6_takeSign : MethodName := ⟨RX6, "takeSign", "()V"⟩
abbrev cX6_takeWord : ByteArray := prog_8_method_13_code
def yX6_takeWord : MethodName := ⟨RX6, "takeWord", "(Ljava/lang/String;)V"⟩
abbrev cX6_takeWordOfFew : ByteArray := prog_8_method_14_code
def yX6_takeWordOfFew : MethodName := ⟨RX6, "takeWordOfFew", "(II)V"⟩
abbrev cX6_takeNumber : ByteArray := prog_8_method_15_code
def yX6_takeNumber : MethodName := ⟨RX6, "takeNumber", "(II)I"⟩
abbrev cX6_numberHere : ByteArray := prog_8_method_16_code
def yX6_numberHere : MethodName := ⟨RX6, "numberHere", "(II)I"⟩
abbrev cX6_isWord : ByteArray := prog_8_method_17_code
def yX6_isWord : MethodName := ⟨RX6, "isWord", "(Ljava/lang/String;)Z"⟩
abbrev cX6_take : ByteArray := prog_8_method_18_code
def yX6_take : MethodName := ⟨RX6, "take", "()V"⟩
abbrev cX6_isBlank : ByteArray := prog_8_method_19_code
def yX6_isBlank : MethodName := ⟨RX6, "isBlank", "(I)Z"⟩
abbrev cX6_isLetter : ByteArray := prog_8_method_20_code
def yX6_isLetter : MethodName := ⟨RX6, "isLetter", "(I)Z"⟩
abbrev cX6_isDigit : ByteArray := prog_8_method_21_code
def yX6_isDigit : MethodName := ⟨RX6, "isDigit", "(I)Z"⟩
def RX7 : String := "ObligingPosts"
def TX7 : u_T := fun k => match k with
  | 0 => ("ObligingPosts", "tape", "LObligingPosts$Tape;", true)
  | 1 => ("ObligingPosts", "heath", "LObligingPosts$Heath;", true)
  | 2 => ("ObligingPosts", "draft", "LObligingPosts$Heath;", true)
  | 3 => ("ObligingPosts", "images", "[LObligingPosts$Heath;", true)
  | 4 => ("ObligingPosts", "slots", "[LObligingPosts$Slot;", true)
  | 5 => ("ObligingPosts", "now", "LObligingPosts$Night;", true)
  | 6 => ("ObligingPosts", "other", "LObligingPosts$Night;", true)
  | 7 => ("ObligingPosts", "lone", "LObligingPosts$Lone;", true)
  | 8 => ("ObligingPosts", "fog", "LObligingPosts$Fog;", true)
  | 9 => ("ObligingPosts", "worths", "[I", true)
  | 10 => ("ObligingPosts", "worthsKnown", "Z", false)
  | _ => ("ObligingPosts", "supposed", "[I", true)
def tyX7 : Nat → FieldType := fun k => match k with
  | 0 => .object "ObligingPosts$Tape"
  | 1 => .object "ObligingPosts$Heath"
  | 2 => .object "ObligingPosts$Heath"
  | 3 => .array (.object "ObligingPosts$Heath")
  | 4 => .array (.object "ObligingPosts$Slot")
  | 5 => .object "ObligingPosts$Night"
  | 6 => .object "ObligingPosts$Night"
  | 7 => .object "ObligingPosts$Lone"
  | 8 => .object "ObligingPosts$Fog"
  | 9 => .array .int
  | 10 => .boolean
  | _ => .array .int
abbrev wsX70 : List Cond := u_ws RX7 TX7 12
theorem nmX7 : ∀ a, a < 12 → ∀ b, b < 12 → a ≠ b → (TX7 a).2.1 ≠ (TX7 b).2.1 := by decide +kernel
theorem tyX7_ok : ∀ k, k < 12 → parseFieldDescriptor (TX7 k).2.2.1 = some (tyX7 k) := by decide +kernel
abbrev cX7_init : ByteArray := prog_1_method_1_code
def yX7_init : MethodName := ⟨RX7, "<init>", "()V"⟩
abbrev cX7_feed : ByteArray := prog_1_method_2_code
def yX7_feed : MethodName := ⟨RX7, "feed", "(IIIII)I"⟩
abbrev cX7_end : ByteArray := prog_1_method_3_code
def yX7_end : MethodName := ⟨RX7, "end", "(I)I"⟩
abbrev cX7_heath : ByteArray := prog_1_method_4_code
def yX7_heath : MethodName := ⟨RX7, "heath", "()I"⟩
abbrev cX7_fault : ByteArray := prog_1_method_5_code
def yX7_fault : MethodName := ⟨RX7, "fault", "(I)I"⟩
abbrev cX7_room : ByteArray := prog_1_method_6_code
def yX7_room : MethodName := ⟨RX7, "room", "(I)I"⟩
abbrev cX7_roads : ByteArray := prog_1_method_7_code
def yX7_roads : MethodName := ⟨RX7, "roads", "(I)I"⟩
abbrev cX7_goes : ByteArray := prog_1_method_8_code
def yX7_goes : MethodName := ⟨RX7, "goes", "(II)I"⟩
abbrev cX7_told : ByteArray := prog_1_method_9_code
def yX7_told : MethodName := ⟨RX7, "told", "(I)I"⟩
abbrev cX7_walker : ByteArray := prog_1_method_10_code
def yX7_walker : MethodName := ⟨RX7, "walker", "(II)I"⟩
abbrev cX7_at : ByteArray := prog_1_method_11_code
def yX7_at : MethodName := ⟨RX7, "at", "(II)I"⟩
abbrev cX7_arm : ByteArray := prog_1_method_12_code
def yX7_arm : MethodName := ⟨RX7, "arm", "(II)I"⟩
abbrev cX7_here : ByteArray := prog_1_method_13_code
def yX7_here : MethodName := ⟨RX7, "here", "(II)I"⟩
abbrev cX7_sent : ByteArray := prog_1_method_14_code
def yX7_sent : MethodName := ⟨RX7, "sent", "(I)I"⟩
abbrev cX7_sends : ByteArray := prog_1_method_15_code
def yX7_sends : MethodName := ⟨RX7, "sends", "(I)I"⟩
abbrev cX7_used : ByteArray := prog_1_method_16_code
def yX7_used : MethodName := ⟨RX7, "used", "(II)I"⟩
abbrev cX7_walks : ByteArray := prog_1_method_17_code
def yX7_walks : MethodName := ⟨RX7, "walks", "(I)I"⟩
abbrev cX7_home : ByteArray := prog_1_method_18_code
def yX7_home : MethodName := ⟨RX7, "home", "(I)I"⟩
abbrev cX7_inn : ByteArray := prog_1_method_19_code
def yX7_inn : MethodName := ⟨RX7, "inn", "(I)I"⟩
abbrev cX7_trail : ByteArray := prog_1_method_20_code
def yX7_trail : MethodName := ⟨RX7, "trail", "(I)I"⟩
abbrev cX7_again : ByteArray := prog_1_method_21_code
def yX7_again : MethodName := ⟨RX7, "again", "(I)I"⟩
abbrev cX7_lingers : ByteArray := prog_1_method_22_code
def yX7_lingers : MethodName := ⟨RX7, "lingers", "(I)I"⟩
abbrev cX7_doors : ByteArray := prog_1_method_23_code
def yX7_doors : MethodName := ⟨RX7, "doors", "(I)I"⟩
abbrev cX7_guests : ByteArray := prog_1_method_24_code
def yX7_guests : MethodName := ⟨RX7, "guests", "(II)I"⟩
abbrev cX7_full : ByteArray := prog_1_method_25_code
def yX7_full : MethodName := ⟨RX7, "full", "(I)I"⟩
abbrev cX7_refuses : ByteArray := prog_1_method_26_code
def yX7_refuses : MethodName := ⟨RX7, "refuses", "(I)I"⟩
abbrev cX7_inside : ByteArray := prog_1_method_27_code
def yX7_inside : MethodName := ⟨RX7, "inside", "(I)I"⟩
abbrev cX7_outside : ByteArray := prog_1_method_28_code
def yX7_outside : MethodName := ⟨RX7, "outside", "(I)I"⟩
abbrev cX7_done : ByteArray := prog_1_method_29_code
def yX7_done : MethodName := ⟨RX7, "done", "()I"⟩
abbrev cX7_crowd : ByteArray := prog_1_method_30_code
def yX7_crowd : MethodName := ⟨RX7, "crowd", "(I)I"⟩
abbrev cX7_armless : ByteArray := prog_1_method_31_code
def yX7_armless : MethodName := ⟨RX7, "armless", "()I"⟩
abbrev cX7_meet : ByteArray := prog_1_method_32_code
def yX7_meet : MethodName := ⟨RX7, "meet", "(II)I"⟩
abbrev cX7_busy : ByteArray := prog_1_method_33_code
def yX7_busy : MethodName := ⟨RX7, "busy", "()I"⟩
abbrev cX7_idle : ByteArray := prog_1_method_34_code
def yX7_idle : MethodName := ⟨RX7, "idle", "()I"⟩
abbrev cX7_reach : ByteArray := prog_1_method_35_code
def yX7_reach : MethodName := ⟨RX7, "reach", "(I)I"⟩
abbrev cX7_far : ByteArray := prog_1_method_36_code
def yX7_far : MethodName := ⟨RX7, "far", "(II)I"⟩
abbrev cX7_setting : ByteArray := prog_1_method_37_code
def yX7_setting : MethodName := ⟨RX7, "setting", "(I)I"⟩
abbrev cX7_settings : ByteArray := prog_1_method_38_code
def yX7_settings : MethodName := ⟨RX7, "settings", "()I"⟩
abbrev cX7_same : ByteArray := prog_1_method_39_code
def yX7_same : MethodName := ⟨RX7, "same", "()I"⟩
abbrev cX7_alone : ByteArray := prog_1_method_40_code
def yX7_alone : MethodName := ⟨RX7, "alone", "(I)I"⟩
abbrev cX7_steps : ByteArray := prog_1_method_41_code
def yX7_steps : MethodName := ⟨RX7, "steps", "(I)I"⟩
abbrev cX7_behind : ByteArray := prog_1_method_42_code
def yX7_behind : MethodName := ⟨RX7, "behind", "(I)I"⟩
abbrev cX7_nth : ByteArray := prog_1_method_43_code
def yX7_nth : MethodName := ⟨RX7, "nth", "(II)I"⟩
abbrev cX7_round : ByteArray := prog_1_method_44_code
def yX7_round : MethodName := ⟨RX7, "round", "(I)I"⟩
abbrev cX7_houses : ByteArray := prog_1_method_45_code
def yX7_houses : MethodName := ⟨RX7, "houses", "(III)I"⟩
abbrev cX7_tree : ByteArray := prog_1_method_46_code
def yX7_tree : MethodName := ⟨RX7, "tree", "(I)I"⟩
abbrev cX7_ring : ByteArray := prog_1_method_47_code
def yX7_ring : MethodName := ⟨RX7, "ring", "(I)I"⟩
abbrev cX7_trees : ByteArray := prog_1_method_48_code
def yX7_trees : MethodName := ⟨RX7, "trees", "()I"⟩
abbrev cX7_point : ByteArray := prog_1_method_49_code
def yX7_point : MethodName := ⟨RX7, "point", "(II)I"⟩
abbrev cX7_best : ByteArray := prog_1_method_50_code
def yX7_best : MethodName := ⟨RX7, "best", "()I"⟩
abbrev cX7_crowds : ByteArray := prog_1_method_51_code
def yX7_crowds : MethodName := ⟨RX7, "crowds", "()I"⟩
abbrev cX7_may : ByteArray := prog_1_method_52_code
def yX7_may : MethodName := ⟨RX7, "may", "(II)I"⟩
abbrev cX7_ask : ByteArray := prog_1_method_53_code
def yX7_ask : MethodName := ⟨RX7, "ask", "(II)I"⟩
abbrev cX7_leaves : ByteArray := prog_1_method_54_code
def yX7_leaves : MethodName := ⟨RX7, "leaves", "(II)I"⟩
abbrev cX7_laws : ByteArray := prog_1_method_55_code
def yX7_laws : MethodName := ⟨RX7, "laws", "(I)I"⟩
abbrev cX7_by : ByteArray := prog_1_method_56_code
def yX7_by : MethodName := ⟨RX7, "by", "(I)I"⟩
abbrev cX7_law : ByteArray := prog_1_method_57_code
def yX7_law : MethodName := ⟨RX7, "law", "()I"⟩
abbrev cX7_worth : ByteArray := prog_1_method_58_code
def yX7_worth : MethodName := ⟨RX7, "worth", "(I)I"⟩
abbrev cX7_share : ByteArray := prog_1_method_59_code
def yX7_share : MethodName := ⟨RX7, "share", "(II)I"⟩
abbrev cX7_rests : ByteArray := prog_1_method_60_code
def yX7_rests : MethodName := ⟨RX7, "rests", "(II)I"⟩
abbrev cX7_gets : ByteArray := prog_1_method_61_code
def yX7_gets : MethodName := ⟨RX7, "gets", "(IIII)I"⟩
abbrev cX7_chance : ByteArray := prog_1_method_62_code
def yX7_chance : MethodName := ⟨RX7, "chance", "(III)J"⟩
abbrev cX7_mean : ByteArray := prog_1_method_63_code
def yX7_mean : MethodName := ⟨RX7, "mean", "(II)J"⟩
abbrev cX7_twists : ByteArray := prog_1_method_64_code
def yX7_twists : MethodName := ⟨RX7, "twists", "(II)I"⟩
abbrev cX7_holds : ByteArray := prog_1_method_65_code
def yX7_holds : MethodName := ⟨RX7, "holds", "(II)I"⟩
abbrev cX7_undo : ByteArray := prog_1_method_66_code
def yX7_undo : MethodName := ⟨RX7, "undo", "()I"⟩
abbrev cX7_anew : ByteArray := prog_1_method_67_code
def yX7_anew : MethodName := ⟨RX7, "anew", "()I"⟩
abbrev cX7_drawn : ByteArray := prog_1_method_68_code
def yX7_drawn : MethodName := ⟨RX7, "drawn", "(II)I"⟩
abbrev cX7_luck : ByteArray := prog_1_method_69_code
def yX7_luck : MethodName := ⟨RX7, "luck", "(III)I"⟩
abbrev cX7_rate : ByteArray := prog_1_method_70_code
def yX7_rate : MethodName := ⟨RX7, "rate", "(II)I"⟩
abbrev cX7_count : ByteArray := prog_1_method_71_code
def yX7_count : MethodName := ⟨RX7, "count", "(I)I"⟩
abbrev cX7_image : ByteArray := prog_1_method_72_code
def yX7_image : MethodName := ⟨RX7, "image", "(I)I"⟩
abbrev cX7_back : ByteArray := prog_1_method_73_code
def yX7_back : MethodName := ⟨RX7, "back", "(I)I"⟩
abbrev cX7_row : ByteArray := prog_1_method_74_code
def yX7_row : MethodName := ⟨RX7, "row", "(III)I"⟩
abbrev cX7_write : ByteArray := prog_1_method_75_code
def yX7_write : MethodName := ⟨RX7, "write", "(IIJ)I"⟩
abbrev cX7_paste : ByteArray := prog_1_method_76_code
def yX7_paste : MethodName := ⟨RX7, "paste", "(IIIII)I"⟩
abbrev cX7_changed : ByteArray := prog_1_method_77_code
def yX7_changed : MethodName := ⟨RX7, "changed", "()V"⟩
abbrev cX7_isEither : ByteArray := prog_1_method_78_code
def yX7_isEither : MethodName := ⟨RX7, "isEither", "(I)Z"⟩
abbrev cX7_isFewInARow : ByteArray := prog_1_method_79_code
def yX7_isFewInARow : MethodName := ⟨RX7, "isFewInARow", "(I)Z"⟩
abbrev cX7_isSeed : ByteArray := prog_1_method_80_code
def yX7_isSeed : MethodName := ⟨RX7, "isSeed", "(I)Z"⟩
abbrev cX7_isSlot : ByteArray := prog_1_method_81_code
def yX7_isSlot : MethodName := ⟨RX7, "isSlot", "(I)Z"⟩
abbrev cX7_isFogHour : ByteArray := prog_1_method_82_code
def yX7_isFogHour : MethodName := ⟨RX7, "isFogHour", "(I)Z"⟩
abbrev cX7_areTwo : ByteArray := prog_1_method_83_code
def yX7_areTwo : MethodName := ⟨RX7, "areTwo", "(II)Z"⟩
abbrev cX7_settingIn : ByteArray := prog_1_method_84_code
def yX7_settingIn : MethodName := ⟨RX7, "settingIn", "(I)I"⟩
abbrev cX7_runPointed : ByteArray := prog_1_method_85_code
def yX7_runPointed : MethodName := ⟨RX7, "runPointed", "(II)V"⟩
abbrev cX7_runByLaw : ByteArray := prog_1_method_86_code
def yX7_runByLaw : MethodName := ⟨RX7, "runByLaw", "(I)V"⟩
abbrev cX7_insideByFog : ByteArray := prog_1_method_87_code
def yX7_insideByFog : MethodName := ⟨RX7, "insideByFog", "(I)I"⟩
abbrev cX7_worthOf : ByteArray := prog_1_method_88_code
def yX7_worthOf : MethodName := ⟨RX7, "worthOf", "(I)I"⟩
abbrev cX7_learnWorths : ByteArray := prog_1_method_89_code
def yX7_learnWorths : MethodName := ⟨RX7, "learnWorths", "()V"⟩
abbrev cX7_gain : ByteArray := prog_1_method_90_code
def yX7_gain : MethodName := ⟨RX7, "gain", "(IIII)I"⟩
abbrev cX7_refusalOfSeen : ByteArray := prog_1_method_91_code
def yX7_refusalOfSeen : MethodName := ⟨RX7, "refusalOfSeen", "(IZ)I"⟩
abbrev cX7_tellsPlaces : ByteArray := prog_1_method_92_code
def yX7_tellsPlaces : MethodName := ⟨RX7, "tellsPlaces", "(LObligingPosts$Slot;)Z"⟩
abbrev cX7_agrees : ByteArray := prog_1_method_93_code
def yX7_agrees : MethodName := ⟨RX7, "agrees", "(LObligingPosts$Slot;LObligingPosts$Night;)Z"⟩
abbrev cX7_possibleRoads : ByteArray := prog_1_method_94_code
def yX7_possibleRoads : MethodName := ⟨RX7, "possibleRoads", "(LObligingPosts$Slot;I)I"⟩
abbrev cX7_bestQuestion : ByteArray := prog_1_method_95_code
def yX7_bestQuestion : MethodName := ⟨RX7, "bestQuestion", "(I)I"⟩
abbrev cX7_mostLeft : ByteArray := prog_1_method_96_code
def yX7_mostLeft : MethodName := ⟨RX7, "mostLeft", "(III)I"⟩
abbrev cX7_roadsAlike : ByteArray := prog_1_method_97_code
def yX7_roadsAlike : MethodName := ⟨RX7, "roadsAlike", "(III)I"⟩
abbrev cX7_slotsWithRow : ByteArray := prog_1_method_98_code
def yX7_slotsWithRow : MethodName := ⟨RX7, "slotsWithRow", "()I"⟩
abbrev cX7_partOfFraction : ByteArray := prog_1_method_99_code
def yX7_partOfFraction : MethodName := ⟨RX7, "partOfFraction", "(JJI)J"⟩
abbrev cX7_greatestDivisor : ByteArray := prog_1_method_100_code
def yX7_greatestDivisor : MethodName := ⟨RX7, "greatestDivisor", "(JJ)J"⟩
def RX8 : String := "ObligingPostsModel"
def TX8 : u_T := fun k => match k with
  | 0 => ("ObligingPostsModel", "thrown", "I", false)
  | 1 => ("ObligingPostsModel", "world", "[I", true)
  | 2 => ("ObligingPostsModel", "images", "[I", true)
  | 3 => ("ObligingPostsModel", "hasImage", "[Z", true)
  | 4 => ("ObligingPostsModel", "tape", "[B", true)
  | 5 => ("ObligingPostsModel", "taped", "I", false)
  | 6 => ("ObligingPostsModel", "five", "[I", true)
  | 7 => ("ObligingPostsModel", "size", "I", false)
  | 8 => ("ObligingPostsModel", "at", "I", false)
  | 9 => ("ObligingPostsModel", "from", "I", false)
  | 10 => ("ObligingPostsModel", "token", "I", false)
  | 11 => ("ObligingPostsModel", "value", "I", false)
  | 12 => ("ObligingPostsModel", "faultKind", "I", false)
  | 13 => ("ObligingPostsModel", "faultPlace", "I", false)
  | 14 => ("ObligingPostsModel", "fresh", "[I", true)
  | 15 => ("ObligingPostsModel", "armFirst", "[I", true)
  | 16 => ("ObligingPostsModel", "hourNow", "[I", true)
  | 17 => ("ObligingPostsModel", "lawNow", "I", false)
  | 18 => ("ObligingPostsModel", "fogSet", "I", false)
  | 19 => ("ObligingPostsModel", "turnSet", "I", false)
  | 20 => ("ObligingPostsModel", "armNow", "[I", true)
  | 21 => ("ObligingPostsModel", "placeNow", "[I", true)
  | 22 => ("ObligingPostsModel", "placeAt", "[I", true)
  | 23 => ("ObligingPostsModel", "armAt", "[I", true)
  | 24 => ("ObligingPostsModel", "sentAt", "[I", true)
  | 25 => ("ObligingPostsModel", "sentBy", "[I", true)
  | 26 => ("ObligingPostsModel", "walked", "[I", true)
  | 27 => ("ObligingPostsModel", "guestNow", "[I", true)
  | 28 => ("ObligingPostsModel", "refused", "[I", true)
  | 29 => ("ObligingPostsModel", "some", "[I", true)
  | 30 => ("ObligingPostsModel", "soloSteps", "I", false)
  | 31 => ("ObligingPostsModel", "placeBy", "[I", true)
  | 32 => ("ObligingPostsModel", "askWorst", "I", false)
  | 33 => ("ObligingPostsModel", "worthBy", "[I", true)
  | 34 => ("ObligingPostsModel", "oftenAll", "J", false)
  | 35 => ("ObligingPostsModel", "oftenInside", "J", false)
  | 36 => ("ObligingPostsModel", "oftenMany", "J", false)
  | 37 => ("ObligingPostsModel", "many", "[I", true)
  | 38 => ("ObligingPostsModel", "width", "[I", true)
  | 39 => ("ObligingPostsModel", "numbers", "[J", true)
  | _ => ("ObligingPostsModel", "moving", "[J", true)
def tyX8 : Nat → FieldType := fun k => match k with
  | 0 => .int
  | 1 => .array .int
  | 2 => .array .int
  | 3 => .array .boolean
  | 4 => .array .byte
  | 5 => .int
  | 6 => .array .int
  | 7 => .int
  | 8 => .int
  | 9 => .int
  | 10 => .int
  | 11 => .int
  | 12 => .int
  | 13 => .int
  | 14 => .array .int
  | 15 => .array .int
  | 16 => .array .int
  | 17 => .int
  | 18 => .int
  | 19 => .int
  | 20 => .array .int
  | 21 => .array .int
  | 22 => .array .int
  | 23 => .array .int
  | 24 => .array .int
  | 25 => .array .int
  | 26 => .array .int
  | 27 => .array .int
  | 28 => .array .int
  | 29 => .array .int
  | 30 => .int
  | 31 => .array .int
  | 32 => .int
  | 33 => .array .int
  | 34 => .long
  | 35 => .long
  | 36 => .long
  | 37 => .array .int
  | 38 => .array .int
  | 39 => .array .long
  | _ => .array .long
abbrev wsX80 : List Cond := u_ws RX8 TX8 41
theorem nmX8 : ∀ a, a < 41 → ∀ b, b < 41 → a ≠ b → (TX8 a).2.1 ≠ (TX8 b).2.1 := by decide +kernel
theorem tyX8_ok : ∀ k, k < 41 → parseFieldDescriptor (TX8 k).2.2.1 = some (tyX8 k) := by decide +kernel
abbrev cX8_init : ByteArray := prog_10_method_1_code
def yX8_init : MethodName := ⟨RX8, "<init>", "()V"⟩
abbrev cX8_in : ByteArray := prog_10_method_3_code
def yX8_in : MethodName := ⟨RX8, "in", "(JJJ)Z"⟩
abbrev cX8_bits : ByteArray := prog_10_method_4_code
def yX8_bits : MethodName := ⟨RX8, "bits", "(I)I"⟩
abbrev cX8_bit : ByteArray := prog_10_method_5_code
def yX8_bit : MethodName := ⟨RX8, "bit", "(II)I"⟩
abbrev cX8_image : ByteArray := prog_10_method_6_code
def yX8_image : MethodName := ⟨RX8, "image", "(I)I"⟩
abbrev cX8_back : ByteArray := prog_10_method_7_code
def yX8_back : MethodName := ⟨RX8, "back", "(I)I"⟩
abbrev cX8_isHeath : ByteArray := prog_10_method_8_code
def yX8_isHeath : MethodName := ⟨RX8, "isHeath", "()Z"⟩
abbrev cX8_hours : ByteArray := prog_10_method_9_code
def yX8_hours : MethodName := ⟨RX8, "hours", "()I"⟩
abbrev cX8_posts : ByteArray := prog_10_method_10_code
def yX8_posts : MethodName := ⟨RX8, "posts", "()I"⟩
abbrev cX8_walkers : ByteArray := prog_10_method_11_code
def yX8_walkers : MethodName := ⟨RX8, "walkers", "()I"⟩
abbrev cX8_allPosts : ByteArray := prog_10_method_12_code
def yX8_allPosts : MethodName := ⟨RX8, "allPosts", "()I"⟩
abbrev cX8_isHour : ByteArray := prog_10_method_13_code
def yX8_isHour : MethodName := ⟨RX8, "isHour", "(J)Z"⟩
abbrev cX8_isAhead : ByteArray := prog_10_method_14_code
def yX8_isAhead : MethodName := ⟨RX8, "isAhead", "(J)Z"⟩
abbrev cX8_isPost : ByteArray := prog_10_method_15_code
def yX8_isPost : MethodName := ⟨RX8, "isPost", "(J)Z"⟩
abbrev cX8_isInn : ByteArray := prog_10_method_16_code
def yX8_isInn : MethodName := ⟨RX8, "isInn", "(J)Z"⟩
abbrev cX8_isWalker : ByteArray := prog_10_method_17_code
def yX8_isWalker : MethodName := ⟨RX8, "isWalker", "(J)Z"⟩
abbrev cX8_isPlace : ByteArray := prog_10_method_18_code
def yX8_isPlace : MethodName := ⟨RX8, "isPlace", "(J)Z"⟩
abbrev cX8_roadMany : ByteArray := prog_10_method_19_code
def yX8_roadMany : MethodName := ⟨RX8, "roadMany", "(I)I"⟩
abbrev cX8_roadTo : ByteArray := prog_10_method_20_code
def yX8_roadTo : MethodName := ⟨RX8, "roadTo", "(II)I"⟩
abbrev cX8_armOf : ByteArray := prog_10_method_21_code
def yX8_armOf : MethodName := ⟨RX8, "armOf", "(I)I"⟩
abbrev cX8_feed : ByteArray := prog_10_method_22_code
def yX8_feed : MethodName := ⟨RX8, "feed", "(IIIII)I"⟩
abbrev cX8_end : ByteArray := prog_10_method_23_code
def yX8_end : MethodName := ⟨RX8, "end", "(I)I"⟩
abbrev cX8_see : ByteArray := prog_10_method_24_code
def yX8_see : MethodName := ⟨RX8, "see", "(I)I"⟩
abbrev cX8_advance : ByteArray := prog_10_method_25_code
def yX8_advance : MethodName := ⟨RX8, "advance", "()V"⟩
abbrev cX8_good : ByteArray := prog_10_method_26_code
def yX8_good : MethodName := ⟨RX8, "good", "()Z"⟩
abbrev cX8_errs : ByteArray := prog_10_method_27_code
def yX8_errs : MethodName := ⟨RX8, "errs", "(I)V"⟩
abbrev cX8_is : ByteArray := prog_10_method_28_code
def yX8_is : MethodName := ⟨RX8, "is", "(Ljava/lang/String;)Z"⟩
abbrev cX8_takes : ByteArray := prog_10_method_29_code
def yX8_takes : MethodName := ⟨RX8, "takes", "(Ljava/lang/String;)Z"⟩
abbrev cX8_expects : ByteArray := prog_10_method_30_code
def yX8_expects : MethodName := ⟨RX8, "expects", "(Ljava/lang/String;)V"⟩
abbrev cX8_number : ByteArray := prog_10_method_31_code
def yX8_number : MethodName := ⟨RX8, "number", "(II)I"⟩
abbrev cX8_toldBy : ByteArray := prog_10_method_32_code
def yX8_toldBy : MethodName := ⟨RX8, "toldBy", "(Ljava/lang/String;II)I"⟩
abbrev cX8_fault : ByteArray := prog_10_method_33_code
def yX8_fault : MethodName := ⟨RX8, "fault", "(I)I"⟩
abbrev cX8_readFirst : ByteArray := prog_10_method_34_code
def yX8_readFirst : MethodName := ⟨RX8, "readFirst", "()V"⟩
abbrev cX8_readPost : ByteArray := prog_10_method_35_code
def yX8_readPost : MethodName := ⟨RX8, "readPost", "()I"⟩
abbrev cX8_readRoad : ByteArray := prog_10_method_36_code
def yX8_readRoad : MethodName := ⟨RX8, "readRoad", "()V"⟩
abbrev cX8_readArm : ByteArray := prog_10_method_37_code
def yX8_readArm : MethodName := ⟨RX8, "readArm", "()V"⟩
abbrev cX8_readWalker : ByteArray := prog_10_method_38_code
def yX8_readWalker : MethodName := ⟨RX8, "readWalker", "()V"⟩
abbrev cX8_isFull : ByteArray := prog_10_method_39_code
def yX8_isFull : MethodName := ⟨RX8, "isFull", "()Z"⟩
abbrev cX8_readNext : ByteArray := prog_10_method_40_code
def yX8_readNext : MethodName := ⟨RX8, "readNext", "()V"⟩
abbrev cX8_readLine : ByteArray := prog_10_method_41_code
def yX8_readLine : MethodName := ⟨RX8, "readLine", "()V"⟩
abbrev cX8_heath : ByteArray := prog_10_method_42_code
def yX8_heath : MethodName := ⟨RX8, "heath", "()I"⟩
abbrev cX8_room : ByteArray := prog_10_method_43_code
def yX8_room : MethodName := ⟨RX8, "room", "(I)I"⟩
abbrev cX8_roads : ByteArray := prog_10_method_44_code
def yX8_roads : MethodName := ⟨RX8, "roads", "(I)I"⟩
abbrev cX8_goes : ByteArray := prog_10_method_45_code
def yX8_goes : MethodName := ⟨RX8, "goes", "(II)I"⟩
abbrev cX8_told : ByteArray := prog_10_method_46_code
def yX8_told : MethodName := ⟨RX8, "told", "(I)I"⟩
abbrev cX8_walker : ByteArray := prog_10_method_47_code
def yX8_walker : MethodName := ⟨RX8, "walker", "(II)I"⟩
abbrev cX8_doors : ByteArray := prog_10_method_48_code
def yX8_doors : MethodName := ⟨RX8, "doors", "(I)I"⟩
abbrev cX8_armless : ByteArray := prog_10_method_49_code
def yX8_armless : MethodName := ⟨RX8, "armless", "()I"⟩
abbrev cX8_asItIs : ByteArray := prog_10_method_50_code
def yX8_asItIs : MethodName := ⟨RX8, "asItIs", "()V"⟩
abbrev cX8_turn : ByteArray := prog_10_method_51_code
def yX8_turn : MethodName := ⟨RX8, "turn", "(II)V"⟩
abbrev cX8_sendBy : ByteArray := prog_10_method_52_code
def yX8_sendBy : MethodName := ⟨RX8, "sendBy", "(I)I"⟩
abbrev cX8_isHeld : ByteArray := prog_10_method_53_code
def yX8_isHeld : MethodName := ⟨RX8, "isHeld", "(II)Z"⟩
abbrev cX8_sendOne : ByteArray := prog_10_method_54_code
def yX8_sendOne : MethodName := ⟨RX8, "sendOne", "(II)V"⟩
abbrev cX8_goHour : ByteArray := prog_10_method_55_code
def yX8_goHour : MethodName := ⟨RX8, "goHour", "(I)V"⟩
abbrev cX8_goAll : ByteArray := prog_10_method_56_code
def yX8_goAll : MethodName := ⟨RX8, "goAll", "()V"⟩
abbrev cX8_asksHeath : ByteArray := prog_10_method_57_code
def yX8_asksHeath : MethodName := ⟨RX8, "asksHeath", "()Z"⟩
abbrev cX8_asksHour : ByteArray := prog_10_method_58_code
def yX8_asksHour : MethodName := ⟨RX8, "asksHour", "(I)Z"⟩
abbrev cX8_asksWalker : ByteArray := prog_10_method_59_code
def yX8_asksWalker : MethodName := ⟨RX8, "asksWalker", "(I)Z"⟩
abbrev cX8_asksPost : ByteArray := prog_10_method_60_code
def yX8_asksPost : MethodName := ⟨RX8, "asksPost", "(I)Z"⟩
abbrev cX8_placeOf : ByteArray := prog_10_method_61_code
def yX8_placeOf : MethodName := ⟨RX8, "placeOf", "(II)I"⟩
abbrev cX8_isInside : ByteArray := prog_10_method_62_code
def yX8_isInside : MethodName := ⟨RX8, "isInside", "(II)Z"⟩
abbrev cX8_at : ByteArray := prog_10_method_63_code
def yX8_at : MethodName := ⟨RX8, "at", "(II)I"⟩
abbrev cX8_arm : ByteArray := prog_10_method_64_code
def yX8_arm : MethodName := ⟨RX8, "arm", "(II)I"⟩
abbrev cX8_hereOf : ByteArray := prog_10_method_65_code
def yX8_hereOf : MethodName := ⟨RX8, "hereOf", "(II)I"⟩
abbrev cX8_here : ByteArray := prog_10_method_66_code
def yX8_here : MethodName := ⟨RX8, "here", "(II)I"⟩
abbrev cX8_sent : ByteArray := prog_10_method_67_code
def yX8_sent : MethodName := ⟨RX8, "sent", "(I)I"⟩
abbrev cX8_sendsOf : ByteArray := prog_10_method_68_code
def yX8_sendsOf : MethodName := ⟨RX8, "sendsOf", "(I)I"⟩
abbrev cX8_sends : ByteArray := prog_10_method_69_code
def yX8_sends : MethodName := ⟨RX8, "sends", "(I)I"⟩
abbrev cX8_used : ByteArray := prog_10_method_70_code
def yX8_used : MethodName := ⟨RX8, "used", "(II)I"⟩
abbrev cX8_walks : ByteArray := prog_10_method_71_code
def yX8_walks : MethodName := ⟨RX8, "walks", "(I)I"⟩
abbrev cX8_homeOf : ByteArray := prog_10_method_72_code
def yX8_homeOf : MethodName := ⟨RX8, "homeOf", "(I)I"⟩
abbrev cX8_home : ByteArray := prog_10_method_73_code
def yX8_home : MethodName := ⟨RX8, "home", "(I)I"⟩
abbrev cX8_inn : ByteArray := prog_10_method_74_code
def yX8_inn : MethodName := ⟨RX8, "inn", "(I)I"⟩
abbrev cX8_trailTo : ByteArray := prog_10_method_75_code
def yX8_trailTo : MethodName := ⟨RX8, "trailTo", "(II)I"⟩
abbrev cX8_trail : ByteArray := prog_10_method_76_code
def yX8_trail : MethodName := ⟨RX8, "trail", "(I)I"⟩
abbrev cX8_again : ByteArray := prog_10_method_77_code
def yX8_again : MethodName := ⟨RX8, "again", "(I)I"⟩
abbrev cX8_lingers : ByteArray := prog_10_method_78_code
def yX8_lingers : MethodName := ⟨RX8, "lingers", "(I)I"⟩
abbrev cX8_guestsOf : ByteArray := prog_10_method_79_code
def yX8_guestsOf : MethodName := ⟨RX8, "guestsOf", "(II)I"⟩
abbrev cX8_guests : ByteArray := prog_10_method_80_code
def yX8_guests : MethodName := ⟨RX8, "guests", "(II)I"⟩
abbrev cX8_full : ByteArray := prog_10_method_81_code
def yX8_full : MethodName := ⟨RX8, "full", "(I)I"⟩
abbrev cX8_refuses : ByteArray := prog_10_method_82_code
def yX8_refuses : MethodName := ⟨RX8, "refuses", "(I)I"⟩
abbrev cX8_insideAt : ByteArray := prog_10_method_83_code
def yX8_insideAt : MethodName := ⟨RX8, "insideAt", "(I)I"⟩
abbrev cX8_insideLast : ByteArray := prog_10_method_84_code
def yX8_insideLast : MethodName := ⟨RX8, "insideLast", "()I"⟩
abbrev cX8_inside : ByteArray := prog_10_method_85_code
def yX8_inside : MethodName := ⟨RX8, "inside", "(I)I"⟩
abbrev cX8_outside : ByteArray := prog_10_method_86_code
def yX8_outside : MethodName := ⟨RX8, "outside", "(I)I"⟩
abbrev cX8_done : ByteArray := prog_10_method_87_code
def yX8_done : MethodName := ⟨RX8, "done", "()I"⟩
abbrev cX8_crowd : ByteArray := prog_10_method_88_code
def yX8_crowd : MethodName := ⟨RX8, "crowd", "(I)I"⟩
abbrev cX8_areTwo : ByteArray := prog_10_method_89_code
def yX8_areTwo : MethodName := ⟨RX8, "areTwo", "(II)Z"⟩
abbrev cX8_meet : ByteArray := prog_10_method_90_code
def yX8_meet : MethodName := ⟨RX8, "meet", "(II)I"⟩
abbrev cX8_busy : ByteArray := prog_10_method_91_code
def yX8_busy : MethodName := ⟨RX8, "busy", "()I"⟩
abbrev cX8_idle : ByteArray := prog_10_method_92_code
def yX8_idle : MethodName := ⟨RX8, "idle", "()I"⟩
abbrev cX8_goOn : ByteArray := prog_10_method_93_code
def yX8_goOn : MethodName := ⟨RX8, "goOn", "(I)I"⟩
abbrev cX8_reach : ByteArray := prog_10_method_94_code
def yX8_reach : MethodName := ⟨RX8, "reach", "(I)I"⟩
abbrev cX8_far : ByteArray := prog_10_method_95_code
def yX8_far : MethodName := ⟨RX8, "far", "(II)I"⟩
abbrev cX8_numberOf : ByteArray := prog_10_method_96_code
def yX8_numberOf : MethodName := ⟨RX8, "numberOf", "()I"⟩
abbrev cX8_settingMany : ByteArray := prog_10_method_97_code
def yX8_settingMany : MethodName := ⟨RX8, "settingMany", "()I"⟩
abbrev cX8_someAt : ByteArray := prog_10_method_98_code
def yX8_someAt : MethodName := ⟨RX8, "someAt", "(I)V"⟩
abbrev cX8_settingAt : ByteArray := prog_10_method_99_code
def yX8_settingAt : MethodName := ⟨RX8, "settingAt", "(I)I"⟩
abbrev cX8_setting : ByteArray := prog_10_method_100_code
def yX8_setting : MethodName := ⟨RX8, "setting", "(I)I"⟩
abbrev cX8_settings : ByteArray := prog_10_method_101_code
def yX8_settings : MethodName := ⟨RX8, "settings", "()I"⟩
abbrev cX8_same : ByteArray := prog_10_method_102_code
def yX8_same : MethodName := ⟨RX8, "same", "()I"⟩
abbrev cX8_armGoes : ByteArray := prog_10_method_103_code
def yX8_armGoes : MethodName := ⟨RX8, "armGoes", "(I)I"⟩
abbrev cX8_isHomeBy : ByteArray := prog_10_method_104_code
def yX8_isHomeBy : MethodName := ⟨RX8, "isHomeBy", "(I)Z"⟩
abbrev cX8_isTree : ByteArray := prog_10_method_105_code
def yX8_isTree : MethodName := ⟨RX8, "isTree", "()Z"⟩
abbrev cX8_tree : ByteArray := prog_10_method_106_code
def yX8_tree : MethodName := ⟨RX8, "tree", "(I)I"⟩
abbrev cX8_ring : ByteArray := prog_10_method_107_code
def yX8_ring : MethodName := ⟨RX8, "ring", "(I)I"⟩
abbrev cX8_trees : ByteArray := prog_10_method_108_code
def yX8_trees : MethodName := ⟨RX8, "trees", "()I"⟩
abbrev cX8_soloBegin : ByteArray := prog_10_method_109_code
def yX8_soloBegin : MethodName := ⟨RX8, "soloBegin", "()V"⟩
abbrev cX8_solo : ByteArray := prog_10_method_110_code
def yX8_solo : MethodName := ⟨RX8, "solo", "(I)I"⟩
abbrev cX8_soloSetting : ByteArray := prog_10_method_111_code
def yX8_soloSetting : MethodName := ⟨RX8, "soloSetting", "()I"⟩
abbrev cX8_alone : ByteArray := prog_10_method_112_code
def yX8_alone : MethodName := ⟨RX8, "alone", "(I)I"⟩
abbrev cX8_steps : ByteArray := prog_10_method_113_code
def yX8_steps : MethodName := ⟨RX8, "steps", "(I)I"⟩
abbrev cX8_behind : ByteArray := prog_10_method_114_code
def yX8_behind : MethodName := ⟨RX8, "behind", "(I)I"⟩
abbrev cX8_nth : ByteArray := prog_10_method_115_code
def yX8_nth : MethodName := ⟨RX8, "nth", "(II)I"⟩
abbrev cX8_round : ByteArray := prog_10_method_116_code
def yX8_round : MethodName := ⟨RX8, "round", "(I)I"⟩
abbrev cX8_houses : ByteArray := prog_10_method_117_code
def yX8_houses : MethodName := ⟨RX8, "houses", "(III)I"⟩
abbrev cX8_cameTo : ByteArray := prog_10_method_118_code
def yX8_cameTo : MethodName := ⟨RX8, "cameTo", "(II)I"⟩
abbrev cX8_point : ByteArray := prog_10_method_119_code
def yX8_point : MethodName := ⟨RX8, "point", "(II)I"⟩
abbrev cX8_best : ByteArray := prog_10_method_120_code
def yX8_best : MethodName := ⟨RX8, "best", "()I"⟩
abbrev cX8_crowds : ByteArray := prog_10_method_121_code
def yX8_crowds : MethodName := ⟨RX8, "crowds", "()I"⟩
abbrev cX8_numberAt : ByteArray := prog_10_method_122_code
def yX8_numberAt : MethodName := ⟨RX8, "numberAt", "(II)J"⟩
abbrev cX8_askSeen : ByteArray := prog_10_method_123_code
def yX8_askSeen : MethodName := ⟨RX8, "askSeen", "(I)I"⟩
abbrev cX8_isSeen : ByteArray := prog_10_method_124_code
def yX8_isSeen : MethodName := ⟨RX8, "isSeen", "(I)Z"⟩
abbrev cX8_cellOf : ByteArray := prog_10_method_125_code
def yX8_cellOf : MethodName := ⟨RX8, "cellOf", "(III)I"⟩
abbrev cX8_mayOf : ByteArray := prog_10_method_126_code
def yX8_mayOf : MethodName := ⟨RX8, "mayOf", "(II)I"⟩
abbrev cX8_askMay : ByteArray := prog_10_method_127_code
def yX8_askMay : MethodName := ⟨RX8, "askMay", "(II)I"⟩
abbrev cX8_may : ByteArray := prog_10_method_128_code
def yX8_may : MethodName := ⟨RX8, "may", "(II)I"⟩
abbrev cX8_worstOf : ByteArray := prog_10_method_129_code
def yX8_worstOf : MethodName := ⟨RX8, "worstOf", "(III)I"⟩
abbrev cX8_askOf : ByteArray := prog_10_method_130_code
def yX8_askOf : MethodName := ⟨RX8, "askOf", "(I)I"⟩
abbrev cX8_ask : ByteArray := prog_10_method_131_code
def yX8_ask : MethodName := ⟨RX8, "ask", "(II)I"⟩
abbrev cX8_leaves : ByteArray := prog_10_method_132_code
def yX8_leaves : MethodName := ⟨RX8, "leaves", "(II)I"⟩
abbrev cX8_laws : ByteArray := prog_10_method_133_code
def yX8_laws : MethodName := ⟨RX8, "laws", "(I)I"⟩
abbrev cX8_insideBy : ByteArray := prog_10_method_134_code
def yX8_insideBy : MethodName := ⟨RX8, "insideBy", "(I)I"⟩
abbrev cX8_by : ByteArray := prog_10_method_135_code
def yX8_by : MethodName := ⟨RX8, "by", "(I)I"⟩
abbrev cX8_law : ByteArray := prog_10_method_136_code
def yX8_law : MethodName := ⟨RX8, "law", "()I"⟩
abbrev cX8_worthOf : ByteArray := prog_10_method_137_code
def yX8_worthOf : MethodName := ⟨RX8, "worthOf", "(I)I"⟩
abbrev cX8_worth : ByteArray := prog_10_method_138_code
def yX8_worth : MethodName := ⟨RX8, "worth", "(I)I"⟩
abbrev cX8_factorial : ByteArray := prog_10_method_139_code
def yX8_factorial : MethodName := ⟨RX8, "factorial", "(I)I"⟩
abbrev cX8_divisor : ByteArray := prog_10_method_140_code
def yX8_divisor : MethodName := ⟨RX8, "divisor", "(JJ)J"⟩
abbrev cX8_part : ByteArray := prog_10_method_141_code
def yX8_part : MethodName := ⟨RX8, "part", "(JJI)J"⟩
abbrev cX8_share : ByteArray := prog_10_method_142_code
def yX8_share : MethodName := ⟨RX8, "share", "(II)I"⟩
abbrev cX8_getsBy : ByteArray := prog_10_method_143_code
def yX8_getsBy : MethodName := ⟨RX8, "getsBy", "(IIIII)I"⟩
abbrev cX8_rests : ByteArray := prog_10_method_144_code
def yX8_rests : MethodName := ⟨RX8, "rests", "(II)I"⟩
abbrev cX8_gets : ByteArray := prog_10_method_145_code
def yX8_gets : MethodName := ⟨RX8, "gets", "(IIII)I"⟩
abbrev cX8_layFog : ByteArray := prog_10_method_146_code
def yX8_layFog : MethodName := ⟨RX8, "layFog", "(II)V"⟩
abbrev cX8_isFog : ByteArray := prog_10_method_147_code
def yX8_isFog : MethodName := ⟨RX8, "isFog", "(II)Z"⟩
abbrev cX8_chance : ByteArray := prog_10_method_148_code
def yX8_chance : MethodName := ⟨RX8, "chance", "(III)J"⟩
abbrev cX8_mean : ByteArray := prog_10_method_149_code
def yX8_mean : MethodName := ⟨RX8, "mean", "(II)J"⟩
abbrev cX8_keepAct : ByteArray := prog_10_method_150_code
def yX8_keepAct : MethodName := ⟨RX8, "keepAct", "(I)Z"⟩
abbrev cX8_twists : ByteArray := prog_10_method_151_code
def yX8_twists : MethodName := ⟨RX8, "twists", "(II)I"⟩
abbrev cX8_holds : ByteArray := prog_10_method_152_code
def yX8_holds : MethodName := ⟨RX8, "holds", "(II)I"⟩
abbrev cX8_undo : ByteArray := prog_10_method_153_code
def yX8_undo : MethodName := ⟨RX8, "undo", "()I"⟩
abbrev cX8_anew : ByteArray := prog_10_method_154_code
def yX8_anew : MethodName := ⟨RX8, "anew", "()I"⟩
abbrev cX8_goDrawn : ByteArray := prog_10_method_155_code
def yX8_goDrawn : MethodName := ⟨RX8, "goDrawn", "(J)V"⟩
abbrev cX8_isSeed : ByteArray := prog_10_method_156_code
def yX8_isSeed : MethodName := ⟨RX8, "isSeed", "(I)Z"⟩
abbrev cX8_drawn : ByteArray := prog_10_method_157_code
def yX8_drawn : MethodName := ⟨RX8, "drawn", "(II)I"⟩
abbrev cX8_luck : ByteArray := prog_10_method_158_code
def yX8_luck : MethodName := ⟨RX8, "luck", "(III)I"⟩
abbrev cX8_rate : ByteArray := prog_10_method_159_code
def yX8_rate : MethodName := ⟨RX8, "rate", "(II)I"⟩
abbrev cX8_count : ByteArray := prog_10_method_160_code
def yX8_count : MethodName := ⟨RX8, "count", "(I)I"⟩
abbrev cX8_isSlot : ByteArray := prog_10_method_161_code
def yX8_isSlot : MethodName := ⟨RX8, "isSlot", "(I)Z"⟩
abbrev cX8_clipped : ByteArray := prog_10_method_162_code
def yX8_clipped : MethodName := ⟨RX8, "clipped", "(JI)J"⟩
abbrev cX8_row : ByteArray := prog_10_method_163_code
def yX8_row : MethodName := ⟨RX8, "row", "(III)I"⟩
abbrev cX8_write : ByteArray := prog_10_method_164_code
def yX8_write : MethodName := ⟨RX8, "write", "(IIJ)I"⟩
abbrev cX8_paste : ByteArray := prog_10_method_165_code
def yX8_paste : MethodName := ⟨RX8, "paste", "(IIIII)I"⟩
def RJx145de : String := "java/io/Serializable"
def TJx145de : u_T := fun k => match k with
  | _ => ("", "", "", false)
def tyJx145de : Nat → FieldType := fun k => match k with
  | _ => .int
abbrev wsJx145de0 : List Cond := u_ws RJx145de TJx145de 0
theorem nmJx145de : ∀ a, a < 0 → ∀ b, b < 0 → a ≠ b → (TJx145de a).2.1 ≠ (TJx145de b).2.1 := by decide +kernel
theorem tyJx145de_ok : ∀ k, k < 0 → parseFieldDescriptor (TJx145de k).2.2.1 = some (tyJx145de k) := by decide +kernel
def RJx9f9b0 : String := "java/lang/CharSequence"
def TJx9f9b0 : u_T := fun k => match k with
  | _ => ("", "", "", false)
def tyJx9f9b0 : Nat → FieldType := fun k => match k with
  | _ => .int
abbrev wsJx9f9b00 : List Cond := u_ws RJx9f9b0 TJx9f9b0 0
theorem nmJx9f9b0 : ∀ a, a < 0 → ∀ b, b < 0 → a ≠ b → (TJx9f9b0 a).2.1 ≠ (TJx9f9b0 b).2.1 := by decide +kernel
theorem tyJx9f9b0_ok : ∀ k, k < 0 → parseFieldDescriptor (TJx9f9b0 k).2.2.1 = some (tyJx9f9b0 k) := by decide +kernel
def RJxb160c : String := "java/lang/Comparable"
def TJxb160c : u_T := fun k => match k with
  | _ => ("", "", "", false)
def tyJxb160c : Nat → FieldType := fun k => match k with
  | _ => .int
abbrev wsJxb160c0 : List Cond := u_ws RJxb160c TJxb160c 0
theorem nmJxb160c : ∀ a, a < 0 → ∀ b, b < 0 → a ≠ b → (TJxb160c a).2.1 ≠ (TJxb160c b).2.1 := by decide +kernel
theorem tyJxb160c_ok : ∀ k, k < 0 → parseFieldDescriptor (TJxb160c k).2.2.1 = some (tyJxb160c k) := by decide +kernel
def RJ6 : String := "java/lang/Integer"
def TJ6 : u_T := fun k => match k with
  | _ => ("", "", "", false)
def tyJ6 : Nat → FieldType := fun k => match k with
  | _ => .int
abbrev wsJ60 : List Cond := u_ws RJ6 TJ6 0
theorem nmJ6 : ∀ a, a < 0 → ∀ b, b < 0 → a ≠ b → (TJ6 a).2.1 ≠ (TJ6 b).2.1 := by decide +kernel
theorem tyJ6_ok : ∀ k, k < 0 → parseFieldDescriptor (TJ6 k).2.2.1 = some (tyJ6 k) := by decide +kernel
abbrev cJ6_bitCount_0f7a4 : ByteArray := prog_11_method_49_code
def yJ6_bitCount_0f7a4 : MethodName := ⟨RJ6, "bitCount", "(I)I"⟩
def RJ9 : String := "java/lang/Math"
def TJ9 : u_T := fun k => match k with
  | _ => ("", "", "", false)
def tyJ9 : Nat → FieldType := fun k => match k with
  | _ => .int
abbrev wsJ90 : List Cond := u_ws RJ9 TJ9 0
theorem nmJ9 : ∀ a, a < 0 → ∀ b, b < 0 → a ≠ b → (TJ9 a).2.1 ≠ (TJ9 b).2.1 := by decide +kernel
theorem tyJ9_ok : ∀ k, k < 0 → parseFieldDescriptor (TJ9 k).2.2.1 = some (tyJ9 k) := by decide +kernel
abbrev cJ9_abs_067f4 : ByteArray := prog_12_method_61_code
def yJ9_abs_067f4 : MethodName := ⟨RJ9, "abs", "(J)J"⟩
abbrev cJ9_max_7cf53 : ByteArray := prog_12_method_65_code
def yJ9_max_7cf53 : MethodName := ⟨RJ9, "max", "(II)I"⟩
abbrev cJ9_min_7cf53 : ByteArray := prog_12_method_69_code
def yJ9_min_7cf53 : MethodName := ⟨RJ9, "min", "(II)I"⟩
def RJ0 : String := "java/lang/String"
def TJ0 : u_T := fun k => match k with
  | _ => ("", "", "", false)
def tyJ0 : Nat → FieldType := fun k => match k with
  | _ => .int
abbrev wsJ00 : List Cond := u_ws RJ0 TJ0 0
theorem nmJ0 : ∀ a, a < 0 → ∀ b, b < 0 → a ≠ b → (TJ0 a).2.1 ≠ (TJ0 b).2.1 := by decide +kernel
theorem tyJ0_ok : ∀ k, k < 0 → parseFieldDescriptor (TJ0 k).2.2.1 = some (tyJ0 k) := by decide +kernel
abbrev cJ0_length_8abf5 : ByteArray := prog_13_method_54_code
def yJ0_length_8abf5 : MethodName := ⟨RJ0, "length", "()I"⟩
abbrev cJ0_charAt_5068e : ByteArray := prog_13_method_56_code
def yJ0_charAt_5068e : MethodName := ⟨RJ0, "charAt", "(I)C"⟩
abbrev cJ0_coder_7d493 : ByteArray := prog_13_method_152_code
def yJ0_coder_7d493 : MethodName := ⟨RJ0, "coder", "()B"⟩
abbrev cJ0_isLatin1_aae02 : ByteArray := prog_13_method_154_code
def yJ0_isLatin1_aae02 : MethodName := ⟨RJ0, "isLatin1", "()Z"⟩
abbrev cJ0_checkIndex_df160 : ByteArray := prog_13_method_155_code
def yJ0_checkIndex_df160 : MethodName := ⟨RJ0, "checkIndex", "(II)V"⟩
def RJ1 : String := "java/lang/StringLatin1"
def TJ1 : u_T := fun k => match k with
  | _ => ("", "", "", false)
def tyJ1 : Nat → FieldType := fun k => match k with
  | _ => .int
abbrev wsJ10 : List Cond := u_ws RJ1 TJ1 0
theorem nmJ1 : ∀ a, a < 0 → ∀ b, b < 0 → a ≠ b → (TJ1 a).2.1 ≠ (TJ1 b).2.1 := by decide +kernel
theorem tyJ1_ok : ∀ k, k < 0 → parseFieldDescriptor (TJ1 k).2.2.1 = some (tyJ1 k) := by decide +kernel
abbrev cJ1_charAt_3b067 : ByteArray := prog_14_method_2_code
def yJ1_charAt_3b067 : MethodName := ⟨RJ1, "charAt", "([BI)C"⟩
def RJ2 : String := "java/lang/StringUTF16"
def TJ2 : u_T := fun k => match k with
  | _ => ("", "", "", false)
def tyJ2 : Nat → FieldType := fun k => match k with
  | _ => .int
abbrev wsJ20 : List Cond := u_ws RJ2 TJ2 0
theorem nmJ2 : ∀ a, a < 0 → ∀ b, b < 0 → a ≠ b → (TJ2 a).2.1 ≠ (TJ2 b).2.1 := by decide +kernel
theorem tyJ2_ok : ∀ k, k < 0 → parseFieldDescriptor (TJ2 k).2.2.1 = some (tyJ2 k) := by decide +kernel
abbrev cJ2_getChar_3b067 : ByteArray := prog_15_method_5_code
def yJ2_getChar_3b067 : MethodName := ⟨RJ2, "getChar", "([BI)C"⟩
abbrev cJ2_length_9d52b : ByteArray := prog_15_method_6_code
def yJ2_length_9d52b : MethodName := ⟨RJ2, "length", "([B)I"⟩
abbrev cJ2_charAt_3b067 : ByteArray := prog_15_method_83_code
def yJ2_charAt_3b067 : MethodName := ⟨RJ2, "charAt", "([BI)C"⟩
abbrev cJ2_checkIndex_2214a : ByteArray := prog_15_method_91_code
def yJ2_checkIndex_2214a : MethodName := ⟨RJ2, "checkIndex", "(I[B)V"⟩
def RJ10 : String := "java/lang/System"
def TJ10 : u_T := fun k => match k with
  | _ => ("", "", "", false)
def tyJ10 : Nat → FieldType := fun k => match k with
  | _ => .int
abbrev wsJ100 : List Cond := u_ws RJ10 TJ10 0
theorem nmJ10 : ∀ a, a < 0 → ∀ b, b < 0 → a ≠ b → (TJ10 a).2.1 ≠ (TJ10 b).2.1 := by decide +kernel
theorem tyJ10_ok : ∀ k, k < 0 → parseFieldDescriptor (TJ10 k).2.2.1 = some (tyJ10 k) := by decide +kernel
def RJxfd54e : String := "java/lang/constant/Constable"
def TJxfd54e : u_T := fun k => match k with
  | _ => ("", "", "", false)
def tyJxfd54e : Nat → FieldType := fun k => match k with
  | _ => .int
abbrev wsJxfd54e0 : List Cond := u_ws RJxfd54e TJxfd54e 0
theorem nmJxfd54e : ∀ a, a < 0 → ∀ b, b < 0 → a ≠ b → (TJxfd54e a).2.1 ≠ (TJxfd54e b).2.1 := by decide +kernel
theorem tyJxfd54e_ok : ∀ k, k < 0 → parseFieldDescriptor (TJxfd54e k).2.2.1 = some (tyJxfd54e k) := by decide +kernel
def RJx3cf43 : String := "java/lang/constant/ConstantDesc"
def TJx3cf43 : u_T := fun k => match k with
  | _ => ("", "", "", false)
def tyJx3cf43 : Nat → FieldType := fun k => match k with
  | _ => .int
abbrev wsJx3cf430 : List Cond := u_ws RJx3cf43 TJx3cf43 0
theorem nmJx3cf43 : ∀ a, a < 0 → ∀ b, b < 0 → a ≠ b → (TJx3cf43 a).2.1 ≠ (TJx3cf43 b).2.1 := by decide +kernel
theorem tyJx3cf43_ok : ∀ k, k < 0 → parseFieldDescriptor (TJx3cf43 k).2.2.1 = some (tyJx3cf43 k) := by decide +kernel
def RJ7 : String := "java/util/Arrays"
def TJ7 : u_T := fun k => match k with
  | _ => ("", "", "", false)
def tyJ7 : Nat → FieldType := fun k => match k with
  | _ => .int
abbrev wsJ70 : List Cond := u_ws RJ7 TJ7 0
theorem nmJ7 : ∀ a, a < 0 → ∀ b, b < 0 → a ≠ b → (TJ7 a).2.1 ≠ (TJ7 b).2.1 := by decide +kernel
theorem tyJ7_ok : ∀ k, k < 0 → parseFieldDescriptor (TJ7 k).2.2.1 = some (tyJ7 k) := by decide +kernel
abbrev cJ7_fill_d0a16 : ByteArray := prog_17_method_101_code
def yJ7_fill_d0a16 : MethodName := ⟨RJ7, "fill", "([JJ)V"⟩
abbrev cJ7_fill_53178 : ByteArray := prog_17_method_103_code
def yJ7_fill_53178 : MethodName := ⟨RJ7, "fill", "([II)V"⟩
def RJ3 : String := "jdk/internal/util/Preconditions"
def TJ3 : u_T := fun k => match k with
  | _ => ("", "", "", false)
def tyJ3 : Nat → FieldType := fun k => match k with
  | _ => .int
abbrev wsJ30 : List Cond := u_ws RJ3 TJ3 0
theorem nmJ3 : ∀ a, a < 0 → ∀ b, b < 0 → a ≠ b → (TJ3 a).2.1 ≠ (TJ3 b).2.1 := by decide +kernel
theorem tyJ3_ok : ∀ k, k < 0 → parseFieldDescriptor (TJ3 k).2.2.1 = some (tyJ3 k) := by decide +kernel
abbrev cJ3_checkIndex_8e157 : ByteArray := prog_18_method_11_code
def yJ3_checkIndex_8e157 : MethodName := ⟨RJ3, "checkIndex", "(IILjava/util/function/BiFunction;)I"⟩
def RL : String := "ObligingPostsLaw"
abbrev cL_law : ByteArray := code
def yL_law : MethodName := ⟨RL, "law", "([I)Z"⟩
abbrev vwCl : List vw_C := [(RX0, TX0, 3), (RX1, TX1, 4), (RX2, TX2, 16), (RX3, TX3, 3), (RX4, TX4, 9), (RX5, TX5, 3), (RX6, TX6, 8), (RX7, TX7, 12), (RX8, TX8, 41)]
def tblG : List Cond := lw_tbl.filter goodWord
theorem gwA {w : Cond} (h : w ∈ lw_tbl) (g : goodWord w = true) : w ∈ tblG := List.mem_filter.mpr ⟨h, g⟩
theorem gw0 {w : Cond} (i : Nat) (h : (k2_sels lw_privs)[i]? = some w) (g : goodWord w = true) : w ∈ tblG := gwA (List.mem_append_left _ (List.mem_of_getElem? h)) g
theorem gw1 {w : Cond} (i : Nat) (h : tables_1_1[i]? = some w) (g : goodWord w = true) : w ∈ tblG := gwA (List.mem_append_right _ (show w ∈ tables_1 from (List.mem_append_left _ (List.mem_of_getElem? h)))) g
theorem gw2 {w : Cond} (i : Nat) (h : tables_1_2[i]? = some w) (g : goodWord w = true) : w ∈ tblG := gwA (List.mem_append_right _ (show w ∈ tables_1 from (List.mem_append_right _ (List.mem_append_left _ (List.mem_of_getElem? h))))) g
theorem gw3 {w : Cond} (i : Nat) (h : tables_1_3[i]? = some w) (g : goodWord w = true) : w ∈ tblG := gwA (List.mem_append_right _ (show w ∈ tables_1 from (List.mem_append_right _ (List.mem_append_right _ (List.mem_append_left _ (List.mem_of_getElem? h)))))) g
theorem gw4 {w : Cond} (i : Nat) (h : tables_1_4[i]? = some w) (g : goodWord w = true) : w ∈ tblG := gwA (List.mem_append_right _ (show w ∈ tables_1 from (List.mem_append_right _ (List.mem_append_right _ (List.mem_append_right _ (List.mem_append_left _ (List.mem_of_getElem? h))))))) g
theorem gw5 {w : Cond} (i : Nat) (h : tables_1_5[i]? = some w) (g : goodWord w = true) : w ∈ tblG := gwA (List.mem_append_right _ (show w ∈ tables_1 from (List.mem_append_right _ (List.mem_append_right _ (List.mem_append_right _ (List.mem_append_right _ (List.mem_append_left _ (List.mem_of_getElem? h)))))))) g
theorem gw6 {w : Cond} (i : Nat) (h : tables_1_6[i]? = some w) (g : goodWord w = true) : w ∈ tblG := gwA (List.mem_append_right _ (show w ∈ tables_1 from (List.mem_append_right _ (List.mem_append_right _ (List.mem_append_right _ (List.mem_append_right _ (List.mem_append_right _ (List.mem_append_left _ (List.mem_of_getElem? h))))))))) g
theorem gw7 {w : Cond} (i : Nat) (h : tables_1_7[i]? = some w) (g : goodWord w = true) : w ∈ tblG := gwA (List.mem_append_right _ (show w ∈ tables_1 from (List.mem_append_right _ (List.mem_append_right _ (List.mem_append_right _ (List.mem_append_right _ (List.mem_append_right _ (List.mem_append_right _ (List.mem_append_left _ (List.mem_of_getElem? h)))))))))) g
theorem gw8 {w : Cond} (i : Nat) (h : tables_1_8[i]? = some w) (g : goodWord w = true) : w ∈ tblG := gwA (List.mem_append_right _ (show w ∈ tables_1 from (List.mem_append_right _ (List.mem_append_right _ (List.mem_append_right _ (List.mem_append_right _ (List.mem_append_right _ (List.mem_append_right _ (List.mem_append_right _ (List.mem_append_left _ (List.mem_of_getElem? h))))))))))) g
theorem gw9 {w : Cond} (i : Nat) (h : tables_1_9[i]? = some w) (g : goodWord w = true) : w ∈ tblG := gwA (List.mem_append_right _ (show w ∈ tables_1 from (List.mem_append_right _ (List.mem_append_right _ (List.mem_append_right _ (List.mem_append_right _ (List.mem_append_right _ (List.mem_append_right _ (List.mem_append_right _ (List.mem_append_right _ (List.mem_of_getElem? h))))))))))) g
theorem tblG_hts {args : Array Value} {s : State} (h : ∀ w ∈ lw_tbl, w.before args s = true) : ∀ w ∈ tblG, w.before args s = true := fun w hw => h w (List.mem_filter.mp hw).1
end
section
def tyL (cy : Nat → ClassId) : List (ClassId × FieldType) := [(cy 0, .byte), (cy 1, .int), (cy 2, .long), (cy 3, .boolean), (cy 4, .object "ObligingPosts$Heath"), (cy 5, .object "ObligingPosts$Slot")]
def nsW : List Cond := [.fieldLinkNest "ObligingPosts" 73 "ObligingPosts$Tape" "size" "I" "ObligingPosts", .fieldLinkNest "ObligingPosts" 84 "ObligingPosts$Tape" "fault" "I" "ObligingPosts", .fieldLinkNest "ObligingPosts" 93 "ObligingPosts$Heath" "lines" "I" "ObligingPosts", .fieldLinkNest "ObligingPosts" 96 "ObligingPosts$Tape" "faultPlace" "I" "ObligingPosts", .fieldLinkNest "ObligingPosts" 103 "ObligingPosts$Heath" "rooms" "[I" "ObligingPosts", .fieldLinkNest "ObligingPosts" 109 "ObligingPosts$Heath" "roadsOf" "[I" "ObligingPosts", .fieldLinkNest "ObligingPosts" 119 "ObligingPosts$Heath" "toldArms" "[I" "ObligingPosts", .fieldLinkNest "ObligingPosts" 128 "ObligingPosts$Heath" "starts" "[I" "ObligingPosts", .fieldLinkNest "ObligingPosts" 131 "ObligingPosts$Heath" "comings" "[I" "ObligingPosts", .fieldLinkNest "ObligingPosts" 168 "ObligingPosts$Heath" "hours" "I" "ObligingPosts", .fieldLinkNest "ObligingPosts" 219 "ObligingPosts$Heath" "posts" "I" "ObligingPosts", .fieldLinkNest "ObligingPosts" 240 "ObligingPosts$Lone" "timesSent" "I" "ObligingPosts", .fieldLinkNest "ObligingPosts" 249 "ObligingPosts$Night" "arms" "[I" "ObligingPosts", .fieldLinkNest "ObligingPosts" 263 "ObligingPosts$Lone" "arms" "[I" "ObligingPosts", .fieldLinkNest "ObligingPosts" 276 "ObligingPosts$Heath" "walkers" "I" "ObligingPosts", .fieldLinkNest "ObligingPosts" 336 "ObligingPosts$Fog" "weights" "[J" "ObligingPosts", .fieldLinkNest "ObligingPosts" 340 "ObligingPosts$Fog" "whole" "J" "ObligingPosts", .fieldLinkNest "ObligingPosts" 344 "ObligingPosts$Heath" "acts" "LObligingPosts$Acts;" "ObligingPosts", .fieldLinkNest "ObligingPosts" 354 "ObligingPosts$Acts" "size" "I" "ObligingPosts", .fieldLinkNest "ObligingPosts" 371 "ObligingPosts$Heath" "law" "I" "ObligingPosts", .fieldLinkNest "ObligingPosts" 374 "ObligingPosts$Heath" "odds" "I" "ObligingPosts", .fieldLinkNest "ObligingPosts" 377 "ObligingPosts$Heath" "inns" "I" "ObligingPosts", .fieldLinkNest "ObligingPosts" 380 "ObligingPosts$Heath" "roads" "I" "ObligingPosts", .fieldLinkNest "ObligingPosts" 383 "ObligingPosts$Heath" "armLines" "I" "ObligingPosts", .fieldLinkNest "ObligingPosts" 395 "ObligingPosts$Slot" "size" "I" "ObligingPosts", .fieldLinkNest "ObligingPosts" 400 "ObligingPosts$Slot" "width" "I" "ObligingPosts", .fieldLinkNest "ObligingPosts" 406 "ObligingPosts$Slot" "numbers" "[J" "ObligingPosts", .fieldLinkNest "ObligingPosts" 425 "ObligingPosts$Night" "law" "I" "ObligingPosts", .fieldLinkNest "ObligingPosts" 426 "ObligingPosts$Night" "foggy" "I" "ObligingPosts", .fieldLinkNest "ObligingPosts" 429 "ObligingPosts$Night" "turning" "I" "ObligingPosts", .fieldLinkNest "ObligingPosts" 432 "ObligingPosts$Night" "comings" "[I" "ObligingPosts", .fieldLinkNest "ObligingPosts" 441 "ObligingPosts$Night" "places" "[I" "ObligingPosts", .fieldLinkNest "ObligingPosts$Fog" 55 "ObligingPosts$Heath" "odds" "I" "ObligingPosts", .fieldLinkNest "ObligingPosts$Fog" 60 "ObligingPosts$Night" "foggy" "I" "ObligingPosts", .fieldLinkNest "ObligingPosts$Fog" 67 "ObligingPosts$Heath" "walkers" "I" "ObligingPosts", .fieldLinkNest "ObligingPosts$Fog" 70 "ObligingPosts$Heath" "hours" "I" "ObligingPosts", .fieldLinkNest "ObligingPosts$Lone" 23 "ObligingPosts$Heath" "toldArms" "[I" "ObligingPosts", .fieldLinkNest "ObligingPosts$Lone" 34 "ObligingPosts$Heath" "posts" "I" "ObligingPosts", .fieldLinkNest "ObligingPosts$Lone" 37 "ObligingPosts$Heath" "roadsOf" "[I" "ObligingPosts", .fieldLinkNest "ObligingPosts$Lone" 44 "ObligingPosts$Heath" "law" "I" "ObligingPosts", .fieldLinkNest "ObligingPosts$Night" 41 "ObligingPosts$Heath" "law" "I" "ObligingPosts", .fieldLinkNest "ObligingPosts$Night" 44 "ObligingPosts$Heath" "comings" "[I" "ObligingPosts", .fieldLinkNest "ObligingPosts$Night" 51 "ObligingPosts$Heath" "toldArms" "[I" "ObligingPosts", .fieldLinkNest "ObligingPosts$Night" 57 "ObligingPosts$Heath" "hours" "I" "ObligingPosts", .fieldLinkNest "ObligingPosts$Night" 64 "ObligingPosts$Heath" "walkers" "I" "ObligingPosts", .fieldLinkNest "ObligingPosts$Night" 67 "ObligingPosts$Heath" "starts" "[I" "ObligingPosts", .fieldLinkNest "ObligingPosts$Night" 87 "ObligingPosts$Heath" "posts" "I" "ObligingPosts", .fieldLinkNest "ObligingPosts$Night" 94 "ObligingPosts$Heath" "acts" "LObligingPosts$Acts;" "ObligingPosts", .fieldLinkNest "ObligingPosts$Night" 129 "ObligingPosts$Heath" "rooms" "[I" "ObligingPosts", .fieldLinkNest "ObligingPosts$Night" 135 "ObligingPosts$Heath" "roadsOf" "[I" "ObligingPosts", .fieldLinkNest "ObligingPosts$Tape" 52 "ObligingPosts$Heath" "lines" "I" "ObligingPosts", .fieldLinkNest "ObligingPosts$Tape" 103 "ObligingPosts$Heath" "hours" "I" "ObligingPosts", .fieldLinkNest "ObligingPosts$Tape" 107 "ObligingPosts$Heath" "law" "I" "ObligingPosts", .fieldLinkNest "ObligingPosts$Tape" 111 "ObligingPosts$Heath" "odds" "I" "ObligingPosts", .fieldLinkNest "ObligingPosts$Tape" 113 "ObligingPosts$Heath" "inns" "I" "ObligingPosts", .fieldLinkNest "ObligingPosts$Tape" 122 "ObligingPosts$Heath" "rooms" "[I" "ObligingPosts", .fieldLinkNest "ObligingPosts$Tape" 126 "ObligingPosts$Heath" "posts" "I" "ObligingPosts", .fieldLinkNest "ObligingPosts$Tape" 129 "ObligingPosts$Heath" "roads" "I" "ObligingPosts", .fieldLinkNest "ObligingPosts$Tape" 135 "ObligingPosts$Heath" "roadsOf" "[I" "ObligingPosts", .fieldLinkNest "ObligingPosts$Tape" 145 "ObligingPosts$Heath" "armLines" "I" "ObligingPosts", .fieldLinkNest "ObligingPosts$Tape" 148 "ObligingPosts$Heath" "toldArms" "[I" "ObligingPosts", .fieldLinkNest "ObligingPosts$Tape" 151 "ObligingPosts$Heath" "walkers" "I" "ObligingPosts", .fieldLinkNest "ObligingPosts$Tape" 156 "ObligingPosts$Heath" "starts" "[I" "ObligingPosts", .fieldLinkNest "ObligingPosts$Tape" 159 "ObligingPosts$Heath" "comings" "[I" "ObligingPosts", .methodLinkNest "ObligingPosts" 11 ⟨"ObligingPosts$Tape", "<init>", "()V"⟩ "ObligingPosts", .methodLinkNest "ObligingPosts" 18 ⟨"ObligingPosts$Heath", "<init>", "()V"⟩ "ObligingPosts", .methodLinkNest "ObligingPosts" 392 ⟨"ObligingPosts$Slot", "<init>", "()V"⟩ "ObligingPosts", .methodLinkNest "ObligingPosts$Heath" 60 ⟨"ObligingPosts$Acts", "<init>", "()V"⟩ "ObligingPosts"]
def isNs : Cond → Bool
  | .fieldLinkNest _ _ _ _ _ _ => true
  | .methodLinkNest _ _ _ _ => true
  | _ => false
theorem nsW_ns : nsW.all isNs = true := by decide +kernel
theorem isNs_on {w : Cond} (hn : isNs w = true) : w.onTables = true := by
  cases w <;> first | rfl | cases hn
def NW (U : State) : Prop := (∀ w ∈ nsW, va_Nw w U) ∧ va_AO "ObligingPosts$Heath" U ∧ va_AO "ObligingPosts$Slot" U
theorem ns_warm {w : Cond} (hn : isNs w = true) {s U : State} (hW : s.WarmedH U.vm) (h : va_Nw w s) : va_Nw w U := by
  cases w <;> first | exact va_Nw.warmF hW h | exact va_Nw.warmM hW h | cases hn
theorem NW.warm {s U : State} (hW : s.WarmedH U.vm) (h : NW s) : NW U := ⟨fun w hw => ns_warm (List.all_eq_true.mp nsW_ns w hw) hW (h.1 w hw), h.2.1.moved hW.alike, h.2.2.moved hW.alike⟩
theorem NW.same {u U : State} (e : u.vm = U.vm) (h : NW u) : NW U := ⟨fun w hw => va_Nw.same (isNs_on (List.all_eq_true.mp nsW_ns w hw)) e (h.1 w hw), h.2.1.moved (e ▸ Vm.Alike.refl u.vm), h.2.2.moved (e ▸ Vm.Alike.refl u.vm)⟩
theorem gAll : GoodIn tblG tblG := fun w hw => ⟨hw, good_of_word (List.mem_filter.mp hw).2⟩
theorem gCode {w : Cond} (h : w ∈ tblG) : GoodIn tblG (w :: tblG) := fun x hx => (List.mem_cons.mp hx).elim (fun q => by rw [q]; exact gAll w h) (gAll x)
/-- facts on a memory: at these addresses, all apart, these cells -/
def FW (L : List Nat) (M : Nat → va_E) (fl : List (Nat × va_E)) : Prop := (∀ (k : Nat) (q : Nat × va_E), fl[k]? = some q → M q.1 = q.2 ∧ q.1 ∈ L) ∧ ∀ (i j : Nat) (p q : Nat × va_E), fl[i]? = some p → fl[j]? = some q → p.1 = q.1 → i = j
theorem FW.at {L : List Nat} {M : Nat → va_E} {fl : List (Nat × va_E)} (F : FW L M fl) (k : Nat) {a : Nat} {e : va_E} (h : fl[k]? = some (a, e)) : M a = e := (F.1 k _ h).1
theorem FW.mem {L : List Nat} {M : Nat → va_E} {fl : List (Nat × va_E)} (F : FW L M fl) (k : Nat) {a : Nat} {e : va_E} (h : fl[k]? = some (a, e)) : a ∈ L := (F.1 k _ h).2
theorem FW.ne {L : List Nat} {M : Nat → va_E} {fl : List (Nat × va_E)} (F : FW L M fl) (i j : Nat) {a b : Nat} {d e : va_E} (hi : fl[i]? = some (a, d)) (hj : fl[j]? = some (b, e)) (hij : i ≠ j) : a ≠ b := fun q => hij (F.2 i j _ _ hi hj q)
theorem FW.nil {L : List Nat} {M : Nat → va_E} : FW L M [] := ⟨fun k q h => by simp at h, fun i j p q h => by simp at h⟩
theorem FW.sub {L : List Nat} {M : Nat → va_E} {fl fl' : List (Nat × va_E)} (F : FW L M fl) (is : List Nat) (hn : va_nd is = true) (hs : is.map (fun i => fl[i]?) = fl'.map some) : FW L M fl' := by
  have D : va_D (fun _ => True) fl := ⟨F.2, fun _ _ _ => trivial⟩
  refine ⟨fun k q hk => ?_, (D.sub is hn hs).1⟩
  have h1 : (is.map (fun i => fl[i]?))[k]? = some (some q) := by rw [hs, List.getElem?_map, hk]; rfl
  rw [List.getElem?_map] at h1
  cases hi : is[k]? with
  | none => rw [hi] at h1; cases h1
  | some i => rw [hi] at h1; exact F.1 i q (Option.some.inj h1)
theorem FW.left {L : List Nat} {M : Nat → va_E} {x y : List (Nat × va_E)} (F : FW L M (x ++ y)) : FW L M x := ⟨fun k q h => F.1 k q (by rw [List.getElem?_append_left (List.getElem?_eq_some_iff.mp h).1]; exact h), fun i j p q hi hj => F.2 i j p q (by rw [List.getElem?_append_left (List.getElem?_eq_some_iff.mp hi).1]; exact hi) (by rw [List.getElem?_append_left (List.getElem?_eq_some_iff.mp hj).1]; exact hj)⟩
theorem FW.right {L : List Nat} {M : Nat → va_E} {x y : List (Nat × va_E)} (F : FW L M (x ++ y)) : FW L M y := by
  have h : ∀ (k : Nat) (q : Nat × va_E), y[k]? = some q → (x ++ y)[x.length + k]? = some q := fun k q hk => by rw [List.getElem?_append_right (Nat.le_add_right _ _), Nat.add_sub_cancel_left]; exact hk
  exact ⟨fun k q hk => F.1 _ q (h k q hk), fun i j p q hi hj e => Nat.add_left_cancel (F.2 _ _ p q (h i p hi) (h j q hj) e)⟩
theorem FW.set {L : List Nat} {M : Nat → va_E} {fl : List (Nat × va_E)} (F : FW L M fl) (k : Nat) {a : Nat} {e0 : va_E} (h : fl[k]? = some (a, e0)) (e : va_E) : FW L (va_up M a e) (fl.set k (a, e)) := by
  have hk := (List.getElem?_eq_some_iff.mp h).1
  have key : ∀ (i : Nat) (q : Nat × va_E), (fl.set k (a, e))[i]? = some q → (i = k ∧ q = (a, e)) ∨ (i ≠ k ∧ fl[i]? = some q) := by
    intro i q hq
    by_cases hi : i = k
    · subst hi
      rw [List.getElem?_set_self hk] at hq
      exact Or.inl ⟨rfl, (Option.some.inj hq).symm⟩
    · rw [List.getElem?_set_ne (fun z => hi z.symm)] at hq
      exact Or.inr ⟨hi, hq⟩
  have addr : ∀ (i : Nat) (q : Nat × va_E), (fl.set k (a, e))[i]? = some q → ∃ q', fl[i]? = some q' ∧ q'.1 = q.1 := by
    intro i q hq
    rcases key i q hq with ⟨h1, h2⟩ | ⟨h1, h2⟩
    · exact ⟨(a, e0), by rw [h1]; exact h, by rw [h2]⟩
    · exact ⟨q, h2, rfl⟩
  refine ⟨fun i q hq => ?_, fun i j p q hi hj epq => ?_⟩
  · rcases key i q hq with ⟨h1, h2⟩ | ⟨h1, h2⟩
    · rw [h2]
      exact ⟨va_up_self _ _ _, F.mem k h⟩
    · refine ⟨?_, (F.1 i q h2).2⟩
      rw [va_up_ne _ _ (fun z => h1 (F.2 i k q (a, e0) h2 h z))]
      exact (F.1 i q h2).1
  · obtain ⟨p', hp', ep⟩ := addr i p hi
    obtain ⟨q', hq', eq⟩ := addr j q hj
    exact F.2 i j p' q' hp' hq' (by rw [ep, eq]; exact epq)
theorem FW.push {L : List Nat} {M : Nat → va_E} {fl : List (Nat × va_E)} (F : FW L M fl) {q : Nat} (hq : q ∉ L) (e : va_E) : FW (L ++ [q]) (va_up M q e) (fl ++ [(q, e)]) := by
  have key : ∀ (i : Nat) (x : Nat × va_E), (fl ++ [(q, e)])[i]? = some x → (fl[i]? = some x ∧ i < fl.length ∧ x.1 ≠ q) ∨ (i = fl.length ∧ x = (q, e)) := by
    intro i x hx
    by_cases hi : i < fl.length
    · rw [List.getElem?_append_left hi] at hx
      exact Or.inl ⟨hx, hi, fun z => hq (z ▸ (F.1 i x hx).2)⟩
    · rw [List.getElem?_append_right (by omega)] at hx
      have hz : i - fl.length < 1 := (List.getElem?_eq_some_iff.mp hx).1
      have h0 : i - fl.length = 0 := by omega
      rw [h0] at hx
      exact Or.inr ⟨by omega, (Option.some.inj hx).symm⟩
  refine ⟨fun i x hx => ?_, fun i j x y hx hy exy => ?_⟩
  · rcases key i x hx with ⟨h1, -, h3⟩ | ⟨h1, h2⟩
    · exact ⟨by rw [va_up_ne _ _ h3]; exact (F.1 i x h1).1, List.mem_append_left _ (F.1 i x h1).2⟩
    · rw [h2]; exact ⟨va_up_self _ _ _, List.mem_append_right _ (List.mem_singleton.mpr rfl)⟩
  · rcases key i x hx with ⟨h1, h2, h3⟩ | ⟨h1, h2⟩ <;> rcases key j y hy with ⟨g1, g2, g3⟩ | ⟨g1, g2⟩
    · exact F.2 i j x y h1 g1 exy
    · exact absurd (by rw [exy, g2]) h3
    · exact absurd (by rw [← exy, h2]) g3
    · omega
/-- behind a maker of cells: what it was given at h is made, the rest stays -/
def Mk (L : List Nat) (M : Nat → va_E) (h : Nat) (w1 : List (Nat × va_E)) (L' : List Nat) (M' : Nat → va_E) : Prop := (∀ b, b ∈ L → b ≠ h → M' b = M b) ∧ (∀ b, b ∈ L → b ∈ L') ∧ FW L' M' w1 ∧ ∀ (k : Nat) (q : Nat × va_E), w1[k]? = some q → q.1 = h ∨ q.1 ∉ L
theorem Mk.join {L L' : List Nat} {M M' : Nat → va_E} {h : Nat} {fl w1 wr : List (Nat × va_E)} (X : Mk L M h w1 L' M') (F : FW L M fl) (kh : Nat) {e0 : va_E} (hk : fl[kh]? = some (h, e0)) (is : List Nat) (hn : va_nd is = true) (hs : is.map (fun i => fl[i]?) = wr.map some) (hd : ∀ i ∈ is, i ≠ kh) : FW L' M' (wr ++ w1) := by
  have R := F.sub is hn hs
  have hne : ∀ (k : Nat) (q : Nat × va_E), wr[k]? = some q → q.1 ≠ h := by
    intro k q hq e
    have h1 : (is.map (fun i => fl[i]?))[k]? = some (some q) := by rw [hs, List.getElem?_map, hq]; rfl
    rw [List.getElem?_map] at h1
    cases hi : is[k]? with
    | none => rw [hi] at h1; cases h1
    | some i =>
      rw [hi] at h1
      exact hd i (List.mem_of_getElem? hi) (F.2 i kh q (h, e0) (Option.some.inj h1) hk e)
  have key : ∀ (i : Nat) (x : Nat × va_E), (wr ++ w1)[i]? = some x → (i < wr.length ∧ wr[i]? = some x) ∨ (wr.length ≤ i ∧ w1[i - wr.length]? = some x) := by
    intro i x hx
    by_cases hi : i < wr.length
    · rw [List.getElem?_append_left hi] at hx; exact Or.inl ⟨hi, hx⟩
    · rw [List.getElem?_append_right (by omega)] at hx; exact Or.inr ⟨by omega, hx⟩
  refine ⟨fun i x hx => ?_, fun i j x y hx hy exy => ?_⟩
  · rcases key i x hx with ⟨-, h1⟩ | ⟨-, h1⟩
    · exact ⟨by rw [X.1 _ (R.1 i x h1).2 (hne i x h1)]; exact (R.1 i x h1).1, X.2.1 _ (R.1 i x h1).2⟩
    · exact X.2.2.1.1 _ x h1
  · rcases key i x hx with ⟨a1, h1⟩ | ⟨a1, h1⟩ <;> rcases key j y hy with ⟨b1, g1⟩ | ⟨b1, g1⟩
    · exact R.2 i j x y h1 g1 exy
    · rcases X.2.2.2 _ y g1 with z | z
      · exact absurd (exy.trans z) (hne i x h1)
      · exact absurd (exy ▸ (R.1 i x h1).2) z
    · rcases X.2.2.2 _ x h1 with z | z
      · exact absurd (exy.symm.trans z) (hne j y g1)
      · exact absurd (exy.symm ▸ (R.1 j y g1).2) z
    · have := X.2.2.1.2 _ _ x y h1 g1 exy; omega
def rmL (n mc ms : Nat) : Room := { frames := n, cells := mc, slots := ms, locals := 100 * n }
def Cx (p : Program) (s : State) (m : MethodId) (args : Array Value) (meth : Method) (c : Code) (own : String) (cc : ByteArray) (nL : Nat) (G : va_G) (cy : Nat → ClassId) (A : Nat → Prop) : Prop :=
  p.tables.exec = Jvm.exec ∧ c.code = cc ∧ c.maxLocals = nL ∧ s.vm.findClass own = some m.cls ∧ (∀ w ∈ tblG, w.before args s = true) ∧ NW s ∧ va_K G vwCl (tyL cy) s ∧ (∀ q, s.heap.size ≤ q → A q) ∧ meth.locks = false
def Go (p : Program) (l : Launch) (e : Env) (n mc ms : Nat) (s : State) (m : MethodId) (args : Array Value) (below : List Frame) (meth : Method) (c : Code) (nL : Nat) (G : va_G) (A : Nat → Prop) (cells slots : Nat) (Q : State → Prop) (L : List Nat) (M : Nat → va_E) (pc : Nat) (lv : List (Nat × Value)) (st : List Value) : Prop :=
  ∀ (H : Heap) (locs : List Loc) (ls : Array Slot), va_P G vwCl (va_pl L M) H → va_D A (va_pl L M) → va_S A s.heap H locs → lv_has ls nL lv → W p l e (rmL n mc ms) s m args below meth c H locs cells slots Q (F0 m pc ls st)
theorem pl_at {L : List Nat} {M : Nat → va_E} {a : Nat} {x : va_E} (hL : a ∈ L) (hM : M a = x) : ∃ k : Nat, (va_pl L M)[k]? = some (a, M a) ∧ (va_pl L M)[k]? = some (a, x) := by
  obtain ⟨k, hk⟩ := va_pl_get (X := []) (f := M) hL
  exact ⟨k, hk, by rw [← hM]; exact hk⟩
theorem pl_set {A : Nat → Prop} {L : List Nat} {M : Nat → va_E} {a k : Nat} {x : va_E} (hD : va_D A (va_pl L M)) (hL : a ∈ L) (hk : (va_pl L M)[k]? = some (a, M a)) : (va_pl L M).set k (a, x) = va_pl L (va_up M a x) := va_pl_set (X := []) hD hL hk
theorem pl_free {A : Nat → Prop} {L : List Nat} {M : Nat → va_E} {H0 H : Heap} {locs : List Loc} (hD : va_D A (va_pl L M)) (hS : va_S A H0 H locs) (hA : ∀ q, H0.size ≤ q → A q) : ∀ q, va_A (va_pl L M) H.size q → A q := by
  intro q h
  rcases h with ⟨k, x, h⟩ | h
  · exact hD.2 k _ h
  · exact hA q (Nat.le_trans hS.1 h)
theorem va_up_eta {M : Nat → va_E} {a : Nat} {x : va_E} (h : M a = x) : va_up M a x = M := by
  funext b
  by_cases hb : b = a
  · rw [hb, va_up_self, h]
  · rw [va_up_ne _ _ hb]

section GOROWS
variable {p : Program} {l : Launch} {e : Env} {s : State} {m : MethodId} {args : Array Value} {below : List Frame} {meth : Method} {c : Code} {own : String} {cc : ByteArray} {nL : Nat} {G : va_G} {cy : Nat → ClassId} {A : Nat → Prop} {n mc ms cells slots : Nat} {Q : State → Prop} {L : List Nat} {M : Nat → va_E} {pc : Nat} {lv : List (Nat × Value)} {st : List Value}
theorem g_iconst (C : Cx p s m args meth c own cc nL G cy A) {k0 : Int} {v : Int32} (hd : decode cc pc = .ok (.iconst k0, 1)) (hv : Int32.ofInt k0 = v) (k : Go p l e n mc ms s m args below meth c nL G A cells slots Q L M (pc + 1) lv (.int v :: st)) : Go p l e n mc ms s m args below meth c nL G A cells slots Q L M pc lv (st) := fun H locs ls hP hD hS hl => lv_iconst C.1 C.2.1 hd hv (k H locs ls hP hD hS hl)
theorem g_bipush (C : Cx p s m args meth c own cc nL G cy A) {k0 : Int} {v : Int32} (hd : decode cc pc = .ok (.bipush k0, 2)) (hv : (Int8.ofInt k0).toInt32 = v) (k : Go p l e n mc ms s m args below meth c nL G A cells slots Q L M (pc + 2) lv (.int v :: st)) : Go p l e n mc ms s m args below meth c nL G A cells slots Q L M pc lv (st) := fun H locs ls hP hD hS hl => lv_bipush C.1 C.2.1 hd hv (k H locs ls hP hD hS hl)
theorem g_sipush (C : Cx p s m args meth c own cc nL G cy A) {k0 : Int} {v : Int32} (hd : decode cc pc = .ok (.sipush k0, 3)) (hv : (Int16.ofInt k0).toInt32 = v) (k : Go p l e n mc ms s m args below meth c nL G A cells slots Q L M (pc + 3) lv (.int v :: st)) : Go p l e n mc ms s m args below meth c nL G A cells slots Q L M pc lv (st) := fun H locs ls hP hD hS hl => lv_sipush C.1 C.2.1 hd hv (k H locs ls hP hD hS hl)
theorem g_lconst (C : Cx p s m args meth c own cc nL G cy A) {k0 : Fin 2} {v : Int64} (hd : decode cc pc = .ok (.lconst k0, 1)) (hv : Int64.ofNat (k0 : Nat) = v) (k : Go p l e n mc ms s m args below meth c nL G A cells slots Q L M (pc + 1) lv (.long v :: st)) : Go p l e n mc ms s m args below meth c nL G A cells slots Q L M pc lv (st) := fun H locs ls hP hD hS hl => lv_lconst C.1 C.2.1 hd hv (k H locs ls hP hD hS hl)
theorem g_iload_n (C : Cx p s m args meth c own cc nL G cy A) {k0 : Fin 4} {i j : Nat} {x : Int32} (hd : decode cc pc = .ok (.iload_n k0, 1)) (hi : (k0 : Nat) = i) (hj : lv[j]? = some (i, .int x)) (k : Go p l e n mc ms s m args below meth c nL G A cells slots Q L M (pc + 1) lv (.int x :: st)) : Go p l e n mc ms s m args below meth c nL G A cells slots Q L M pc lv st := fun H locs ls hP hD hS hl => lv_iload_n C.1 C.2.1 hd hi (lv_at hl j hj) (k H locs ls hP hD hS hl)
theorem g_iload (C : Cx p s m args meth c own cc nL G cy A) {i j : Nat} {x : Int32} (hd : decode cc pc = .ok (.iload i, 2)) (hj : lv[j]? = some (i, .int x)) (k : Go p l e n mc ms s m args below meth c nL G A cells slots Q L M (pc + 2) lv (.int x :: st)) : Go p l e n mc ms s m args below meth c nL G A cells slots Q L M pc lv st := fun H locs ls hP hD hS hl => lv_iload C.1 C.2.1 hd (lv_at hl j hj) (k H locs ls hP hD hS hl)
theorem g_istore_n (C : Cx p s m args meth c own cc nL G cy A) {k0 : Fin 4} {i : Nat} {x : Int32} {lv2 : List (Nat × Value)} (hd : decode cc pc = .ok (.istore_n k0, 1)) (hi : (k0 : Nat) = i) (hn : i < nL) (h2 : (i, Value.int x) :: lv.filter (fun q => !(q.1 == i) && !(q.1 + 1 == i && q.2.category == 2)) = lv2) (k : Go p l e n mc ms s m args below meth c nL G A cells slots Q L M (pc + 1) lv2 st) : Go p l e n mc ms s m args below meth c nL G A cells slots Q L M pc lv (.int x :: st) := fun H locs ls hP hD hS hl => lv_istore_n C.1 C.2.1 hd hi hl hn h2 (fun ls2 hl2 => k H locs ls2 hP hD hS hl2)
theorem g_istore (C : Cx p s m args meth c own cc nL G cy A) {i : Nat} {x : Int32} {lv2 : List (Nat × Value)} (hd : decode cc pc = .ok (.istore i, 2)) (hn : i < nL) (h2 : (i, Value.int x) :: lv.filter (fun q => !(q.1 == i) && !(q.1 + 1 == i && q.2.category == 2)) = lv2) (k : Go p l e n mc ms s m args below meth c nL G A cells slots Q L M (pc + 2) lv2 st) : Go p l e n mc ms s m args below meth c nL G A cells slots Q L M pc lv (.int x :: st) := fun H locs ls hP hD hS hl => lv_istore C.1 C.2.1 hd hl hn h2 (fun ls2 hl2 => k H locs ls2 hP hD hS hl2)
theorem g_lload_n (C : Cx p s m args meth c own cc nL G cy A) {k0 : Fin 4} {i j : Nat} {x : Int64} (hd : decode cc pc = .ok (.lload_n k0, 1)) (hi : (k0 : Nat) = i) (hj : lv[j]? = some (i, .long x)) (k : Go p l e n mc ms s m args below meth c nL G A cells slots Q L M (pc + 1) lv (.long x :: st)) : Go p l e n mc ms s m args below meth c nL G A cells slots Q L M pc lv st := fun H locs ls hP hD hS hl => lv_lload_n C.1 C.2.1 hd hi (lv_at hl j hj) (k H locs ls hP hD hS hl)
theorem g_lload (C : Cx p s m args meth c own cc nL G cy A) {i j : Nat} {x : Int64} (hd : decode cc pc = .ok (.lload i, 2)) (hj : lv[j]? = some (i, .long x)) (k : Go p l e n mc ms s m args below meth c nL G A cells slots Q L M (pc + 2) lv (.long x :: st)) : Go p l e n mc ms s m args below meth c nL G A cells slots Q L M pc lv st := fun H locs ls hP hD hS hl => lv_lload C.1 C.2.1 hd (lv_at hl j hj) (k H locs ls hP hD hS hl)
theorem g_lstore_n (C : Cx p s m args meth c own cc nL G cy A) {k0 : Fin 4} {i : Nat} {x : Int64} {lv2 : List (Nat × Value)} (hd : decode cc pc = .ok (.lstore_n k0, 1)) (hi : (k0 : Nat) = i) (hn : i + 1 < nL) (h2 : (i, Value.long x) :: lv.filter (fun q => !(q.1 == i) && (!(q.1 == i + 1) && !(q.1 + 1 == i && q.2.category == 2))) = lv2) (k : Go p l e n mc ms s m args below meth c nL G A cells slots Q L M (pc + 1) lv2 st) : Go p l e n mc ms s m args below meth c nL G A cells slots Q L M pc lv (.long x :: st) := fun H locs ls hP hD hS hl => lv_lstore_n C.1 C.2.1 hd hi hl hn h2 (fun ls2 hl2 => k H locs ls2 hP hD hS hl2)
theorem g_lstore (C : Cx p s m args meth c own cc nL G cy A) {i : Nat} {x : Int64} {lv2 : List (Nat × Value)} (hd : decode cc pc = .ok (.lstore i, 2)) (hn : i + 1 < nL) (h2 : (i, Value.long x) :: lv.filter (fun q => !(q.1 == i) && (!(q.1 == i + 1) && !(q.1 + 1 == i && q.2.category == 2))) = lv2) (k : Go p l e n mc ms s m args below meth c nL G A cells slots Q L M (pc + 2) lv2 st) : Go p l e n mc ms s m args below meth c nL G A cells slots Q L M pc lv (.long x :: st) := fun H locs ls hP hD hS hl => lv_lstore C.1 C.2.1 hd hl hn h2 (fun ls2 hl2 => k H locs ls2 hP hD hS hl2)
theorem g_aload_n (C : Cx p s m args meth c own cc nL G cy A) {k0 : Fin 4} {i j : Nat} {x : Nat} (hd : decode cc pc = .ok (.aload_n k0, 1)) (hi : (k0 : Nat) = i) (hj : lv[j]? = some (i, .ref x)) (k : Go p l e n mc ms s m args below meth c nL G A cells slots Q L M (pc + 1) lv (.ref x :: st)) : Go p l e n mc ms s m args below meth c nL G A cells slots Q L M pc lv st := fun H locs ls hP hD hS hl => lv_aload_n C.1 C.2.1 hd hi (lv_at hl j hj) (k H locs ls hP hD hS hl)
theorem g_aload (C : Cx p s m args meth c own cc nL G cy A) {i j : Nat} {x : Nat} (hd : decode cc pc = .ok (.aload i, 2)) (hj : lv[j]? = some (i, .ref x)) (k : Go p l e n mc ms s m args below meth c nL G A cells slots Q L M (pc + 2) lv (.ref x :: st)) : Go p l e n mc ms s m args below meth c nL G A cells slots Q L M pc lv st := fun H locs ls hP hD hS hl => lv_aload C.1 C.2.1 hd (lv_at hl j hj) (k H locs ls hP hD hS hl)
theorem g_astore_n (C : Cx p s m args meth c own cc nL G cy A) {k0 : Fin 4} {i : Nat} {x : Nat} {lv2 : List (Nat × Value)} (hd : decode cc pc = .ok (.astore_n k0, 1)) (hi : (k0 : Nat) = i) (hn : i < nL) (h2 : (i, Value.ref x) :: lv.filter (fun q => !(q.1 == i) && !(q.1 + 1 == i && q.2.category == 2)) = lv2) (k : Go p l e n mc ms s m args below meth c nL G A cells slots Q L M (pc + 1) lv2 st) : Go p l e n mc ms s m args below meth c nL G A cells slots Q L M pc lv (.ref x :: st) := fun H locs ls hP hD hS hl => lv_astore_n C.1 C.2.1 hd hi hl hn h2 (fun ls2 hl2 => k H locs ls2 hP hD hS hl2)
theorem g_astore (C : Cx p s m args meth c own cc nL G cy A) {i : Nat} {x : Nat} {lv2 : List (Nat × Value)} (hd : decode cc pc = .ok (.astore i, 2)) (hn : i < nL) (h2 : (i, Value.ref x) :: lv.filter (fun q => !(q.1 == i) && !(q.1 + 1 == i && q.2.category == 2)) = lv2) (k : Go p l e n mc ms s m args below meth c nL G A cells slots Q L M (pc + 2) lv2 st) : Go p l e n mc ms s m args below meth c nL G A cells slots Q L M pc lv (.ref x :: st) := fun H locs ls hP hD hS hl => lv_astore C.1 C.2.1 hd hl hn h2 (fun ls2 hl2 => k H locs ls2 hP hD hS hl2)
theorem g_iinc (C : Cx p s m args meth c own cc nL G cy A) {i j : Nat} {k0 : Int} {x v : Int32} {lv2 : List (Nat × Value)} (hd : decode cc pc = .ok (.iinc i k0, 3)) (hj : lv[j]? = some (i, .int x)) (hv : x + Int32.ofInt k0 = v) (hn : i < nL) (h2 : (i, Value.int v) :: lv.filter (fun q => !(q.1 == i) && !(q.1 + 1 == i && q.2.category == 2)) = lv2) (k : Go p l e n mc ms s m args below meth c nL G A cells slots Q L M (pc + 3) lv2 st) : Go p l e n mc ms s m args below meth c nL G A cells slots Q L M pc lv st := fun H locs ls hP hD hS hl => lv_iinc C.1 C.2.1 hd hl hj hv hn h2 (fun ls2 hl2 => k H locs ls2 hP hD hS hl2)
theorem g_iadd (C : Cx p s m args meth c own cc nL G cy A) {x y : Int32} (hd : decode cc pc = .ok (.iadd, 1)) (k : Go p l e n mc ms s m args below meth c nL G A cells slots Q L M (pc + 1) lv (.int (x + y) :: st)) : Go p l e n mc ms s m args below meth c nL G A cells slots Q L M pc lv (.int y :: .int x :: st) := fun H locs ls hP hD hS hl => lv_iadd C.1 C.2.1 hd (k H locs ls hP hD hS hl)
theorem g_isub (C : Cx p s m args meth c own cc nL G cy A) {x y : Int32} (hd : decode cc pc = .ok (.isub, 1)) (k : Go p l e n mc ms s m args below meth c nL G A cells slots Q L M (pc + 1) lv (.int (x - y) :: st)) : Go p l e n mc ms s m args below meth c nL G A cells slots Q L M pc lv (.int y :: .int x :: st) := fun H locs ls hP hD hS hl => lv_isub C.1 C.2.1 hd (k H locs ls hP hD hS hl)
theorem g_imul (C : Cx p s m args meth c own cc nL G cy A) {x y : Int32} (hd : decode cc pc = .ok (.imul, 1)) (k : Go p l e n mc ms s m args below meth c nL G A cells slots Q L M (pc + 1) lv (.int (x * y) :: st)) : Go p l e n mc ms s m args below meth c nL G A cells slots Q L M pc lv (.int y :: .int x :: st) := fun H locs ls hP hD hS hl => lv_imul C.1 C.2.1 hd (k H locs ls hP hD hS hl)
theorem g_iand (C : Cx p s m args meth c own cc nL G cy A) {x y : Int32} (hd : decode cc pc = .ok (.iand, 1)) (k : Go p l e n mc ms s m args below meth c nL G A cells slots Q L M (pc + 1) lv (.int (x &&& y) :: st)) : Go p l e n mc ms s m args below meth c nL G A cells slots Q L M pc lv (.int y :: .int x :: st) := fun H locs ls hP hD hS hl => lv_iand C.1 C.2.1 hd (k H locs ls hP hD hS hl)
theorem g_ior (C : Cx p s m args meth c own cc nL G cy A) {x y : Int32} (hd : decode cc pc = .ok (.ior, 1)) (k : Go p l e n mc ms s m args below meth c nL G A cells slots Q L M (pc + 1) lv (.int (x ||| y) :: st)) : Go p l e n mc ms s m args below meth c nL G A cells slots Q L M pc lv (.int y :: .int x :: st) := fun H locs ls hP hD hS hl => lv_ior C.1 C.2.1 hd (k H locs ls hP hD hS hl)
theorem g_ladd (C : Cx p s m args meth c own cc nL G cy A) {x y : Int64} (hd : decode cc pc = .ok (.ladd, 1)) (k : Go p l e n mc ms s m args below meth c nL G A cells slots Q L M (pc + 1) lv (.long (x + y) :: st)) : Go p l e n mc ms s m args below meth c nL G A cells slots Q L M pc lv (.long y :: .long x :: st) := fun H locs ls hP hD hS hl => lv_ladd C.1 C.2.1 hd (k H locs ls hP hD hS hl)
theorem g_lsub (C : Cx p s m args meth c own cc nL G cy A) {x y : Int64} (hd : decode cc pc = .ok (.lsub, 1)) (k : Go p l e n mc ms s m args below meth c nL G A cells slots Q L M (pc + 1) lv (.long (x - y) :: st)) : Go p l e n mc ms s m args below meth c nL G A cells slots Q L M pc lv (.long y :: .long x :: st) := fun H locs ls hP hD hS hl => lv_lsub C.1 C.2.1 hd (k H locs ls hP hD hS hl)
theorem g_lmul (C : Cx p s m args meth c own cc nL G cy A) {x y : Int64} (hd : decode cc pc = .ok (.lmul, 1)) (k : Go p l e n mc ms s m args below meth c nL G A cells slots Q L M (pc + 1) lv (.long (x * y) :: st)) : Go p l e n mc ms s m args below meth c nL G A cells slots Q L M pc lv (.long y :: .long x :: st) := fun H locs ls hP hD hS hl => lv_lmul C.1 C.2.1 hd (k H locs ls hP hD hS hl)
theorem g_land (C : Cx p s m args meth c own cc nL G cy A) {x y : Int64} (hd : decode cc pc = .ok (.land, 1)) (k : Go p l e n mc ms s m args below meth c nL G A cells slots Q L M (pc + 1) lv (.long (x &&& y) :: st)) : Go p l e n mc ms s m args below meth c nL G A cells slots Q L M pc lv (.long y :: .long x :: st) := fun H locs ls hP hD hS hl => lv_land C.1 C.2.1 hd (k H locs ls hP hD hS hl)
theorem g_lor (C : Cx p s m args meth c own cc nL G cy A) {x y : Int64} (hd : decode cc pc = .ok (.lor, 1)) (k : Go p l e n mc ms s m args below meth c nL G A cells slots Q L M (pc + 1) lv (.long (x ||| y) :: st)) : Go p l e n mc ms s m args below meth c nL G A cells slots Q L M pc lv (.long y :: .long x :: st) := fun H locs ls hP hD hS hl => lv_lor C.1 C.2.1 hd (k H locs ls hP hD hS hl)
theorem g_ishr (C : Cx p s m args meth c own cc nL G cy A) {x y : Int32} (hd : decode cc pc = .ok (.ishr, 1)) (k : Go p l e n mc ms s m args below meth c nL G A cells slots Q L M (pc + 1) lv (.int (x >>> (y &&& 31)) :: st)) : Go p l e n mc ms s m args below meth c nL G A cells slots Q L M pc lv (.int y :: .int x :: st) := fun H locs ls hP hD hS hl => lv_ishr C.1 C.2.1 hd (k H locs ls hP hD hS hl)
theorem g_ishl (C : Cx p s m args meth c own cc nL G cy A) {x y : Int32} (hd : decode cc pc = .ok (.ishl, 1)) (k : Go p l e n mc ms s m args below meth c nL G A cells slots Q L M (pc + 1) lv (.int (x <<< (y &&& 31)) :: st)) : Go p l e n mc ms s m args below meth c nL G A cells slots Q L M pc lv (.int y :: .int x :: st) := fun H locs ls hP hD hS hl => lv_ishl C.1 C.2.1 hd (k H locs ls hP hD hS hl)
theorem g_idiv (C : Cx p s m args meth c own cc nL G cy A) {x y : Int32} (hd : decode cc pc = .ok (.idiv, 1)) (hne : ¬ y = 0) (k : Go p l e n mc ms s m args below meth c nL G A cells slots Q L M (pc + 1) lv (.int (x / y) :: st)) : Go p l e n mc ms s m args below meth c nL G A cells slots Q L M pc lv (.int y :: .int x :: st) := fun H locs ls hP hD hS hl => lv_idiv C.1 C.2.1 hd hne (k H locs ls hP hD hS hl)
theorem g_irem (C : Cx p s m args meth c own cc nL G cy A) {x y : Int32} (hd : decode cc pc = .ok (.irem, 1)) (hne : ¬ y = 0) (k : Go p l e n mc ms s m args below meth c nL G A cells slots Q L M (pc + 1) lv (.int (x - x / y * y) :: st)) : Go p l e n mc ms s m args below meth c nL G A cells slots Q L M pc lv (.int y :: .int x :: st) := fun H locs ls hP hD hS hl => lv_irem C.1 C.2.1 hd hne (k H locs ls hP hD hS hl)
theorem g_i2l (C : Cx p s m args meth c own cc nL G cy A) {x : Int32} {v : Int64} (hd : decode cc pc = .ok (.i2l, 1)) (hv : x.toInt64 = v) (k : Go p l e n mc ms s m args below meth c nL G A cells slots Q L M (pc + 1) lv (.long v :: st)) : Go p l e n mc ms s m args below meth c nL G A cells slots Q L M pc lv (.int x :: st) := fun H locs ls hP hD hS hl => lv_i2l C.1 C.2.1 hd hv (k H locs ls hP hD hS hl)
theorem g_l2i (C : Cx p s m args meth c own cc nL G cy A) {x : Int64} {v : Int32} (hd : decode cc pc = .ok (.l2i, 1)) (hv : x.toInt32 = v) (k : Go p l e n mc ms s m args below meth c nL G A cells slots Q L M (pc + 1) lv (.int v :: st)) : Go p l e n mc ms s m args below meth c nL G A cells slots Q L M pc lv (.long x :: st) := fun H locs ls hP hD hS hl => lv_l2i C.1 C.2.1 hd hv (k H locs ls hP hD hS hl)
theorem g_i2b (C : Cx p s m args meth c own cc nL G cy A) {x : Int32} {v : Int32} (hd : decode cc pc = .ok (.i2b, 1)) (hv : x.toInt8.toInt32 = v) (k : Go p l e n mc ms s m args below meth c nL G A cells slots Q L M (pc + 1) lv (.int v :: st)) : Go p l e n mc ms s m args below meth c nL G A cells slots Q L M pc lv (.int x :: st) := fun H locs ls hP hD hS hl => lv_i2b C.1 C.2.1 hd hv (k H locs ls hP hD hS hl)
theorem g_lcmp (C : Cx p s m args meth c own cc nL G cy A) {x y : Int64} (hd : decode cc pc = .ok (.lcmp, 1)) (k : Go p l e n mc ms s m args below meth c nL G A cells slots Q L M (pc + 1) lv (.int (lg_cmp x y) :: st)) : Go p l e n mc ms s m args below meth c nL G A cells slots Q L M pc lv (.long y :: .long x :: st) := fun H locs ls hP hD hS hl => W.lcmp C.1 C.2.1 hd (k H locs ls hP hD hS hl)
theorem g_lshl (C : Cx p s m args meth c own cc nL G cy A) {x v : Int64} {y : Int32} (hd : decode cc pc = .ok (.lshl, 1)) (hv : x <<< (y.toInt64 &&& 63) = v) (k : Go p l e n mc ms s m args below meth c nL G A cells slots Q L M (pc + 1) lv (.long v :: st)) : Go p l e n mc ms s m args below meth c nL G A cells slots Q L M pc lv (.int y :: .long x :: st) := fun H locs ls hP hD hS hl => lv_lshl C.1 C.2.1 hd hv (k H locs ls hP hD hS hl)
theorem g_dup (C : Cx p s m args meth c own cc nL G cy A) {va : Value} (hd : decode cc pc = .ok (.dup, 1)) (hva : va.category = 1) (k : Go p l e n mc ms s m args below meth c nL G A cells slots Q L M (pc + 1) lv (va :: va :: st)) : Go p l e n mc ms s m args below meth c nL G A cells slots Q L M pc lv (va :: st) := fun H locs ls hP hD hS hl => lv_dup C.1 C.2.1 hd hva (k H locs ls hP hD hS hl)
theorem g_pop (C : Cx p s m args meth c own cc nL G cy A) {va : Value} (hd : decode cc pc = .ok (.pop, 1)) (hva : va.category = 1) (k : Go p l e n mc ms s m args below meth c nL G A cells slots Q L M (pc + 1) lv (st)) : Go p l e n mc ms s m args below meth c nL G A cells slots Q L M pc lv (va :: st) := fun H locs ls hP hD hS hl => lv_pop C.1 C.2.1 hd hva (k H locs ls hP hD hS hl)
theorem g_dup_x1 (C : Cx p s m args meth c own cc nL G cy A) {va vb : Value} (hd : decode cc pc = .ok (.dup_x1, 1)) (hva : va.category = 1) (hvb : vb.category = 1) (k : Go p l e n mc ms s m args below meth c nL G A cells slots Q L M (pc + 1) lv (va :: vb :: va :: st)) : Go p l e n mc ms s m args below meth c nL G A cells slots Q L M pc lv (va :: vb :: st) := fun H locs ls hP hD hS hl => lv_dup_x1 C.1 C.2.1 hd hva hvb (k H locs ls hP hD hS hl)
theorem g_dup2 (C : Cx p s m args meth c own cc nL G cy A) {va vb : Value} (hd : decode cc pc = .ok (.dup2, 1)) (hva : va.category = 1) (hvb : vb.category = 1) (k : Go p l e n mc ms s m args below meth c nL G A cells slots Q L M (pc + 1) lv (va :: vb :: va :: vb :: st)) : Go p l e n mc ms s m args below meth c nL G A cells slots Q L M pc lv (va :: vb :: st) := fun H locs ls hP hD hS hl => lv_dup2_11 C.1 C.2.1 hd hva hvb (k H locs ls hP hD hS hl)
theorem g_null (C : Cx p s m args meth c own cc nL G cy A) (hd : decode cc pc = .ok (.aconst_null, 1)) (k : Go p l e n mc ms s m args below meth c nL G A cells slots Q L M (pc + 1) lv (.null :: st)) : Go p l e n mc ms s m args below meth c nL G A cells slots Q L M pc lv (st) := fun H locs ls hP hD hS hl => lv_null C.1 C.2.1 hd (k H locs ls hP hD hS hl)
theorem g_if_eq (C : Cx p s m args meth c own cc nL G cy A) {x : Int32} {off : Int} {tgt : Nat} (hd : decode cc pc = .ok (.ifCond .eq off, 3)) (ht : (pc : Int) + off = (tgt : Int)) (kt : x = 0 → Go p l e n mc ms s m args below meth c nL G A cells slots Q L M tgt lv st) (kf : ¬ x = 0 → Go p l e n mc ms s m args below meth c nL G A cells slots Q L M (pc + 3) lv st) : Go p l e n mc ms s m args below meth c nL G A cells slots Q L M pc lv (.int x :: st) := fun H locs ls hP hD hS hl => lv_if_eq C.1 C.2.1 hd ht (fun q => kt q H locs ls hP hD hS hl) (fun q => kf q H locs ls hP hD hS hl)
theorem g_icmp_eq (C : Cx p s m args meth c own cc nL G cy A) {x y : Int32} {off : Int} {tgt : Nat} (hd : decode cc pc = .ok (.if_icmp .eq off, 3)) (ht : (pc : Int) + off = (tgt : Int)) (kt : x = y → Go p l e n mc ms s m args below meth c nL G A cells slots Q L M tgt lv st) (kf : ¬ x = y → Go p l e n mc ms s m args below meth c nL G A cells slots Q L M (pc + 3) lv st) : Go p l e n mc ms s m args below meth c nL G A cells slots Q L M pc lv (.int y :: .int x :: st) := fun H locs ls hP hD hS hl => lv_icmp_eq C.1 C.2.1 hd ht (fun q => kt q H locs ls hP hD hS hl) (fun q => kf q H locs ls hP hD hS hl)
theorem g_if_ne (C : Cx p s m args meth c own cc nL G cy A) {x : Int32} {off : Int} {tgt : Nat} (hd : decode cc pc = .ok (.ifCond .ne off, 3)) (ht : (pc : Int) + off = (tgt : Int)) (kt : ¬ x = 0 → Go p l e n mc ms s m args below meth c nL G A cells slots Q L M tgt lv st) (kf : x = 0 → Go p l e n mc ms s m args below meth c nL G A cells slots Q L M (pc + 3) lv st) : Go p l e n mc ms s m args below meth c nL G A cells slots Q L M pc lv (.int x :: st) := fun H locs ls hP hD hS hl => lv_if_ne C.1 C.2.1 hd ht (fun q => kt q H locs ls hP hD hS hl) (fun q => kf q H locs ls hP hD hS hl)
theorem g_icmp_ne (C : Cx p s m args meth c own cc nL G cy A) {x y : Int32} {off : Int} {tgt : Nat} (hd : decode cc pc = .ok (.if_icmp .ne off, 3)) (ht : (pc : Int) + off = (tgt : Int)) (kt : ¬ x = y → Go p l e n mc ms s m args below meth c nL G A cells slots Q L M tgt lv st) (kf : x = y → Go p l e n mc ms s m args below meth c nL G A cells slots Q L M (pc + 3) lv st) : Go p l e n mc ms s m args below meth c nL G A cells slots Q L M pc lv (.int y :: .int x :: st) := fun H locs ls hP hD hS hl => lv_icmp_ne C.1 C.2.1 hd ht (fun q => kt q H locs ls hP hD hS hl) (fun q => kf q H locs ls hP hD hS hl)
theorem g_if_lt (C : Cx p s m args meth c own cc nL G cy A) {x : Int32} {off : Int} {tgt : Nat} (hd : decode cc pc = .ok (.ifCond .lt off, 3)) (ht : (pc : Int) + off = (tgt : Int)) (kt : x < 0 → Go p l e n mc ms s m args below meth c nL G A cells slots Q L M tgt lv st) (kf : ¬ x < 0 → Go p l e n mc ms s m args below meth c nL G A cells slots Q L M (pc + 3) lv st) : Go p l e n mc ms s m args below meth c nL G A cells slots Q L M pc lv (.int x :: st) := fun H locs ls hP hD hS hl => lv_if_lt C.1 C.2.1 hd ht (fun q => kt q H locs ls hP hD hS hl) (fun q => kf q H locs ls hP hD hS hl)
theorem g_icmp_lt (C : Cx p s m args meth c own cc nL G cy A) {x y : Int32} {off : Int} {tgt : Nat} (hd : decode cc pc = .ok (.if_icmp .lt off, 3)) (ht : (pc : Int) + off = (tgt : Int)) (kt : x < y → Go p l e n mc ms s m args below meth c nL G A cells slots Q L M tgt lv st) (kf : ¬ x < y → Go p l e n mc ms s m args below meth c nL G A cells slots Q L M (pc + 3) lv st) : Go p l e n mc ms s m args below meth c nL G A cells slots Q L M pc lv (.int y :: .int x :: st) := fun H locs ls hP hD hS hl => lv_icmp_lt C.1 C.2.1 hd ht (fun q => kt q H locs ls hP hD hS hl) (fun q => kf q H locs ls hP hD hS hl)
theorem g_if_ge (C : Cx p s m args meth c own cc nL G cy A) {x : Int32} {off : Int} {tgt : Nat} (hd : decode cc pc = .ok (.ifCond .ge off, 3)) (ht : (pc : Int) + off = (tgt : Int)) (kt : 0 ≤ x → Go p l e n mc ms s m args below meth c nL G A cells slots Q L M tgt lv st) (kf : ¬ 0 ≤ x → Go p l e n mc ms s m args below meth c nL G A cells slots Q L M (pc + 3) lv st) : Go p l e n mc ms s m args below meth c nL G A cells slots Q L M pc lv (.int x :: st) := fun H locs ls hP hD hS hl => lv_if_ge C.1 C.2.1 hd ht (fun q => kt q H locs ls hP hD hS hl) (fun q => kf q H locs ls hP hD hS hl)
theorem g_icmp_ge (C : Cx p s m args meth c own cc nL G cy A) {x y : Int32} {off : Int} {tgt : Nat} (hd : decode cc pc = .ok (.if_icmp .ge off, 3)) (ht : (pc : Int) + off = (tgt : Int)) (kt : y ≤ x → Go p l e n mc ms s m args below meth c nL G A cells slots Q L M tgt lv st) (kf : ¬ y ≤ x → Go p l e n mc ms s m args below meth c nL G A cells slots Q L M (pc + 3) lv st) : Go p l e n mc ms s m args below meth c nL G A cells slots Q L M pc lv (.int y :: .int x :: st) := fun H locs ls hP hD hS hl => lv_icmp_ge C.1 C.2.1 hd ht (fun q => kt q H locs ls hP hD hS hl) (fun q => kf q H locs ls hP hD hS hl)
theorem g_if_gt (C : Cx p s m args meth c own cc nL G cy A) {x : Int32} {off : Int} {tgt : Nat} (hd : decode cc pc = .ok (.ifCond .gt off, 3)) (ht : (pc : Int) + off = (tgt : Int)) (kt : 0 < x → Go p l e n mc ms s m args below meth c nL G A cells slots Q L M tgt lv st) (kf : ¬ 0 < x → Go p l e n mc ms s m args below meth c nL G A cells slots Q L M (pc + 3) lv st) : Go p l e n mc ms s m args below meth c nL G A cells slots Q L M pc lv (.int x :: st) := fun H locs ls hP hD hS hl => lv_if_gt C.1 C.2.1 hd ht (fun q => kt q H locs ls hP hD hS hl) (fun q => kf q H locs ls hP hD hS hl)
theorem g_icmp_gt (C : Cx p s m args meth c own cc nL G cy A) {x y : Int32} {off : Int} {tgt : Nat} (hd : decode cc pc = .ok (.if_icmp .gt off, 3)) (ht : (pc : Int) + off = (tgt : Int)) (kt : y < x → Go p l e n mc ms s m args below meth c nL G A cells slots Q L M tgt lv st) (kf : ¬ y < x → Go p l e n mc ms s m args below meth c nL G A cells slots Q L M (pc + 3) lv st) : Go p l e n mc ms s m args below meth c nL G A cells slots Q L M pc lv (.int y :: .int x :: st) := fun H locs ls hP hD hS hl => lv_icmp_gt C.1 C.2.1 hd ht (fun q => kt q H locs ls hP hD hS hl) (fun q => kf q H locs ls hP hD hS hl)
theorem g_if_le (C : Cx p s m args meth c own cc nL G cy A) {x : Int32} {off : Int} {tgt : Nat} (hd : decode cc pc = .ok (.ifCond .le off, 3)) (ht : (pc : Int) + off = (tgt : Int)) (kt : x ≤ 0 → Go p l e n mc ms s m args below meth c nL G A cells slots Q L M tgt lv st) (kf : ¬ x ≤ 0 → Go p l e n mc ms s m args below meth c nL G A cells slots Q L M (pc + 3) lv st) : Go p l e n mc ms s m args below meth c nL G A cells slots Q L M pc lv (.int x :: st) := fun H locs ls hP hD hS hl => lv_if_le C.1 C.2.1 hd ht (fun q => kt q H locs ls hP hD hS hl) (fun q => kf q H locs ls hP hD hS hl)
theorem g_icmp_le (C : Cx p s m args meth c own cc nL G cy A) {x y : Int32} {off : Int} {tgt : Nat} (hd : decode cc pc = .ok (.if_icmp .le off, 3)) (ht : (pc : Int) + off = (tgt : Int)) (kt : x ≤ y → Go p l e n mc ms s m args below meth c nL G A cells slots Q L M tgt lv st) (kf : ¬ x ≤ y → Go p l e n mc ms s m args below meth c nL G A cells slots Q L M (pc + 3) lv st) : Go p l e n mc ms s m args below meth c nL G A cells slots Q L M pc lv (.int y :: .int x :: st) := fun H locs ls hP hD hS hl => lv_icmp_le C.1 C.2.1 hd ht (fun q => kt q H locs ls hP hD hS hl) (fun q => kf q H locs ls hP hD hS hl)
theorem g_goto (C : Cx p s m args meth c own cc nL G cy A) {off : Int} {tgt : Nat} (hd : decode cc pc = .ok (.goto off, 3)) (ht : (pc : Int) + off = (tgt : Int)) (k : Go p l e n mc ms s m args below meth c nL G A cells slots Q L M tgt lv st) : Go p l e n mc ms s m args below meth c nL G A cells slots Q L M pc lv st := fun H locs ls hP hD hS hl => lv_goto C.1 C.2.1 hd ht (k H locs ls hP hD hS hl)
theorem g_ifnonnull (C : Cx p s m args meth c own cc nL G cy A) {x : Nat} {off : Int} {tgt : Nat} (hd : decode cc pc = .ok (.ifnonnull off, 3)) (ht : (pc : Int) + off = (tgt : Int)) (k : Go p l e n mc ms s m args below meth c nL G A cells slots Q L M tgt lv st) : Go p l e n mc ms s m args below meth c nL G A cells slots Q L M pc lv (.ref x :: st) := fun H locs ls hP hD hS hl => lv_ifnonnull C.1 C.2.1 hd ht (k H locs ls hP hD hS hl)
theorem g_ifnull (C : Cx p s m args meth c own cc nL G cy A) {x : Nat} {off : Int} (hd : decode cc pc = .ok (.ifnull off, 3)) (k : Go p l e n mc ms s m args below meth c nL G A cells slots Q L M (pc + 3) lv st) : Go p l e n mc ms s m args below meth c nL G A cells slots Q L M pc lv (.ref x :: st) := fun H locs ls hP hD hS hl => lv_ifnull C.1 C.2.1 hd (k H locs ls hP hD hS hl)
theorem g_ifnullN (C : Cx p s m args meth c own cc nL G cy A) {off : Int} {tgt : Nat} (hd : decode cc pc = .ok (.ifnull off, 3)) (ht : (pc : Int) + off = (tgt : Int)) (k : Go p l e n mc ms s m args below meth c nL G A cells slots Q L M tgt lv st) : Go p l e n mc ms s m args below meth c nL G A cells slots Q L M pc lv (.null :: st) := fun H locs ls hP hD hS hl => lv_ifnullN C.1 C.2.1 hd ht (k H locs ls hP hD hS hl)
theorem g_ifnonnullN (C : Cx p s m args meth c own cc nL G cy A) {off : Int} (hd : decode cc pc = .ok (.ifnonnull off, 3)) (k : Go p l e n mc ms s m args below meth c nL G A cells slots Q L M (pc + 3) lv st) : Go p l e n mc ms s m args below meth c nL G A cells slots Q L M pc lv (.null :: st) := fun H locs ls hP hD hS hl => lv_ifnonnullN C.1 C.2.1 hd (k H locs ls hP hD hS hl)
theorem g_tableOut (C : Cx p s m args meth c own cc nL G cy A) {dflt lo hi : Int} {offs : Array Int} {len : Nat} {x : Int32} {tgt : Nat} (hd : decode cc pc = .ok (.tableswitch dflt lo hi offs, len)) (h : x.toInt < lo ∨ hi < x.toInt) (ht : (pc : Int) + dflt = (tgt : Int)) (k : Go p l e n mc ms s m args below meth c nL G A cells slots Q L M tgt lv st) : Go p l e n mc ms s m args below meth c nL G A cells slots Q L M pc lv (.int x :: st) := fun H locs ls hP hD hS hl => lv_tableOut C.1 C.2.1 hd h ht (k H locs ls hP hD hS hl)
theorem g_tableIn (C : Cx p s m args meth c own cc nL G cy A) {dflt lo hi : Int} {offs : Array Int} {len : Nat} {x : Int32} {off : Int} {tgt : Nat} (hd : decode cc pc = .ok (.tableswitch dflt lo hi offs, len)) (h1 : ¬ x.toInt < lo) (h2 : ¬ hi < x.toInt) (ho : offs[(x.toInt - lo).toNat]? = some off) (ht : (pc : Int) + off = (tgt : Int)) (k : Go p l e n mc ms s m args below meth c nL G A cells slots Q L M tgt lv st) : Go p l e n mc ms s m args below meth c nL G A cells slots Q L M pc lv (.int x :: st) := fun H locs ls hP hD hS hl => lv_tableIn C.1 C.2.1 hd h1 h2 ho ht (k H locs ls hP hD hS hl)
theorem g_ldc (C : Cx p s m args meth c own cc nL G cy A) {idx : Nat} {v : Int32} (hw : Cond.constant own idx v ∈ tblG) (hd : decode cc pc = .ok (.ldc idx, 2)) (k : Go p l e n mc ms s m args below meth c nL G A cells slots Q L M (pc + 2) lv (.int v :: st)) : Go p l e n mc ms s m args below meth c nL G A cells slots Q L M pc lv st := fun H locs ls hP hD hS hl => lv_ldc C.1 C.2.1 C.2.2.2.1 (C.2.2.2.2.1 _ hw) hd (k H locs ls hP hD hS hl)
theorem g_ldcw (C : Cx p s m args meth c own cc nL G cy A) {idx : Nat} {v : Int32} (hw : Cond.constant own idx v ∈ tblG) (hd : decode cc pc = .ok (.ldc_w idx, 3)) (k : Go p l e n mc ms s m args below meth c nL G A cells slots Q L M (pc + 3) lv (.int v :: st)) : Go p l e n mc ms s m args below meth c nL G A cells slots Q L M pc lv st := fun H locs ls hP hD hS hl => lv_ldcw C.1 C.2.1 C.2.2.2.1 (C.2.2.2.2.1 _ hw) hd (k H locs ls hP hD hS hl)
theorem g_ldc2 (C : Cx p s m args meth c own cc nL G cy A) {idx : Nat} {v : Int64} (hw : Cond.constantLong own idx v ∈ tblG) (hd : decode cc pc = .ok (.ldc2_w idx, 3)) (k : Go p l e n mc ms s m args below meth c nL G A cells slots Q L M (pc + 3) lv (.long v :: st)) : Go p l e n mc ms s m args below meth c nL G A cells slots Q L M pc lv st := fun H locs ls hP hD hS hl => lv_ldc2 C.1 C.2.1 C.2.2.2.1 (C.2.2.2.2.1 _ hw) hd (k H locs ls hP hD hS hl)
theorem g_widen {k1 k2 : Nat} (h1 : cells ≤ k1) (h2 : slots ≤ k2) (k : Go p l e n mc ms s m args below meth c nL G A k1 k2 Q L M pc lv st) : Go p l e n mc ms s m args below meth c nL G A cells slots Q L M pc lv st := fun H locs ls hP hD hS hl => W.widen h1 h2 (k H locs ls hP hD hS hl)
/-- a class of the worlds: its fields, its words -/
def CLk (ci : Nat) (K : String) (T : u_T) (N : Nat) (ty0 : Nat → FieldType) : Prop := vwCl[ci]? = some (K, T, N) ∧ (∀ w ∈ u_ws K T N, w ∈ tblG) ∧ (∀ k, k < N → parseFieldDescriptor (T k).2.2.1 = some (ty0 k)) ∧ ∀ a, a < N → ∀ b, b < N → a ≠ b → (T a).2.1 ≠ (T b).2.1
def FLk (own : String) (idx ci k : Nat) (ty : FieldType) (fin : Bool) : Prop := ∃ (K : String) (T : u_T) (N : Nat) (ty0 : Nat → FieldType), CLk ci K T N ty0 ∧ k < N ∧ (T k).1 = K ∧ ty0 k = ty ∧ (T k).2.2.2 = fin ∧ (Cond.fieldLink own idx K (T k).2.1 (T k).2.2.1 ∈ tblG ∨ ∃ host, Cond.fieldLinkNest own idx K (T k).2.1 (T k).2.2.1 host ∈ nsW)
theorem g_get (C : Cx p s m args meth c own cc nL G cy A) {a idx ci kf : Nat} {ty : FieldType} {fin : Bool} {fs : List Value} {v : Value} (f : FLk own idx ci kf ty fin) (hd : decode cc pc = .ok (.getfield idx, 3)) (hL : a ∈ L) (hM : M a = .inr (ci, fs)) (hv : fs[kf]? = some v) (k : Go p l e n mc ms s m args below meth c nL G A cells slots Q L M (pc + 3) lv (v :: st)) : Go p l e n mc ms s m args below meth c nL G A cells slots Q L M pc lv (.ref a :: st) := by
  intro H locs ls hP hD hS hl
  obtain ⟨K, T, N, ty0, ⟨hc, hin, hty, hnm⟩, hk, hT, -, -, hw⟩ := f
  obtain ⟨q0, -, hq⟩ := pl_at hL hM
  rcases hw with hw | ⟨host, hw⟩
  · exact va_get C.1 C.2.1 C.2.2.2.2.1 hin C.2.2.2.1 C.2.2.2.2.2.2.1 hP q0 hq hc kf hk (C.2.2.2.2.1 _ hw) (fun x hx => by rw [hT] at hx; exact hx) hv hd (k H locs ls hP hD hS hl)
  · exact va_getN C.1 C.2.1 C.2.2.2.2.1 hin C.2.2.2.1 C.2.2.2.2.2.2.1 hP q0 hq hc kf hk (va_Nw.use rfl (C.2.2.2.2.2.1.1 _ hw)) (fun x hx => by rw [hT] at hx; exact hx) hv hd (k H locs ls hP hD hS hl)
theorem g_put (C : Cx p s m args meth c own cc nL G cy A) {a idx ci kf : Nat} {ty : FieldType} {fs : List Value} {v : Value} (f : FLk own idx ci kf ty false) (hd : decode cc pc = .ok (.putfield idx, 3)) (hL : a ∈ L) (hM : M a = .inr (ci, fs)) (hn : narrow ty v = v) (hfit : fits ty v = true) (hlen : kf < fs.length) (k : Go p l e n mc ms s m args below meth c nL G A cells slots Q L (va_up M a (.inr (ci, fs.set kf v))) (pc + 3) lv st) : Go p l e n mc ms s m args below meth c nL G A cells slots Q L M pc lv (v :: .ref a :: st) := by
  intro H locs ls hP hD hS hl
  obtain ⟨K, T, N, ty0, ⟨hc, hin, hty, hnm⟩, hk, hT, ht0, hfin, hw⟩ := f
  obtain ⟨q0, hq1, hq⟩ := pl_at hL hM
  have hdt : parseFieldDescriptor (T kf).2.2.1 = some ty := by rw [hty kf hk, ht0]
  rcases hw with hw | ⟨host, hw⟩
  · refine va_put C.1 C.2.1 C.2.2.2.2.1 hin ty0 hty hnm C.2.2.2.1 C.2.2.2.2.2.2.1 hP hD hS q0 hq hc kf hk (C.2.2.2.2.1 _ hw) (fun x hx => by rw [hT] at hx; exact hx) hfin hdt hn hfit hlen hd (fun H1 locs1 hP1 hD1 hS1 => ?_)
    rw [pl_set hD hL hq1] at hP1 hD1
    exact k H1 locs1 ls hP1 hD1 hS1 hl
  · refine va_putN C.1 C.2.1 C.2.2.2.2.1 hin ty0 hty hnm C.2.2.2.1 C.2.2.2.2.2.2.1 hP hD hS q0 hq hc kf hk (va_Nw.use rfl (C.2.2.2.2.2.1.1 _ hw)) (fun x hx => by rw [hT] at hx; exact hx) hfin hdt hn hfit hlen hd (fun H1 locs1 hP1 hD1 hS1 => ?_)
    rw [pl_set hD hL hq1] at hP1 hD1
    exact k H1 locs1 ls hP1 hD1 hS1 hl
theorem g_putS (C : Cx p s m args meth c own cc nL G cy A) {a idx ci kf : Nat} {ty : FieldType} {fs : List Value} {v : Value} (f : FLk own idx ci kf ty false) (hd : decode cc pc = .ok (.putfield idx, 3)) (hL : a ∈ L) (hM : M a = .inr (ci, fs)) (hn : narrow ty v = v) (hfit : fits ty v = true) (hlen : kf < fs.length) (hsame : fs.set kf v = fs) (k : Go p l e n mc ms s m args below meth c nL G A cells slots Q L M (pc + 3) lv st) : Go p l e n mc ms s m args below meth c nL G A cells slots Q L M pc lv (v :: .ref a :: st) := by
  refine g_put C f hd hL hM hn hfit hlen ?_
  rw [hsame, va_up_eta hM]
  exact k
theorem g_putF (C : Cx p s m args meth c own cc nL G cy A) {a idx ci kf : Nat} {ty : FieldType} {fs : List Value} {v : Value} (f : FLk own idx ci kf ty true) (hini : meth.name = "<init>") (hK : ∀ K T N, vwCl[ci]? = some (K, T, N) → K = own) (hnest : ∀ host T N, vwCl[ci]? = some (own, T, N) → Cond.fieldLinkNest own idx own (T kf).2.1 (T kf).2.2.1 host ∉ nsW) (hd : decode cc pc = .ok (.putfield idx, 3)) (hL : a ∈ L) (hM : M a = .inr (ci, fs)) (hn : narrow ty v = v) (hfit : fits ty v = true) (hlen : kf < fs.length) (k : Go p l e n mc ms s m args below meth c nL G A cells slots Q L (va_up M a (.inr (ci, fs.set kf v))) (pc + 3) lv st) : Go p l e n mc ms s m args below meth c nL G A cells slots Q L M pc lv (v :: .ref a :: st) := by
  intro H locs ls hP hD hS hl
  obtain ⟨K, T, N, ty0, ⟨hc, hin, hty, hnm⟩, hk, hT, ht0, hfin, hw⟩ := f
  obtain ⟨q0, hq1, hq⟩ := pl_at hL hM
  have hdt : parseFieldDescriptor (T kf).2.2.1 = some ty := by rw [hty kf hk, ht0]
  have hKo : K = own := hK K T N hc
  subst hKo
  rcases hw with hw | ⟨host, hw⟩
  · refine va_putF C.1 C.2.1 C.2.2.2.2.1 hin ty0 hty hnm C.2.2.2.1 C.2.2.2.2.2.2.1 hP hD hS q0 hq hc kf hk (C.2.2.2.2.1 _ hw) (fun x hx => by rw [hT] at hx; exact hx) hfin hini hT hdt hn hfit hlen hd (fun H1 locs1 hP1 hD1 hS1 => ?_)
    rw [pl_set hD hL hq1] at hP1 hD1
    exact k H1 locs1 ls hP1 hD1 hS1 hl
  · exact absurd hw (hnest host T N hc)
theorem g_iald (C : Cx p s m args meth c own cc nL G cy A) {a N : Nat} {f : Nat → Int32} {i : Int32} {v : Int32} (hd : decode cc pc = .ok (.iaload, 1)) (hL : a ∈ L) (hM : M a = .inl (cy 1, N, .inl f)) (hin : vp_in i N) (hv : f i.toNatClampNeg = v) (k : Go p l e n mc ms s m args below meth c nL G A cells slots Q L M (pc + 1) lv (.int v :: st)) : Go p l e n mc ms s m args below meth c nL G A cells slots Q L M pc lv (.int i :: .ref a :: st) := by
  intro H locs ls hP hD hS hl
  obtain ⟨q0, -, hq⟩ := pl_at hL hM
  subst hv
  exact va_iald C.1 C.2.1 C.2.2.2.2.2.2.1 hP q0 1 hq rfl hin hd (k H locs ls hP hD hS hl)
theorem g_bald (C : Cx p s m args meth c own cc nL G cy A) {a N : Nat} {f : Nat → Int32} {i : Int32} {v : Int32} (hd : decode cc pc = .ok (.baload, 1)) (hL : a ∈ L) (hM : M a = .inl (cy 0, N, .inl f)) (hin : vp_in i N) (hv : f i.toNatClampNeg = v) (k : Go p l e n mc ms s m args below meth c nL G A cells slots Q L M (pc + 1) lv (.int v :: st)) : Go p l e n mc ms s m args below meth c nL G A cells slots Q L M pc lv (.int i :: .ref a :: st) := by
  intro H locs ls hP hD hS hl
  obtain ⟨q0, -, hq⟩ := pl_at hL hM
  subst hv
  exact va_bald C.1 C.2.1 C.2.2.2.2.2.2.1 hP q0 0 hq rfl hin hd (k H locs ls hP hD hS hl)
theorem g_zald (C : Cx p s m args meth c own cc nL G cy A) {a N : Nat} {f : Nat → Int32} {i : Int32} {v : Int32} (hd : decode cc pc = .ok (.baload, 1)) (hL : a ∈ L) (hM : M a = .inl (cy 3, N, .inl f)) (hin : vp_in i N) (hv : f i.toNatClampNeg = v) (k : Go p l e n mc ms s m args below meth c nL G A cells slots Q L M (pc + 1) lv (.int v :: st)) : Go p l e n mc ms s m args below meth c nL G A cells slots Q L M pc lv (.int i :: .ref a :: st) := by
  intro H locs ls hP hD hS hl
  obtain ⟨q0, -, hq⟩ := pl_at hL hM
  subst hv
  exact va_zald C.1 C.2.1 C.2.2.2.2.2.2.1 hP q0 3 hq rfl hin hd (k H locs ls hP hD hS hl)
theorem g_lald (C : Cx p s m args meth c own cc nL G cy A) {a N : Nat} {f : Nat → Int64} {i : Int32} {v : Int64} (hd : decode cc pc = .ok (.laload, 1)) (hL : a ∈ L) (hM : M a = .inl (cy 2, N, .inr (.inl f))) (hin : vp_in i N) (hv : f i.toNatClampNeg = v) (k : Go p l e n mc ms s m args below meth c nL G A cells slots Q L M (pc + 1) lv (.long v :: st)) : Go p l e n mc ms s m args below meth c nL G A cells slots Q L M pc lv (.int i :: .ref a :: st) := by
  intro H locs ls hP hD hS hl
  obtain ⟨q0, -, hq⟩ := pl_at hL hM
  subst hv
  exact va_lald C.1 C.2.1 C.2.2.2.2.2.2.1 hP q0 2 hq rfl hin hd (k H locs ls hP hD hS hl)
theorem g_iast (C : Cx p s m args meth c own cc nL G cy A) {a N : Nat} {f : Nat → Int32} {i : Int32} {x : Int32} (hd : decode cc pc = .ok (.iastore, 1)) (hL : a ∈ L) (hM : M a = .inl (cy 1, N, .inl (f))) (hin : vp_in i N) (k : Go p l e n mc ms s m args below meth c nL G A cells slots Q L (va_up M a (.inl (cy 1, N, .inl (upd f i.toNatClampNeg x)))) (pc + 1) lv st) : Go p l e n mc ms s m args below meth c nL G A cells slots Q L M pc lv (.int x :: .int i :: .ref a :: st) := by
  intro H locs ls hP hD hS hl
  obtain ⟨q0, hq1, hq⟩ := pl_at hL hM
  refine va_iast C.1 C.2.1 C.2.2.2.2.2.2.1 hP hD hS q0 1 hq rfl hin hd (fun H1 locs1 hP1 hD1 hS1 => ?_)
  rw [pl_set hD hL hq1] at hP1 hD1
  exact k H1 locs1 ls hP1 hD1 hS1 hl
theorem g_bast (C : Cx p s m args meth c own cc nL G cy A) {a N : Nat} {f : Nat → Int32} {i : Int32} {x : Int32} (hd : decode cc pc = .ok (.bastore, 1)) (hL : a ∈ L) (hM : M a = .inl (cy 0, N, .inl (f))) (hin : vp_in i N) (k : Go p l e n mc ms s m args below meth c nL G A cells slots Q L (va_up M a (.inl (cy 0, N, .inl (upd f i.toNatClampNeg (vp_nar .byte x))))) (pc + 1) lv st) : Go p l e n mc ms s m args below meth c nL G A cells slots Q L M pc lv (.int x :: .int i :: .ref a :: st) := by
  intro H locs ls hP hD hS hl
  obtain ⟨q0, hq1, hq⟩ := pl_at hL hM
  refine va_bast C.1 C.2.1 C.2.2.2.2.2.2.1 hP hD hS q0 0 hq rfl hin hd (fun H1 locs1 hP1 hD1 hS1 => ?_)
  rw [pl_set hD hL hq1] at hP1 hD1
  exact k H1 locs1 ls hP1 hD1 hS1 hl
theorem g_zast (C : Cx p s m args meth c own cc nL G cy A) {a N : Nat} {f : Nat → Int32} {i : Int32} {x : Int32} (hd : decode cc pc = .ok (.bastore, 1)) (hL : a ∈ L) (hM : M a = .inl (cy 3, N, .inl (f))) (hin : vp_in i N) (k : Go p l e n mc ms s m args below meth c nL G A cells slots Q L (va_up M a (.inl (cy 3, N, .inl (upd f i.toNatClampNeg (vp_nar .boolean x))))) (pc + 1) lv st) : Go p l e n mc ms s m args below meth c nL G A cells slots Q L M pc lv (.int x :: .int i :: .ref a :: st) := by
  intro H locs ls hP hD hS hl
  obtain ⟨q0, hq1, hq⟩ := pl_at hL hM
  refine va_zast C.1 C.2.1 C.2.2.2.2.2.2.1 hP hD hS q0 3 hq rfl hin hd (fun H1 locs1 hP1 hD1 hS1 => ?_)
  rw [pl_set hD hL hq1] at hP1 hD1
  exact k H1 locs1 ls hP1 hD1 hS1 hl
theorem g_last (C : Cx p s m args meth c own cc nL G cy A) {a N : Nat} {f : Nat → Int64} {i : Int32} {x : Int64} (hd : decode cc pc = .ok (.lastore, 1)) (hL : a ∈ L) (hM : M a = .inl (cy 2, N, .inr (.inl (f)))) (hin : vp_in i N) (k : Go p l e n mc ms s m args below meth c nL G A cells slots Q L (va_up M a (.inl (cy 2, N, .inr (.inl (vp_updL f i.toNatClampNeg x))))) (pc + 1) lv st) : Go p l e n mc ms s m args below meth c nL G A cells slots Q L M pc lv (.long x :: .int i :: .ref a :: st) := by
  intro H locs ls hP hD hS hl
  obtain ⟨q0, hq1, hq⟩ := pl_at hL hM
  refine va_last C.1 C.2.1 C.2.2.2.2.2.2.1 hP hD hS q0 2 hq rfl hin hd (fun H1 locs1 hP1 hD1 hS1 => ?_)
  rw [pl_set hD hL hq1] at hP1 hD1
  exact k H1 locs1 ls hP1 hD1 hS1 hl
theorem g_alen (C : Cx p s m args meth c own cc nL G cy A) {a t0 : Nat} {x : vp_A} {ty : FieldType} {cA : ClassId} {v : Int32} (ht : (tyL cy)[t0]? = some (cA, ty)) (hd : decode cc pc = .ok (.arraylength, 1)) (hL : a ∈ L) (hM : M a = .inl (cA, x)) (hv : Int32.ofNat x.1 = v) (k : Go p l e n mc ms s m args below meth c nL G A cells slots Q L M (pc + 1) lv (.int v :: st)) : Go p l e n mc ms s m args below meth c nL G A cells slots Q L M pc lv (.ref a :: st) := by
  intro H locs ls hP hD hS hl
  obtain ⟨q0, -, hq⟩ := pl_at hL hM
  exact va_alen C.1 C.2.1 C.2.2.2.2.2.2.1 hP q0 t0 hq ht hv hd (k H locs ls hP hD hS hl)
theorem g_aldq (C : Cx p s m args meth c own cc nL G cy A) {a N t0 : Nat} {cA : ClassId} {K : String} {f : Nat → Option Nat} {i : Int32} {v : Value} (ht : (tyL cy)[t0]? = some (cA, .object K)) (hd : decode cc pc = .ok (.aaload, 1)) (hL : a ∈ L) (hM : M a = .inl (cA, N, .inr (.inr (.inr (.inr f))))) (hin : vp_in i N) (hv : va_rf (f i.toNatClampNeg) = v) (k : Go p l e n mc ms s m args below meth c nL G A cells slots Q L M (pc + 1) lv (v :: st)) : Go p l e n mc ms s m args below meth c nL G A cells slots Q L M pc lv (.int i :: .ref a :: st) := by
  intro H locs ls hP hD hS hl
  obtain ⟨q0, -, hq⟩ := pl_at hL hM
  subst hv
  exact va_aldq C.1 C.2.1 C.2.2.2.2.2.2.1 hP q0 t0 hq ht hin hd (k H locs ls hP hD hS hl)
theorem g_astq (C : Cx p s m args meth c own cc nL G cy A) {a N t0 ci v : Nat} {cA : ClassId} {r : vw_C} {vs : List Value} {f : Nat → Option Nat} {i : Int32} (ht : (tyL cy)[t0]? = some (cA, .object r.1)) (hc : vwCl[ci]? = some r) (hd : decode cc pc = .ok (.aastore, 1)) (hL : a ∈ L) (hM : M a = .inl (cA, N, .inr (.inr (.inr (.inr f))))) (hvL : v ∈ L) (hvM : M v = .inr (ci, vs)) (hin : vp_in i N) (k : Go p l e n mc ms s m args below meth c nL G A cells slots Q L (va_up M a (.inl (cA, N, .inr (.inr (.inr (.inr (va_up f i.toNatClampNeg (some v)))))))) (pc + 1) lv st) : Go p l e n mc ms s m args below meth c nL G A cells slots Q L M pc lv (.ref v :: .int i :: .ref a :: st) := by
  intro H locs ls hP hD hS hl
  obtain ⟨q0, hq1, hq⟩ := pl_at hL hM
  obtain ⟨q2, -, hq3⟩ := pl_at hvL hvM
  refine va_astq C.1 C.2.1 C.2.2.2.2.2.2.1 hP hD hS q0 t0 q2 ci hq ht hq3 hc hin hd (fun H1 locs1 hP1 hD1 hS1 => ?_)
  rw [pl_set hD hL hq1] at hP1 hD1
  exact k H1 locs1 ls hP1 hD1 hS1 hl
theorem pl_push {A : Nat → Prop} {L : List Nat} {M : Nat → va_E} {q : Nat} {x : va_E} (hD : va_D A (va_pl L M ++ [(q, x)])) : q ∉ L ∧ va_pl L M ++ [(q, x)] = va_pl (L ++ [q]) (va_up M q x) := by
  have h : q ∉ L := va_pl_fresh2 (X := []) hD
  exact ⟨h, va_pl_push h⟩
theorem g_new (C : Cx p s m args meth c own cc nL G cy A) {ci idx N : Nat} {K : String} {T : u_T} {ty0 : Nat → FieldType} {fs : List Value} (f : CLk ci K T N ty0) (h1 : Cond.classLink own idx K ∈ tblG) (h2 : Cond.instantiable K N ∈ tblG) (h3 : Cond.initialized K ∈ tblG) (hfs : ∀ j, j < N → defaultValue (ty0 j) = vp_V fs j) (hcells : cells + 1 ≤ mc) (hslots : slots + N ≤ ms) (hd : decode cc pc = .ok (.new idx, 3)) (k : ∀ q : Nat, q ∉ L → Go p l e n mc ms s m args below meth c nL G A (cells + 1) (slots + N) Q (L ++ [q]) (va_up M q (.inr (ci, fs))) (pc + 3) lv (.ref q :: st)) : Go p l e n mc ms s m args below meth c nL G A cells slots Q L M pc lv st := by
  intro H locs ls hP hD hS hl
  refine va_new C.1 C.2.1 C.2.2.2.2.1 f.2.1 ty0 f.2.2.1 C.2.2.2.1 (C.2.2.2.2.1 _ h1) (C.2.2.2.2.1 _ h2) (C.2.2.2.2.1 _ h3) C.2.2.2.2.2.2.1 hP hD hS C.2.2.2.2.2.2.2.1 f.1 hfs hcells hslots hd (fun q H1 hP1 hD1 hS1 => ?_)
  obtain ⟨hq, e⟩ := pl_push hD1
  rw [e] at hP1 hD1
  exact k q hq H1 locs ls hP1 hD1 hS1 hl
theorem ra_uni {U : State} {c1 c2 : ClassId} {ty : FieldType} (h1 : va_RA U c1 ty) (h2 : va_RA U c2 ty) : c1 = c2 := by
  cases ty with
  | object K =>
    obtain ⟨_, _, -, -, -, h1⟩ := h1
    obtain ⟨_, _, -, -, -, h2⟩ := h2
    exact Option.some.inj (h1.symm.trans h2)
  | _ => exact Option.some.inj (Eq.trans (Eq.symm h1) h2)
theorem ty_last {G : va_G} {cy : Nat → ClassId} {U : State} {cA c0 : ClassId} {ty : FieldType} {t0 : Nat} (hK : va_K G vwCl (tyL cy ++ [(cA, ty)]) U) (ht : (tyL cy)[t0]? = some (c0, ty)) : cA = c0 := by
  have h1 := (hK.2 6 (cA, ty) rfl).2
  have h2 := (hK.2 t0 (c0, ty) (by rw [List.getElem?_append_left (List.getElem?_eq_some_iff.mp ht).1]; exact ht)).2
  exact ra_uni h1 h2
theorem g_newa (C : Cx p s m args meth c own cc nL G cy A) {atype : ArrayType} {ty : FieldType} {t0 N : Nat} {cA : ClassId} {nI0 : Int32} {a0 : vp_A} (ht : (tyL cy)[t0]? = some (cA, ty)) (hw : Cond.arrayClass ty ∈ tblG) (hty : newarray.typeOf atype = ty) (ha : ∀ x : ClassId, vp_cell x a0 = arrV x N (fun _ => defaultValue ty)) (hn : ¬ nI0 < 0) (hN : nI0.toNatClampNeg = N) (hbytes : N * componentBytes ty ≤ 536870912) (hcells : cells + 1 ≤ mc) (hslots : slots + N ≤ ms) (hd : decode cc pc = .ok (.newarray atype, 2)) (k : ∀ q : Nat, q ∉ L → Go p l e n mc ms s m args below meth c nL G A (cells + 1) (slots + N) Q (L ++ [q]) (va_up M q (.inl (cA, a0))) (pc + 2) lv (.ref q :: st)) : Go p l e n mc ms s m args below meth c nL G A cells slots Q L M pc lv (.int nI0 :: st) := by
  intro H locs ls hP hD hS hl
  refine va_newa C.1 C.2.1 (by rw [hty]; exact C.2.2.2.2.1 _ hw) hty C.2.2.2.2.2.2.1 hP hD hS C.2.2.2.2.2.2.2.1 ha hn hN hbytes hcells hslots hd (fun q cB H1 hK1 hP1 hD1 hS1 => ?_)
  have e0 := ty_last hK1 ht
  subst e0
  obtain ⟨hq, e⟩ := pl_push hD1
  rw [e] at hP1 hD1
  exact k q hq H1 locs ls hP1 hD1 hS1 hl
theorem g_newq (C : Cx p s m args meth c own cc nL G cy A) {idx t0 N : Nat} {K : String} {cA : ClassId} {nI0 : Int32} (ht : (tyL cy)[t0]? = some (cA, .object K)) (hw : Cond.classLink own idx K ∈ tblG) (hover : va_AO K s) (hn : ¬ nI0 < 0) (hN : nI0.toNatClampNeg = N) (hbytes : N * 4 ≤ 536870912) (hcells : cells + 1 ≤ mc) (hslots : slots + N ≤ ms) (hd : decode cc pc = .ok (.anewarray idx, 3)) (k : ∀ q : Nat, q ∉ L → Go p l e n mc ms s m args below meth c nL G A (cells + 1) (slots + N) Q (L ++ [q]) (va_up M q (.inl (cA, N, .inr (.inr (.inr (.inr (fun _ => none))))))) (pc + 3) lv (.ref q :: st)) : Go p l e n mc ms s m args below meth c nL G A cells slots Q L M pc lv (.int nI0 :: st) := by
  intro H locs ls hP hD hS hl
  refine va_newq C.1 C.2.1 C.2.2.2.1 (C.2.2.2.2.1 _ hw) hover C.2.2.2.2.2.2.1 hP hD hS C.2.2.2.2.2.2.2.1 hn hN hbytes hcells hslots hd (fun q cB H1 hK1 hP1 hD1 hS1 => ?_)
  have e0 := ty_last hK1 ht
  subst e0
  obtain ⟨hq, e⟩ := pl_push hD1
  rw [e] at hP1 hD1
  exact k q hq H1 locs ls hP1 hD1 hS1 hl
theorem g_objInit (C : Cx p s m args meth c own cc nL G cy A) {idx a : Nat} (h1 : Cond.methodLink own idx objectInit ∈ tblG) (h2 : Cond.instanceMethod objectInit ∈ tblG) (h3 : Cond.code objectInit ⟨#[0xb1]⟩ 1 none ∈ tblG) (hd : decode cc pc = .ok (.invokespecial idx, 3)) (hn1 : 1 ≤ n) (hc0 : (st.map fun v => v.category).sum ≤ 8) (k : Go p l e n mc ms s m args below meth c nL G A cells slots Q L M (pc + 3) lv st) : Go p l e n mc ms s m args below meth c nL G A cells slots Q L M pc lv (.ref a :: st) := by
  intro H locs ls hP hD hS hl
  refine W.objInit C.1 C.2.1 C.2.2.2.1 (C.2.2.2.2.1 _ h1) (C.2.2.2.2.1 _ h2) (C.2.2.2.2.1 _ h3) rfl (by rw [C.2.2.1]; exact hl.1) rfl hd hn1 ?_ ?_
  · have h := lv_room (m := m) (pc := pc) (ls := ls) (rest := st) hc0
    show _ ≤ 100 * n
    have h2 : 2 * (F0 m pc ls (.ref a :: st)).monitorRoom = 2 * (F0 m pc ls st).monitorRoom := rfl
    omega
  · exact k H locs ls hP hD hS hl
theorem g_copyi (C : Cx p s m args meth c own cc nL G cy A) {idx t0 a0 a1 N0 N1 : Nat} {cA : ClassId} {ty : FieldType} {f g : Nat → Int32} {sp dp nn : Int32} (ht : (tyL cy)[t0]? = some (cA, ty)) (hprim : refKind ty = false) (h1 : Cond.methodLink own idx arraycopyName ∈ tblG) (h2 : Cond.native arraycopyName ∈ tblG) (h3 : Cond.static arraycopyName ∈ tblG) (h4 : Cond.initialized "java/lang/System" ∈ tblG) (hL0 : a0 ∈ L) (hM0 : M a0 = .inl (cA, N0, .inl f)) (hL1 : a1 ∈ L) (hM1 : M a1 = .inl (cA, N1, .inl g)) (c1 : ¬ sp < 0) (c2 : ¬ dp < 0) (c3 : ¬ nn < 0) (c4 : sp.toNatClampNeg + nn.toNatClampNeg ≤ N0) (c5 : dp.toNatClampNeg + nn.toNatClampNeg ≤ N1) (hfit : ∀ i, i < nn.toNatClampNeg → fits ty (.int (f (sp.toNatClampNeg + i))) = true) (hn1 : 1 ≤ n) (hlo : (st.map fun v => v.category).sum + (nativeFrameWords "java/lang/System" "arraycopy" 5 + 11) ≤ 100 * n) (hd : decode cc pc = .ok (.invokestatic idx, 3)) (k : Go p l e n mc ms s m args below meth c nL G A cells slots Q L (va_up M a1 (.inl (cA, N1, .inl (va_cpy f g sp.toNatClampNeg dp.toNatClampNeg nn.toNatClampNeg)))) (pc + 3) lv st) : Go p l e n mc ms s m args below meth c nL G A cells slots Q L M pc lv (.int nn :: .int dp :: .ref a1 :: .int sp :: .ref a0 :: st) := by
  intro H locs ls hP hD hS hl
  obtain ⟨q0, -, hq0⟩ := pl_at hL0 hM0
  obtain ⟨q1, hq1, hq2⟩ := pl_at hL1 hM1
  refine va_copyi C.1 C.2.1 (by rw [C.2.2.1]; exact hl.1.symm) C.2.2.2.1 (C.2.2.2.2.1 _ h1) (C.2.2.2.2.1 _ h2) (C.2.2.2.2.1 _ h3) (C.2.2.2.2.1 _ h4) C.2.2.2.2.2.2.1 hP hD hS q0 q1 t0 t0 hq0 hq2 ht ht hprim c1 c2 c3 c4 c5 hfit hn1 hlo hd (fun H1 locs1 hP1 hD1 hS1 => ?_)
  rw [pl_set hD hL1 hq1] at hP1 hD1
  exact k H1 locs1 ls hP1 hD1 hS1 hl
def WPre (G : va_G) (cy : Nat → ClassId) (L : List Nat) (M : Nat → va_E) (sz : Nat) (U : State) : Prop := U.heap.size = sz ∧ va_P G vwCl (va_pl L M) U.heap ∧ va_K G vwCl (tyL cy) U ∧ va_D (fun _ => True) (va_pl L M) ∧ NW U
def PoB (G : va_G) (A : Nat → Prop) (u : List Nat × (Nat → va_E)) (t : State) : Prop := va_P G vwCl (va_pl u.1 u.2) t.heap ∧ va_D A (va_pl u.1 u.2)
def QI (G : va_G) (A : Nat → Prop) (post : Int32 → List Nat → (Nat → va_E) → Prop) : Array Value → State → Outcome → State → Prop := va_Qi (fun r u => post r u.1 u.2) (PoB G A) A
def MI (l : Launch) (G : va_G) (cy : Nat → ClassId) (y : MethodName) (cc : ByteArray) (mL : Nat) (ret : Option FieldType) (n mc ms : Nat) (av : List Value) (L : List Nat) (M : Nat → va_E) (post : Int32 → List Nat → (Nat → va_E) → Prop) : Prop := ∀ sz : Nat, Met l y (.code y cc mL ret :: tblG) (rmL n mc ms) (va_Pc av (WPre G cy L M sz)) (QI G (va_A (va_pl L M) sz) post) mc ms (va_A (va_pl L M) sz)
theorem MI.of {l : Launch} {G : va_G} {cy : Nat → ClassId} {y : MethodName} {cc : ByteArray} {mL : Nat} {ret : Option FieldType} {n mc ms : Nat} {av : List Value} {L : List Nat} {M : Nat → va_E} {post : Int32 → List Nat → (Nat → va_E) → Prop} {own : String} (ho : y.cls = own) (hpl : plainName y.cls = true) (hlen : (lg_sl av).length ≤ mL) (body : ∀ (p : Program) (e : Env) (s : State) (m : MethodId) (below : List Frame) (meth : Method) (c : Code) (A : Nat → Prop), Cx p s m av.toArray meth c own cc mL G cy A → meth.sig.returnType = ret → meth.name = y.name → Go p l e n mc ms s m av.toArray below meth c mL G A 0 0 (MQ below (QI G A post) av.toArray s mc ms A) L M 0 (lv_args 0 av) []) : MI l G cy y cc mL ret n mc ms av L M post := by
  intro sz
  subst ho
  refine Met.ofW (cc := cc) (maxL := mL) (ret := ret) hpl rfl ?_
  intro p e s m args below meth c s₁ B hml hv
  obtain ⟨rfl, hsz, hP, hK, hD0, hN⟩ := hv
  have hts := atoms_spec (ws := .code y cc mL ret :: tblG) B.pre
  subst hsz
  have hC : Cx p s m av.toArray meth c y.cls cc mL G cy (va_A (va_pl L M) s.heap.size) := ⟨B.exec, B.bytes, hml, findClass_of_methodNamed B.named, fun w hw => hts w (List.mem_cons_of_mem _ hw), hN, hK, fun q h => Or.inr h, B.notSynchronized⟩
  rw [lg_entry_eq]
  exact body p e s m below meth c _ hC B.returns (name_of_methodNamed B.named B.method).1 s.heap [] _ hP hD0.self va_S.rf (lv_entry av hlen)
def QJ (G : va_G) (A : Nat → Prop) (post : Int64 → List Nat → (Nat → va_E) → Prop) : Array Value → State → Outcome → State → Prop := va_Ql (fun r u => post r u.1 u.2) (PoB G A) A
def MJ (l : Launch) (G : va_G) (cy : Nat → ClassId) (y : MethodName) (cc : ByteArray) (mL : Nat) (ret : Option FieldType) (n mc ms : Nat) (av : List Value) (L : List Nat) (M : Nat → va_E) (post : Int64 → List Nat → (Nat → va_E) → Prop) : Prop := ∀ sz : Nat, Met l y (.code y cc mL ret :: tblG) (rmL n mc ms) (va_Pc av (WPre G cy L M sz)) (QJ G (va_A (va_pl L M) sz) post) mc ms (va_A (va_pl L M) sz)
theorem MJ.of {l : Launch} {G : va_G} {cy : Nat → ClassId} {y : MethodName} {cc : ByteArray} {mL : Nat} {ret : Option FieldType} {n mc ms : Nat} {av : List Value} {L : List Nat} {M : Nat → va_E} {post : Int64 → List Nat → (Nat → va_E) → Prop} {own : String} (ho : y.cls = own) (hpl : plainName y.cls = true) (hlen : (lg_sl av).length ≤ mL) (body : ∀ (p : Program) (e : Env) (s : State) (m : MethodId) (below : List Frame) (meth : Method) (c : Code) (A : Nat → Prop), Cx p s m av.toArray meth c own cc mL G cy A → meth.sig.returnType = ret → meth.name = y.name → Go p l e n mc ms s m av.toArray below meth c mL G A 0 0 (MQ below (QJ G A post) av.toArray s mc ms A) L M 0 (lv_args 0 av) []) : MJ l G cy y cc mL ret n mc ms av L M post := by
  intro sz
  subst ho
  refine Met.ofW (cc := cc) (maxL := mL) (ret := ret) hpl rfl ?_
  intro p e s m args below meth c s₁ B hml hv
  obtain ⟨rfl, hsz, hP, hK, hD0, hN⟩ := hv
  have hts := atoms_spec (ws := .code y cc mL ret :: tblG) B.pre
  subst hsz
  have hC : Cx p s m av.toArray meth c y.cls cc mL G cy (va_A (va_pl L M) s.heap.size) := ⟨B.exec, B.bytes, hml, findClass_of_methodNamed B.named, fun w hw => hts w (List.mem_cons_of_mem _ hw), hN, hK, fun q h => Or.inr h, B.notSynchronized⟩
  rw [lg_entry_eq]
  exact body p e s m below meth c _ hC B.returns (name_of_methodNamed B.named B.method).1 s.heap [] _ hP hD0.self va_S.rf (lv_entry av hlen)
def QV (G : va_G) (A : Nat → Prop) (post : List Nat → (Nat → va_E) → Prop) : Array Value → State → Outcome → State → Prop := va_Qv (fun u => post u.1 u.2) (PoB G A) A
def MV (l : Launch) (G : va_G) (cy : Nat → ClassId) (y : MethodName) (cc : ByteArray) (mL : Nat) (ret : Option FieldType) (n mc ms : Nat) (av : List Value) (L : List Nat) (M : Nat → va_E) (post : List Nat → (Nat → va_E) → Prop) : Prop := ∀ sz : Nat, Met l y (.code y cc mL ret :: tblG) (rmL n mc ms) (va_Pc av (WPre G cy L M sz)) (QV G (va_A (va_pl L M) sz) post) mc ms (va_A (va_pl L M) sz)
theorem MV.of {l : Launch} {G : va_G} {cy : Nat → ClassId} {y : MethodName} {cc : ByteArray} {mL : Nat} {ret : Option FieldType} {n mc ms : Nat} {av : List Value} {L : List Nat} {M : Nat → va_E} {post : List Nat → (Nat → va_E) → Prop} {own : String} (ho : y.cls = own) (hpl : plainName y.cls = true) (hlen : (lg_sl av).length ≤ mL) (body : ∀ (p : Program) (e : Env) (s : State) (m : MethodId) (below : List Frame) (meth : Method) (c : Code) (A : Nat → Prop), Cx p s m av.toArray meth c own cc mL G cy A → meth.sig.returnType = ret → meth.name = y.name → Go p l e n mc ms s m av.toArray below meth c mL G A 0 0 (MQ below (QV G A post) av.toArray s mc ms A) L M 0 (lv_args 0 av) []) : MV l G cy y cc mL ret n mc ms av L M post := by
  intro sz
  subst ho
  refine Met.ofW (cc := cc) (maxL := mL) (ret := ret) hpl rfl ?_
  intro p e s m args below meth c s₁ B hml hv
  obtain ⟨rfl, hsz, hP, hK, hD0, hN⟩ := hv
  have hts := atoms_spec (ws := .code y cc mL ret :: tblG) B.pre
  subst hsz
  have hC : Cx p s m av.toArray meth c y.cls cc mL G cy (va_A (va_pl L M) s.heap.size) := ⟨B.exec, B.bytes, hml, findClass_of_methodNamed B.named, fun w hw => hts w (List.mem_cons_of_mem _ hw), hN, hK, fun q h => Or.inr h, B.notSynchronized⟩
  rw [lg_entry_eq]
  exact body p e s m below meth c _ hC B.returns (name_of_methodNamed B.named B.method).1 s.heap [] _ hP hD0.self va_S.rf (lv_entry av hlen)
theorem g_iret (C : Cx p s m args meth c own cc nL G cy A) {v : Int32} {post : Int32 → List Nat → (Nat → va_E) → Prop} (hr : meth.sig.returnType = some .int) (hd : decode cc pc = .ok (.ireturn, 1)) (h1 : cells ≤ mc) (h2 : slots ≤ ms) (hp : post v L M) : Go p l e n mc ms s m args below meth c nL G A cells slots (MQ below (QI G A post) args s mc ms A) L M pc lv [.int v] := fun H locs ls hP hD hS hl => W.widen h1 h2 (W.iret (v := v) C.1 C.2.1 hr (fun t ht hW => ⟨⟨v, (L, M), rfl, hp, by rw [ht]; exact hP, hD⟩, hS.F ht⟩) hS.2.2 hd C.2.2.2.2.2.2.2.2)
theorem g_zret (C : Cx p s m args meth c own cc nL G cy A) {v : Int32} {ty : FieldType} {post : Int32 → List Nat → (Nat → va_E) → Prop} (hr : meth.sig.returnType = some ty) (hn : narrow ty (.int v) = .int v) (hd : decode cc pc = .ok (.ireturn, 1)) (h1 : cells ≤ mc) (h2 : slots ≤ ms) (hp : post v L M) : Go p l e n mc ms s m args below meth c nL G A cells slots (MQ below (QI G A post) args s mc ms A) L M pc lv [.int v] := fun H locs ls hP hD hS hl => W.widen h1 h2 (W.zret (v := v) C.1 C.2.1 hr hn (fun t ht hW => ⟨⟨v, (L, M), rfl, hp, by rw [ht]; exact hP, hD⟩, hS.F ht⟩) hS.2.2 hd C.2.2.2.2.2.2.2.2)
theorem g_lret (C : Cx p s m args meth c own cc nL G cy A) {v : Int64} {post : Int64 → List Nat → (Nat → va_E) → Prop} (hr : meth.sig.returnType = some .long) (hd : decode cc pc = .ok (.lreturn, 1)) (h1 : cells ≤ mc) (h2 : slots ≤ ms) (hp : post v L M) : Go p l e n mc ms s m args below meth c nL G A cells slots (MQ below (QJ G A post) args s mc ms A) L M pc lv [.long v] := fun H locs ls hP hD hS hl => W.widen h1 h2 (W.lret (v := v) C.1 C.2.1 hr (fun t ht hW => ⟨⟨v, (L, M), rfl, hp, by rw [ht]; exact hP, hD⟩, hS.F ht⟩) hS.2.2 hd C.2.2.2.2.2.2.2.2)
theorem g_vret (C : Cx p s m args meth c own cc nL G cy A) {post : List Nat → (Nat → va_E) → Prop} (hr : meth.sig.returnType = none) (hd : decode cc pc = .ok (.return_, 1)) (h1 : cells ≤ mc) (h2 : slots ≤ ms) (hp : post L M) : Go p l e n mc ms s m args below meth c nL G A cells slots (MQ below (QV G A post) args s mc ms A) L M pc lv [] := fun H locs ls hP hD hS hl => W.widen h1 h2 (W.vret C.1 C.2.1 hr (fun t ht hW => ⟨⟨(L, M), rfl, hp, by rw [ht]; exact hP, hD⟩, hS.F ht⟩) hS.2.2 hd C.2.2.2.2.2.2.2.2)
theorem wp_blind {G : va_G} {cy : Nat → ClassId} {L : List Nat} {M : Nat → va_E} {sz : Nat} {av : List Value} : FrameBlind (va_Pc av (WPre G cy L M sz)) := fun a U g mk q => ⟨q.1, q.2.1, q.2.2.1, va_K.moved (u := U) (U := U.calling g mk a) (Vm.Alike.refl U.vm) q.2.2.2.1, q.2.2.2.2.1, NW.same (u := U) (U := U.calling g mk a) rfl q.2.2.2.2.2⟩
theorem wp_pre {G : va_G} {cy : Nat → ClassId} {L : List Nat} {M : Nat → va_E} {s : State} {H : Heap} {A : Nat → Prop} {av : List Value} (hP : va_P G vwCl (va_pl L M) H) (hD : va_D A (va_pl L M)) (hK : va_K G vwCl (tyL cy) s) (hN : NW s) : ∀ U : State, U.heap = H → s.WarmedH U.vm → va_Pc av (WPre G cy L M H.size) av.toArray U := fun U hU hW => ⟨rfl, by rw [hU], by rw [hU]; exact hP, va_K.moved hW.alike hK, hD.weaken (fun _ _ _ _ => trivial), hN.warm hW⟩
def Plain (y : MethodName) (nP : Nat) : Prop := y.cls ≠ "java/lang/invoke/MethodHandle" ∧ y.cls ≠ "java/lang/invoke/VarHandle" ∧ (parseMethodDescriptor y.desc).map (fun d => d.parameters.length) = some nP
def LkV (own : String) (idx ci : Nat) (y : MethodName) (cc : ByteArray) (mL : Nat) (ret : Option FieldType) (nP : Nat) : Prop := (∃ T N, vwCl[ci]? = some (y.cls, T, N)) ∧ Cond.methodLink own idx y ∈ tblG ∧ Cond.instanceMethod y ∈ tblG ∧ Cond.selects y.cls y y ∈ tblG ∧ Cond.initialized y.cls ∈ tblG ∧ Cond.code y cc mL ret ∈ tblG ∧ Plain y nP
def LkS (own : String) (idx : Nat) (y : MethodName) (cc : ByteArray) (mL : Nat) (ret : Option FieldType) (nP : Nat) : Prop := Cond.methodLink own idx y ∈ tblG ∧ Cond.static y ∈ tblG ∧ Cond.initialized y.cls ∈ tblG ∧ Cond.code y cc mL ret ∈ tblG ∧ Plain y nP
def LkI (own : String) (idx : Nat) (y : MethodName) (cc : ByteArray) (mL : Nat) (nP : Nat) : Prop := (Cond.methodLink own idx y ∈ tblG ∨ ∃ host, Cond.methodLinkNest own idx y host ∈ nsW) ∧ y.name = "<init>" ∧ Cond.instanceMethod y ∈ tblG ∧ Cond.initialized y.cls ∈ tblG ∧ Cond.code y cc mL none ∈ tblG ∧ Plain y nP
theorem g_callVI (C : Cx p s m args meth c own cc nL G cy A) {y : MethodName} {c2 : ByteArray} {mL2 n2 mc2 ms2 nP idx ci : Nat} {rt : Option FieldType} {As : List Value} {st0 : List Value} {post : Int32 → List Nat → (Nat → va_E) → Prop} {b : Nat} {fs : List Value} (hM : MI l G cy y c2 mL2 rt n2 mc2 ms2 (.ref b :: As) L M post) (lk : LkV own idx ci y c2 mL2 rt nP) (hbL : b ∈ L) (hbM : M b = .inr (ci, fs)) (hn : As.length = nP) (hst : st0 = As.reverse ++ .ref b :: st) (hd : decode cc pc = .ok (.invokevirtual idx, 3)) (hcat : (st.map fun v => v.category).sum ≤ 8) (hR : n2 + 1 ≤ n ∧ 8 + (mL2 + 11) + 100 * n2 ≤ 100 * n) (hf : cells + mc2 ≤ mc ∧ slots + ms2 ≤ ms) (k : ∀ (r : Int32) (L2 : List Nat) (M2 : Nat → va_E), post r L2 M2 → Go p l e n mc ms s m args below meth c nL G A (cells + mc2) (slots + ms2) Q L2 M2 (pc + 3) lv (.int r :: st)) : Go p l e n mc ms s m args below meth c nL G A cells slots Q L M pc lv st0 := by
  intro H locs ls hP hD hS hl
  subst hst
  obtain ⟨⟨T, N, hc⟩, w1, w2, w3, w4, w5, hpl⟩ := lk
  obtain ⟨q0, -, hq⟩ := pl_at hbL hbM
  refine va_calli (va_runV (As := As) (rest := st) (Ts := tblG) ⟨C.1, C.2.1, C.2.2.1, C.2.2.2.1, C.2.2.2.2.1⟩ (hM H.size) ⟨callB_of nP C.2.2.2.2.1 (gCode w5) rfl rfl rfl (C.2.2.2.2.1 _ w4) (C.2.2.2.2.1 _ w1) hpl hR, C.2.2.2.2.1 _ w2, C.2.2.2.2.1 _ w3⟩ ⟨wp_blind, va_recv C.2.2.2.2.2.2.1 hP hc hq, wp_pre hP hD C.2.2.2.2.2.2.1 C.2.2.2.2.2.1⟩ rfl hn hl.1 rfl (lv_room hcat) hd hf) hS (fun q _ h => pl_free hD hS C.2.2.2.2.2.2.2.1 q h) (pl_free hD hS C.2.2.2.2.2.2.2.1) (fun r u t H1 locs1 ht hvm hw hB hz hk hS1 => ?_)
  obtain ⟨hB1, hB2⟩ := hB
  rw [ht] at hB1
  exact k r u.1 u.2 hw H1 locs1 ls hB1 (hB2.weaken (fun _ _ _ h => pl_free hD hS C.2.2.2.2.2.2.2.1 _ h)) hS1 hl
theorem g_callSI (C : Cx p s m args meth c own cc nL G cy A) {y : MethodName} {c2 : ByteArray} {mL2 n2 mc2 ms2 nP idx : Nat} {rt : Option FieldType} {As : List Value} {st0 : List Value} {post : Int32 → List Nat → (Nat → va_E) → Prop} (hM : MI l G cy y c2 mL2 rt n2 mc2 ms2 As L M post) (lk : LkS own idx y c2 mL2 rt nP) (hn : As.length = nP) (hst : st0 = As.reverse ++ st) (hd : decode cc pc = .ok (.invokestatic idx, 3)) (hcat : (st.map fun v => v.category).sum ≤ 8) (hR : n2 + 1 ≤ n ∧ 8 + (mL2 + 11) + 100 * n2 ≤ 100 * n) (hf : cells + mc2 ≤ mc ∧ slots + ms2 ≤ ms) (k : ∀ (r : Int32) (L2 : List Nat) (M2 : Nat → va_E), post r L2 M2 → Go p l e n mc ms s m args below meth c nL G A (cells + mc2) (slots + ms2) Q L2 M2 (pc + 3) lv (.int r :: st)) : Go p l e n mc ms s m args below meth c nL G A cells slots Q L M pc lv st0 := by
  intro H locs ls hP hD hS hl
  subst hst
  obtain ⟨w1, w2, w4, w5, hpl⟩ := lk
  refine va_calli (va_runS (As := As) (rest := st) (Ts := tblG) ⟨C.1, C.2.1, C.2.2.1, C.2.2.2.1, C.2.2.2.2.1⟩ (hM H.size) ⟨callB_of nP C.2.2.2.2.1 (gCode w5) rfl rfl rfl (C.2.2.2.2.1 _ w4) (C.2.2.2.2.1 _ w1) hpl hR, C.2.2.2.2.1 _ w2⟩ ⟨wp_blind, wp_pre hP hD C.2.2.2.2.2.2.1 C.2.2.2.2.2.1⟩ rfl hn hl.1 rfl (lv_room hcat) hd hf) hS (fun q _ h => pl_free hD hS C.2.2.2.2.2.2.2.1 q h) (pl_free hD hS C.2.2.2.2.2.2.2.1) (fun r u t H1 locs1 ht hvm hw hB hz hk hS1 => ?_)
  obtain ⟨hB1, hB2⟩ := hB
  rw [ht] at hB1
  exact k r u.1 u.2 hw H1 locs1 ls hB1 (hB2.weaken (fun _ _ _ h => pl_free hD hS C.2.2.2.2.2.2.2.1 _ h)) hS1 hl
theorem g_callVJ (C : Cx p s m args meth c own cc nL G cy A) {y : MethodName} {c2 : ByteArray} {mL2 n2 mc2 ms2 nP idx ci : Nat} {rt : Option FieldType} {As : List Value} {st0 : List Value} {post : Int64 → List Nat → (Nat → va_E) → Prop} {b : Nat} {fs : List Value} (hM : MJ l G cy y c2 mL2 rt n2 mc2 ms2 (.ref b :: As) L M post) (lk : LkV own idx ci y c2 mL2 rt nP) (hbL : b ∈ L) (hbM : M b = .inr (ci, fs)) (hn : As.length = nP) (hst : st0 = As.reverse ++ .ref b :: st) (hd : decode cc pc = .ok (.invokevirtual idx, 3)) (hcat : (st.map fun v => v.category).sum ≤ 8) (hR : n2 + 1 ≤ n ∧ 8 + (mL2 + 11) + 100 * n2 ≤ 100 * n) (hf : cells + mc2 ≤ mc ∧ slots + ms2 ≤ ms) (k : ∀ (r : Int64) (L2 : List Nat) (M2 : Nat → va_E), post r L2 M2 → Go p l e n mc ms s m args below meth c nL G A (cells + mc2) (slots + ms2) Q L2 M2 (pc + 3) lv (.long r :: st)) : Go p l e n mc ms s m args below meth c nL G A cells slots Q L M pc lv st0 := by
  intro H locs ls hP hD hS hl
  subst hst
  obtain ⟨⟨T, N, hc⟩, w1, w2, w3, w4, w5, hpl⟩ := lk
  obtain ⟨q0, -, hq⟩ := pl_at hbL hbM
  refine va_calll (va_runV (As := As) (rest := st) (Ts := tblG) ⟨C.1, C.2.1, C.2.2.1, C.2.2.2.1, C.2.2.2.2.1⟩ (hM H.size) ⟨callB_of nP C.2.2.2.2.1 (gCode w5) rfl rfl rfl (C.2.2.2.2.1 _ w4) (C.2.2.2.2.1 _ w1) hpl hR, C.2.2.2.2.1 _ w2, C.2.2.2.2.1 _ w3⟩ ⟨wp_blind, va_recv C.2.2.2.2.2.2.1 hP hc hq, wp_pre hP hD C.2.2.2.2.2.2.1 C.2.2.2.2.2.1⟩ rfl hn hl.1 rfl (lv_room hcat) hd hf) hS (fun q _ h => pl_free hD hS C.2.2.2.2.2.2.2.1 q h) (pl_free hD hS C.2.2.2.2.2.2.2.1) (fun r u t H1 locs1 ht hvm hw hB hz hk hS1 => ?_)
  obtain ⟨hB1, hB2⟩ := hB
  rw [ht] at hB1
  exact k r u.1 u.2 hw H1 locs1 ls hB1 (hB2.weaken (fun _ _ _ h => pl_free hD hS C.2.2.2.2.2.2.2.1 _ h)) hS1 hl
theorem g_callSJ (C : Cx p s m args meth c own cc nL G cy A) {y : MethodName} {c2 : ByteArray} {mL2 n2 mc2 ms2 nP idx : Nat} {rt : Option FieldType} {As : List Value} {st0 : List Value} {post : Int64 → List Nat → (Nat → va_E) → Prop} (hM : MJ l G cy y c2 mL2 rt n2 mc2 ms2 As L M post) (lk : LkS own idx y c2 mL2 rt nP) (hn : As.length = nP) (hst : st0 = As.reverse ++ st) (hd : decode cc pc = .ok (.invokestatic idx, 3)) (hcat : (st.map fun v => v.category).sum ≤ 8) (hR : n2 + 1 ≤ n ∧ 8 + (mL2 + 11) + 100 * n2 ≤ 100 * n) (hf : cells + mc2 ≤ mc ∧ slots + ms2 ≤ ms) (k : ∀ (r : Int64) (L2 : List Nat) (M2 : Nat → va_E), post r L2 M2 → Go p l e n mc ms s m args below meth c nL G A (cells + mc2) (slots + ms2) Q L2 M2 (pc + 3) lv (.long r :: st)) : Go p l e n mc ms s m args below meth c nL G A cells slots Q L M pc lv st0 := by
  intro H locs ls hP hD hS hl
  subst hst
  obtain ⟨w1, w2, w4, w5, hpl⟩ := lk
  refine va_calll (va_runS (As := As) (rest := st) (Ts := tblG) ⟨C.1, C.2.1, C.2.2.1, C.2.2.2.1, C.2.2.2.2.1⟩ (hM H.size) ⟨callB_of nP C.2.2.2.2.1 (gCode w5) rfl rfl rfl (C.2.2.2.2.1 _ w4) (C.2.2.2.2.1 _ w1) hpl hR, C.2.2.2.2.1 _ w2⟩ ⟨wp_blind, wp_pre hP hD C.2.2.2.2.2.2.1 C.2.2.2.2.2.1⟩ rfl hn hl.1 rfl (lv_room hcat) hd hf) hS (fun q _ h => pl_free hD hS C.2.2.2.2.2.2.2.1 q h) (pl_free hD hS C.2.2.2.2.2.2.2.1) (fun r u t H1 locs1 ht hvm hw hB hz hk hS1 => ?_)
  obtain ⟨hB1, hB2⟩ := hB
  rw [ht] at hB1
  exact k r u.1 u.2 hw H1 locs1 ls hB1 (hB2.weaken (fun _ _ _ h => pl_free hD hS C.2.2.2.2.2.2.2.1 _ h)) hS1 hl
theorem g_callVV (C : Cx p s m args meth c own cc nL G cy A) {y : MethodName} {c2 : ByteArray} {mL2 n2 mc2 ms2 nP idx ci : Nat} {rt : Option FieldType} {As : List Value} {st0 : List Value} {post : List Nat → (Nat → va_E) → Prop} {b : Nat} {fs : List Value} (hM : MV l G cy y c2 mL2 rt n2 mc2 ms2 (.ref b :: As) L M post) (lk : LkV own idx ci y c2 mL2 rt nP) (hbL : b ∈ L) (hbM : M b = .inr (ci, fs)) (hn : As.length = nP) (hst : st0 = As.reverse ++ .ref b :: st) (hd : decode cc pc = .ok (.invokevirtual idx, 3)) (hcat : (st.map fun v => v.category).sum ≤ 8) (hR : n2 + 1 ≤ n ∧ 8 + (mL2 + 11) + 100 * n2 ≤ 100 * n) (hf : cells + mc2 ≤ mc ∧ slots + ms2 ≤ ms) (k : ∀ (L2 : List Nat) (M2 : Nat → va_E), post L2 M2 → Go p l e n mc ms s m args below meth c nL G A (cells + mc2) (slots + ms2) Q L2 M2 (pc + 3) lv (st)) : Go p l e n mc ms s m args below meth c nL G A cells slots Q L M pc lv st0 := by
  intro H locs ls hP hD hS hl
  subst hst
  obtain ⟨⟨T, N, hc⟩, w1, w2, w3, w4, w5, hpl⟩ := lk
  obtain ⟨q0, -, hq⟩ := pl_at hbL hbM
  refine va_callv (va_runV (As := As) (rest := st) (Ts := tblG) ⟨C.1, C.2.1, C.2.2.1, C.2.2.2.1, C.2.2.2.2.1⟩ (hM H.size) ⟨callB_of nP C.2.2.2.2.1 (gCode w5) rfl rfl rfl (C.2.2.2.2.1 _ w4) (C.2.2.2.2.1 _ w1) hpl hR, C.2.2.2.2.1 _ w2, C.2.2.2.2.1 _ w3⟩ ⟨wp_blind, va_recv C.2.2.2.2.2.2.1 hP hc hq, wp_pre hP hD C.2.2.2.2.2.2.1 C.2.2.2.2.2.1⟩ rfl hn hl.1 rfl (lv_room hcat) hd hf) hS (fun q _ h => pl_free hD hS C.2.2.2.2.2.2.2.1 q h) (pl_free hD hS C.2.2.2.2.2.2.2.1) (fun u t H1 locs1 ht hvm hw hB hz hk hS1 => ?_)
  obtain ⟨hB1, hB2⟩ := hB
  rw [ht] at hB1
  exact k u.1 u.2 hw H1 locs1 ls hB1 (hB2.weaken (fun _ _ _ h => pl_free hD hS C.2.2.2.2.2.2.2.1 _ h)) hS1 hl
theorem g_callSV (C : Cx p s m args meth c own cc nL G cy A) {y : MethodName} {c2 : ByteArray} {mL2 n2 mc2 ms2 nP idx : Nat} {rt : Option FieldType} {As : List Value} {st0 : List Value} {post : List Nat → (Nat → va_E) → Prop} (hM : MV l G cy y c2 mL2 rt n2 mc2 ms2 As L M post) (lk : LkS own idx y c2 mL2 rt nP) (hn : As.length = nP) (hst : st0 = As.reverse ++ st) (hd : decode cc pc = .ok (.invokestatic idx, 3)) (hcat : (st.map fun v => v.category).sum ≤ 8) (hR : n2 + 1 ≤ n ∧ 8 + (mL2 + 11) + 100 * n2 ≤ 100 * n) (hf : cells + mc2 ≤ mc ∧ slots + ms2 ≤ ms) (k : ∀ (L2 : List Nat) (M2 : Nat → va_E), post L2 M2 → Go p l e n mc ms s m args below meth c nL G A (cells + mc2) (slots + ms2) Q L2 M2 (pc + 3) lv (st)) : Go p l e n mc ms s m args below meth c nL G A cells slots Q L M pc lv st0 := by
  intro H locs ls hP hD hS hl
  subst hst
  obtain ⟨w1, w2, w4, w5, hpl⟩ := lk
  refine va_callv (va_runS (As := As) (rest := st) (Ts := tblG) ⟨C.1, C.2.1, C.2.2.1, C.2.2.2.1, C.2.2.2.2.1⟩ (hM H.size) ⟨callB_of nP C.2.2.2.2.1 (gCode w5) rfl rfl rfl (C.2.2.2.2.1 _ w4) (C.2.2.2.2.1 _ w1) hpl hR, C.2.2.2.2.1 _ w2⟩ ⟨wp_blind, wp_pre hP hD C.2.2.2.2.2.2.1 C.2.2.2.2.2.1⟩ rfl hn hl.1 rfl (lv_room hcat) hd hf) hS (fun q _ h => pl_free hD hS C.2.2.2.2.2.2.2.1 q h) (pl_free hD hS C.2.2.2.2.2.2.2.1) (fun u t H1 locs1 ht hvm hw hB hz hk hS1 => ?_)
  obtain ⟨hB1, hB2⟩ := hB
  rw [ht] at hB1
  exact k u.1 u.2 hw H1 locs1 ls hB1 (hB2.weaken (fun _ _ _ h => pl_free hD hS C.2.2.2.2.2.2.2.1 _ h)) hS1 hl
theorem g_callI (C : Cx p s m args meth c own cc nL G cy A) {y : MethodName} {c2 : ByteArray} {mL2 n2 mc2 ms2 nP idx : Nat} {As : List Value} {st0 : List Value} {post : List Nat → (Nat → va_E) → Prop} {b : Nat} (hM : MV l G cy y c2 mL2 none n2 mc2 ms2 (.ref b :: As) L M post) (lk : LkI own idx y c2 mL2 nP) (hn : As.length = nP) (hst : st0 = As.reverse ++ .ref b :: st) (hd : decode cc pc = .ok (.invokespecial idx, 3)) (hcat : (st.map fun v => v.category).sum ≤ 8) (hR : n2 + 1 ≤ n ∧ 8 + (mL2 + 11) + 100 * n2 ≤ 100 * n) (hf : cells + mc2 ≤ mc ∧ slots + ms2 ≤ ms) (k : ∀ (L2 : List Nat) (M2 : Nat → va_E), post L2 M2 → Go p l e n mc ms s m args below meth c nL G A (cells + mc2) (slots + ms2) Q L2 M2 (pc + 3) lv (st)) : Go p l e n mc ms s m args below meth c nL G A cells slots Q L M pc lv st0 := by
  intro H locs ls hP hD hS hl
  subst hst
  obtain ⟨w1, w2, w3, w4, w5, hpl⟩ := lk
  rcases w1 with w1 | ⟨host, w1⟩
  · refine va_callv (va_runI (As := As) (rest := st) (Ts := tblG) ⟨C.1, C.2.1, C.2.2.1, C.2.2.2.1, C.2.2.2.2.1⟩ (hM H.size) ⟨callB_of nP C.2.2.2.2.1 (gCode w5) rfl rfl rfl (C.2.2.2.2.1 _ w4) (C.2.2.2.2.1 _ w1) hpl hR, w2, C.2.2.2.2.1 _ w3⟩ ⟨wp_blind, wp_pre hP hD C.2.2.2.2.2.2.1 C.2.2.2.2.2.1⟩ rfl hn hl.1 rfl (lv_room hcat) hd hf) hS (fun q _ h => pl_free hD hS C.2.2.2.2.2.2.2.1 q h) (pl_free hD hS C.2.2.2.2.2.2.2.1) (fun u t H1 locs1 ht hvm hw hB hz hk hS1 => ?_)
    obtain ⟨hB1, hB2⟩ := hB
    rw [ht] at hB1
    exact k u.1 u.2 hw H1 locs1 ls hB1 (hB2.weaken (fun _ _ _ h => pl_free hD hS C.2.2.2.2.2.2.2.1 _ h)) hS1 hl
  · refine va_callv (va_runIN (As := As) (rest := st) (Ts := tblG) ⟨C.1, C.2.1, C.2.2.1, C.2.2.2.1, C.2.2.2.2.1⟩ (hM H.size) ⟨va_cnB nP C.2.2.2.2.1 (gCode w5) rfl rfl rfl (C.2.2.2.2.2.1.1 _ w1) (C.2.2.2.2.1 _ w4) hpl hR, w2, C.2.2.2.2.1 _ w3⟩ ⟨wp_blind, wp_pre hP hD C.2.2.2.2.2.2.1 C.2.2.2.2.2.1⟩ rfl hn hl.1 rfl (lv_room hcat) hd hf) hS (fun q _ h => pl_free hD hS C.2.2.2.2.2.2.2.1 q h) (pl_free hD hS C.2.2.2.2.2.2.2.1) (fun u t H1 locs1 ht hvm hw hB hz hk hS1 => ?_)
    obtain ⟨hB1, hB2⟩ := hB
    rw [ht] at hB1
    exact k u.1 u.2 hw H1 locs1 ls hB1 (hB2.weaken (fun _ _ _ h => pl_free hD hS C.2.2.2.2.2.2.2.1 _ h)) hS1 hl
end GOROWS
end
section
theorem FW.cons {L : List Nat} {M : Nat → va_E} {fl : List (Nat × va_E)} (F : FW L M fl) {q : Nat} (hq : q ∉ L) (e : va_E) : FW (L ++ [q]) (va_up M q e) ((q, e) :: fl) := by
  have hne : ∀ (i : Nat) (x : Nat × va_E), fl[i]? = some x → x.1 ≠ q := fun i x hx z => hq (z ▸ (F.1 i x hx).2)
  refine ⟨fun i x hx => ?_, fun i j x y hx hy exy => ?_⟩
  · cases i with
    | zero => cases hx; exact ⟨va_up_self _ _ _, List.mem_append_right _ (List.mem_singleton.mpr rfl)⟩
    | succ i => exact ⟨by rw [va_up_ne _ _ (hne i x hx)]; exact (F.1 i x hx).1, List.mem_append_left _ (F.1 i x hx).2⟩
  · cases i with
    | zero =>
      cases j with
      | zero => rfl
      | succ j => cases hx; exact absurd exy.symm (hne j y hy)
    | succ i =>
      cases j with
      | zero => cases hy; exact absurd exy (hne i x hx)
      | succ j => rw [F.2 i j x y hx hy exy]
theorem FW.swap {L : List Nat} {M : Nat → va_E} {x y : List (Nat × va_E)} (F : FW L M (x ++ y)) : FW L M (y ++ x) := by
  have ha : ∀ (i : Nat) (q : Nat × va_E), (y ++ x)[i]? = some q → ∃ j, (x ++ y)[j]? = some q ∧ ((i < y.length ∧ j = x.length + i) ∨ (y.length ≤ i ∧ j = i - y.length ∧ j < x.length)) := by
    intro i q hq
    by_cases hi : i < y.length
    · rw [List.getElem?_append_left hi] at hq
      exact ⟨x.length + i, by rw [List.getElem?_append_right (Nat.le_add_right _ _), Nat.add_sub_cancel_left]; exact hq, Or.inl ⟨hi, rfl⟩⟩
    · rw [List.getElem?_append_right (by omega)] at hq
      have hl := (List.getElem?_eq_some_iff.mp hq).1
      exact ⟨i - y.length, by rw [List.getElem?_append_left hl]; exact hq, Or.inr ⟨by omega, rfl, hl⟩⟩
  refine ⟨fun i q hq => ?_, fun i j p q hi hj e => ?_⟩
  · obtain ⟨j, hj, -⟩ := ha i q hq
    exact F.1 j q hj
  · obtain ⟨i2, hi2, ci⟩ := ha i p hi
    obtain ⟨j2, hj2, cj⟩ := ha j q hj
    have := F.2 i2 j2 p q hi2 hj2 e
    omega
theorem upd0 (k : Nat) : upd (fun _ => (0 : Int32)) k 0 = fun _ => 0 := by
  funext j; unfold upd; split <;> rfl
theorem updL0 (k : Nat) : vp_updL (fun _ => (0 : Int64)) k 0 = fun _ => 0 := by
  funext j; unfold vp_updL; split <;> rfl
theorem cpy0 (a b n : Nat) : va_cpy (fun _ => (0 : Int32)) (fun _ => 0) a b n = fun _ => 0 := by
  funext j; unfold va_cpy; split <;> rfl
theorem set_same {α : Type} {l : List α} {k : Nat} {x : α} (h : l[k]? = some x) : l.set k x = l := by
  apply List.ext_getElem?
  intro i
  by_cases hi : i = k
  · subst hi
    rw [List.getElem?_set_self (List.getElem?_eq_some_iff.mp h).1, h]
  · rw [List.getElem?_set_ne (fun z => hi z.symm)]
section WROWS
variable {p : Program} {l : Launch} {e : Env} {s : State} {m : MethodId} {args : Array Value} {below : List Frame} {meth : Method} {c : Code} {own : String} {cc : ByteArray} {nL : Nat} {G : va_G} {cy : Nat → ClassId} {A : Nat → Prop} {n mc ms cells slots : Nat} {Q : State → Prop} {L : List Nat} {M : Nat → va_E} {pc : Nat} {lv : List (Nat × Value)} {st : List Value} {fl fl2 : List (Nat × va_E)}
theorem h_get (C : Cx p s m args meth c own cc nL G cy A) (F : FW L M fl) (k0 : Nat) {a idx ci kf : Nat} {ty : FieldType} {fin : Bool} {fs : List Value} {v : Value} (hk : fl[k0]? = some (a, .inr (ci, fs))) (f : FLk own idx ci kf ty fin) (hd : decode cc pc = .ok (.getfield idx, 3)) (hv : fs[kf]? = some v) (k : Go p l e n mc ms s m args below meth c nL G A cells slots Q L M (pc + 3) lv (v :: st)) : Go p l e n mc ms s m args below meth c nL G A cells slots Q L M pc lv (.ref a :: st) := g_get C f hd (F.mem k0 hk) (F.at k0 hk) hv k
theorem h_put (C : Cx p s m args meth c own cc nL G cy A) (F : FW L M fl) (k0 : Nat) {a idx ci kf : Nat} {ty : FieldType} {fs : List Value} {v : Value} (hk : fl[k0]? = some (a, .inr (ci, fs))) (f : FLk own idx ci kf ty false) (hd : decode cc pc = .ok (.putfield idx, 3)) (hn : narrow ty v = v) (hfit : fits ty v = true) (hlen : kf < fs.length) (h2 : fl.set k0 (a, .inr (ci, fs.set kf v)) = fl2) (k : ∀ M : Nat → va_E, FW L M fl2 → Go p l e n mc ms s m args below meth c nL G A cells slots Q L M (pc + 3) lv st) : Go p l e n mc ms s m args below meth c nL G A cells slots Q L M pc lv (v :: .ref a :: st) := g_put C f hd (F.mem k0 hk) (F.at k0 hk) hn hfit hlen (k _ (h2 ▸ F.set k0 hk _))
theorem h_putF (C : Cx p s m args meth c own cc nL G cy A) (F : FW L M fl) (k0 : Nat) {a idx ci kf : Nat} {ty : FieldType} {fs : List Value} {v : Value} (hk : fl[k0]? = some (a, .inr (ci, fs))) (f : FLk own idx ci kf ty true) (hini : meth.name = "<init>") (hK : ∀ K T N, vwCl[ci]? = some (K, T, N) → K = own) (hnest : ∀ host T N, vwCl[ci]? = some (own, T, N) → Cond.fieldLinkNest own idx own (T kf).2.1 (T kf).2.2.1 host ∉ nsW) (hd : decode cc pc = .ok (.putfield idx, 3)) (hn : narrow ty v = v) (hfit : fits ty v = true) (hlen : kf < fs.length) (h2 : fl.set k0 (a, .inr (ci, fs.set kf v)) = fl2) (k : ∀ M : Nat → va_E, FW L M fl2 → Go p l e n mc ms s m args below meth c nL G A cells slots Q L M (pc + 3) lv st) : Go p l e n mc ms s m args below meth c nL G A cells slots Q L M pc lv (v :: .ref a :: st) := g_putF C f hini hK hnest hd (F.mem k0 hk) (F.at k0 hk) hn hfit hlen (k _ (h2 ▸ F.set k0 hk _))
theorem h_iald (C : Cx p s m args meth c own cc nL G cy A) (F : FW L M fl) (k0 : Nat) {a N : Nat} {f : Nat → Int32} {i : Int32} {v : Int32} (hk : fl[k0]? = some (a, .inl (cy 1, N, .inl f))) (hd : decode cc pc = .ok (.iaload, 1)) (hin : vp_in i N) (hv : f i.toNatClampNeg = v) (k : Go p l e n mc ms s m args below meth c nL G A cells slots Q L M (pc + 1) lv (.int v :: st)) : Go p l e n mc ms s m args below meth c nL G A cells slots Q L M pc lv (.int i :: .ref a :: st) := g_iald C hd (F.mem k0 hk) (F.at k0 hk) hin hv k
theorem h_bald (C : Cx p s m args meth c own cc nL G cy A) (F : FW L M fl) (k0 : Nat) {a N : Nat} {f : Nat → Int32} {i : Int32} {v : Int32} (hk : fl[k0]? = some (a, .inl (cy 0, N, .inl f))) (hd : decode cc pc = .ok (.baload, 1)) (hin : vp_in i N) (hv : f i.toNatClampNeg = v) (k : Go p l e n mc ms s m args below meth c nL G A cells slots Q L M (pc + 1) lv (.int v :: st)) : Go p l e n mc ms s m args below meth c nL G A cells slots Q L M pc lv (.int i :: .ref a :: st) := g_bald C hd (F.mem k0 hk) (F.at k0 hk) hin hv k
theorem h_zald (C : Cx p s m args meth c own cc nL G cy A) (F : FW L M fl) (k0 : Nat) {a N : Nat} {f : Nat → Int32} {i : Int32} {v : Int32} (hk : fl[k0]? = some (a, .inl (cy 3, N, .inl f))) (hd : decode cc pc = .ok (.baload, 1)) (hin : vp_in i N) (hv : f i.toNatClampNeg = v) (k : Go p l e n mc ms s m args below meth c nL G A cells slots Q L M (pc + 1) lv (.int v :: st)) : Go p l e n mc ms s m args below meth c nL G A cells slots Q L M pc lv (.int i :: .ref a :: st) := g_zald C hd (F.mem k0 hk) (F.at k0 hk) hin hv k
theorem h_lald (C : Cx p s m args meth c own cc nL G cy A) (F : FW L M fl) (k0 : Nat) {a N : Nat} {f : Nat → Int64} {i : Int32} {v : Int64} (hk : fl[k0]? = some (a, .inl (cy 2, N, .inr (.inl f)))) (hd : decode cc pc = .ok (.laload, 1)) (hin : vp_in i N) (hv : f i.toNatClampNeg = v) (k : Go p l e n mc ms s m args below meth c nL G A cells slots Q L M (pc + 1) lv (.long v :: st)) : Go p l e n mc ms s m args below meth c nL G A cells slots Q L M pc lv (.int i :: .ref a :: st) := g_lald C hd (F.mem k0 hk) (F.at k0 hk) hin hv k
theorem h_iast (C : Cx p s m args meth c own cc nL G cy A) (F : FW L M fl) (k0 : Nat) {a N : Nat} {f g : Nat → Int32} {i : Int32} {x : Int32} (hk : fl[k0]? = some (a, .inl (cy 1, N, .inl (f)))) (hd : decode cc pc = .ok (.iastore, 1)) (hin : vp_in i N) (hg : upd f i.toNatClampNeg x = g) (h2 : fl.set k0 (a, .inl (cy 1, N, .inl (g))) = fl2) (k : ∀ M : Nat → va_E, FW L M fl2 → Go p l e n mc ms s m args below meth c nL G A cells slots Q L M (pc + 1) lv st) : Go p l e n mc ms s m args below meth c nL G A cells slots Q L M pc lv (.int x :: .int i :: .ref a :: st) := g_iast C hd (F.mem k0 hk) (F.at k0 hk) hin (k _ (h2 ▸ hg ▸ F.set k0 hk _))
theorem h_bast (C : Cx p s m args meth c own cc nL G cy A) (F : FW L M fl) (k0 : Nat) {a N : Nat} {f g : Nat → Int32} {i : Int32} {x : Int32} (hk : fl[k0]? = some (a, .inl (cy 0, N, .inl (f)))) (hd : decode cc pc = .ok (.bastore, 1)) (hin : vp_in i N) (hg : upd f i.toNatClampNeg (vp_nar .byte x) = g) (h2 : fl.set k0 (a, .inl (cy 0, N, .inl (g))) = fl2) (k : ∀ M : Nat → va_E, FW L M fl2 → Go p l e n mc ms s m args below meth c nL G A cells slots Q L M (pc + 1) lv st) : Go p l e n mc ms s m args below meth c nL G A cells slots Q L M pc lv (.int x :: .int i :: .ref a :: st) := g_bast C hd (F.mem k0 hk) (F.at k0 hk) hin (k _ (h2 ▸ hg ▸ F.set k0 hk _))
theorem h_zast (C : Cx p s m args meth c own cc nL G cy A) (F : FW L M fl) (k0 : Nat) {a N : Nat} {f g : Nat → Int32} {i : Int32} {x : Int32} (hk : fl[k0]? = some (a, .inl (cy 3, N, .inl (f)))) (hd : decode cc pc = .ok (.bastore, 1)) (hin : vp_in i N) (hg : upd f i.toNatClampNeg (vp_nar .boolean x) = g) (h2 : fl.set k0 (a, .inl (cy 3, N, .inl (g))) = fl2) (k : ∀ M : Nat → va_E, FW L M fl2 → Go p l e n mc ms s m args below meth c nL G A cells slots Q L M (pc + 1) lv st) : Go p l e n mc ms s m args below meth c nL G A cells slots Q L M pc lv (.int x :: .int i :: .ref a :: st) := g_zast C hd (F.mem k0 hk) (F.at k0 hk) hin (k _ (h2 ▸ hg ▸ F.set k0 hk _))
theorem h_last (C : Cx p s m args meth c own cc nL G cy A) (F : FW L M fl) (k0 : Nat) {a N : Nat} {f g : Nat → Int64} {i : Int32} {x : Int64} (hk : fl[k0]? = some (a, .inl (cy 2, N, .inr (.inl (f))))) (hd : decode cc pc = .ok (.lastore, 1)) (hin : vp_in i N) (hg : vp_updL f i.toNatClampNeg x = g) (h2 : fl.set k0 (a, .inl (cy 2, N, .inr (.inl (g)))) = fl2) (k : ∀ M : Nat → va_E, FW L M fl2 → Go p l e n mc ms s m args below meth c nL G A cells slots Q L M (pc + 1) lv st) : Go p l e n mc ms s m args below meth c nL G A cells slots Q L M pc lv (.long x :: .int i :: .ref a :: st) := g_last C hd (F.mem k0 hk) (F.at k0 hk) hin (k _ (h2 ▸ hg ▸ F.set k0 hk _))
theorem h_alen (C : Cx p s m args meth c own cc nL G cy A) (F : FW L M fl) (k0 : Nat) {a t0 : Nat} {x : vp_A} {ty : FieldType} {cA : ClassId} {v : Int32} (hk : fl[k0]? = some (a, .inl (cA, x))) (ht : (tyL cy)[t0]? = some (cA, ty)) (hd : decode cc pc = .ok (.arraylength, 1)) (hv : Int32.ofNat x.1 = v) (k : Go p l e n mc ms s m args below meth c nL G A cells slots Q L M (pc + 1) lv (.int v :: st)) : Go p l e n mc ms s m args below meth c nL G A cells slots Q L M pc lv (.ref a :: st) := g_alen C ht hd (F.mem k0 hk) (F.at k0 hk) hv k
theorem h_aldq (C : Cx p s m args meth c own cc nL G cy A) (F : FW L M fl) (k0 : Nat) {a N t0 : Nat} {cA : ClassId} {K : String} {f : Nat → Option Nat} {i : Int32} {v : Value} (hk : fl[k0]? = some (a, .inl (cA, N, .inr (.inr (.inr (.inr f)))))) (ht : (tyL cy)[t0]? = some (cA, .object K)) (hd : decode cc pc = .ok (.aaload, 1)) (hin : vp_in i N) (hv : va_rf (f i.toNatClampNeg) = v) (k : Go p l e n mc ms s m args below meth c nL G A cells slots Q L M (pc + 1) lv (v :: st)) : Go p l e n mc ms s m args below meth c nL G A cells slots Q L M pc lv (.int i :: .ref a :: st) := g_aldq C ht hd (F.mem k0 hk) (F.at k0 hk) hin hv k
theorem h_astq (C : Cx p s m args meth c own cc nL G cy A) (F : FW L M fl) (k0 k1 : Nat) {a N t0 ci v : Nat} {cA : ClassId} {r : vw_C} {vs : List Value} {f : Nat → Option Nat} {i : Int32} (hk : fl[k0]? = some (a, .inl (cA, N, .inr (.inr (.inr (.inr f)))))) (hk1 : fl[k1]? = some (v, .inr (ci, vs))) (ht : (tyL cy)[t0]? = some (cA, .object r.1)) (hc : vwCl[ci]? = some r) (hd : decode cc pc = .ok (.aastore, 1)) (hin : vp_in i N) (h2 : fl.set k0 (a, .inl (cA, N, .inr (.inr (.inr (.inr (va_up f i.toNatClampNeg (some v))))))) = fl2) (k : ∀ M : Nat → va_E, FW L M fl2 → Go p l e n mc ms s m args below meth c nL G A cells slots Q L M (pc + 1) lv st) : Go p l e n mc ms s m args below meth c nL G A cells slots Q L M pc lv (.ref v :: .int i :: .ref a :: st) := g_astq C ht hc hd (F.mem k0 hk) (F.at k0 hk) (F.mem k1 hk1) (F.at k1 hk1) hin (k _ (h2 ▸ F.set k0 hk _))
theorem h_new (C : Cx p s m args meth c own cc nL G cy A) (F : FW L M fl) {ci idx N : Nat} {K : String} {T : u_T} {ty0 : Nat → FieldType} {fs : List Value} (f : CLk ci K T N ty0) (h1 : Cond.classLink own idx K ∈ tblG) (h2 : Cond.instantiable K N ∈ tblG) (h3 : Cond.initialized K ∈ tblG) (hfs : ∀ j, j < N → defaultValue (ty0 j) = vp_V fs j) (hcells : cells + 1 ≤ mc) (hslots : slots + N ≤ ms) (hd : decode cc pc = .ok (.new idx, 3)) (k : ∀ (q : Nat) (L : List Nat) (M : Nat → va_E), FW L M ((q, .inr (ci, fs)) :: fl) → Go p l e n mc ms s m args below meth c nL G A (cells + 1) (slots + N) Q L M (pc + 3) lv (.ref q :: st)) : Go p l e n mc ms s m args below meth c nL G A cells slots Q L M pc lv st := g_new C f h1 h2 h3 hfs hcells hslots hd (fun q hq => k q _ _ (F.cons hq _))
theorem h_newa (C : Cx p s m args meth c own cc nL G cy A) (F : FW L M fl) {atype : ArrayType} {ty : FieldType} {t0 N : Nat} {cA : ClassId} {nI0 : Int32} {a0 : vp_A} (ht : (tyL cy)[t0]? = some (cA, ty)) (hw : Cond.arrayClass ty ∈ tblG) (hty : newarray.typeOf atype = ty) (ha : ∀ x : ClassId, vp_cell x a0 = arrV x N (fun _ => defaultValue ty)) (hn : ¬ nI0 < 0) (hN : nI0.toNatClampNeg = N) (hbytes : N * componentBytes ty ≤ 536870912) (hcells : cells + 1 ≤ mc) (hslots : slots + N ≤ ms) (hd : decode cc pc = .ok (.newarray atype, 2)) (k : ∀ (q : Nat) (L : List Nat) (M : Nat → va_E), FW L M ((q, .inl (cA, a0)) :: fl) → Go p l e n mc ms s m args below meth c nL G A (cells + 1) (slots + N) Q L M (pc + 2) lv (.ref q :: st)) : Go p l e n mc ms s m args below meth c nL G A cells slots Q L M pc lv (.int nI0 :: st) := g_newa C ht hw hty ha hn hN hbytes hcells hslots hd (fun q hq => k q _ _ (F.cons hq _))
theorem h_newq (C : Cx p s m args meth c own cc nL G cy A) (F : FW L M fl) {idx t0 N : Nat} {K : String} {cA : ClassId} {nI0 : Int32} (ht : (tyL cy)[t0]? = some (cA, .object K)) (hw : Cond.classLink own idx K ∈ tblG) (hover : va_AO K s) (hn : ¬ nI0 < 0) (hN : nI0.toNatClampNeg = N) (hbytes : N * 4 ≤ 536870912) (hcells : cells + 1 ≤ mc) (hslots : slots + N ≤ ms) (hd : decode cc pc = .ok (.anewarray idx, 3)) (k : ∀ (q : Nat) (L : List Nat) (M : Nat → va_E), FW L M ((q, .inl (cA, N, .inr (.inr (.inr (.inr (fun _ => none)))))) :: fl) → Go p l e n mc ms s m args below meth c nL G A (cells + 1) (slots + N) Q L M (pc + 3) lv (.ref q :: st)) : Go p l e n mc ms s m args below meth c nL G A cells slots Q L M pc lv (.int nI0 :: st) := g_newq C ht hw hover hn hN hbytes hcells hslots hd (fun q hq => k q _ _ (F.cons hq _))
theorem h_copyi (C : Cx p s m args meth c own cc nL G cy A) (F : FW L M fl) (k0 k1 : Nat) {idx t0 a0 a1 N0 N1 : Nat} {cA : ClassId} {ty : FieldType} {f g g2 : Nat → Int32} {sp dp nn : Int32} (hk0 : fl[k0]? = some (a0, .inl (cA, N0, .inl f))) (hk1 : fl[k1]? = some (a1, .inl (cA, N1, .inl g))) (ht : (tyL cy)[t0]? = some (cA, ty)) (hprim : refKind ty = false) (h1 : Cond.methodLink own idx arraycopyName ∈ tblG) (h2 : Cond.native arraycopyName ∈ tblG) (h3 : Cond.static arraycopyName ∈ tblG) (h4 : Cond.initialized "java/lang/System" ∈ tblG) (c1 : ¬ sp < 0) (c2 : ¬ dp < 0) (c3 : ¬ nn < 0) (c4 : sp.toNatClampNeg + nn.toNatClampNeg ≤ N0) (c5 : dp.toNatClampNeg + nn.toNatClampNeg ≤ N1) (hfit : ∀ i, i < nn.toNatClampNeg → fits ty (.int (f (sp.toNatClampNeg + i))) = true) (hn1 : 1 ≤ n) (hlo : (st.map fun v => v.category).sum + (nativeFrameWords "java/lang/System" "arraycopy" 5 + 11) ≤ 100 * n) (hd : decode cc pc = .ok (.invokestatic idx, 3)) (hg : va_cpy f g sp.toNatClampNeg dp.toNatClampNeg nn.toNatClampNeg = g2) (h5 : fl.set k1 (a1, .inl (cA, N1, .inl g2)) = fl2) (k : ∀ M : Nat → va_E, FW L M fl2 → Go p l e n mc ms s m args below meth c nL G A cells slots Q L M (pc + 3) lv st) : Go p l e n mc ms s m args below meth c nL G A cells slots Q L M pc lv (.int nn :: .int dp :: .ref a1 :: .int sp :: .ref a0 :: st) := g_copyi C ht hprim h1 h2 h3 h4 (F.mem k0 hk0) (F.at k0 hk0) (F.mem k1 hk1) (F.at k1 hk1) c1 c2 c3 c4 c5 hfit hn1 hlo hd (k _ (h5 ▸ hg ▸ F.set k1 hk1 _))
theorem in_none {r : Int32} {v : Int64} (h : (r = 1 ∧ (0 : Int64) ≤ v ∧ v ≤ -1) ∨ (r = 0 ∧ ¬ ((0 : Int64) ≤ v ∧ v ≤ -1))) : r = 0 := by
  rcases h with ⟨-, h1, h2⟩ | ⟨h, -⟩
  · exact absurd (Int64.le_trans h1 h2) (by decide)
  · exact h
theorem Go.top {u v : Value} (h : u = v) (k : Go p l e n mc ms s m args below meth c nL G A cells slots Q L M pc lv (v :: st)) : Go p l e n mc ms s m args below meth c nL G A cells slots Q L M pc lv (u :: st) := h ▸ k
theorem nest_no {own : String} {idx : Nat} (h : nsW.all (fun w => match w with
  | .fieldLinkNest a i _ _ _ _ => !(a == own && i == idx)
  | _ => true) = true) (b nm d host : String) : Cond.fieldLinkNest own idx b nm d host ∉ nsW := fun hm => by
  have := List.all_eq_true.mp h _ hm
  simp at this
theorem g_lv (ks : List Nat) {lv2 : List (Nat × Value)} (h : lv_pick lv ks = lv2) (k : Go p l e n mc ms s m args below meth c nL G A cells slots Q L M pc lv2 st) : Go p l e n mc ms s m args below meth c nL G A cells slots Q L M pc lv st := fun H locs ls hP hD hS hl => k H locs ls hP hD hS (lv_sub hl ks h)
theorem g_loop (N : Nat) {lvf : Nat → List (Nat × Value)} (step : ∀ (i : Nat) (M : Nat → va_E), FW L M fl → i < N → (∀ M : Nat → va_E, FW L M fl → Go p l e n mc ms s m args below meth c nL G A cells slots Q L M pc (lvf (i + 1)) st) → Go p l e n mc ms s m args below meth c nL G A cells slots Q L M pc (lvf i) st) (fin : ∀ M : Nat → va_E, FW L M fl → Go p l e n mc ms s m args below meth c nL G A cells slots Q L M pc (lvf N) st) (F : FW L M fl) : Go p l e n mc ms s m args below meth c nL G A cells slots Q L M pc (lvf 0) st := by
  have key : ∀ (k i : Nat) (M : Nat → va_E), FW L M fl → i ≤ N → N - i < k → Go p l e n mc ms s m args below meth c nL G A cells slots Q L M pc (lvf i) st := by
    intro k
    induction k with
    | zero => intro i M F h1 h2; omega
    | succ k ih =>
      intro i M F h1 h2
      by_cases hi : i < N
      · exact step i M F hi (fun M F => ih (i + 1) M F (by omega) (by omega))
      · have e1 : i = N := by omega
        subst e1
        exact fin M F
  exact key (N + 1) 0 M F (Nat.zero_le N) (by omega)
theorem h_iastX (C : Cx p s m args meth c own cc nL G cy A) (F : FW L M fl) (k0 : Nat) {a N : Nat} {f : Nat → Int32} {i : Int32} {x : Int32} {flf : (Nat → Int32) → List (Nat × va_E)} (hk : fl[k0]? = some (a, .inl (cy 1, N, .inl f))) (hd : decode cc pc = .ok (.iastore, 1)) (hin : vp_in i N) (h2 : ∀ g, fl.set k0 (a, .inl (cy 1, N, .inl g)) = flf g) (k : ∀ (M : Nat → va_E) (g : Nat → Int32), FW L M (flf g) → Go p l e n mc ms s m args below meth c nL G A cells slots Q L M (pc + 1) lv st) : Go p l e n mc ms s m args below meth c nL G A cells slots Q L M pc lv (.int x :: .int i :: .ref a :: st) := g_iast C hd (F.mem k0 hk) (F.at k0 hk) hin (k _ _ (h2 _ ▸ F.set k0 hk _))
theorem h_bastX (C : Cx p s m args meth c own cc nL G cy A) (F : FW L M fl) (k0 : Nat) {a N : Nat} {f : Nat → Int32} {i : Int32} {x : Int32} {flf : (Nat → Int32) → List (Nat × va_E)} (hk : fl[k0]? = some (a, .inl (cy 0, N, .inl f))) (hd : decode cc pc = .ok (.bastore, 1)) (hin : vp_in i N) (h2 : ∀ g, fl.set k0 (a, .inl (cy 0, N, .inl g)) = flf g) (k : ∀ (M : Nat → va_E) (g : Nat → Int32), FW L M (flf g) → Go p l e n mc ms s m args below meth c nL G A cells slots Q L M (pc + 1) lv st) : Go p l e n mc ms s m args below meth c nL G A cells slots Q L M pc lv (.int x :: .int i :: .ref a :: st) := g_bast C hd (F.mem k0 hk) (F.at k0 hk) hin (k _ _ (h2 _ ▸ F.set k0 hk _))
theorem h_zastX (C : Cx p s m args meth c own cc nL G cy A) (F : FW L M fl) (k0 : Nat) {a N : Nat} {f : Nat → Int32} {i : Int32} {x : Int32} {flf : (Nat → Int32) → List (Nat × va_E)} (hk : fl[k0]? = some (a, .inl (cy 3, N, .inl f))) (hd : decode cc pc = .ok (.bastore, 1)) (hin : vp_in i N) (h2 : ∀ g, fl.set k0 (a, .inl (cy 3, N, .inl g)) = flf g) (k : ∀ (M : Nat → va_E) (g : Nat → Int32), FW L M (flf g) → Go p l e n mc ms s m args below meth c nL G A cells slots Q L M (pc + 1) lv st) : Go p l e n mc ms s m args below meth c nL G A cells slots Q L M pc lv (.int x :: .int i :: .ref a :: st) := g_zast C hd (F.mem k0 hk) (F.at k0 hk) hin (k _ _ (h2 _ ▸ F.set k0 hk _))
theorem FW.selR {L : List Nat} {M : Nat → va_E} {x x2 fr : List (Nat × va_E)} (F : FW L M (x ++ fr)) (is : List Nat) (hn : va_nd is = true) (hs : is.map (fun i => x[i]?) = x2.map some) : FW L M (x2 ++ fr) := by
  have X := F.left.sub is hn hs
  have Y := F.right
  have at2 : ∀ (k : Nat) (q : Nat × va_E), x2[k]? = some q → ∃ i, i < x.length ∧ x[i]? = some q := by
    intro k q hk
    have h1 : (is.map (fun i => x[i]?))[k]? = some (some q) := by rw [hs, List.getElem?_map, hk]; rfl
    rw [List.getElem?_map] at h1
    cases hi : is[k]? with
    | none => rw [hi] at h1; cases h1
    | some i => rw [hi] at h1; exact ⟨i, (List.getElem?_eq_some_iff.mp (Option.some.inj h1)).1, Option.some.inj h1⟩
  have cross : ∀ (i j : Nat) (p q : Nat × va_E), x2[i]? = some p → fr[j]? = some q → p.1 ≠ q.1 := by
    intro i j p q hi hj e
    obtain ⟨k, hk, hx⟩ := at2 i p hi
    have := F.2 k (x.length + j) p q (by rw [List.getElem?_append_left hk]; exact hx) (by rw [List.getElem?_append_right (Nat.le_add_right _ _), Nat.add_sub_cancel_left]; exact hj) e
    omega
  have key : ∀ (i : Nat) (z : Nat × va_E), (x2 ++ fr)[i]? = some z → (i < x2.length ∧ x2[i]? = some z) ∨ (x2.length ≤ i ∧ fr[i - x2.length]? = some z) := by
    intro i z hz
    by_cases hi : i < x2.length
    · rw [List.getElem?_append_left hi] at hz; exact Or.inl ⟨hi, hz⟩
    · rw [List.getElem?_append_right (by omega)] at hz; exact Or.inr ⟨by omega, hz⟩
  refine ⟨fun i z hz => ?_, fun i j p q hi hj e => ?_⟩
  · rcases key i z hz with ⟨-, h⟩ | ⟨-, h⟩
    · exact X.1 i z h
    · exact Y.1 _ z h
  · rcases key i p hi with ⟨a1, h1⟩ | ⟨a1, h1⟩ <;> rcases key j q hj with ⟨b1, g1⟩ | ⟨b1, g1⟩
    · exact X.2 i j p q h1 g1 e
    · exact absurd e (cross i _ p q h1 g1)
    · exact absurd e.symm (cross j _ q p g1 h1)
    · have := Y.2 _ _ p q h1 g1 e; omega
end WROWS
end
section
theorem dX0_init_0 : decode cX0_init 0 = .ok (.aload_n 0, 1) := by decide +kernel
theorem dX0_init_1 : decode cX0_init 1 = .ok (.invokespecial 3, 3) := by decide +kernel
theorem dX0_init_4 : decode cX0_init 4 = .ok (.aload_n 0, 1) := by decide +kernel
theorem dX0_init_5 : decode cX0_init 5 = .ok (.iconst 0, 1) := by decide +kernel
theorem dX0_init_6 : decode cX0_init 6 = .ok (.putfield 9, 3) := by decide +kernel
theorem dX0_init_9 : decode cX0_init 9 = .ok (.aload_n 0, 1) := by decide +kernel
theorem dX0_init_10 : decode cX0_init 10 = .ok (.bipush 30, 2) := by decide +kernel
theorem dX0_init_12 : decode cX0_init 12 = .ok (.newarray .int, 2) := by decide +kernel
theorem dX0_init_14 : decode cX0_init 14 = .ok (.putfield 15, 3) := by decide +kernel
theorem dX0_init_17 : decode cX0_init 17 = .ok (.aload_n 0, 1) := by decide +kernel
theorem dX0_init_18 : decode cX0_init 18 = .ok (.sipush 240, 3) := by decide +kernel
theorem dX0_init_21 : decode cX0_init 21 = .ok (.newarray .int, 2) := by decide +kernel
theorem dX0_init_23 : decode cX0_init 23 = .ok (.putfield 19, 3) := by decide +kernel
theorem dX0_init_26 : decode cX0_init 26 = .ok (.return_, 1) := by decide +kernel
theorem dX0_clear_0 : decode cX0_clear 0 = .ok (.aload_n 0, 1) := by decide +kernel
theorem dX0_clear_1 : decode cX0_clear 1 = .ok (.iconst 0, 1) := by decide +kernel
theorem dX0_clear_2 : decode cX0_clear 2 = .ok (.putfield 9, 3) := by decide +kernel
theorem dX0_clear_5 : decode cX0_clear 5 = .ok (.aload_n 0, 1) := by decide +kernel
theorem dX0_clear_6 : decode cX0_clear 6 = .ok (.getfield 19, 3) := by decide +kernel
theorem dX0_clear_9 : decode cX0_clear 9 = .ok (.iconst 0, 1) := by decide +kernel
theorem dX0_clear_10 : decode cX0_clear 10 = .ok (.invokestatic 22, 3) := by decide +kernel
theorem dX0_clear_13 : decode cX0_clear 13 = .ok (.return_, 1) := by decide +kernel
theorem dX0_copyFrom_0 : decode cX0_copyFrom 0 = .ok (.aload_n 0, 1) := by decide +kernel
theorem dX0_copyFrom_1 : decode cX0_copyFrom 1 = .ok (.aload_n 1, 1) := by decide +kernel
theorem dX0_copyFrom_2 : decode cX0_copyFrom 2 = .ok (.getfield 9, 3) := by decide +kernel
theorem dX0_copyFrom_5 : decode cX0_copyFrom 5 = .ok (.putfield 9, 3) := by decide +kernel
theorem dX0_copyFrom_8 : decode cX0_copyFrom 8 = .ok (.aload_n 1, 1) := by decide +kernel
theorem dX0_copyFrom_9 : decode cX0_copyFrom 9 = .ok (.getfield 15, 3) := by decide +kernel
theorem dX0_copyFrom_12 : decode cX0_copyFrom 12 = .ok (.iconst 0, 1) := by decide +kernel
theorem dX0_copyFrom_13 : decode cX0_copyFrom 13 = .ok (.aload_n 0, 1) := by decide +kernel
theorem dX0_copyFrom_14 : decode cX0_copyFrom 14 = .ok (.getfield 15, 3) := by decide +kernel
theorem dX0_copyFrom_17 : decode cX0_copyFrom 17 = .ok (.iconst 0, 1) := by decide +kernel
theorem dX0_copyFrom_18 : decode cX0_copyFrom 18 = .ok (.bipush 30, 2) := by decide +kernel
theorem dX0_copyFrom_20 : decode cX0_copyFrom 20 = .ok (.invokestatic 28, 3) := by decide +kernel
theorem dX0_copyFrom_23 : decode cX0_copyFrom 23 = .ok (.aload_n 1, 1) := by decide +kernel
theorem dX0_copyFrom_24 : decode cX0_copyFrom 24 = .ok (.getfield 19, 3) := by decide +kernel
theorem dX0_copyFrom_27 : decode cX0_copyFrom 27 = .ok (.iconst 0, 1) := by decide +kernel
theorem dX0_copyFrom_28 : decode cX0_copyFrom 28 = .ok (.aload_n 0, 1) := by decide +kernel
theorem dX0_copyFrom_29 : decode cX0_copyFrom 29 = .ok (.getfield 19, 3) := by decide +kernel
theorem dX0_copyFrom_32 : decode cX0_copyFrom 32 = .ok (.iconst 0, 1) := by decide +kernel
theorem dX0_copyFrom_33 : decode cX0_copyFrom 33 = .ok (.aload_n 0, 1) := by decide +kernel
theorem dX0_copyFrom_34 : decode cX0_copyFrom 34 = .ok (.getfield 19, 3) := by decide +kernel
theorem dX0_copyFrom_37 : decode cX0_copyFrom 37 = .ok (.arraylength, 1) := by decide +kernel
theorem dX0_copyFrom_38 : decode cX0_copyFrom 38 = .ok (.invokestatic 28, 3) := by decide +kernel
theorem dX0_copyFrom_41 : decode cX0_copyFrom 41 = .ok (.return_, 1) := by decide +kernel
theorem dX1_init_0 : decode cX1_init 0 = .ok (.aload_n 0, 1) := by decide +kernel
theorem dX1_init_1 : decode cX1_init 1 = .ok (.invokespecial 3, 3) := by decide +kernel
theorem dX1_init_4 : decode cX1_init 4 = .ok (.aload_n 0, 1) := by decide +kernel
theorem dX1_init_5 : decode cX1_init 5 = .ok (.iconst (-1), 1) := by decide +kernel
theorem dX1_init_6 : decode cX1_init 6 = .ok (.putfield 9, 3) := by decide +kernel
theorem dX1_init_9 : decode cX1_init 9 = .ok (.aload_n 0, 1) := by decide +kernel
theorem dX1_init_10 : decode cX1_init 10 = .ok (.bipush 8, 2) := by decide +kernel
theorem dX1_init_12 : decode cX1_init 12 = .ok (.newarray .long, 2) := by decide +kernel
theorem dX1_init_14 : decode cX1_init 14 = .ok (.putfield 15, 3) := by decide +kernel
theorem dX1_init_17 : decode cX1_init 17 = .ok (.aload_n 0, 1) := by decide +kernel
theorem dX1_init_18 : decode cX1_init 18 = .ok (.lconst 1, 1) := by decide +kernel
theorem dX1_init_19 : decode cX1_init 19 = .ok (.putfield 19, 3) := by decide +kernel
theorem dX1_init_22 : decode cX1_init 22 = .ok (.aload_n 0, 1) := by decide +kernel
theorem dX1_init_23 : decode cX1_init 23 = .ok (.aload_n 1, 1) := by decide +kernel
theorem dX1_init_24 : decode cX1_init 24 = .ok (.putfield 23, 3) := by decide +kernel
theorem dX1_init_27 : decode cX1_init 27 = .ok (.return_, 1) := by decide +kernel
theorem dX1_forget_0 : decode cX1_forget 0 = .ok (.aload_n 0, 1) := by decide +kernel
theorem dX1_forget_1 : decode cX1_forget 1 = .ok (.iconst (-1), 1) := by decide +kernel
theorem dX1_forget_2 : decode cX1_forget 2 = .ok (.putfield 9, 3) := by decide +kernel
theorem dX1_forget_5 : decode cX1_forget 5 = .ok (.return_, 1) := by decide +kernel
theorem dX2_init_0 : decode cX2_init 0 = .ok (.aload_n 0, 1) := by decide +kernel
theorem dX2_init_1 : decode cX2_init 1 = .ok (.invokespecial 3, 3) := by decide +kernel
theorem dX2_init_4 : decode cX2_init 4 = .ok (.aload_n 0, 1) := by decide +kernel
theorem dX2_init_5 : decode cX2_init 5 = .ok (.iconst 0, 1) := by decide +kernel
theorem dX2_init_6 : decode cX2_init 6 = .ok (.putfield 9, 3) := by decide +kernel
theorem dX2_init_9 : decode cX2_init 9 = .ok (.aload_n 0, 1) := by decide +kernel
theorem dX2_init_10 : decode cX2_init 10 = .ok (.iconst 0, 1) := by decide +kernel
theorem dX2_init_11 : decode cX2_init 11 = .ok (.putfield 15, 3) := by decide +kernel
theorem dX2_init_14 : decode cX2_init 14 = .ok (.aload_n 0, 1) := by decide +kernel
theorem dX2_init_15 : decode cX2_init 15 = .ok (.iconst 0, 1) := by decide +kernel
theorem dX2_init_16 : decode cX2_init 16 = .ok (.putfield 18, 3) := by decide +kernel
theorem dX2_init_19 : decode cX2_init 19 = .ok (.aload_n 0, 1) := by decide +kernel
theorem dX2_init_20 : decode cX2_init 20 = .ok (.iconst 0, 1) := by decide +kernel
theorem dX2_init_21 : decode cX2_init 21 = .ok (.putfield 21, 3) := by decide +kernel
theorem dX2_init_24 : decode cX2_init 24 = .ok (.aload_n 0, 1) := by decide +kernel
theorem dX2_init_25 : decode cX2_init 25 = .ok (.iconst 0, 1) := by decide +kernel
theorem dX2_init_26 : decode cX2_init 26 = .ok (.putfield 24, 3) := by decide +kernel
theorem dX2_init_29 : decode cX2_init 29 = .ok (.aload_n 0, 1) := by decide +kernel
theorem dX2_init_30 : decode cX2_init 30 = .ok (.iconst 0, 1) := by decide +kernel
theorem dX2_init_31 : decode cX2_init 31 = .ok (.putfield 27, 3) := by decide +kernel
theorem dX2_init_34 : decode cX2_init 34 = .ok (.aload_n 0, 1) := by decide +kernel
theorem dX2_init_35 : decode cX2_init 35 = .ok (.iconst 0, 1) := by decide +kernel
theorem dX2_init_36 : decode cX2_init 36 = .ok (.putfield 30, 3) := by decide +kernel
theorem dX2_init_39 : decode cX2_init 39 = .ok (.aload_n 0, 1) := by decide +kernel
theorem dX2_init_40 : decode cX2_init 40 = .ok (.iconst 0, 1) := by decide +kernel
theorem dX2_init_41 : decode cX2_init 41 = .ok (.putfield 33, 3) := by decide +kernel
theorem dX2_init_44 : decode cX2_init 44 = .ok (.aload_n 0, 1) := by decide +kernel
theorem dX2_init_45 : decode cX2_init 45 = .ok (.iconst 0, 1) := by decide +kernel
theorem dX2_init_46 : decode cX2_init 46 = .ok (.putfield 36, 3) := by decide +kernel
theorem dX2_init_49 : decode cX2_init 49 = .ok (.aload_n 0, 1) := by decide +kernel
theorem dX2_init_50 : decode cX2_init 50 = .ok (.iconst 4, 1) := by decide +kernel
theorem dX2_init_51 : decode cX2_init 51 = .ok (.newarray .int, 2) := by decide +kernel
theorem dX2_init_53 : decode cX2_init 53 = .ok (.putfield 39, 3) := by decide +kernel
theorem dX2_init_56 : decode cX2_init 56 = .ok (.aload_n 0, 1) := by decide +kernel
theorem dX2_init_57 : decode cX2_init 57 = .ok (.bipush 7, 2) := by decide +kernel
theorem dX2_init_59 : decode cX2_init 59 = .ok (.newarray .int, 2) := by decide +kernel
theorem dX2_init_61 : decode cX2_init 61 = .ok (.putfield 43, 3) := by decide +kernel
theorem dX2_init_64 : decode cX2_init 64 = .ok (.aload_n 0, 1) := by decide +kernel
theorem dX2_init_65 : decode cX2_init 65 = .ok (.bipush 28, 2) := by decide +kernel
theorem dX2_init_67 : decode cX2_init 67 = .ok (.newarray .int, 2) := by decide +kernel
theorem dX2_init_69 : decode cX2_init 69 = .ok (.putfield 46, 3) := by decide +kernel
theorem dX2_init_72 : decode cX2_init 72 = .ok (.aload_n 0, 1) := by decide +kernel
theorem dX2_init_73 : decode cX2_init 73 = .ok (.bipush 7, 2) := by decide +kernel
theorem dX2_init_75 : decode cX2_init 75 = .ok (.newarray .int, 2) := by decide +kernel
theorem dX2_init_77 : decode cX2_init 77 = .ok (.putfield 49, 3) := by decide +kernel
theorem dX2_init_80 : decode cX2_init 80 = .ok (.aload_n 0, 1) := by decide +kernel
theorem dX2_init_81 : decode cX2_init 81 = .ok (.bipush 8, 2) := by decide +kernel
theorem dX2_init_83 : decode cX2_init 83 = .ok (.newarray .int, 2) := by decide +kernel
theorem dX2_init_85 : decode cX2_init 85 = .ok (.putfield 52, 3) := by decide +kernel
theorem dX2_init_88 : decode cX2_init 88 = .ok (.aload_n 0, 1) := by decide +kernel
theorem dX2_init_89 : decode cX2_init 89 = .ok (.bipush 8, 2) := by decide +kernel
theorem dX2_init_91 : decode cX2_init 91 = .ok (.newarray .int, 2) := by decide +kernel
theorem dX2_init_93 : decode cX2_init 93 = .ok (.putfield 55, 3) := by decide +kernel
theorem dX2_init_96 : decode cX2_init 96 = .ok (.aload_n 0, 1) := by decide +kernel
theorem dX2_init_97 : decode cX2_init 97 = .ok (.new 58, 3) := by decide +kernel
theorem dX2_init_100 : decode cX2_init 100 = .ok (.dup, 1) := by decide +kernel
theorem dX2_init_101 : decode cX2_init 101 = .ok (.invokespecial 60, 3) := by decide +kernel
theorem dX2_init_104 : decode cX2_init 104 = .ok (.putfield 61, 3) := by decide +kernel
theorem dX2_init_107 : decode cX2_init 107 = .ok (.return_, 1) := by decide +kernel
theorem dX2_clear_0 : decode cX2_clear 0 = .ok (.aload_n 0, 1) := by decide +kernel
theorem dX2_clear_1 : decode cX2_clear 1 = .ok (.iconst 0, 1) := by decide +kernel
theorem dX2_clear_2 : decode cX2_clear 2 = .ok (.putfield 9, 3) := by decide +kernel
theorem dX2_clear_5 : decode cX2_clear 5 = .ok (.aload_n 0, 1) := by decide +kernel
theorem dX2_clear_6 : decode cX2_clear 6 = .ok (.iconst 0, 1) := by decide +kernel
theorem dX2_clear_7 : decode cX2_clear 7 = .ok (.putfield 15, 3) := by decide +kernel
theorem dX2_clear_10 : decode cX2_clear 10 = .ok (.aload_n 0, 1) := by decide +kernel
theorem dX2_clear_11 : decode cX2_clear 11 = .ok (.iconst 0, 1) := by decide +kernel
theorem dX2_clear_12 : decode cX2_clear 12 = .ok (.putfield 18, 3) := by decide +kernel
theorem dX2_clear_15 : decode cX2_clear 15 = .ok (.aload_n 0, 1) := by decide +kernel
theorem dX2_clear_16 : decode cX2_clear 16 = .ok (.iconst 0, 1) := by decide +kernel
theorem dX2_clear_17 : decode cX2_clear 17 = .ok (.putfield 21, 3) := by decide +kernel
theorem dX2_clear_20 : decode cX2_clear 20 = .ok (.aload_n 0, 1) := by decide +kernel
theorem dX2_clear_21 : decode cX2_clear 21 = .ok (.iconst 0, 1) := by decide +kernel
theorem dX2_clear_22 : decode cX2_clear 22 = .ok (.putfield 24, 3) := by decide +kernel
theorem dX2_clear_25 : decode cX2_clear 25 = .ok (.aload_n 0, 1) := by decide +kernel
theorem dX2_clear_26 : decode cX2_clear 26 = .ok (.iconst 0, 1) := by decide +kernel
theorem dX2_clear_27 : decode cX2_clear 27 = .ok (.putfield 27, 3) := by decide +kernel
theorem dX2_clear_30 : decode cX2_clear 30 = .ok (.aload_n 0, 1) := by decide +kernel
theorem dX2_clear_31 : decode cX2_clear 31 = .ok (.iconst 0, 1) := by decide +kernel
theorem dX2_clear_32 : decode cX2_clear 32 = .ok (.putfield 30, 3) := by decide +kernel
theorem dX2_clear_35 : decode cX2_clear 35 = .ok (.aload_n 0, 1) := by decide +kernel
theorem dX2_clear_36 : decode cX2_clear 36 = .ok (.iconst 0, 1) := by decide +kernel
theorem dX2_clear_37 : decode cX2_clear 37 = .ok (.putfield 33, 3) := by decide +kernel
theorem dX2_clear_40 : decode cX2_clear 40 = .ok (.aload_n 0, 1) := by decide +kernel
theorem dX2_clear_41 : decode cX2_clear 41 = .ok (.iconst 0, 1) := by decide +kernel
theorem dX2_clear_42 : decode cX2_clear 42 = .ok (.putfield 36, 3) := by decide +kernel
theorem dX2_clear_45 : decode cX2_clear 45 = .ok (.aload_n 0, 1) := by decide +kernel
theorem dX2_clear_46 : decode cX2_clear 46 = .ok (.getfield 43, 3) := by decide +kernel
theorem dX2_clear_49 : decode cX2_clear 49 = .ok (.iconst 0, 1) := by decide +kernel
theorem dX2_clear_50 : decode cX2_clear 50 = .ok (.invokestatic 65, 3) := by decide +kernel
theorem dX2_clear_53 : decode cX2_clear 53 = .ok (.aload_n 0, 1) := by decide +kernel
theorem dX2_clear_54 : decode cX2_clear 54 = .ok (.getfield 49, 3) := by decide +kernel
theorem dX2_clear_57 : decode cX2_clear 57 = .ok (.iconst 0, 1) := by decide +kernel
theorem dX2_clear_58 : decode cX2_clear 58 = .ok (.invokestatic 65, 3) := by decide +kernel
theorem dX2_clear_61 : decode cX2_clear 61 = .ok (.aload_n 0, 1) := by decide +kernel
theorem dX2_clear_62 : decode cX2_clear 62 = .ok (.getfield 61, 3) := by decide +kernel
theorem dX2_clear_65 : decode cX2_clear 65 = .ok (.invokevirtual 71, 3) := by decide +kernel
theorem dX2_clear_68 : decode cX2_clear 68 = .ok (.return_, 1) := by decide +kernel
theorem dX2_copyFrom_0 : decode cX2_copyFrom 0 = .ok (.aload_n 0, 1) := by decide +kernel
theorem dX2_copyFrom_1 : decode cX2_copyFrom 1 = .ok (.aload_n 1, 1) := by decide +kernel
theorem dX2_copyFrom_2 : decode cX2_copyFrom 2 = .ok (.getfield 9, 3) := by decide +kernel
theorem dX2_copyFrom_5 : decode cX2_copyFrom 5 = .ok (.putfield 9, 3) := by decide +kernel
theorem dX2_copyFrom_8 : decode cX2_copyFrom 8 = .ok (.aload_n 0, 1) := by decide +kernel
theorem dX2_copyFrom_9 : decode cX2_copyFrom 9 = .ok (.aload_n 1, 1) := by decide +kernel
theorem dX2_copyFrom_10 : decode cX2_copyFrom 10 = .ok (.getfield 15, 3) := by decide +kernel
theorem dX2_copyFrom_13 : decode cX2_copyFrom 13 = .ok (.putfield 15, 3) := by decide +kernel
theorem dX2_copyFrom_16 : decode cX2_copyFrom 16 = .ok (.aload_n 0, 1) := by decide +kernel
theorem dX2_copyFrom_17 : decode cX2_copyFrom 17 = .ok (.aload_n 1, 1) := by decide +kernel
theorem dX2_copyFrom_18 : decode cX2_copyFrom 18 = .ok (.getfield 18, 3) := by decide +kernel
theorem dX2_copyFrom_21 : decode cX2_copyFrom 21 = .ok (.putfield 18, 3) := by decide +kernel
theorem dX2_copyFrom_24 : decode cX2_copyFrom 24 = .ok (.aload_n 0, 1) := by decide +kernel
theorem dX2_copyFrom_25 : decode cX2_copyFrom 25 = .ok (.aload_n 1, 1) := by decide +kernel
theorem dX2_copyFrom_26 : decode cX2_copyFrom 26 = .ok (.getfield 21, 3) := by decide +kernel
theorem dX2_copyFrom_29 : decode cX2_copyFrom 29 = .ok (.putfield 21, 3) := by decide +kernel
theorem dX2_copyFrom_32 : decode cX2_copyFrom 32 = .ok (.aload_n 0, 1) := by decide +kernel
theorem dX2_copyFrom_33 : decode cX2_copyFrom 33 = .ok (.aload_n 1, 1) := by decide +kernel
theorem dX2_copyFrom_34 : decode cX2_copyFrom 34 = .ok (.getfield 24, 3) := by decide +kernel
theorem dX2_copyFrom_37 : decode cX2_copyFrom 37 = .ok (.putfield 24, 3) := by decide +kernel
theorem dX2_copyFrom_40 : decode cX2_copyFrom 40 = .ok (.aload_n 0, 1) := by decide +kernel
theorem dX2_copyFrom_41 : decode cX2_copyFrom 41 = .ok (.aload_n 1, 1) := by decide +kernel
theorem dX2_copyFrom_42 : decode cX2_copyFrom 42 = .ok (.getfield 27, 3) := by decide +kernel
theorem dX2_copyFrom_45 : decode cX2_copyFrom 45 = .ok (.putfield 27, 3) := by decide +kernel
theorem dX2_copyFrom_48 : decode cX2_copyFrom 48 = .ok (.aload_n 0, 1) := by decide +kernel
theorem dX2_copyFrom_49 : decode cX2_copyFrom 49 = .ok (.aload_n 1, 1) := by decide +kernel
theorem dX2_copyFrom_50 : decode cX2_copyFrom 50 = .ok (.getfield 30, 3) := by decide +kernel
theorem dX2_copyFrom_53 : decode cX2_copyFrom 53 = .ok (.putfield 30, 3) := by decide +kernel
theorem dX2_copyFrom_56 : decode cX2_copyFrom 56 = .ok (.aload_n 0, 1) := by decide +kernel
theorem dX2_copyFrom_57 : decode cX2_copyFrom 57 = .ok (.aload_n 1, 1) := by decide +kernel
theorem dX2_copyFrom_58 : decode cX2_copyFrom 58 = .ok (.getfield 33, 3) := by decide +kernel
theorem dX2_copyFrom_61 : decode cX2_copyFrom 61 = .ok (.putfield 33, 3) := by decide +kernel
theorem dX2_copyFrom_64 : decode cX2_copyFrom 64 = .ok (.aload_n 0, 1) := by decide +kernel
theorem dX2_copyFrom_65 : decode cX2_copyFrom 65 = .ok (.aload_n 1, 1) := by decide +kernel
theorem dX2_copyFrom_66 : decode cX2_copyFrom 66 = .ok (.getfield 36, 3) := by decide +kernel
theorem dX2_copyFrom_69 : decode cX2_copyFrom 69 = .ok (.putfield 36, 3) := by decide +kernel
theorem dX2_copyFrom_72 : decode cX2_copyFrom 72 = .ok (.aload_n 1, 1) := by decide +kernel
theorem dX2_copyFrom_73 : decode cX2_copyFrom 73 = .ok (.getfield 39, 3) := by decide +kernel
theorem dX2_copyFrom_76 : decode cX2_copyFrom 76 = .ok (.iconst 0, 1) := by decide +kernel
theorem dX2_copyFrom_77 : decode cX2_copyFrom 77 = .ok (.aload_n 0, 1) := by decide +kernel
theorem dX2_copyFrom_78 : decode cX2_copyFrom 78 = .ok (.getfield 39, 3) := by decide +kernel
theorem dX2_copyFrom_81 : decode cX2_copyFrom 81 = .ok (.iconst 0, 1) := by decide +kernel
theorem dX2_copyFrom_82 : decode cX2_copyFrom 82 = .ok (.iconst 4, 1) := by decide +kernel
theorem dX2_copyFrom_83 : decode cX2_copyFrom 83 = .ok (.invokestatic 74, 3) := by decide +kernel
theorem dX2_copyFrom_86 : decode cX2_copyFrom 86 = .ok (.aload_n 1, 1) := by decide +kernel
theorem dX2_copyFrom_87 : decode cX2_copyFrom 87 = .ok (.getfield 43, 3) := by decide +kernel
theorem dX2_copyFrom_90 : decode cX2_copyFrom 90 = .ok (.iconst 0, 1) := by decide +kernel
theorem dX2_copyFrom_91 : decode cX2_copyFrom 91 = .ok (.aload_n 0, 1) := by decide +kernel
theorem dX2_copyFrom_92 : decode cX2_copyFrom 92 = .ok (.getfield 43, 3) := by decide +kernel
theorem dX2_copyFrom_95 : decode cX2_copyFrom 95 = .ok (.iconst 0, 1) := by decide +kernel
theorem dX2_copyFrom_96 : decode cX2_copyFrom 96 = .ok (.bipush 7, 2) := by decide +kernel
theorem dX2_copyFrom_98 : decode cX2_copyFrom 98 = .ok (.invokestatic 74, 3) := by decide +kernel
theorem dX2_copyFrom_101 : decode cX2_copyFrom 101 = .ok (.aload_n 1, 1) := by decide +kernel
theorem dX2_copyFrom_102 : decode cX2_copyFrom 102 = .ok (.getfield 46, 3) := by decide +kernel
theorem dX2_copyFrom_105 : decode cX2_copyFrom 105 = .ok (.iconst 0, 1) := by decide +kernel
theorem dX2_copyFrom_106 : decode cX2_copyFrom 106 = .ok (.aload_n 0, 1) := by decide +kernel
theorem dX2_copyFrom_107 : decode cX2_copyFrom 107 = .ok (.getfield 46, 3) := by decide +kernel
theorem dX2_copyFrom_110 : decode cX2_copyFrom 110 = .ok (.iconst 0, 1) := by decide +kernel
theorem dX2_copyFrom_111 : decode cX2_copyFrom 111 = .ok (.aload_n 0, 1) := by decide +kernel
theorem dX2_copyFrom_112 : decode cX2_copyFrom 112 = .ok (.getfield 46, 3) := by decide +kernel
theorem dX2_copyFrom_115 : decode cX2_copyFrom 115 = .ok (.arraylength, 1) := by decide +kernel
theorem dX2_copyFrom_116 : decode cX2_copyFrom 116 = .ok (.invokestatic 74, 3) := by decide +kernel
theorem dX2_copyFrom_119 : decode cX2_copyFrom 119 = .ok (.aload_n 1, 1) := by decide +kernel
theorem dX2_copyFrom_120 : decode cX2_copyFrom 120 = .ok (.getfield 49, 3) := by decide +kernel
theorem dX2_copyFrom_123 : decode cX2_copyFrom 123 = .ok (.iconst 0, 1) := by decide +kernel
theorem dX2_copyFrom_124 : decode cX2_copyFrom 124 = .ok (.aload_n 0, 1) := by decide +kernel
theorem dX2_copyFrom_125 : decode cX2_copyFrom 125 = .ok (.getfield 49, 3) := by decide +kernel
theorem dX2_copyFrom_128 : decode cX2_copyFrom 128 = .ok (.iconst 0, 1) := by decide +kernel
theorem dX2_copyFrom_129 : decode cX2_copyFrom 129 = .ok (.bipush 7, 2) := by decide +kernel
theorem dX2_copyFrom_131 : decode cX2_copyFrom 131 = .ok (.invokestatic 74, 3) := by decide +kernel
theorem dX2_copyFrom_134 : decode cX2_copyFrom 134 = .ok (.aload_n 1, 1) := by decide +kernel
theorem dX2_copyFrom_135 : decode cX2_copyFrom 135 = .ok (.getfield 52, 3) := by decide +kernel
theorem dX2_copyFrom_138 : decode cX2_copyFrom 138 = .ok (.iconst 0, 1) := by decide +kernel
theorem dX2_copyFrom_139 : decode cX2_copyFrom 139 = .ok (.aload_n 0, 1) := by decide +kernel
theorem dX2_copyFrom_140 : decode cX2_copyFrom 140 = .ok (.getfield 52, 3) := by decide +kernel
theorem dX2_copyFrom_143 : decode cX2_copyFrom 143 = .ok (.iconst 0, 1) := by decide +kernel
theorem dX2_copyFrom_144 : decode cX2_copyFrom 144 = .ok (.bipush 8, 2) := by decide +kernel
theorem dX2_copyFrom_146 : decode cX2_copyFrom 146 = .ok (.invokestatic 74, 3) := by decide +kernel
theorem dX2_copyFrom_149 : decode cX2_copyFrom 149 = .ok (.aload_n 1, 1) := by decide +kernel
theorem dX2_copyFrom_150 : decode cX2_copyFrom 150 = .ok (.getfield 55, 3) := by decide +kernel
theorem dX2_copyFrom_153 : decode cX2_copyFrom 153 = .ok (.iconst 0, 1) := by decide +kernel
theorem dX2_copyFrom_154 : decode cX2_copyFrom 154 = .ok (.aload_n 0, 1) := by decide +kernel
theorem dX2_copyFrom_155 : decode cX2_copyFrom 155 = .ok (.getfield 55, 3) := by decide +kernel
theorem dX2_copyFrom_158 : decode cX2_copyFrom 158 = .ok (.iconst 0, 1) := by decide +kernel
theorem dX2_copyFrom_159 : decode cX2_copyFrom 159 = .ok (.bipush 8, 2) := by decide +kernel
theorem dX2_copyFrom_161 : decode cX2_copyFrom 161 = .ok (.invokestatic 74, 3) := by decide +kernel
theorem dX2_copyFrom_164 : decode cX2_copyFrom 164 = .ok (.aload_n 0, 1) := by decide +kernel
theorem dX2_copyFrom_165 : decode cX2_copyFrom 165 = .ok (.getfield 61, 3) := by decide +kernel
theorem dX2_copyFrom_168 : decode cX2_copyFrom 168 = .ok (.aload_n 1, 1) := by decide +kernel
theorem dX2_copyFrom_169 : decode cX2_copyFrom 169 = .ok (.getfield 61, 3) := by decide +kernel
theorem dX2_copyFrom_172 : decode cX2_copyFrom 172 = .ok (.invokevirtual 80, 3) := by decide +kernel
theorem dX2_copyFrom_175 : decode cX2_copyFrom 175 = .ok (.return_, 1) := by decide +kernel
theorem dX2_isTold_0 : decode cX2_isTold 0 = .ok (.aload_n 0, 1) := by decide +kernel
theorem dX2_isTold_1 : decode cX2_isTold 1 = .ok (.getfield 9, 3) := by decide +kernel
theorem dX2_isTold_4 : decode cX2_isTold 4 = .ok (.ifCond .le 7, 3) := by decide +kernel
theorem dX2_isTold_11 : decode cX2_isTold 11 = .ok (.iconst 0, 1) := by decide +kernel
theorem dX2_isTold_12 : decode cX2_isTold 12 = .ok (.ireturn, 1) := by decide +kernel
theorem dX2_hasInn_0 : decode cX2_hasInn 0 = .ok (.iload_n 1, 1) := by decide +kernel
theorem dX2_hasInn_1 : decode cX2_hasInn 1 = .ok (.ifCond .lt 15, 3) := by decide +kernel
theorem dX2_hasInn_4 : decode cX2_hasInn 4 = .ok (.iload_n 1, 1) := by decide +kernel
theorem dX2_hasInn_5 : decode cX2_hasInn 5 = .ok (.aload_n 0, 1) := by decide +kernel
theorem dX2_hasInn_6 : decode cX2_hasInn 6 = .ok (.getfield 24, 3) := by decide +kernel
theorem dX2_hasInn_9 : decode cX2_hasInn 9 = .ok (.if_icmp .ge 7, 3) := by decide +kernel
theorem dX2_hasInn_16 : decode cX2_hasInn 16 = .ok (.iconst 0, 1) := by decide +kernel
theorem dX2_hasInn_17 : decode cX2_hasInn 17 = .ok (.ireturn, 1) := by decide +kernel
theorem dX2_hasPost_0 : decode cX2_hasPost 0 = .ok (.iload_n 1, 1) := by decide +kernel
theorem dX2_hasPost_1 : decode cX2_hasPost 1 = .ok (.ifCond .lt 15, 3) := by decide +kernel
theorem dX2_hasPost_4 : decode cX2_hasPost 4 = .ok (.iload_n 1, 1) := by decide +kernel
theorem dX2_hasPost_5 : decode cX2_hasPost 5 = .ok (.aload_n 0, 1) := by decide +kernel
theorem dX2_hasPost_6 : decode cX2_hasPost 6 = .ok (.getfield 27, 3) := by decide +kernel
theorem dX2_hasPost_9 : decode cX2_hasPost 9 = .ok (.if_icmp .ge 7, 3) := by decide +kernel
theorem dX2_hasPost_16 : decode cX2_hasPost 16 = .ok (.iconst 0, 1) := by decide +kernel
theorem dX2_hasPost_17 : decode cX2_hasPost 17 = .ok (.ireturn, 1) := by decide +kernel
theorem dX2_hasPlace_0 : decode cX2_hasPlace 0 = .ok (.iload_n 1, 1) := by decide +kernel
theorem dX2_hasPlace_1 : decode cX2_hasPlace 1 = .ok (.bipush 10, 2) := by decide +kernel
theorem dX2_hasPlace_3 : decode cX2_hasPlace 3 = .ok (.if_icmp .ge 11, 3) := by decide +kernel
theorem dX2_hasPlace_6 : decode cX2_hasPlace 6 = .ok (.aload_n 0, 1) := by decide +kernel
theorem dX2_hasPlace_7 : decode cX2_hasPlace 7 = .ok (.iload_n 1, 1) := by decide +kernel
theorem dX2_hasPlace_8 : decode cX2_hasPlace 8 = .ok (.invokevirtual 84, 3) := by decide +kernel
theorem dX2_hasPlace_11 : decode cX2_hasPlace 11 = .ok (.goto 11, 3) := by decide +kernel
theorem dX2_hasPlace_14 : decode cX2_hasPlace 14 = .ok (.aload_n 0, 1) := by decide +kernel
theorem dX2_hasPlace_15 : decode cX2_hasPlace 15 = .ok (.iload_n 1, 1) := by decide +kernel
theorem dX2_hasPlace_16 : decode cX2_hasPlace 16 = .ok (.bipush 10, 2) := by decide +kernel
theorem dX2_hasPlace_18 : decode cX2_hasPlace 18 = .ok (.isub, 1) := by decide +kernel
theorem dX2_hasPlace_19 : decode cX2_hasPlace 19 = .ok (.invokevirtual 88, 3) := by decide +kernel
theorem dX2_hasPlace_22 : decode cX2_hasPlace 22 = .ok (.ireturn, 1) := by decide +kernel
theorem dX2_hasWalker_0 : decode cX2_hasWalker 0 = .ok (.iload_n 1, 1) := by decide +kernel
theorem dX2_hasWalker_1 : decode cX2_hasWalker 1 = .ok (.ifCond .lt 15, 3) := by decide +kernel
theorem dX2_hasWalker_4 : decode cX2_hasWalker 4 = .ok (.iload_n 1, 1) := by decide +kernel
theorem dX2_hasWalker_5 : decode cX2_hasWalker 5 = .ok (.aload_n 0, 1) := by decide +kernel
theorem dX2_hasWalker_6 : decode cX2_hasWalker 6 = .ok (.getfield 36, 3) := by decide +kernel
theorem dX2_hasWalker_9 : decode cX2_hasWalker 9 = .ok (.if_icmp .ge 7, 3) := by decide +kernel
theorem dX2_hasWalker_16 : decode cX2_hasWalker 16 = .ok (.iconst 0, 1) := by decide +kernel
theorem dX2_hasWalker_17 : decode cX2_hasWalker 17 = .ok (.ireturn, 1) := by decide +kernel
theorem dX2_hasHour_0 : decode cX2_hasHour 0 = .ok (.aload_n 0, 1) := by decide +kernel
theorem dX2_hasHour_1 : decode cX2_hasHour 1 = .ok (.invokevirtual 91, 3) := by decide +kernel
theorem dX2_hasHour_4 : decode cX2_hasHour 4 = .ok (.ifCond .eq 19, 3) := by decide +kernel
theorem dX2_hasHour_23 : decode cX2_hasHour 23 = .ok (.iconst 0, 1) := by decide +kernel
theorem dX2_hasHour_24 : decode cX2_hasHour 24 = .ok (.ireturn, 1) := by decide +kernel
theorem dX2_hasHourAhead_0 : decode cX2_hasHourAhead 0 = .ok (.aload_n 0, 1) := by decide +kernel
theorem dX2_hasHourAhead_1 : decode cX2_hasHourAhead 1 = .ok (.iload_n 1, 1) := by decide +kernel
theorem dX2_hasHourAhead_2 : decode cX2_hasHourAhead 2 = .ok (.invokevirtual 95, 3) := by decide +kernel
theorem dX2_hasHourAhead_5 : decode cX2_hasHourAhead 5 = .ok (.ifCond .eq 15, 3) := by decide +kernel
theorem dX2_hasHourAhead_20 : decode cX2_hasHourAhead 20 = .ok (.iconst 0, 1) := by decide +kernel
theorem dX2_hasHourAhead_21 : decode cX2_hasHourAhead 21 = .ok (.ireturn, 1) := by decide +kernel
theorem dX3_init_0 : decode cX3_init 0 = .ok (.aload_n 0, 1) := by decide +kernel
theorem dX3_init_1 : decode cX3_init 1 = .ok (.invokespecial 3, 3) := by decide +kernel
theorem dX3_init_4 : decode cX3_init 4 = .ok (.aload_n 0, 1) := by decide +kernel
theorem dX3_init_5 : decode cX3_init 5 = .ok (.bipush 7, 2) := by decide +kernel
theorem dX3_init_7 : decode cX3_init 7 = .ok (.newarray .int, 2) := by decide +kernel
theorem dX3_init_9 : decode cX3_init 9 = .ok (.putfield 9, 3) := by decide +kernel
theorem dX3_init_12 : decode cX3_init 12 = .ok (.aload_n 0, 1) := by decide +kernel
theorem dX3_init_13 : decode cX3_init 13 = .ok (.iconst 0, 1) := by decide +kernel
theorem dX3_init_14 : decode cX3_init 14 = .ok (.putfield 15, 3) := by decide +kernel
theorem dX3_init_17 : decode cX3_init 17 = .ok (.aload_n 0, 1) := by decide +kernel
theorem dX3_init_18 : decode cX3_init 18 = .ok (.aload_n 1, 1) := by decide +kernel
theorem dX3_init_19 : decode cX3_init 19 = .ok (.putfield 19, 3) := by decide +kernel
theorem dX3_init_22 : decode cX3_init 22 = .ok (.return_, 1) := by decide +kernel
theorem dX4_init_0 : decode cX4_init 0 = .ok (.aload_n 0, 1) := by decide +kernel
theorem dX4_init_1 : decode cX4_init 1 = .ok (.invokespecial 3, 3) := by decide +kernel
theorem dX4_init_4 : decode cX4_init 4 = .ok (.aload_n 0, 1) := by decide +kernel
theorem dX4_init_5 : decode cX4_init 5 = .ok (.iconst 0, 1) := by decide +kernel
theorem dX4_init_6 : decode cX4_init 6 = .ok (.putfield 9, 3) := by decide +kernel
theorem dX4_init_9 : decode cX4_init 9 = .ok (.aload_n 0, 1) := by decide +kernel
theorem dX4_init_10 : decode cX4_init 10 = .ok (.bipush 127, 2) := by decide +kernel
theorem dX4_init_12 : decode cX4_init 12 = .ok (.putfield 15, 3) := by decide +kernel
theorem dX4_init_15 : decode cX4_init 15 = .ok (.aload_n 0, 1) := by decide +kernel
theorem dX4_init_16 : decode cX4_init 16 = .ok (.iconst 0, 1) := by decide +kernel
theorem dX4_init_17 : decode cX4_init 17 = .ok (.putfield 18, 3) := by decide +kernel
theorem dX4_init_20 : decode cX4_init 20 = .ok (.aload_n 0, 1) := by decide +kernel
theorem dX4_init_21 : decode cX4_init 21 = .ok (.bipush 8, 2) := by decide +kernel
theorem dX4_init_23 : decode cX4_init 23 = .ok (.newarray .int, 2) := by decide +kernel
theorem dX4_init_25 : decode cX4_init 25 = .ok (.putfield 21, 3) := by decide +kernel
theorem dX4_init_28 : decode cX4_init 28 = .ok (.aload_n 0, 1) := by decide +kernel
theorem dX4_init_29 : decode cX4_init 29 = .ok (.sipush 136, 3) := by decide +kernel
theorem dX4_init_32 : decode cX4_init 32 = .ok (.newarray .int, 2) := by decide +kernel
theorem dX4_init_34 : decode cX4_init 34 = .ok (.putfield 25, 3) := by decide +kernel
theorem dX4_init_37 : decode cX4_init 37 = .ok (.aload_n 0, 1) := by decide +kernel
theorem dX4_init_38 : decode cX4_init 38 = .ok (.bipush 119, 2) := by decide +kernel
theorem dX4_init_40 : decode cX4_init 40 = .ok (.newarray .int, 2) := by decide +kernel
theorem dX4_init_42 : decode cX4_init 42 = .ok (.putfield 28, 3) := by decide +kernel
theorem dX4_init_45 : decode cX4_init 45 = .ok (.aload_n 0, 1) := by decide +kernel
theorem dX4_init_46 : decode cX4_init 46 = .ok (.sipush 136, 3) := by decide +kernel
theorem dX4_init_49 : decode cX4_init 49 = .ok (.newarray .int, 2) := by decide +kernel
theorem dX4_init_51 : decode cX4_init 51 = .ok (.putfield 31, 3) := by decide +kernel
theorem dX4_init_54 : decode cX4_init 54 = .ok (.aload_n 0, 1) := by decide +kernel
theorem dX4_init_55 : decode cX4_init 55 = .ok (.iconst 4, 1) := by decide +kernel
theorem dX4_init_56 : decode cX4_init 56 = .ok (.newarray .int, 2) := by decide +kernel
theorem dX4_init_58 : decode cX4_init 58 = .ok (.putfield 34, 3) := by decide +kernel
theorem dX4_init_61 : decode cX4_init 61 = .ok (.aload_n 0, 1) := by decide +kernel
theorem dX4_init_62 : decode cX4_init 62 = .ok (.aload_n 1, 1) := by decide +kernel
theorem dX4_init_63 : decode cX4_init 63 = .ok (.putfield 37, 3) := by decide +kernel
theorem dX4_init_66 : decode cX4_init 66 = .ok (.return_, 1) := by decide +kernel
theorem dX4_prepare_0 : decode cX4_prepare 0 = .ok (.aload_n 0, 1) := by decide +kernel
theorem dX4_prepare_1 : decode cX4_prepare 1 = .ok (.aload_n 0, 1) := by decide +kernel
theorem dX4_prepare_2 : decode cX4_prepare 2 = .ok (.getfield 37, 3) := by decide +kernel
theorem dX4_prepare_5 : decode cX4_prepare 5 = .ok (.getfield 41, 3) := by decide +kernel
theorem dX4_prepare_8 : decode cX4_prepare 8 = .ok (.putfield 9, 3) := by decide +kernel
theorem dX4_prepare_11 : decode cX4_prepare 11 = .ok (.aload_n 0, 1) := by decide +kernel
theorem dX4_prepare_12 : decode cX4_prepare 12 = .ok (.bipush 127, 2) := by decide +kernel
theorem dX4_prepare_14 : decode cX4_prepare 14 = .ok (.putfield 15, 3) := by decide +kernel
theorem dX4_prepare_17 : decode cX4_prepare 17 = .ok (.aload_n 0, 1) := by decide +kernel
theorem dX4_prepare_18 : decode cX4_prepare 18 = .ok (.iconst 0, 1) := by decide +kernel
theorem dX4_prepare_19 : decode cX4_prepare 19 = .ok (.putfield 18, 3) := by decide +kernel
theorem dX4_prepare_22 : decode cX4_prepare 22 = .ok (.aload_n 0, 1) := by decide +kernel
theorem dX4_prepare_23 : decode cX4_prepare 23 = .ok (.getfield 37, 3) := by decide +kernel
theorem dX4_prepare_26 : decode cX4_prepare 26 = .ok (.getfield 44, 3) := by decide +kernel
theorem dX4_prepare_29 : decode cX4_prepare 29 = .ok (.iconst 0, 1) := by decide +kernel
theorem dX4_prepare_30 : decode cX4_prepare 30 = .ok (.aload_n 0, 1) := by decide +kernel
theorem dX4_prepare_31 : decode cX4_prepare 31 = .ok (.getfield 21, 3) := by decide +kernel
theorem dX4_prepare_34 : decode cX4_prepare 34 = .ok (.iconst 0, 1) := by decide +kernel
theorem dX4_prepare_35 : decode cX4_prepare 35 = .ok (.bipush 8, 2) := by decide +kernel
theorem dX4_prepare_37 : decode cX4_prepare 37 = .ok (.invokestatic 45, 3) := by decide +kernel
theorem dX4_prepare_40 : decode cX4_prepare 40 = .ok (.aload_n 0, 1) := by decide +kernel
theorem dX4_prepare_41 : decode cX4_prepare 41 = .ok (.getfield 37, 3) := by decide +kernel
theorem dX4_prepare_44 : decode cX4_prepare 44 = .ok (.getfield 51, 3) := by decide +kernel
theorem dX4_prepare_47 : decode cX4_prepare 47 = .ok (.iconst 0, 1) := by decide +kernel
theorem dX4_prepare_48 : decode cX4_prepare 48 = .ok (.aload_n 0, 1) := by decide +kernel
theorem dX4_prepare_49 : decode cX4_prepare 49 = .ok (.getfield 28, 3) := by decide +kernel
theorem dX4_prepare_52 : decode cX4_prepare 52 = .ok (.iconst 0, 1) := by decide +kernel
theorem dX4_prepare_53 : decode cX4_prepare 53 = .ok (.bipush 7, 2) := by decide +kernel
theorem dX4_prepare_55 : decode cX4_prepare 55 = .ok (.invokestatic 45, 3) := by decide +kernel
theorem dX4_prepare_58 : decode cX4_prepare 58 = .ok (.return_, 1) := by decide +kernel
theorem dX4_run_0 : decode cX4_run 0 = .ok (.aload_n 0, 1) := by decide +kernel
theorem dX4_run_1 : decode cX4_run 1 = .ok (.invokevirtual 54, 3) := by decide +kernel
theorem dX4_run_4 : decode cX4_run 4 = .ok (.iconst 0, 1) := by decide +kernel
theorem dX4_run_5 : decode cX4_run 5 = .ok (.istore_n 1, 1) := by decide +kernel
theorem dX4_run_6 : decode cX4_run 6 = .ok (.iload_n 1, 1) := by decide +kernel
theorem dX4_run_7 : decode cX4_run 7 = .ok (.aload_n 0, 1) := by decide +kernel
theorem dX4_run_8 : decode cX4_run 8 = .ok (.getfield 37, 3) := by decide +kernel
theorem dX4_run_11 : decode cX4_run 11 = .ok (.getfield 57, 3) := by decide +kernel
theorem dX4_run_14 : decode cX4_run 14 = .ok (.if_icmp .ge 14, 3) := by decide +kernel
theorem dX4_run_28 : decode cX4_run 28 = .ok (.return_, 1) := by decide +kernel
theorem dX4_begin_0 : decode cX4_begin 0 = .ok (.iconst 0, 1) := by decide +kernel
theorem dX4_begin_1 : decode cX4_begin 1 = .ok (.istore_n 1, 1) := by decide +kernel
theorem dX4_begin_2 : decode cX4_begin 2 = .ok (.iload_n 1, 1) := by decide +kernel
theorem dX4_begin_3 : decode cX4_begin 3 = .ok (.aload_n 0, 1) := by decide +kernel
theorem dX4_begin_4 : decode cX4_begin 4 = .ok (.getfield 37, 3) := by decide +kernel
theorem dX4_begin_7 : decode cX4_begin 7 = .ok (.getfield 64, 3) := by decide +kernel
theorem dX4_begin_10 : decode cX4_begin 10 = .ok (.if_icmp .ge 37, 3) := by decide +kernel
theorem dX4_begin_47 : decode cX4_begin 47 = .ok (.return_, 1) := by decide +kernel
theorem dX6_init_0 : decode cX6_init 0 = .ok (.aload_n 0, 1) := by decide +kernel
theorem dX6_init_1 : decode cX6_init 1 = .ok (.invokespecial 3, 3) := by decide +kernel
theorem dX6_init_4 : decode cX6_init 4 = .ok (.aload_n 0, 1) := by decide +kernel
theorem dX6_init_5 : decode cX6_init 5 = .ok (.sipush 800, 3) := by decide +kernel
theorem dX6_init_8 : decode cX6_init 8 = .ok (.newarray .byte, 2) := by decide +kernel
theorem dX6_init_10 : decode cX6_init 10 = .ok (.putfield 9, 3) := by decide +kernel
theorem dX6_init_13 : decode cX6_init 13 = .ok (.aload_n 0, 1) := by decide +kernel
theorem dX6_init_14 : decode cX6_init 14 = .ok (.iconst 0, 1) := by decide +kernel
theorem dX6_init_15 : decode cX6_init 15 = .ok (.putfield 15, 3) := by decide +kernel
theorem dX6_init_18 : decode cX6_init 18 = .ok (.aload_n 0, 1) := by decide +kernel
theorem dX6_init_19 : decode cX6_init 19 = .ok (.iconst 0, 1) := by decide +kernel
theorem dX6_init_20 : decode cX6_init 20 = .ok (.putfield 19, 3) := by decide +kernel
theorem dX6_init_23 : decode cX6_init 23 = .ok (.aload_n 0, 1) := by decide +kernel
theorem dX6_init_24 : decode cX6_init 24 = .ok (.iconst (-1), 1) := by decide +kernel
theorem dX6_init_25 : decode cX6_init 25 = .ok (.putfield 22, 3) := by decide +kernel
theorem dX6_init_28 : decode cX6_init 28 = .ok (.aload_n 0, 1) := by decide +kernel
theorem dX6_init_29 : decode cX6_init 29 = .ok (.iconst 0, 1) := by decide +kernel
theorem dX6_init_30 : decode cX6_init 30 = .ok (.putfield 25, 3) := by decide +kernel
theorem dX6_init_33 : decode cX6_init 33 = .ok (.aload_n 0, 1) := by decide +kernel
theorem dX6_init_34 : decode cX6_init 34 = .ok (.iconst 0, 1) := by decide +kernel
theorem dX6_init_35 : decode cX6_init 35 = .ok (.putfield 28, 3) := by decide +kernel
theorem dX6_init_38 : decode cX6_init 38 = .ok (.aload_n 0, 1) := by decide +kernel
theorem dX6_init_39 : decode cX6_init 39 = .ok (.iconst 0, 1) := by decide +kernel
theorem dX6_init_40 : decode cX6_init 40 = .ok (.putfield 31, 3) := by decide +kernel
theorem dX6_init_43 : decode cX6_init 43 = .ok (.aload_n 0, 1) := by decide +kernel
theorem dX6_init_44 : decode cX6_init 44 = .ok (.iconst 0, 1) := by decide +kernel
theorem dX6_init_45 : decode cX6_init 45 = .ok (.putfield 34, 3) := by decide +kernel
theorem dX6_init_48 : decode cX6_init 48 = .ok (.return_, 1) := by decide +kernel
theorem dX6_readInto_0 : decode cX6_readInto 0 = .ok (.aload_n 1, 1) := by decide +kernel
theorem dX6_readInto_1 : decode cX6_readInto 1 = .ok (.invokevirtual 37, 3) := by decide +kernel
theorem dX6_readInto_4 : decode cX6_readInto 4 = .ok (.aload_n 0, 1) := by decide +kernel
theorem dX6_readInto_5 : decode cX6_readInto 5 = .ok (.iconst 0, 1) := by decide +kernel
theorem dX6_readInto_6 : decode cX6_readInto 6 = .ok (.putfield 19, 3) := by decide +kernel
theorem dX6_readInto_9 : decode cX6_readInto 9 = .ok (.aload_n 0, 1) := by decide +kernel
theorem dX6_readInto_10 : decode cX6_readInto 10 = .ok (.iconst (-1), 1) := by decide +kernel
theorem dX6_readInto_11 : decode cX6_readInto 11 = .ok (.putfield 22, 3) := by decide +kernel
theorem dX6_readInto_14 : decode cX6_readInto 14 = .ok (.aload_n 0, 1) := by decide +kernel
theorem dX6_readInto_15 : decode cX6_readInto 15 = .ok (.iconst 0, 1) := by decide +kernel
theorem dX6_readInto_16 : decode cX6_readInto 16 = .ok (.putfield 31, 3) := by decide +kernel
theorem dX6_readInto_19 : decode cX6_readInto 19 = .ok (.aload_n 0, 1) := by decide +kernel
theorem dX6_readInto_20 : decode cX6_readInto 20 = .ok (.invokevirtual 42, 3) := by decide +kernel
theorem dX6_readInto_23 : decode cX6_readInto 23 = .ok (.iconst 0, 1) := by decide +kernel
theorem dX6_readInto_24 : decode cX6_readInto 24 = .ok (.istore_n 2, 1) := by decide +kernel
theorem dX6_readInto_25 : decode cX6_readInto 25 = .ok (.iload_n 2, 1) := by decide +kernel
theorem dX6_readInto_26 : decode cX6_readInto 26 = .ok (.sipush 800, 3) := by decide +kernel
theorem dX6_readInto_29 : decode cX6_readInto 29 = .ok (.if_icmp .gt 42, 3) := by decide +kernel
theorem dX6_readInto_32 : decode cX6_readInto 32 = .ok (.aload_n 0, 1) := by decide +kernel
theorem dX6_readInto_33 : decode cX6_readInto 33 = .ok (.getfield 19, 3) := by decide +kernel
theorem dX6_readInto_36 : decode cX6_readInto 36 = .ok (.ifCond .ne 35, 3) := by decide +kernel
theorem dX6_readInto_39 : decode cX6_readInto 39 = .ok (.aload_n 0, 1) := by decide +kernel
theorem dX6_readInto_40 : decode cX6_readInto 40 = .ok (.getfield 25, 3) := by decide +kernel
theorem dX6_readInto_43 : decode cX6_readInto 43 = .ok (.ifCond .eq 28, 3) := by decide +kernel
theorem dX6_readInto_71 : decode cX6_readInto 71 = .ok (.return_, 1) := by decide +kernel
theorem dX6_take_0 : decode cX6_take 0 = .ok (.aload_n 0, 1) := by decide +kernel
theorem dX6_take_1 : decode cX6_take 1 = .ok (.getfield 19, 3) := by decide +kernel
theorem dX6_take_4 : decode cX6_take 4 = .ok (.ifCond .eq 4, 3) := by decide +kernel
theorem dX6_take_8 : decode cX6_take 8 = .ok (.aload_n 0, 1) := by decide +kernel
theorem dX6_take_9 : decode cX6_take 9 = .ok (.getfield 31, 3) := by decide +kernel
theorem dX6_take_12 : decode cX6_take 12 = .ok (.aload_n 0, 1) := by decide +kernel
theorem dX6_take_13 : decode cX6_take 13 = .ok (.getfield 15, 3) := by decide +kernel
theorem dX6_take_16 : decode cX6_take 16 = .ok (.if_icmp .ge 31, 3) := by decide +kernel
theorem dX6_take_47 : decode cX6_take 47 = .ok (.aload_n 0, 1) := by decide +kernel
theorem dX6_take_48 : decode cX6_take 48 = .ok (.aload_n 0, 1) := by decide +kernel
theorem dX6_take_49 : decode cX6_take 49 = .ok (.getfield 31, 3) := by decide +kernel
theorem dX6_take_52 : decode cX6_take 52 = .ok (.putfield 28, 3) := by decide +kernel
theorem dX6_take_55 : decode cX6_take 55 = .ok (.aload_n 0, 1) := by decide +kernel
theorem dX6_take_56 : decode cX6_take 56 = .ok (.iconst 0, 1) := by decide +kernel
theorem dX6_take_57 : decode cX6_take 57 = .ok (.putfield 34, 3) := by decide +kernel
theorem dX6_take_60 : decode cX6_take 60 = .ok (.aload_n 0, 1) := by decide +kernel
theorem dX6_take_61 : decode cX6_take 61 = .ok (.getfield 31, 3) := by decide +kernel
theorem dX6_take_64 : decode cX6_take 64 = .ok (.aload_n 0, 1) := by decide +kernel
theorem dX6_take_65 : decode cX6_take 65 = .ok (.getfield 15, 3) := by decide +kernel
theorem dX6_take_68 : decode cX6_take 68 = .ok (.if_icmp .lt 11, 3) := by decide +kernel
theorem dX6_take_71 : decode cX6_take 71 = .ok (.aload_n 0, 1) := by decide +kernel
theorem dX6_take_72 : decode cX6_take 72 = .ok (.iconst 0, 1) := by decide +kernel
theorem dX6_take_73 : decode cX6_take 73 = .ok (.putfield 25, 3) := by decide +kernel
theorem dX6_take_76 : decode cX6_take 76 = .ok (.goto 183, 3) := by decide +kernel
theorem dX6_take_259 : decode cX6_take 259 = .ok (.return_, 1) := by decide +kernel
theorem dX7_init_0 : decode cX7_init 0 = .ok (.aload_n 0, 1) := by decide +kernel
theorem dX7_init_1 : decode cX7_init 1 = .ok (.invokespecial 3, 3) := by decide +kernel
theorem dX7_init_4 : decode cX7_init 4 = .ok (.aload_n 0, 1) := by decide +kernel
theorem dX7_init_5 : decode cX7_init 5 = .ok (.new 9, 3) := by decide +kernel
theorem dX7_init_8 : decode cX7_init 8 = .ok (.dup, 1) := by decide +kernel
theorem dX7_init_9 : decode cX7_init 9 = .ok (.invokespecial 11, 3) := by decide +kernel
theorem dX7_init_12 : decode cX7_init 12 = .ok (.putfield 12, 3) := by decide +kernel
theorem dX7_init_15 : decode cX7_init 15 = .ok (.aload_n 0, 1) := by decide +kernel
theorem dX7_init_16 : decode cX7_init 16 = .ok (.new 16, 3) := by decide +kernel
theorem dX7_init_19 : decode cX7_init 19 = .ok (.dup, 1) := by decide +kernel
theorem dX7_init_20 : decode cX7_init 20 = .ok (.invokespecial 18, 3) := by decide +kernel
theorem dX7_init_23 : decode cX7_init 23 = .ok (.putfield 19, 3) := by decide +kernel
theorem dX7_init_26 : decode cX7_init 26 = .ok (.aload_n 0, 1) := by decide +kernel
theorem dX7_init_27 : decode cX7_init 27 = .ok (.new 16, 3) := by decide +kernel
theorem dX7_init_30 : decode cX7_init 30 = .ok (.dup, 1) := by decide +kernel
theorem dX7_init_31 : decode cX7_init 31 = .ok (.invokespecial 18, 3) := by decide +kernel
theorem dX7_init_34 : decode cX7_init 34 = .ok (.putfield 23, 3) := by decide +kernel
theorem dX7_init_37 : decode cX7_init 37 = .ok (.aload_n 0, 1) := by decide +kernel
theorem dX7_init_38 : decode cX7_init 38 = .ok (.iconst 3, 1) := by decide +kernel
theorem dX7_init_39 : decode cX7_init 39 = .ok (.anewarray 16, 3) := by decide +kernel
theorem dX7_init_42 : decode cX7_init 42 = .ok (.putfield 26, 3) := by decide +kernel
theorem dX7_init_45 : decode cX7_init 45 = .ok (.aload_n 0, 1) := by decide +kernel
theorem dX7_init_46 : decode cX7_init 46 = .ok (.iconst 4, 1) := by decide +kernel
theorem dX7_init_47 : decode cX7_init 47 = .ok (.anewarray 30, 3) := by decide +kernel
theorem dX7_init_50 : decode cX7_init 50 = .ok (.putfield 32, 3) := by decide +kernel
theorem dX7_init_53 : decode cX7_init 53 = .ok (.aload_n 0, 1) := by decide +kernel
theorem dX7_init_54 : decode cX7_init 54 = .ok (.new 36, 3) := by decide +kernel
theorem dX7_init_57 : decode cX7_init 57 = .ok (.dup, 1) := by decide +kernel
theorem dX7_init_58 : decode cX7_init 58 = .ok (.aload_n 0, 1) := by decide +kernel
theorem dX7_init_59 : decode cX7_init 59 = .ok (.getfield 19, 3) := by decide +kernel
theorem dX7_init_62 : decode cX7_init 62 = .ok (.invokespecial 38, 3) := by decide +kernel
theorem dX7_init_65 : decode cX7_init 65 = .ok (.putfield 41, 3) := by decide +kernel
theorem dX7_init_68 : decode cX7_init 68 = .ok (.aload_n 0, 1) := by decide +kernel
theorem dX7_init_69 : decode cX7_init 69 = .ok (.new 36, 3) := by decide +kernel
theorem dX7_init_72 : decode cX7_init 72 = .ok (.dup, 1) := by decide +kernel
theorem dX7_init_73 : decode cX7_init 73 = .ok (.aload_n 0, 1) := by decide +kernel
theorem dX7_init_74 : decode cX7_init 74 = .ok (.getfield 19, 3) := by decide +kernel
theorem dX7_init_77 : decode cX7_init 77 = .ok (.invokespecial 38, 3) := by decide +kernel
theorem dX7_init_80 : decode cX7_init 80 = .ok (.putfield 45, 3) := by decide +kernel
theorem dX7_init_83 : decode cX7_init 83 = .ok (.aload_n 0, 1) := by decide +kernel
theorem dX7_init_84 : decode cX7_init 84 = .ok (.new 48, 3) := by decide +kernel
theorem dX7_init_87 : decode cX7_init 87 = .ok (.dup, 1) := by decide +kernel
theorem dX7_init_88 : decode cX7_init 88 = .ok (.aload_n 0, 1) := by decide +kernel
theorem dX7_init_89 : decode cX7_init 89 = .ok (.getfield 19, 3) := by decide +kernel
theorem dX7_init_92 : decode cX7_init 92 = .ok (.invokespecial 50, 3) := by decide +kernel
theorem dX7_init_95 : decode cX7_init 95 = .ok (.putfield 51, 3) := by decide +kernel
theorem dX7_init_98 : decode cX7_init 98 = .ok (.aload_n 0, 1) := by decide +kernel
theorem dX7_init_99 : decode cX7_init 99 = .ok (.new 55, 3) := by decide +kernel
theorem dX7_init_102 : decode cX7_init 102 = .ok (.dup, 1) := by decide +kernel
theorem dX7_init_103 : decode cX7_init 103 = .ok (.aload_n 0, 1) := by decide +kernel
theorem dX7_init_104 : decode cX7_init 104 = .ok (.getfield 19, 3) := by decide +kernel
theorem dX7_init_107 : decode cX7_init 107 = .ok (.invokespecial 57, 3) := by decide +kernel
theorem dX7_init_110 : decode cX7_init 110 = .ok (.putfield 58, 3) := by decide +kernel
theorem dX7_init_113 : decode cX7_init 113 = .ok (.aload_n 0, 1) := by decide +kernel
theorem dX7_init_114 : decode cX7_init 114 = .ok (.sipush 128, 3) := by decide +kernel
theorem dX7_init_117 : decode cX7_init 117 = .ok (.newarray .int, 2) := by decide +kernel
theorem dX7_init_119 : decode cX7_init 119 = .ok (.putfield 62, 3) := by decide +kernel
theorem dX7_init_122 : decode cX7_init 122 = .ok (.aload_n 0, 1) := by decide +kernel
theorem dX7_init_123 : decode cX7_init 123 = .ok (.iconst 0, 1) := by decide +kernel
theorem dX7_init_124 : decode cX7_init 124 = .ok (.putfield 66, 3) := by decide +kernel
theorem dX7_init_127 : decode cX7_init 127 = .ok (.aload_n 0, 1) := by decide +kernel
theorem dX7_init_128 : decode cX7_init 128 = .ok (.sipush 544, 3) := by decide +kernel
theorem dX7_init_131 : decode cX7_init 131 = .ok (.newarray .int, 2) := by decide +kernel
theorem dX7_init_133 : decode cX7_init 133 = .ok (.putfield 70, 3) := by decide +kernel
theorem dX7_init_136 : decode cX7_init 136 = .ok (.return_, 1) := by decide +kernel
theorem dX7_heath_0 : decode cX7_heath 0 = .ok (.aload_n 0, 1) := by decide +kernel
theorem dX7_heath_1 : decode cX7_heath 1 = .ok (.getfield 12, 3) := by decide +kernel
theorem dX7_heath_4 : decode cX7_heath 4 = .ok (.aload_n 0, 1) := by decide +kernel
theorem dX7_heath_5 : decode cX7_heath 5 = .ok (.getfield 23, 3) := by decide +kernel
theorem dX7_heath_8 : decode cX7_heath 8 = .ok (.invokevirtual 81, 3) := by decide +kernel
theorem dX7_heath_11 : decode cX7_heath 11 = .ok (.aload_n 0, 1) := by decide +kernel
theorem dX7_heath_12 : decode cX7_heath 12 = .ok (.getfield 12, 3) := by decide +kernel
theorem dX7_heath_15 : decode cX7_heath 15 = .ok (.getfield 84, 3) := by decide +kernel
theorem dX7_heath_18 : decode cX7_heath 18 = .ok (.ifCond .eq 6, 3) := by decide +kernel
theorem dX7_heath_24 : decode cX7_heath 24 = .ok (.aload_n 0, 1) := by decide +kernel
theorem dX7_heath_25 : decode cX7_heath 25 = .ok (.getfield 12, 3) := by decide +kernel
theorem dX7_heath_28 : decode cX7_heath 28 = .ok (.iconst 0, 1) := by decide +kernel
theorem dX7_heath_29 : decode cX7_heath 29 = .ok (.putfield 73, 3) := by decide +kernel
theorem dX7_heath_32 : decode cX7_heath 32 = .ok (.aload_n 0, 1) := by decide +kernel
theorem dX7_heath_33 : decode cX7_heath 33 = .ok (.getfield 19, 3) := by decide +kernel
theorem dX7_heath_36 : decode cX7_heath 36 = .ok (.aload_n 0, 1) := by decide +kernel
theorem dX7_heath_37 : decode cX7_heath 37 = .ok (.getfield 23, 3) := by decide +kernel
theorem dX7_heath_40 : decode cX7_heath 40 = .ok (.invokevirtual 87, 3) := by decide +kernel
theorem dX7_heath_43 : decode cX7_heath 43 = .ok (.aload_n 0, 1) := by decide +kernel
theorem dX7_heath_44 : decode cX7_heath 44 = .ok (.invokevirtual 90, 3) := by decide +kernel
theorem dX7_heath_47 : decode cX7_heath 47 = .ok (.aload_n 0, 1) := by decide +kernel
theorem dX7_heath_48 : decode cX7_heath 48 = .ok (.getfield 19, 3) := by decide +kernel
theorem dX7_heath_51 : decode cX7_heath 51 = .ok (.getfield 93, 3) := by decide +kernel
theorem dX7_heath_54 : decode cX7_heath 54 = .ok (.ireturn, 1) := by decide +kernel
theorem dX7_room_0 : decode cX7_room 0 = .ok (.aload_n 0, 1) := by decide +kernel
theorem dX7_room_1 : decode cX7_room 1 = .ok (.getfield 19, 3) := by decide +kernel
theorem dX7_room_4 : decode cX7_room 4 = .ok (.iload_n 1, 1) := by decide +kernel
theorem dX7_room_5 : decode cX7_room 5 = .ok (.invokevirtual 99, 3) := by decide +kernel
theorem dX7_room_8 : decode cX7_room 8 = .ok (.ifCond .eq 15, 3) := by decide +kernel
theorem dX7_room_23 : decode cX7_room 23 = .ok (.bipush (-2), 2) := by decide +kernel
theorem dX7_room_25 : decode cX7_room 25 = .ok (.ireturn, 1) := by decide +kernel
theorem dX7_roads_0 : decode cX7_roads 0 = .ok (.aload_n 0, 1) := by decide +kernel
theorem dX7_roads_1 : decode cX7_roads 1 = .ok (.getfield 19, 3) := by decide +kernel
theorem dX7_roads_4 : decode cX7_roads 4 = .ok (.iload_n 1, 1) := by decide +kernel
theorem dX7_roads_5 : decode cX7_roads 5 = .ok (.invokevirtual 106, 3) := by decide +kernel
theorem dX7_roads_8 : decode cX7_roads 8 = .ok (.ifCond .eq 15, 3) := by decide +kernel
theorem dX7_roads_23 : decode cX7_roads 23 = .ok (.bipush (-2), 2) := by decide +kernel
theorem dX7_roads_25 : decode cX7_roads 25 = .ok (.ireturn, 1) := by decide +kernel
theorem dX7_goes_0 : decode cX7_goes 0 = .ok (.aload_n 0, 1) := by decide +kernel
theorem dX7_goes_1 : decode cX7_goes 1 = .ok (.getfield 19, 3) := by decide +kernel
theorem dX7_goes_4 : decode cX7_goes 4 = .ok (.iload_n 1, 1) := by decide +kernel
theorem dX7_goes_5 : decode cX7_goes 5 = .ok (.invokevirtual 106, 3) := by decide +kernel
theorem dX7_goes_8 : decode cX7_goes 8 = .ok (.ifCond .eq 7, 3) := by decide +kernel
theorem dX7_goes_15 : decode cX7_goes 15 = .ok (.bipush (-2), 2) := by decide +kernel
theorem dX7_goes_17 : decode cX7_goes 17 = .ok (.ireturn, 1) := by decide +kernel
theorem dX7_told_0 : decode cX7_told 0 = .ok (.aload_n 0, 1) := by decide +kernel
theorem dX7_told_1 : decode cX7_told 1 = .ok (.getfield 19, 3) := by decide +kernel
theorem dX7_told_4 : decode cX7_told 4 = .ok (.iload_n 1, 1) := by decide +kernel
theorem dX7_told_5 : decode cX7_told 5 = .ok (.invokevirtual 106, 3) := by decide +kernel
theorem dX7_told_8 : decode cX7_told 8 = .ok (.ifCond .ne 6, 3) := by decide +kernel
theorem dX7_told_11 : decode cX7_told 11 = .ok (.bipush (-2), 2) := by decide +kernel
theorem dX7_told_13 : decode cX7_told 13 = .ok (.ireturn, 1) := by decide +kernel
theorem dX7_walker_0 : decode cX7_walker 0 = .ok (.aload_n 0, 1) := by decide +kernel
theorem dX7_walker_1 : decode cX7_walker 1 = .ok (.getfield 19, 3) := by decide +kernel
theorem dX7_walker_4 : decode cX7_walker 4 = .ok (.iload_n 1, 1) := by decide +kernel
theorem dX7_walker_5 : decode cX7_walker 5 = .ok (.invokevirtual 122, 3) := by decide +kernel
theorem dX7_walker_8 : decode cX7_walker 8 = .ok (.ifCond .eq 10, 3) := by decide +kernel
theorem dX7_walker_18 : decode cX7_walker 18 = .ok (.bipush (-2), 2) := by decide +kernel
theorem dX7_walker_20 : decode cX7_walker 20 = .ok (.ireturn, 1) := by decide +kernel
theorem dX7_at_0 : decode cX7_at 0 = .ok (.aload_n 0, 1) := by decide +kernel
theorem dX7_at_1 : decode cX7_at 1 = .ok (.getfield 19, 3) := by decide +kernel
theorem dX7_at_4 : decode cX7_at 4 = .ok (.iload_n 1, 1) := by decide +kernel
theorem dX7_at_5 : decode cX7_at 5 = .ok (.invokevirtual 122, 3) := by decide +kernel
theorem dX7_at_8 : decode cX7_at 8 = .ok (.ifCond .eq 14, 3) := by decide +kernel
theorem dX7_at_22 : decode cX7_at 22 = .ok (.bipush (-2), 2) := by decide +kernel
theorem dX7_at_24 : decode cX7_at 24 = .ok (.ireturn, 1) := by decide +kernel
theorem dX7_arm_0 : decode cX7_arm 0 = .ok (.aload_n 0, 1) := by decide +kernel
theorem dX7_arm_1 : decode cX7_arm 1 = .ok (.getfield 19, 3) := by decide +kernel
theorem dX7_arm_4 : decode cX7_arm 4 = .ok (.iload_n 1, 1) := by decide +kernel
theorem dX7_arm_5 : decode cX7_arm 5 = .ok (.invokevirtual 106, 3) := by decide +kernel
theorem dX7_arm_8 : decode cX7_arm 8 = .ok (.ifCond .eq 14, 3) := by decide +kernel
theorem dX7_arm_22 : decode cX7_arm 22 = .ok (.bipush (-2), 2) := by decide +kernel
theorem dX7_arm_24 : decode cX7_arm 24 = .ok (.ireturn, 1) := by decide +kernel
theorem dX7_here_0 : decode cX7_here 0 = .ok (.aload_n 0, 1) := by decide +kernel
theorem dX7_here_1 : decode cX7_here 1 = .ok (.getfield 19, 3) := by decide +kernel
theorem dX7_here_4 : decode cX7_here 4 = .ok (.iload_n 1, 1) := by decide +kernel
theorem dX7_here_5 : decode cX7_here 5 = .ok (.invokevirtual 143, 3) := by decide +kernel
theorem dX7_here_8 : decode cX7_here 8 = .ok (.ifCond .eq 14, 3) := by decide +kernel
theorem dX7_here_22 : decode cX7_here 22 = .ok (.bipush (-2), 2) := by decide +kernel
theorem dX7_here_24 : decode cX7_here 24 = .ok (.ireturn, 1) := by decide +kernel
theorem dX7_sent_0 : decode cX7_sent 0 = .ok (.aload_n 0, 1) := by decide +kernel
theorem dX7_sent_1 : decode cX7_sent 1 = .ok (.getfield 19, 3) := by decide +kernel
theorem dX7_sent_4 : decode cX7_sent 4 = .ok (.iload_n 1, 1) := by decide +kernel
theorem dX7_sent_5 : decode cX7_sent 5 = .ok (.invokevirtual 149, 3) := by decide +kernel
theorem dX7_sent_8 : decode cX7_sent 8 = .ok (.ifCond .eq 14, 3) := by decide +kernel
theorem dX7_sent_22 : decode cX7_sent 22 = .ok (.bipush (-2), 2) := by decide +kernel
theorem dX7_sent_24 : decode cX7_sent 24 = .ok (.ireturn, 1) := by decide +kernel
theorem dX7_sends_0 : decode cX7_sends 0 = .ok (.aload_n 0, 1) := by decide +kernel
theorem dX7_sends_1 : decode cX7_sends 1 = .ok (.getfield 19, 3) := by decide +kernel
theorem dX7_sends_4 : decode cX7_sends 4 = .ok (.iload_n 1, 1) := by decide +kernel
theorem dX7_sends_5 : decode cX7_sends 5 = .ok (.invokevirtual 106, 3) := by decide +kernel
theorem dX7_sends_8 : decode cX7_sends 8 = .ok (.ifCond .eq 14, 3) := by decide +kernel
theorem dX7_sends_22 : decode cX7_sends 22 = .ok (.bipush (-2), 2) := by decide +kernel
theorem dX7_sends_24 : decode cX7_sends 24 = .ok (.ireturn, 1) := by decide +kernel
theorem dX7_used_0 : decode cX7_used 0 = .ok (.aload_n 0, 1) := by decide +kernel
theorem dX7_used_1 : decode cX7_used 1 = .ok (.getfield 19, 3) := by decide +kernel
theorem dX7_used_4 : decode cX7_used 4 = .ok (.iload_n 1, 1) := by decide +kernel
theorem dX7_used_5 : decode cX7_used 5 = .ok (.invokevirtual 106, 3) := by decide +kernel
theorem dX7_used_8 : decode cX7_used 8 = .ok (.ifCond .eq 7, 3) := by decide +kernel
theorem dX7_used_15 : decode cX7_used 15 = .ok (.bipush (-2), 2) := by decide +kernel
theorem dX7_used_17 : decode cX7_used 17 = .ok (.ireturn, 1) := by decide +kernel
theorem dX7_walks_0 : decode cX7_walks 0 = .ok (.aload_n 0, 1) := by decide +kernel
theorem dX7_walks_1 : decode cX7_walks 1 = .ok (.getfield 19, 3) := by decide +kernel
theorem dX7_walks_4 : decode cX7_walks 4 = .ok (.iload_n 1, 1) := by decide +kernel
theorem dX7_walks_5 : decode cX7_walks 5 = .ok (.invokevirtual 122, 3) := by decide +kernel
theorem dX7_walks_8 : decode cX7_walks 8 = .ok (.ifCond .eq 14, 3) := by decide +kernel
theorem dX7_walks_22 : decode cX7_walks 22 = .ok (.bipush (-2), 2) := by decide +kernel
theorem dX7_walks_24 : decode cX7_walks 24 = .ok (.ireturn, 1) := by decide +kernel
theorem dX7_home_0 : decode cX7_home 0 = .ok (.aload_n 0, 1) := by decide +kernel
theorem dX7_home_1 : decode cX7_home 1 = .ok (.getfield 19, 3) := by decide +kernel
theorem dX7_home_4 : decode cX7_home 4 = .ok (.iload_n 1, 1) := by decide +kernel
theorem dX7_home_5 : decode cX7_home 5 = .ok (.invokevirtual 122, 3) := by decide +kernel
theorem dX7_home_8 : decode cX7_home 8 = .ok (.ifCond .eq 14, 3) := by decide +kernel
theorem dX7_home_22 : decode cX7_home 22 = .ok (.bipush (-2), 2) := by decide +kernel
theorem dX7_home_24 : decode cX7_home 24 = .ok (.ireturn, 1) := by decide +kernel
theorem dX7_inn_0 : decode cX7_inn 0 = .ok (.aload_n 0, 1) := by decide +kernel
theorem dX7_inn_1 : decode cX7_inn 1 = .ok (.getfield 19, 3) := by decide +kernel
theorem dX7_inn_4 : decode cX7_inn 4 = .ok (.iload_n 1, 1) := by decide +kernel
theorem dX7_inn_5 : decode cX7_inn 5 = .ok (.invokevirtual 122, 3) := by decide +kernel
theorem dX7_inn_8 : decode cX7_inn 8 = .ok (.ifCond .ne 6, 3) := by decide +kernel
theorem dX7_inn_11 : decode cX7_inn 11 = .ok (.bipush (-2), 2) := by decide +kernel
theorem dX7_inn_13 : decode cX7_inn 13 = .ok (.ireturn, 1) := by decide +kernel
theorem dX7_trail_0 : decode cX7_trail 0 = .ok (.aload_n 0, 1) := by decide +kernel
theorem dX7_trail_1 : decode cX7_trail 1 = .ok (.getfield 19, 3) := by decide +kernel
theorem dX7_trail_4 : decode cX7_trail 4 = .ok (.iload_n 1, 1) := by decide +kernel
theorem dX7_trail_5 : decode cX7_trail 5 = .ok (.invokevirtual 122, 3) := by decide +kernel
theorem dX7_trail_8 : decode cX7_trail 8 = .ok (.ifCond .eq 14, 3) := by decide +kernel
theorem dX7_trail_22 : decode cX7_trail 22 = .ok (.bipush (-2), 2) := by decide +kernel
theorem dX7_trail_24 : decode cX7_trail 24 = .ok (.ireturn, 1) := by decide +kernel
theorem dX7_again_0 : decode cX7_again 0 = .ok (.aload_n 0, 1) := by decide +kernel
theorem dX7_again_1 : decode cX7_again 1 = .ok (.getfield 19, 3) := by decide +kernel
theorem dX7_again_4 : decode cX7_again 4 = .ok (.iload_n 1, 1) := by decide +kernel
theorem dX7_again_5 : decode cX7_again 5 = .ok (.invokevirtual 122, 3) := by decide +kernel
theorem dX7_again_8 : decode cX7_again 8 = .ok (.ifCond .eq 14, 3) := by decide +kernel
theorem dX7_again_22 : decode cX7_again 22 = .ok (.bipush (-2), 2) := by decide +kernel
theorem dX7_again_24 : decode cX7_again 24 = .ok (.ireturn, 1) := by decide +kernel
theorem dX7_lingers_0 : decode cX7_lingers 0 = .ok (.aload_n 0, 1) := by decide +kernel
theorem dX7_lingers_1 : decode cX7_lingers 1 = .ok (.getfield 19, 3) := by decide +kernel
theorem dX7_lingers_4 : decode cX7_lingers 4 = .ok (.iload_n 1, 1) := by decide +kernel
theorem dX7_lingers_5 : decode cX7_lingers 5 = .ok (.invokevirtual 122, 3) := by decide +kernel
theorem dX7_lingers_8 : decode cX7_lingers 8 = .ok (.ifCond .eq 14, 3) := by decide +kernel
theorem dX7_lingers_22 : decode cX7_lingers 22 = .ok (.bipush (-2), 2) := by decide +kernel
theorem dX7_lingers_24 : decode cX7_lingers 24 = .ok (.ireturn, 1) := by decide +kernel
theorem dX7_doors_0 : decode cX7_doors 0 = .ok (.aload_n 0, 1) := by decide +kernel
theorem dX7_doors_1 : decode cX7_doors 1 = .ok (.getfield 19, 3) := by decide +kernel
theorem dX7_doors_4 : decode cX7_doors 4 = .ok (.iload_n 1, 1) := by decide +kernel
theorem dX7_doors_5 : decode cX7_doors 5 = .ok (.invokevirtual 106, 3) := by decide +kernel
theorem dX7_doors_8 : decode cX7_doors 8 = .ok (.ifCond .eq 14, 3) := by decide +kernel
theorem dX7_doors_22 : decode cX7_doors 22 = .ok (.bipush (-2), 2) := by decide +kernel
theorem dX7_doors_24 : decode cX7_doors 24 = .ok (.ireturn, 1) := by decide +kernel
theorem dX7_guests_0 : decode cX7_guests 0 = .ok (.aload_n 0, 1) := by decide +kernel
theorem dX7_guests_1 : decode cX7_guests 1 = .ok (.getfield 19, 3) := by decide +kernel
theorem dX7_guests_4 : decode cX7_guests 4 = .ok (.iload_n 1, 1) := by decide +kernel
theorem dX7_guests_5 : decode cX7_guests 5 = .ok (.invokevirtual 99, 3) := by decide +kernel
theorem dX7_guests_8 : decode cX7_guests 8 = .ok (.ifCond .eq 14, 3) := by decide +kernel
theorem dX7_guests_22 : decode cX7_guests 22 = .ok (.bipush (-2), 2) := by decide +kernel
theorem dX7_guests_24 : decode cX7_guests 24 = .ok (.ireturn, 1) := by decide +kernel
theorem dX7_full_0 : decode cX7_full 0 = .ok (.aload_n 0, 1) := by decide +kernel
theorem dX7_full_1 : decode cX7_full 1 = .ok (.getfield 19, 3) := by decide +kernel
theorem dX7_full_4 : decode cX7_full 4 = .ok (.iload_n 1, 1) := by decide +kernel
theorem dX7_full_5 : decode cX7_full 5 = .ok (.invokevirtual 99, 3) := by decide +kernel
theorem dX7_full_8 : decode cX7_full 8 = .ok (.ifCond .eq 14, 3) := by decide +kernel
theorem dX7_full_22 : decode cX7_full 22 = .ok (.bipush (-2), 2) := by decide +kernel
theorem dX7_full_24 : decode cX7_full 24 = .ok (.ireturn, 1) := by decide +kernel
theorem dX7_refuses_0 : decode cX7_refuses 0 = .ok (.aload_n 0, 1) := by decide +kernel
theorem dX7_refuses_1 : decode cX7_refuses 1 = .ok (.getfield 19, 3) := by decide +kernel
theorem dX7_refuses_4 : decode cX7_refuses 4 = .ok (.iload_n 1, 1) := by decide +kernel
theorem dX7_refuses_5 : decode cX7_refuses 5 = .ok (.invokevirtual 99, 3) := by decide +kernel
theorem dX7_refuses_8 : decode cX7_refuses 8 = .ok (.ifCond .eq 14, 3) := by decide +kernel
theorem dX7_refuses_22 : decode cX7_refuses 22 = .ok (.bipush (-2), 2) := by decide +kernel
theorem dX7_refuses_24 : decode cX7_refuses 24 = .ok (.ireturn, 1) := by decide +kernel
theorem dX7_inside_0 : decode cX7_inside 0 = .ok (.aload_n 0, 1) := by decide +kernel
theorem dX7_inside_1 : decode cX7_inside 1 = .ok (.getfield 19, 3) := by decide +kernel
theorem dX7_inside_4 : decode cX7_inside 4 = .ok (.iload_n 1, 1) := by decide +kernel
theorem dX7_inside_5 : decode cX7_inside 5 = .ok (.invokevirtual 134, 3) := by decide +kernel
theorem dX7_inside_8 : decode cX7_inside 8 = .ok (.ifCond .eq 14, 3) := by decide +kernel
theorem dX7_inside_22 : decode cX7_inside 22 = .ok (.bipush (-2), 2) := by decide +kernel
theorem dX7_inside_24 : decode cX7_inside 24 = .ok (.ireturn, 1) := by decide +kernel
theorem dX7_outside_0 : decode cX7_outside 0 = .ok (.aload_n 0, 1) := by decide +kernel
theorem dX7_outside_1 : decode cX7_outside 1 = .ok (.getfield 19, 3) := by decide +kernel
theorem dX7_outside_4 : decode cX7_outside 4 = .ok (.iload_n 1, 1) := by decide +kernel
theorem dX7_outside_5 : decode cX7_outside 5 = .ok (.invokevirtual 134, 3) := by decide +kernel
theorem dX7_outside_8 : decode cX7_outside 8 = .ok (.ifCond .eq 14, 3) := by decide +kernel
theorem dX7_outside_22 : decode cX7_outside 22 = .ok (.bipush (-2), 2) := by decide +kernel
theorem dX7_outside_24 : decode cX7_outside 24 = .ok (.ireturn, 1) := by decide +kernel
theorem dX7_done_0 : decode cX7_done 0 = .ok (.aload_n 0, 1) := by decide +kernel
theorem dX7_done_1 : decode cX7_done 1 = .ok (.getfield 19, 3) := by decide +kernel
theorem dX7_done_4 : decode cX7_done 4 = .ok (.invokevirtual 198, 3) := by decide +kernel
theorem dX7_done_7 : decode cX7_done 7 = .ok (.ifCond .eq 13, 3) := by decide +kernel
theorem dX7_done_20 : decode cX7_done 20 = .ok (.bipush (-2), 2) := by decide +kernel
theorem dX7_done_22 : decode cX7_done 22 = .ok (.ireturn, 1) := by decide +kernel
theorem dX7_crowd_0 : decode cX7_crowd 0 = .ok (.aload_n 0, 1) := by decide +kernel
theorem dX7_crowd_1 : decode cX7_crowd 1 = .ok (.getfield 19, 3) := by decide +kernel
theorem dX7_crowd_4 : decode cX7_crowd 4 = .ok (.iload_n 1, 1) := by decide +kernel
theorem dX7_crowd_5 : decode cX7_crowd 5 = .ok (.invokevirtual 134, 3) := by decide +kernel
theorem dX7_crowd_8 : decode cX7_crowd 8 = .ok (.ifCond .eq 14, 3) := by decide +kernel
theorem dX7_crowd_22 : decode cX7_crowd 22 = .ok (.bipush (-2), 2) := by decide +kernel
theorem dX7_crowd_24 : decode cX7_crowd 24 = .ok (.ireturn, 1) := by decide +kernel
theorem dX7_armless_0 : decode cX7_armless 0 = .ok (.aload_n 0, 1) := by decide +kernel
theorem dX7_armless_1 : decode cX7_armless 1 = .ok (.getfield 19, 3) := by decide +kernel
theorem dX7_armless_4 : decode cX7_armless 4 = .ok (.invokevirtual 198, 3) := by decide +kernel
theorem dX7_armless_7 : decode cX7_armless 7 = .ok (.ifCond .eq 13, 3) := by decide +kernel
theorem dX7_armless_20 : decode cX7_armless 20 = .ok (.bipush (-2), 2) := by decide +kernel
theorem dX7_armless_22 : decode cX7_armless 22 = .ok (.ireturn, 1) := by decide +kernel
theorem dX7_meet_0 : decode cX7_meet 0 = .ok (.aload_n 0, 1) := by decide +kernel
theorem dX7_meet_1 : decode cX7_meet 1 = .ok (.iload_n 1, 1) := by decide +kernel
theorem dX7_meet_2 : decode cX7_meet 2 = .ok (.iload_n 2, 1) := by decide +kernel
theorem dX7_meet_3 : decode cX7_meet 3 = .ok (.invokevirtual 212, 3) := by decide +kernel
theorem dX7_meet_6 : decode cX7_meet 6 = .ok (.ifCond .eq 15, 3) := by decide +kernel
theorem dX7_meet_21 : decode cX7_meet 21 = .ok (.bipush (-2), 2) := by decide +kernel
theorem dX7_meet_23 : decode cX7_meet 23 = .ok (.ireturn, 1) := by decide +kernel
theorem dX7_busy_0 : decode cX7_busy 0 = .ok (.aload_n 0, 1) := by decide +kernel
theorem dX7_busy_1 : decode cX7_busy 1 = .ok (.getfield 19, 3) := by decide +kernel
theorem dX7_busy_4 : decode cX7_busy 4 = .ok (.invokevirtual 198, 3) := by decide +kernel
theorem dX7_busy_7 : decode cX7_busy 7 = .ok (.ifCond .ne 6, 3) := by decide +kernel
theorem dX7_busy_10 : decode cX7_busy 10 = .ok (.bipush (-2), 2) := by decide +kernel
theorem dX7_busy_12 : decode cX7_busy 12 = .ok (.ireturn, 1) := by decide +kernel
theorem dX7_idle_0 : decode cX7_idle 0 = .ok (.aload_n 0, 1) := by decide +kernel
theorem dX7_idle_1 : decode cX7_idle 1 = .ok (.getfield 19, 3) := by decide +kernel
theorem dX7_idle_4 : decode cX7_idle 4 = .ok (.invokevirtual 198, 3) := by decide +kernel
theorem dX7_idle_7 : decode cX7_idle 7 = .ok (.ifCond .ne 6, 3) := by decide +kernel
theorem dX7_idle_10 : decode cX7_idle 10 = .ok (.bipush (-2), 2) := by decide +kernel
theorem dX7_idle_12 : decode cX7_idle 12 = .ok (.ireturn, 1) := by decide +kernel
theorem dX7_reach_0 : decode cX7_reach 0 = .ok (.aload_n 0, 1) := by decide +kernel
theorem dX7_reach_1 : decode cX7_reach 1 = .ok (.getfield 19, 3) := by decide +kernel
theorem dX7_reach_4 : decode cX7_reach 4 = .ok (.iload_n 1, 1) := by decide +kernel
theorem dX7_reach_5 : decode cX7_reach 5 = .ok (.invokevirtual 106, 3) := by decide +kernel
theorem dX7_reach_8 : decode cX7_reach 8 = .ok (.ifCond .eq 14, 3) := by decide +kernel
theorem dX7_reach_22 : decode cX7_reach 22 = .ok (.bipush (-2), 2) := by decide +kernel
theorem dX7_reach_24 : decode cX7_reach 24 = .ok (.ireturn, 1) := by decide +kernel
theorem dX7_far_0 : decode cX7_far 0 = .ok (.aload_n 0, 1) := by decide +kernel
theorem dX7_far_1 : decode cX7_far 1 = .ok (.getfield 19, 3) := by decide +kernel
theorem dX7_far_4 : decode cX7_far 4 = .ok (.iload_n 1, 1) := by decide +kernel
theorem dX7_far_5 : decode cX7_far 5 = .ok (.invokevirtual 106, 3) := by decide +kernel
theorem dX7_far_8 : decode cX7_far 8 = .ok (.ifCond .eq 14, 3) := by decide +kernel
theorem dX7_far_22 : decode cX7_far 22 = .ok (.bipush (-2), 2) := by decide +kernel
theorem dX7_far_24 : decode cX7_far 24 = .ok (.ireturn, 1) := by decide +kernel
theorem dX7_setting_0 : decode cX7_setting 0 = .ok (.aload_n 0, 1) := by decide +kernel
theorem dX7_setting_1 : decode cX7_setting 1 = .ok (.getfield 19, 3) := by decide +kernel
theorem dX7_setting_4 : decode cX7_setting 4 = .ok (.iload_n 1, 1) := by decide +kernel
theorem dX7_setting_5 : decode cX7_setting 5 = .ok (.invokevirtual 134, 3) := by decide +kernel
theorem dX7_setting_8 : decode cX7_setting 8 = .ok (.ifCond .eq 11, 3) := by decide +kernel
theorem dX7_setting_19 : decode cX7_setting 19 = .ok (.bipush (-2), 2) := by decide +kernel
theorem dX7_setting_21 : decode cX7_setting 21 = .ok (.ireturn, 1) := by decide +kernel
theorem dX7_settings_0 : decode cX7_settings 0 = .ok (.aload_n 0, 1) := by decide +kernel
theorem dX7_settings_1 : decode cX7_settings 1 = .ok (.getfield 19, 3) := by decide +kernel
theorem dX7_settings_4 : decode cX7_settings 4 = .ok (.invokevirtual 198, 3) := by decide +kernel
theorem dX7_settings_7 : decode cX7_settings 7 = .ok (.ifCond .eq 13, 3) := by decide +kernel
theorem dX7_settings_20 : decode cX7_settings 20 = .ok (.bipush (-2), 2) := by decide +kernel
theorem dX7_settings_22 : decode cX7_settings 22 = .ok (.ireturn, 1) := by decide +kernel
theorem dX7_same_0 : decode cX7_same 0 = .ok (.aload_n 0, 1) := by decide +kernel
theorem dX7_same_1 : decode cX7_same 1 = .ok (.getfield 19, 3) := by decide +kernel
theorem dX7_same_4 : decode cX7_same 4 = .ok (.invokevirtual 198, 3) := by decide +kernel
theorem dX7_same_7 : decode cX7_same 7 = .ok (.ifCond .ne 6, 3) := by decide +kernel
theorem dX7_same_10 : decode cX7_same 10 = .ok (.bipush (-2), 2) := by decide +kernel
theorem dX7_same_12 : decode cX7_same 12 = .ok (.ireturn, 1) := by decide +kernel
theorem dX7_alone_0 : decode cX7_alone 0 = .ok (.aload_n 0, 1) := by decide +kernel
theorem dX7_alone_1 : decode cX7_alone 1 = .ok (.getfield 19, 3) := by decide +kernel
theorem dX7_alone_4 : decode cX7_alone 4 = .ok (.iload_n 1, 1) := by decide +kernel
theorem dX7_alone_5 : decode cX7_alone 5 = .ok (.invokevirtual 106, 3) := by decide +kernel
theorem dX7_alone_8 : decode cX7_alone 8 = .ok (.ifCond .ne 6, 3) := by decide +kernel
theorem dX7_alone_11 : decode cX7_alone 11 = .ok (.bipush (-2), 2) := by decide +kernel
theorem dX7_alone_13 : decode cX7_alone 13 = .ok (.ireturn, 1) := by decide +kernel
theorem dX7_steps_0 : decode cX7_steps 0 = .ok (.aload_n 0, 1) := by decide +kernel
theorem dX7_steps_1 : decode cX7_steps 1 = .ok (.getfield 19, 3) := by decide +kernel
theorem dX7_steps_4 : decode cX7_steps 4 = .ok (.iload_n 1, 1) := by decide +kernel
theorem dX7_steps_5 : decode cX7_steps 5 = .ok (.invokevirtual 106, 3) := by decide +kernel
theorem dX7_steps_8 : decode cX7_steps 8 = .ok (.ifCond .ne 6, 3) := by decide +kernel
theorem dX7_steps_11 : decode cX7_steps 11 = .ok (.bipush (-2), 2) := by decide +kernel
theorem dX7_steps_13 : decode cX7_steps 13 = .ok (.ireturn, 1) := by decide +kernel
theorem dX7_behind_0 : decode cX7_behind 0 = .ok (.aload_n 0, 1) := by decide +kernel
theorem dX7_behind_1 : decode cX7_behind 1 = .ok (.getfield 19, 3) := by decide +kernel
theorem dX7_behind_4 : decode cX7_behind 4 = .ok (.iload_n 1, 1) := by decide +kernel
theorem dX7_behind_5 : decode cX7_behind 5 = .ok (.invokevirtual 106, 3) := by decide +kernel
theorem dX7_behind_8 : decode cX7_behind 8 = .ok (.ifCond .ne 6, 3) := by decide +kernel
theorem dX7_behind_11 : decode cX7_behind 11 = .ok (.bipush (-2), 2) := by decide +kernel
theorem dX7_behind_13 : decode cX7_behind 13 = .ok (.ireturn, 1) := by decide +kernel
theorem dX7_nth_0 : decode cX7_nth 0 = .ok (.aload_n 0, 1) := by decide +kernel
theorem dX7_nth_1 : decode cX7_nth 1 = .ok (.getfield 19, 3) := by decide +kernel
theorem dX7_nth_4 : decode cX7_nth 4 = .ok (.iload_n 1, 1) := by decide +kernel
theorem dX7_nth_5 : decode cX7_nth 5 = .ok (.invokevirtual 106, 3) := by decide +kernel
theorem dX7_nth_8 : decode cX7_nth 8 = .ok (.ifCond .eq 10, 3) := by decide +kernel
theorem dX7_nth_18 : decode cX7_nth 18 = .ok (.bipush (-2), 2) := by decide +kernel
theorem dX7_nth_20 : decode cX7_nth 20 = .ok (.ireturn, 1) := by decide +kernel
theorem dX7_round_0 : decode cX7_round 0 = .ok (.aload_n 0, 1) := by decide +kernel
theorem dX7_round_1 : decode cX7_round 1 = .ok (.getfield 19, 3) := by decide +kernel
theorem dX7_round_4 : decode cX7_round 4 = .ok (.iload_n 1, 1) := by decide +kernel
theorem dX7_round_5 : decode cX7_round 5 = .ok (.invokevirtual 106, 3) := by decide +kernel
theorem dX7_round_8 : decode cX7_round 8 = .ok (.ifCond .ne 6, 3) := by decide +kernel
theorem dX7_round_11 : decode cX7_round 11 = .ok (.bipush (-2), 2) := by decide +kernel
theorem dX7_round_13 : decode cX7_round 13 = .ok (.ireturn, 1) := by decide +kernel
theorem dX7_houses_0 : decode cX7_houses 0 = .ok (.aload_n 0, 1) := by decide +kernel
theorem dX7_houses_1 : decode cX7_houses 1 = .ok (.getfield 19, 3) := by decide +kernel
theorem dX7_houses_4 : decode cX7_houses 4 = .ok (.iload_n 1, 1) := by decide +kernel
theorem dX7_houses_5 : decode cX7_houses 5 = .ok (.invokevirtual 106, 3) := by decide +kernel
theorem dX7_houses_8 : decode cX7_houses 8 = .ok (.ifCond .eq 21, 3) := by decide +kernel
theorem dX7_houses_29 : decode cX7_houses 29 = .ok (.bipush (-2), 2) := by decide +kernel
theorem dX7_houses_31 : decode cX7_houses 31 = .ok (.ireturn, 1) := by decide +kernel
theorem dX7_tree_0 : decode cX7_tree 0 = .ok (.aload_n 0, 1) := by decide +kernel
theorem dX7_tree_1 : decode cX7_tree 1 = .ok (.getfield 19, 3) := by decide +kernel
theorem dX7_tree_4 : decode cX7_tree 4 = .ok (.iload_n 1, 1) := by decide +kernel
theorem dX7_tree_5 : decode cX7_tree 5 = .ok (.invokevirtual 134, 3) := by decide +kernel
theorem dX7_tree_8 : decode cX7_tree 8 = .ok (.ifCond .ne 6, 3) := by decide +kernel
theorem dX7_tree_11 : decode cX7_tree 11 = .ok (.bipush (-2), 2) := by decide +kernel
theorem dX7_tree_13 : decode cX7_tree 13 = .ok (.ireturn, 1) := by decide +kernel
theorem dX7_ring_0 : decode cX7_ring 0 = .ok (.aload_n 0, 1) := by decide +kernel
theorem dX7_ring_1 : decode cX7_ring 1 = .ok (.getfield 19, 3) := by decide +kernel
theorem dX7_ring_4 : decode cX7_ring 4 = .ok (.iload_n 1, 1) := by decide +kernel
theorem dX7_ring_5 : decode cX7_ring 5 = .ok (.invokevirtual 134, 3) := by decide +kernel
theorem dX7_ring_8 : decode cX7_ring 8 = .ok (.ifCond .eq 24, 3) := by decide +kernel
theorem dX7_ring_32 : decode cX7_ring 32 = .ok (.bipush (-2), 2) := by decide +kernel
theorem dX7_ring_34 : decode cX7_ring 34 = .ok (.ireturn, 1) := by decide +kernel
theorem dX7_trees_0 : decode cX7_trees 0 = .ok (.aload_n 0, 1) := by decide +kernel
theorem dX7_trees_1 : decode cX7_trees 1 = .ok (.getfield 19, 3) := by decide +kernel
theorem dX7_trees_4 : decode cX7_trees 4 = .ok (.invokevirtual 198, 3) := by decide +kernel
theorem dX7_trees_7 : decode cX7_trees 7 = .ok (.ifCond .ne 6, 3) := by decide +kernel
theorem dX7_trees_10 : decode cX7_trees 10 = .ok (.bipush (-2), 2) := by decide +kernel
theorem dX7_trees_12 : decode cX7_trees 12 = .ok (.ireturn, 1) := by decide +kernel
theorem dX7_point_0 : decode cX7_point 0 = .ok (.aload_n 0, 1) := by decide +kernel
theorem dX7_point_1 : decode cX7_point 1 = .ok (.getfield 19, 3) := by decide +kernel
theorem dX7_point_4 : decode cX7_point 4 = .ok (.iload_n 1, 1) := by decide +kernel
theorem dX7_point_5 : decode cX7_point 5 = .ok (.invokevirtual 122, 3) := by decide +kernel
theorem dX7_point_8 : decode cX7_point 8 = .ok (.ifCond .eq 14, 3) := by decide +kernel
theorem dX7_point_22 : decode cX7_point 22 = .ok (.bipush (-2), 2) := by decide +kernel
theorem dX7_point_24 : decode cX7_point 24 = .ok (.ireturn, 1) := by decide +kernel
theorem dX7_best_0 : decode cX7_best 0 = .ok (.aload_n 0, 1) := by decide +kernel
theorem dX7_best_1 : decode cX7_best 1 = .ok (.getfield 19, 3) := by decide +kernel
theorem dX7_best_4 : decode cX7_best 4 = .ok (.invokevirtual 198, 3) := by decide +kernel
theorem dX7_best_7 : decode cX7_best 7 = .ok (.ifCond .ne 6, 3) := by decide +kernel
theorem dX7_best_10 : decode cX7_best 10 = .ok (.bipush (-2), 2) := by decide +kernel
theorem dX7_best_12 : decode cX7_best 12 = .ok (.ireturn, 1) := by decide +kernel
theorem dX7_crowds_0 : decode cX7_crowds 0 = .ok (.aload_n 0, 1) := by decide +kernel
theorem dX7_crowds_1 : decode cX7_crowds 1 = .ok (.getfield 19, 3) := by decide +kernel
theorem dX7_crowds_4 : decode cX7_crowds 4 = .ok (.invokevirtual 198, 3) := by decide +kernel
theorem dX7_crowds_7 : decode cX7_crowds 7 = .ok (.ifCond .ne 6, 3) := by decide +kernel
theorem dX7_crowds_10 : decode cX7_crowds 10 = .ok (.bipush (-2), 2) := by decide +kernel
theorem dX7_crowds_12 : decode cX7_crowds 12 = .ok (.ireturn, 1) := by decide +kernel
theorem dX7_may_0 : decode cX7_may 0 = .ok (.aload_n 0, 1) := by decide +kernel
theorem dX7_may_1 : decode cX7_may 1 = .ok (.iload_n 1, 1) := by decide +kernel
theorem dX7_may_2 : decode cX7_may 2 = .ok (.aload_n 0, 1) := by decide +kernel
theorem dX7_may_3 : decode cX7_may 3 = .ok (.getfield 19, 3) := by decide +kernel
theorem dX7_may_6 : decode cX7_may 6 = .ok (.iload_n 2, 1) := by decide +kernel
theorem dX7_may_7 : decode cX7_may 7 = .ok (.invokevirtual 106, 3) := by decide +kernel
theorem dX7_may_10 : decode cX7_may 10 = .ok (.invokevirtual 288, 3) := by decide +kernel
theorem dX7_may_13 : decode cX7_may 13 = .ok (.istore_n 3, 1) := by decide +kernel
theorem dX7_may_14 : decode cX7_may 14 = .ok (.iload_n 3, 1) := by decide +kernel
theorem dX7_may_15 : decode cX7_may 15 = .ok (.ifCond .eq 7, 3) := by decide +kernel
theorem dX7_may_18 : decode cX7_may 18 = .ok (.iload_n 3, 1) := by decide +kernel
theorem dX7_may_19 : decode cX7_may 19 = .ok (.goto 14, 3) := by decide +kernel
theorem dX7_may_33 : decode cX7_may 33 = .ok (.ireturn, 1) := by decide +kernel
theorem dX7_ask_0 : decode cX7_ask 0 = .ok (.aload_n 0, 1) := by decide +kernel
theorem dX7_ask_1 : decode cX7_ask 1 = .ok (.iload_n 1, 1) := by decide +kernel
theorem dX7_ask_2 : decode cX7_ask 2 = .ok (.aload_n 0, 1) := by decide +kernel
theorem dX7_ask_3 : decode cX7_ask 3 = .ok (.getfield 19, 3) := by decide +kernel
theorem dX7_ask_6 : decode cX7_ask 6 = .ok (.iload_n 2, 1) := by decide +kernel
theorem dX7_ask_7 : decode cX7_ask 7 = .ok (.invokevirtual 106, 3) := by decide +kernel
theorem dX7_ask_10 : decode cX7_ask 10 = .ok (.invokevirtual 288, 3) := by decide +kernel
theorem dX7_ask_13 : decode cX7_ask 13 = .ok (.istore_n 3, 1) := by decide +kernel
theorem dX7_ask_14 : decode cX7_ask 14 = .ok (.iload_n 3, 1) := by decide +kernel
theorem dX7_ask_15 : decode cX7_ask 15 = .ok (.ifCond .eq 5, 3) := by decide +kernel
theorem dX7_ask_18 : decode cX7_ask 18 = .ok (.iload_n 3, 1) := by decide +kernel
theorem dX7_ask_19 : decode cX7_ask 19 = .ok (.ireturn, 1) := by decide +kernel
theorem dX7_leaves_0 : decode cX7_leaves 0 = .ok (.aload_n 0, 1) := by decide +kernel
theorem dX7_leaves_1 : decode cX7_leaves 1 = .ok (.iload_n 1, 1) := by decide +kernel
theorem dX7_leaves_2 : decode cX7_leaves 2 = .ok (.aload_n 0, 1) := by decide +kernel
theorem dX7_leaves_3 : decode cX7_leaves 3 = .ok (.getfield 19, 3) := by decide +kernel
theorem dX7_leaves_6 : decode cX7_leaves 6 = .ok (.iload_n 2, 1) := by decide +kernel
theorem dX7_leaves_7 : decode cX7_leaves 7 = .ok (.invokevirtual 106, 3) := by decide +kernel
theorem dX7_leaves_10 : decode cX7_leaves 10 = .ok (.invokevirtual 288, 3) := by decide +kernel
theorem dX7_leaves_13 : decode cX7_leaves 13 = .ok (.istore_n 3, 1) := by decide +kernel
theorem dX7_leaves_14 : decode cX7_leaves 14 = .ok (.iload_n 3, 1) := by decide +kernel
theorem dX7_leaves_15 : decode cX7_leaves 15 = .ok (.ifCond .eq 5, 3) := by decide +kernel
theorem dX7_leaves_18 : decode cX7_leaves 18 = .ok (.iload_n 3, 1) := by decide +kernel
theorem dX7_leaves_19 : decode cX7_leaves 19 = .ok (.ireturn, 1) := by decide +kernel
theorem dX7_laws_0 : decode cX7_laws 0 = .ok (.aload_n 0, 1) := by decide +kernel
theorem dX7_laws_1 : decode cX7_laws 1 = .ok (.iload_n 1, 1) := by decide +kernel
theorem dX7_laws_2 : decode cX7_laws 2 = .ok (.aload_n 0, 1) := by decide +kernel
theorem dX7_laws_3 : decode cX7_laws 3 = .ok (.getfield 19, 3) := by decide +kernel
theorem dX7_laws_6 : decode cX7_laws 6 = .ok (.invokevirtual 198, 3) := by decide +kernel
theorem dX7_laws_9 : decode cX7_laws 9 = .ok (.invokevirtual 288, 3) := by decide +kernel
theorem dX7_laws_12 : decode cX7_laws 12 = .ok (.istore_n 2, 1) := by decide +kernel
theorem dX7_laws_13 : decode cX7_laws 13 = .ok (.iload_n 2, 1) := by decide +kernel
theorem dX7_laws_14 : decode cX7_laws 14 = .ok (.ifCond .eq 5, 3) := by decide +kernel
theorem dX7_laws_17 : decode cX7_laws 17 = .ok (.iload_n 2, 1) := by decide +kernel
theorem dX7_laws_18 : decode cX7_laws 18 = .ok (.ireturn, 1) := by decide +kernel
theorem dX7_by_0 : decode cX7_by 0 = .ok (.aload_n 0, 1) := by decide +kernel
theorem dX7_by_1 : decode cX7_by 1 = .ok (.getfield 19, 3) := by decide +kernel
theorem dX7_by_4 : decode cX7_by 4 = .ok (.invokevirtual 198, 3) := by decide +kernel
theorem dX7_by_7 : decode cX7_by 7 = .ok (.ifCond .eq 12, 3) := by decide +kernel
theorem dX7_by_19 : decode cX7_by 19 = .ok (.bipush (-2), 2) := by decide +kernel
theorem dX7_by_21 : decode cX7_by 21 = .ok (.ireturn, 1) := by decide +kernel
theorem dX7_law_0 : decode cX7_law 0 = .ok (.aload_n 0, 1) := by decide +kernel
theorem dX7_law_1 : decode cX7_law 1 = .ok (.getfield 19, 3) := by decide +kernel
theorem dX7_law_4 : decode cX7_law 4 = .ok (.invokevirtual 198, 3) := by decide +kernel
theorem dX7_law_7 : decode cX7_law 7 = .ok (.ifCond .ne 6, 3) := by decide +kernel
theorem dX7_law_10 : decode cX7_law 10 = .ok (.bipush (-2), 2) := by decide +kernel
theorem dX7_law_12 : decode cX7_law 12 = .ok (.ireturn, 1) := by decide +kernel
theorem dX7_worth_0 : decode cX7_worth 0 = .ok (.aload_n 0, 1) := by decide +kernel
theorem dX7_worth_1 : decode cX7_worth 1 = .ok (.getfield 19, 3) := by decide +kernel
theorem dX7_worth_4 : decode cX7_worth 4 = .ok (.invokevirtual 198, 3) := by decide +kernel
theorem dX7_worth_7 : decode cX7_worth 7 = .ok (.ifCond .eq 20, 3) := by decide +kernel
theorem dX7_worth_27 : decode cX7_worth 27 = .ok (.bipush (-2), 2) := by decide +kernel
theorem dX7_worth_29 : decode cX7_worth 29 = .ok (.ireturn, 1) := by decide +kernel
theorem dX7_share_0 : decode cX7_share 0 = .ok (.aload_n 0, 1) := by decide +kernel
theorem dX7_share_1 : decode cX7_share 1 = .ok (.getfield 19, 3) := by decide +kernel
theorem dX7_share_4 : decode cX7_share 4 = .ok (.iload_n 1, 1) := by decide +kernel
theorem dX7_share_5 : decode cX7_share 5 = .ok (.invokevirtual 106, 3) := by decide +kernel
theorem dX7_share_8 : decode cX7_share 8 = .ok (.ifCond .eq 10, 3) := by decide +kernel
theorem dX7_share_18 : decode cX7_share 18 = .ok (.sipush (-1000), 3) := by decide +kernel
theorem dX7_share_21 : decode cX7_share 21 = .ok (.ireturn, 1) := by decide +kernel
theorem dX7_rests_0 : decode cX7_rests 0 = .ok (.aload_n 0, 1) := by decide +kernel
theorem dX7_rests_1 : decode cX7_rests 1 = .ok (.iload_n 1, 1) := by decide +kernel
theorem dX7_rests_2 : decode cX7_rests 2 = .ok (.iload_n 2, 1) := by decide +kernel
theorem dX7_rests_3 : decode cX7_rests 3 = .ok (.invokevirtual 212, 3) := by decide +kernel
theorem dX7_rests_6 : decode cX7_rests 6 = .ok (.ifCond .ne 6, 3) := by decide +kernel
theorem dX7_rests_9 : decode cX7_rests 9 = .ok (.bipush (-2), 2) := by decide +kernel
theorem dX7_rests_11 : decode cX7_rests 11 = .ok (.ireturn, 1) := by decide +kernel
theorem dX7_gets_0 : decode cX7_gets 0 = .ok (.aload_n 0, 1) := by decide +kernel
theorem dX7_gets_1 : decode cX7_gets 1 = .ok (.iload_n 1, 1) := by decide +kernel
theorem dX7_gets_2 : decode cX7_gets 2 = .ok (.iload_n 2, 1) := by decide +kernel
theorem dX7_gets_3 : decode cX7_gets 3 = .ok (.invokevirtual 212, 3) := by decide +kernel
theorem dX7_gets_6 : decode cX7_gets 6 = .ok (.ifCond .eq 18, 3) := by decide +kernel
theorem dX7_gets_24 : decode cX7_gets 24 = .ok (.sipush (-1000), 3) := by decide +kernel
theorem dX7_gets_27 : decode cX7_gets 27 = .ok (.ireturn, 1) := by decide +kernel
theorem dX7_chance_0 : decode cX7_chance 0 = .ok (.aload_n 0, 1) := by decide +kernel
theorem dX7_chance_1 : decode cX7_chance 1 = .ok (.getfield 19, 3) := by decide +kernel
theorem dX7_chance_4 : decode cX7_chance 4 = .ok (.iload_n 1, 1) := by decide +kernel
theorem dX7_chance_5 : decode cX7_chance 5 = .ok (.invokevirtual 122, 3) := by decide +kernel
theorem dX7_chance_8 : decode cX7_chance 8 = .ok (.ifCond .eq 18, 3) := by decide +kernel
theorem dX7_chance_26 : decode cX7_chance 26 = .ok (.ldc2_w 330, 3) := by decide +kernel
theorem dX7_chance_29 : decode cX7_chance 29 = .ok (.lreturn, 1) := by decide +kernel
theorem dX7_mean_0 : decode cX7_mean 0 = .ok (.aload_n 0, 1) := by decide +kernel
theorem dX7_mean_1 : decode cX7_mean 1 = .ok (.iload_n 1, 1) := by decide +kernel
theorem dX7_mean_2 : decode cX7_mean 2 = .ok (.invokevirtual 327, 3) := by decide +kernel
theorem dX7_mean_5 : decode cX7_mean 5 = .ok (.ifCond .eq 10, 3) := by decide +kernel
theorem dX7_mean_15 : decode cX7_mean 15 = .ok (.ldc2_w 330, 3) := by decide +kernel
theorem dX7_mean_18 : decode cX7_mean 18 = .ok (.lreturn, 1) := by decide +kernel
theorem dX7_twists_0 : decode cX7_twists 0 = .ok (.aload_n 0, 1) := by decide +kernel
theorem dX7_twists_1 : decode cX7_twists 1 = .ok (.getfield 19, 3) := by decide +kernel
theorem dX7_twists_4 : decode cX7_twists 4 = .ok (.iload_n 1, 1) := by decide +kernel
theorem dX7_twists_5 : decode cX7_twists 5 = .ok (.invokevirtual 106, 3) := by decide +kernel
theorem dX7_twists_8 : decode cX7_twists 8 = .ok (.ifCond .eq 14, 3) := by decide +kernel
theorem dX7_twists_22 : decode cX7_twists 22 = .ok (.bipush (-2), 2) := by decide +kernel
theorem dX7_twists_24 : decode cX7_twists 24 = .ok (.ireturn, 1) := by decide +kernel
theorem dX7_holds_0 : decode cX7_holds 0 = .ok (.aload_n 0, 1) := by decide +kernel
theorem dX7_holds_1 : decode cX7_holds 1 = .ok (.getfield 19, 3) := by decide +kernel
theorem dX7_holds_4 : decode cX7_holds 4 = .ok (.iload_n 1, 1) := by decide +kernel
theorem dX7_holds_5 : decode cX7_holds 5 = .ok (.invokevirtual 122, 3) := by decide +kernel
theorem dX7_holds_8 : decode cX7_holds 8 = .ok (.ifCond .eq 14, 3) := by decide +kernel
theorem dX7_holds_22 : decode cX7_holds 22 = .ok (.bipush (-2), 2) := by decide +kernel
theorem dX7_holds_24 : decode cX7_holds 24 = .ok (.ireturn, 1) := by decide +kernel
theorem dX7_undo_0 : decode cX7_undo 0 = .ok (.aload_n 0, 1) := by decide +kernel
theorem dX7_undo_1 : decode cX7_undo 1 = .ok (.getfield 19, 3) := by decide +kernel
theorem dX7_undo_4 : decode cX7_undo 4 = .ok (.invokevirtual 198, 3) := by decide +kernel
theorem dX7_undo_7 : decode cX7_undo 7 = .ok (.ifCond .ne 6, 3) := by decide +kernel
theorem dX7_undo_10 : decode cX7_undo 10 = .ok (.bipush (-2), 2) := by decide +kernel
theorem dX7_undo_12 : decode cX7_undo 12 = .ok (.ireturn, 1) := by decide +kernel
theorem dX7_anew_0 : decode cX7_anew 0 = .ok (.aload_n 0, 1) := by decide +kernel
theorem dX7_anew_1 : decode cX7_anew 1 = .ok (.getfield 19, 3) := by decide +kernel
theorem dX7_anew_4 : decode cX7_anew 4 = .ok (.invokevirtual 198, 3) := by decide +kernel
theorem dX7_anew_7 : decode cX7_anew 7 = .ok (.ifCond .ne 6, 3) := by decide +kernel
theorem dX7_anew_10 : decode cX7_anew 10 = .ok (.bipush (-2), 2) := by decide +kernel
theorem dX7_anew_12 : decode cX7_anew 12 = .ok (.ireturn, 1) := by decide +kernel
theorem dX7_drawn_0 : decode cX7_drawn 0 = .ok (.aload_n 0, 1) := by decide +kernel
theorem dX7_drawn_1 : decode cX7_drawn 1 = .ok (.getfield 19, 3) := by decide +kernel
theorem dX7_drawn_4 : decode cX7_drawn 4 = .ok (.invokevirtual 198, 3) := by decide +kernel
theorem dX7_drawn_7 : decode cX7_drawn 7 = .ok (.ifCond .eq 17, 3) := by decide +kernel
theorem dX7_drawn_24 : decode cX7_drawn 24 = .ok (.bipush (-2), 2) := by decide +kernel
theorem dX7_drawn_26 : decode cX7_drawn 26 = .ok (.ireturn, 1) := by decide +kernel
theorem dX7_luck_0 : decode cX7_luck 0 = .ok (.iload_n 1, 1) := by decide +kernel
theorem dX7_luck_1 : decode cX7_luck 1 = .ok (.invokestatic 361, 3) := by decide +kernel
theorem dX7_luck_4 : decode cX7_luck 4 = .ok (.ifCond .eq 21, 3) := by decide +kernel
theorem dX7_luck_7 : decode cX7_luck 7 = .ok (.iload_n 2, 1) := by decide +kernel
theorem dX7_luck_8 : decode cX7_luck 8 = .ok (.invokestatic 246, 3) := by decide +kernel
theorem dX7_luck_11 : decode cX7_luck 11 = .ok (.ifCond .eq 14, 3) := by decide +kernel
theorem dX7_luck_14 : decode cX7_luck 14 = .ok (.aload_n 0, 1) := by decide +kernel
theorem dX7_luck_15 : decode cX7_luck 15 = .ok (.getfield 19, 3) := by decide +kernel
theorem dX7_luck_18 : decode cX7_luck 18 = .ok (.iload_n 3, 1) := by decide +kernel
theorem dX7_luck_19 : decode cX7_luck 19 = .ok (.invokevirtual 122, 3) := by decide +kernel
theorem dX7_luck_22 : decode cX7_luck 22 = .ok (.ifCond .ne 6, 3) := by decide +kernel
theorem dX7_luck_25 : decode cX7_luck 25 = .ok (.bipush (-2), 2) := by decide +kernel
theorem dX7_luck_27 : decode cX7_luck 27 = .ok (.ireturn, 1) := by decide +kernel
theorem dX7_rate_0 : decode cX7_rate 0 = .ok (.aload_n 0, 1) := by decide +kernel
theorem dX7_rate_1 : decode cX7_rate 1 = .ok (.getfield 19, 3) := by decide +kernel
theorem dX7_rate_4 : decode cX7_rate 4 = .ok (.iload_n 1, 1) := by decide +kernel
theorem dX7_rate_5 : decode cX7_rate 5 = .ok (.invokevirtual 99, 3) := by decide +kernel
theorem dX7_rate_8 : decode cX7_rate 8 = .ok (.ifCond .eq 13, 3) := by decide +kernel
theorem dX7_rate_21 : decode cX7_rate 21 = .ok (.bipush (-2), 2) := by decide +kernel
theorem dX7_rate_23 : decode cX7_rate 23 = .ok (.ireturn, 1) := by decide +kernel
theorem dX7_changed_0 : decode cX7_changed 0 = .ok (.aload_n 0, 1) := by decide +kernel
theorem dX7_changed_1 : decode cX7_changed 1 = .ok (.iconst 0, 1) := by decide +kernel
theorem dX7_changed_2 : decode cX7_changed 2 = .ok (.putfield 66, 3) := by decide +kernel
theorem dX7_changed_5 : decode cX7_changed 5 = .ok (.aload_n 0, 1) := by decide +kernel
theorem dX7_changed_6 : decode cX7_changed 6 = .ok (.getfield 58, 3) := by decide +kernel
theorem dX7_changed_9 : decode cX7_changed 9 = .ok (.invokevirtual 415, 3) := by decide +kernel
theorem dX7_changed_12 : decode cX7_changed 12 = .ok (.aload_n 0, 1) := by decide +kernel
theorem dX7_changed_13 : decode cX7_changed 13 = .ok (.getfield 41, 3) := by decide +kernel
theorem dX7_changed_16 : decode cX7_changed 16 = .ok (.invokevirtual 279, 3) := by decide +kernel
theorem dX7_changed_19 : decode cX7_changed 19 = .ok (.aload_n 0, 1) := by decide +kernel
theorem dX7_changed_20 : decode cX7_changed 20 = .ok (.getfield 41, 3) := by decide +kernel
theorem dX7_changed_23 : decode cX7_changed 23 = .ok (.invokevirtual 285, 3) := by decide +kernel
theorem dX7_changed_26 : decode cX7_changed 26 = .ok (.return_, 1) := by decide +kernel
theorem dX7_isEither_0 : decode cX7_isEither 0 = .ok (.iload_n 0, 1) := by decide +kernel
theorem dX7_isEither_1 : decode cX7_isEither 1 = .ok (.ifCond .eq 8, 3) := by decide +kernel
theorem dX7_isEither_4 : decode cX7_isEither 4 = .ok (.iload_n 0, 1) := by decide +kernel
theorem dX7_isEither_5 : decode cX7_isEither 5 = .ok (.iconst 1, 1) := by decide +kernel
theorem dX7_isEither_6 : decode cX7_isEither 6 = .ok (.if_icmp .ne 7, 3) := by decide +kernel
theorem dX7_isEither_9 : decode cX7_isEither 9 = .ok (.iconst 1, 1) := by decide +kernel
theorem dX7_isEither_10 : decode cX7_isEither 10 = .ok (.goto 4, 3) := by decide +kernel
theorem dX7_isEither_13 : decode cX7_isEither 13 = .ok (.iconst 0, 1) := by decide +kernel
theorem dX7_isEither_14 : decode cX7_isEither 14 = .ok (.ireturn, 1) := by decide +kernel
theorem dX7_isFewInARow_0 : decode cX7_isFewInARow 0 = .ok (.iload_n 0, 1) := by decide +kernel
theorem dX7_isFewInARow_1 : decode cX7_isFewInARow 1 = .ok (.iconst 1, 1) := by decide +kernel
theorem dX7_isFewInARow_2 : decode cX7_isFewInARow 2 = .ok (.if_icmp .lt 13, 3) := by decide +kernel
theorem dX7_isFewInARow_5 : decode cX7_isFewInARow 5 = .ok (.iload_n 0, 1) := by decide +kernel
theorem dX7_isFewInARow_6 : decode cX7_isFewInARow 6 = .ok (.bipush 20, 2) := by decide +kernel
theorem dX7_isFewInARow_8 : decode cX7_isFewInARow 8 = .ok (.if_icmp .gt 7, 3) := by decide +kernel
theorem dX7_isFewInARow_11 : decode cX7_isFewInARow 11 = .ok (.iconst 1, 1) := by decide +kernel
theorem dX7_isFewInARow_12 : decode cX7_isFewInARow 12 = .ok (.goto 4, 3) := by decide +kernel
theorem dX7_isFewInARow_15 : decode cX7_isFewInARow 15 = .ok (.iconst 0, 1) := by decide +kernel
theorem dX7_isFewInARow_16 : decode cX7_isFewInARow 16 = .ok (.ireturn, 1) := by decide +kernel
theorem dX7_isSeed_0 : decode cX7_isSeed 0 = .ok (.iload_n 0, 1) := by decide +kernel
theorem dX7_isSeed_1 : decode cX7_isSeed 1 = .ok (.ifCond .lt 14, 3) := by decide +kernel
theorem dX7_isSeed_4 : decode cX7_isSeed 4 = .ok (.iload_n 0, 1) := by decide +kernel
theorem dX7_isSeed_5 : decode cX7_isSeed 5 = .ok (.ldc_w 418, 3) := by decide +kernel
theorem dX7_isSeed_8 : decode cX7_isSeed 8 = .ok (.if_icmp .gt 7, 3) := by decide +kernel
theorem dX7_isSeed_11 : decode cX7_isSeed 11 = .ok (.iconst 1, 1) := by decide +kernel
theorem dX7_isSeed_12 : decode cX7_isSeed 12 = .ok (.goto 4, 3) := by decide +kernel
theorem dX7_isSeed_15 : decode cX7_isSeed 15 = .ok (.iconst 0, 1) := by decide +kernel
theorem dX7_isSeed_16 : decode cX7_isSeed 16 = .ok (.ireturn, 1) := by decide +kernel
theorem dX7_isSlot_0 : decode cX7_isSlot 0 = .ok (.iload_n 0, 1) := by decide +kernel
theorem dX7_isSlot_1 : decode cX7_isSlot 1 = .ok (.ifCond .lt 12, 3) := by decide +kernel
theorem dX7_isSlot_4 : decode cX7_isSlot 4 = .ok (.iload_n 0, 1) := by decide +kernel
theorem dX7_isSlot_5 : decode cX7_isSlot 5 = .ok (.iconst 4, 1) := by decide +kernel
theorem dX7_isSlot_6 : decode cX7_isSlot 6 = .ok (.if_icmp .ge 7, 3) := by decide +kernel
theorem dX7_isSlot_9 : decode cX7_isSlot 9 = .ok (.iconst 1, 1) := by decide +kernel
theorem dX7_isSlot_10 : decode cX7_isSlot 10 = .ok (.goto 4, 3) := by decide +kernel
theorem dX7_isSlot_13 : decode cX7_isSlot 13 = .ok (.iconst 0, 1) := by decide +kernel
theorem dX7_isSlot_14 : decode cX7_isSlot 14 = .ok (.ireturn, 1) := by decide +kernel
theorem dX7_isFogHour_0 : decode cX7_isFogHour 0 = .ok (.aload_n 0, 1) := by decide +kernel
theorem dX7_isFogHour_1 : decode cX7_isFogHour 1 = .ok (.getfield 19, 3) := by decide +kernel
theorem dX7_isFogHour_4 : decode cX7_isFogHour 4 = .ok (.iload_n 1, 1) := by decide +kernel
theorem dX7_isFogHour_5 : decode cX7_isFogHour 5 = .ok (.invokevirtual 149, 3) := by decide +kernel
theorem dX7_isFogHour_8 : decode cX7_isFogHour 8 = .ok (.ifCond .eq 13, 3) := by decide +kernel
theorem dX7_isFogHour_21 : decode cX7_isFogHour 21 = .ok (.iconst 0, 1) := by decide +kernel
theorem dX7_isFogHour_22 : decode cX7_isFogHour 22 = .ok (.ireturn, 1) := by decide +kernel
theorem dX7_areTwo_0 : decode cX7_areTwo 0 = .ok (.aload_n 0, 1) := by decide +kernel
theorem dX7_areTwo_1 : decode cX7_areTwo 1 = .ok (.getfield 19, 3) := by decide +kernel
theorem dX7_areTwo_4 : decode cX7_areTwo 4 = .ok (.iload_n 1, 1) := by decide +kernel
theorem dX7_areTwo_5 : decode cX7_areTwo 5 = .ok (.invokevirtual 122, 3) := by decide +kernel
theorem dX7_areTwo_8 : decode cX7_areTwo 8 = .ok (.ifCond .eq 23, 3) := by decide +kernel
theorem dX7_areTwo_31 : decode cX7_areTwo 31 = .ok (.iconst 0, 1) := by decide +kernel
theorem dX7_areTwo_32 : decode cX7_areTwo 32 = .ok (.ireturn, 1) := by decide +kernel
theorem dX7_refusalOfSeen_0 : decode cX7_refusalOfSeen 0 = .ok (.iload_n 1, 1) := by decide +kernel
theorem dX7_refusalOfSeen_1 : decode cX7_refusalOfSeen 1 = .ok (.invokestatic 389, 3) := by decide +kernel
theorem dX7_refusalOfSeen_4 : decode cX7_refusalOfSeen 4 = .ok (.ifCond .eq 7, 3) := by decide +kernel
theorem dX7_refusalOfSeen_7 : decode cX7_refusalOfSeen 7 = .ok (.iload_n 2, 1) := by decide +kernel
theorem dX7_refusalOfSeen_8 : decode cX7_refusalOfSeen 8 = .ok (.ifCond .ne 6, 3) := by decide +kernel
theorem dX7_refusalOfSeen_11 : decode cX7_refusalOfSeen 11 = .ok (.bipush (-2), 2) := by decide +kernel
theorem dX7_refusalOfSeen_13 : decode cX7_refusalOfSeen 13 = .ok (.ireturn, 1) := by decide +kernel
theorem dJ7_fill_d0a16_0 : decode cJ7_fill_d0a16 0 = .ok (.iconst 0, 1) := by decide +kernel
theorem dJ7_fill_d0a16_1 : decode cJ7_fill_d0a16 1 = .ok (.istore_n 3, 1) := by decide +kernel
theorem dJ7_fill_d0a16_2 : decode cJ7_fill_d0a16 2 = .ok (.aload_n 0, 1) := by decide +kernel
theorem dJ7_fill_d0a16_3 : decode cJ7_fill_d0a16 3 = .ok (.arraylength, 1) := by decide +kernel
theorem dJ7_fill_d0a16_4 : decode cJ7_fill_d0a16 4 = .ok (.istore 4, 2) := by decide +kernel
theorem dJ7_fill_d0a16_6 : decode cJ7_fill_d0a16 6 = .ok (.iload_n 3, 1) := by decide +kernel
theorem dJ7_fill_d0a16_7 : decode cJ7_fill_d0a16 7 = .ok (.iload 4, 2) := by decide +kernel
theorem dJ7_fill_d0a16_9 : decode cJ7_fill_d0a16 9 = .ok (.if_icmp .ge 13, 3) := by decide +kernel
theorem dJ7_fill_d0a16_12 : decode cJ7_fill_d0a16 12 = .ok (.aload_n 0, 1) := by decide +kernel
theorem dJ7_fill_d0a16_13 : decode cJ7_fill_d0a16 13 = .ok (.iload_n 3, 1) := by decide +kernel
theorem dJ7_fill_d0a16_14 : decode cJ7_fill_d0a16 14 = .ok (.lload_n 1, 1) := by decide +kernel
theorem dJ7_fill_d0a16_15 : decode cJ7_fill_d0a16 15 = .ok (.lastore, 1) := by decide +kernel
theorem dJ7_fill_d0a16_16 : decode cJ7_fill_d0a16 16 = .ok (.iinc 3 1, 3) := by decide +kernel
theorem dJ7_fill_d0a16_19 : decode cJ7_fill_d0a16 19 = .ok (.goto (-13), 3) := by decide +kernel
theorem dJ7_fill_d0a16_22 : decode cJ7_fill_d0a16 22 = .ok (.return_, 1) := by decide +kernel
theorem dJ7_fill_53178_0 : decode cJ7_fill_53178 0 = .ok (.iconst 0, 1) := by decide +kernel
theorem dJ7_fill_53178_1 : decode cJ7_fill_53178 1 = .ok (.istore_n 2, 1) := by decide +kernel
theorem dJ7_fill_53178_2 : decode cJ7_fill_53178 2 = .ok (.aload_n 0, 1) := by decide +kernel
theorem dJ7_fill_53178_3 : decode cJ7_fill_53178 3 = .ok (.arraylength, 1) := by decide +kernel
theorem dJ7_fill_53178_4 : decode cJ7_fill_53178 4 = .ok (.istore_n 3, 1) := by decide +kernel
theorem dJ7_fill_53178_5 : decode cJ7_fill_53178 5 = .ok (.iload_n 2, 1) := by decide +kernel
theorem dJ7_fill_53178_6 : decode cJ7_fill_53178 6 = .ok (.iload_n 3, 1) := by decide +kernel
theorem dJ7_fill_53178_7 : decode cJ7_fill_53178 7 = .ok (.if_icmp .ge 13, 3) := by decide +kernel
theorem dJ7_fill_53178_10 : decode cJ7_fill_53178 10 = .ok (.aload_n 0, 1) := by decide +kernel
theorem dJ7_fill_53178_11 : decode cJ7_fill_53178 11 = .ok (.iload_n 2, 1) := by decide +kernel
theorem dJ7_fill_53178_12 : decode cJ7_fill_53178 12 = .ok (.iload_n 1, 1) := by decide +kernel
theorem dJ7_fill_53178_13 : decode cJ7_fill_53178 13 = .ok (.iastore, 1) := by decide +kernel
theorem dJ7_fill_53178_14 : decode cJ7_fill_53178 14 = .ok (.iinc 2 1, 3) := by decide +kernel
theorem dJ7_fill_53178_17 : decode cJ7_fill_53178 17 = .ok (.goto (-12), 3) := by decide +kernel
theorem dJ7_fill_53178_20 : decode cJ7_fill_53178 20 = .ok (.return_, 1) := by decide +kernel
theorem layX2 : ∀ k, k < 16 → u_lay RX2 TX2 k ∈ tblG := fun k hk => match k, hk with
  | 0, _ => gw1 147 (by decide +kernel) (by decide +kernel)
  | 1, _ => gw1 149 (by decide +kernel) (by decide +kernel)
  | 2, _ => gw1 151 (by decide +kernel) (by decide +kernel)
  | 3, _ => gw1 153 (by decide +kernel) (by decide +kernel)
  | 4, _ => gw1 155 (by decide +kernel) (by decide +kernel)
  | 5, _ => gw1 157 (by decide +kernel) (by decide +kernel)
  | 6, _ => gw1 159 (by decide +kernel) (by decide +kernel)
  | 7, _ => gw1 161 (by decide +kernel) (by decide +kernel)
  | 8, _ => gw1 163 (by decide +kernel) (by decide +kernel)
  | 9, _ => gw1 165 (by decide +kernel) (by decide +kernel)
  | 10, _ => gw1 167 (by decide +kernel) (by decide +kernel)
  | 11, _ => gw1 169 (by decide +kernel) (by decide +kernel)
  | 12, _ => gw1 171 (by decide +kernel) (by decide +kernel)
  | 13, _ => gw1 173 (by decide +kernel) (by decide +kernel)
  | 14, _ => gw1 175 (by decide +kernel) (by decide +kernel)
  | 15, _ => gw1 177 (by decide +kernel) (by decide +kernel)
  | k + 16, hk => absurd hk (by omega)
theorem clX2 : CLk 2 RX2 TX2 16 tyX2 := ⟨rfl, fun w hw => by
  obtain ⟨k, hk, rfl⟩ := List.mem_map.mp hw
  exact layX2 k (List.mem_range.mp hk), tyX2_ok, nmX2⟩
theorem wd0 : Cond.fieldLink RX2 24 RX2 "inns" "I" ∈ tblG := gw1 102 (by decide +kernel) (by decide +kernel)
theorem fk_X2_24 : FLk RX2 24 2 4 (.int) false := ⟨RX2, TX2, 16, tyX2, clX2, by decide, rfl, rfl, rfl, Or.inl wd0⟩
theorem wd1 : Cond.fieldLink RX2 27 RX2 "posts" "I" ∈ tblG := gw1 105 (by decide +kernel) (by decide +kernel)
theorem fk_X2_27 : FLk RX2 27 2 5 (.int) false := ⟨RX2, TX2, 16, tyX2, clX2, by decide, rfl, rfl, rfl, Or.inl wd1⟩
theorem wd2 : Cond.fieldLink RX2 36 RX2 "walkers" "I" ∈ tblG := gw1 116 (by decide +kernel) (by decide +kernel)
theorem fk_X2_36 : FLk RX2 36 2 8 (.int) false := ⟨RX2, TX2, 16, tyX2, clX2, by decide, rfl, rfl, rfl, Or.inl wd2⟩
theorem wd3 : Cond.methodLink RX2 88 yX2_hasInn ∈ tblG := gw3 152 (by decide +kernel) (by decide +kernel)
theorem wd4 : Cond.instanceMethod yX2_hasInn ∈ tblG := gw3 90 (by decide +kernel) (by decide +kernel)
theorem wd5 : Cond.selects RX2 yX2_hasInn yX2_hasInn ∈ tblG := gw3 91 (by decide +kernel) (by decide +kernel)
theorem wd6 : Cond.initialized RX2 ∈ tblG := gw1 3 (by decide +kernel) (by decide +kernel)
theorem wd7 : Cond.code yX2_hasInn cX2_hasInn 2 (some .boolean) ∈ tblG := gw3 92 (by decide +kernel) (by decide +kernel)
theorem pl_X2_hasInn : Plain yX2_hasInn 1 := ⟨by decide, by decide, by decide +kernel⟩
theorem lk_X2_88 : LkV RX2 88 2 yX2_hasInn cX2_hasInn 2 (some .boolean) 1 := ⟨⟨TX2, 16, rfl⟩, wd3, wd4, wd5, wd6, wd7, pl_X2_hasInn⟩
theorem wd8 : Cond.methodLink RX2 84 yX2_hasPost ∈ tblG := gw3 151 (by decide +kernel) (by decide +kernel)
theorem wd9 : Cond.instanceMethod yX2_hasPost ∈ tblG := gw3 98 (by decide +kernel) (by decide +kernel)
theorem wd10 : Cond.selects RX2 yX2_hasPost yX2_hasPost ∈ tblG := gw3 99 (by decide +kernel) (by decide +kernel)
theorem wd11 : Cond.code yX2_hasPost cX2_hasPost 2 (some .boolean) ∈ tblG := gw3 100 (by decide +kernel) (by decide +kernel)
theorem pl_X2_hasPost : Plain yX2_hasPost 1 := ⟨by decide, by decide, by decide +kernel⟩
theorem lk_X2_84 : LkV RX2 84 2 yX2_hasPost cX2_hasPost 2 (some .boolean) 1 := ⟨⟨TX2, 16, rfl⟩, wd8, wd9, wd10, wd6, wd11, pl_X2_hasPost⟩
theorem wd12 : Cond.fieldLink RX2 9 RX2 "lines" "I" ∈ tblG := gw1 85 (by decide +kernel) (by decide +kernel)
theorem fk_X2_9 : FLk RX2 9 2 0 (.int) false := ⟨RX2, TX2, 16, tyX2, clX2, by decide, rfl, rfl, rfl, Or.inl wd12⟩
theorem wd13 : Cond.methodLink RX2 91 yX2_isTold ∈ tblG := gw3 130 (by decide +kernel) (by decide +kernel)
theorem wd14 : Cond.instanceMethod yX2_isTold ∈ tblG := gw3 131 (by decide +kernel) (by decide +kernel)
theorem wd15 : Cond.selects RX2 yX2_isTold yX2_isTold ∈ tblG := gw3 132 (by decide +kernel) (by decide +kernel)
theorem wd16 : Cond.code yX2_isTold cX2_isTold 1 (some .boolean) ∈ tblG := gw3 133 (by decide +kernel) (by decide +kernel)
theorem pl_X2_isTold : Plain yX2_isTold 0 := ⟨by decide, by decide, by decide +kernel⟩
theorem lk_X2_91 : LkV RX2 91 2 yX2_isTold cX2_isTold 1 (some .boolean) 0 := ⟨⟨TX2, 16, rfl⟩, wd13, wd14, wd15, wd6, wd16, pl_X2_isTold⟩
theorem wd17 : Cond.methodLink RX2 95 yX2_hasHour ∈ tblG := gw3 165 (by decide +kernel) (by decide +kernel)
theorem wd18 : Cond.instanceMethod yX2_hasHour ∈ tblG := gw3 127 (by decide +kernel) (by decide +kernel)
theorem wd19 : Cond.selects RX2 yX2_hasHour yX2_hasHour ∈ tblG := gw3 128 (by decide +kernel) (by decide +kernel)
theorem wd20 : Cond.code yX2_hasHour cX2_hasHour 2 (some .boolean) ∈ tblG := gw3 129 (by decide +kernel) (by decide +kernel)
theorem pl_X2_hasHour : Plain yX2_hasHour 1 := ⟨by decide, by decide, by decide +kernel⟩
theorem lk_X2_95 : LkV RX2 95 2 yX2_hasHour cX2_hasHour 2 (some .boolean) 1 := ⟨⟨TX2, 16, rfl⟩, wd17, wd18, wd19, wd6, wd20, pl_X2_hasHour⟩
theorem wd21 : Cond.constant RX7 418 (2000000000) ∈ tblG := gw5 185 (by decide +kernel) (by decide +kernel)
theorem layX7 : ∀ k, k < 12 → u_lay RX7 TX7 k ∈ tblG := fun k hk => match k, hk with
  | 0, _ => gw2 36 (by decide +kernel) (by decide +kernel)
  | 1, _ => gw2 38 (by decide +kernel) (by decide +kernel)
  | 2, _ => gw2 40 (by decide +kernel) (by decide +kernel)
  | 3, _ => gw2 42 (by decide +kernel) (by decide +kernel)
  | 4, _ => gw2 44 (by decide +kernel) (by decide +kernel)
  | 5, _ => gw2 46 (by decide +kernel) (by decide +kernel)
  | 6, _ => gw2 48 (by decide +kernel) (by decide +kernel)
  | 7, _ => gw2 50 (by decide +kernel) (by decide +kernel)
  | 8, _ => gw2 52 (by decide +kernel) (by decide +kernel)
  | 9, _ => gw2 54 (by decide +kernel) (by decide +kernel)
  | 10, _ => gw2 56 (by decide +kernel) (by decide +kernel)
  | 11, _ => gw2 58 (by decide +kernel) (by decide +kernel)
  | k + 12, hk => absurd hk (by omega)
theorem clX7 : CLk 7 RX7 TX7 12 tyX7 := ⟨rfl, fun w hw => by
  obtain ⟨k, hk, rfl⟩ := List.mem_map.mp hw
  exact layX7 k (List.mem_range.mp hk), tyX7_ok, nmX7⟩
theorem wd22 : Cond.fieldLink RX7 19 RX7 "heath" "LObligingPosts$Heath;" ∈ tblG := gw2 25 (by decide +kernel) (by decide +kernel)
theorem fk_X7_19 : FLk RX7 19 7 1 (.object "ObligingPosts$Heath") true := ⟨RX7, TX7, 12, tyX7, clX7, by decide, rfl, rfl, rfl, Or.inl wd22⟩
theorem wd23 : Cond.methodLink RX7 149 yX2_hasHourAhead ∈ tblG := gw3 161 (by decide +kernel) (by decide +kernel)
theorem wd24 : Cond.instanceMethod yX2_hasHourAhead ∈ tblG := gw3 162 (by decide +kernel) (by decide +kernel)
theorem wd25 : Cond.selects RX2 yX2_hasHourAhead yX2_hasHourAhead ∈ tblG := gw3 163 (by decide +kernel) (by decide +kernel)
theorem wd26 : Cond.code yX2_hasHourAhead cX2_hasHourAhead 2 (some .boolean) ∈ tblG := gw3 164 (by decide +kernel) (by decide +kernel)
theorem pl_X2_hasHourAhead : Plain yX2_hasHourAhead 1 := ⟨by decide, by decide, by decide +kernel⟩
theorem lk_X7_149 : LkV RX7 149 2 yX2_hasHourAhead cX2_hasHourAhead 2 (some .boolean) 1 := ⟨⟨TX2, 16, rfl⟩, wd23, wd24, wd25, wd6, wd26, pl_X2_hasHourAhead⟩
theorem wd27 : Cond.methodLink RX7 122 yX2_hasWalker ∈ tblG := gw3 115 (by decide +kernel) (by decide +kernel)
theorem wd28 : Cond.instanceMethod yX2_hasWalker ∈ tblG := gw3 116 (by decide +kernel) (by decide +kernel)
theorem wd29 : Cond.selects RX2 yX2_hasWalker yX2_hasWalker ∈ tblG := gw3 117 (by decide +kernel) (by decide +kernel)
theorem wd30 : Cond.code yX2_hasWalker cX2_hasWalker 2 (some .boolean) ∈ tblG := gw3 118 (by decide +kernel) (by decide +kernel)
theorem pl_X2_hasWalker : Plain yX2_hasWalker 1 := ⟨by decide, by decide, by decide +kernel⟩
theorem lk_X7_122 : LkV RX7 122 2 yX2_hasWalker cX2_hasWalker 2 (some .boolean) 1 := ⟨⟨TX2, 16, rfl⟩, wd27, wd28, wd29, wd6, wd30, pl_X2_hasWalker⟩
theorem wd31 : Cond.methodLink RX7 389 yX7_isSlot ∈ tblG := gw5 27 (by decide +kernel) (by decide +kernel)
theorem wd32 : Cond.static yX7_isSlot ∈ tblG := gw5 28 (by decide +kernel) (by decide +kernel)
theorem wd33 : Cond.initialized RX7 ∈ tblG := gw1 1 (by decide +kernel) (by decide +kernel)
theorem wd34 : Cond.code yX7_isSlot cX7_isSlot 1 (some .boolean) ∈ tblG := gw5 29 (by decide +kernel) (by decide +kernel)
theorem pl_X7_isSlot : Plain yX7_isSlot 1 := ⟨by decide, by decide, by decide +kernel⟩
theorem lk_X7_389 : LkS RX7 389 yX7_isSlot cX7_isSlot 1 (some .boolean) 1 := ⟨wd31, wd32, wd33, wd34, pl_X7_isSlot⟩
theorem wd35 : Cond.methodLink RX7 99 yX2_hasInn ∈ tblG := gw3 89 (by decide +kernel) (by decide +kernel)
theorem lk_X7_99 : LkV RX7 99 2 yX2_hasInn cX2_hasInn 2 (some .boolean) 1 := ⟨⟨TX2, 16, rfl⟩, wd35, wd4, wd5, wd6, wd7, pl_X2_hasInn⟩
theorem wd36 : Cond.methodLink RX7 106 yX2_hasPost ∈ tblG := gw3 97 (by decide +kernel) (by decide +kernel)
theorem lk_X7_106 : LkV RX7 106 2 yX2_hasPost cX2_hasPost 2 (some .boolean) 1 := ⟨⟨TX2, 16, rfl⟩, wd36, wd9, wd10, wd6, wd11, pl_X2_hasPost⟩
theorem wd37 : Cond.methodLink RX7 143 yX2_hasPlace ∈ tblG := gw3 147 (by decide +kernel) (by decide +kernel)
theorem wd38 : Cond.instanceMethod yX2_hasPlace ∈ tblG := gw3 148 (by decide +kernel) (by decide +kernel)
theorem wd39 : Cond.selects RX2 yX2_hasPlace yX2_hasPlace ∈ tblG := gw3 149 (by decide +kernel) (by decide +kernel)
theorem wd40 : Cond.code yX2_hasPlace cX2_hasPlace 2 (some .boolean) ∈ tblG := gw3 150 (by decide +kernel) (by decide +kernel)
theorem pl_X2_hasPlace : Plain yX2_hasPlace 1 := ⟨by decide, by decide, by decide +kernel⟩
theorem lk_X7_143 : LkV RX7 143 2 yX2_hasPlace cX2_hasPlace 2 (some .boolean) 1 := ⟨⟨TX2, 16, rfl⟩, wd37, wd38, wd39, wd6, wd40, pl_X2_hasPlace⟩
theorem wd41 : Cond.methodLink RX7 134 yX2_hasHour ∈ tblG := gw3 126 (by decide +kernel) (by decide +kernel)
theorem lk_X7_134 : LkV RX7 134 2 yX2_hasHour cX2_hasHour 2 (some .boolean) 1 := ⟨⟨TX2, 16, rfl⟩, wd41, wd18, wd19, wd6, wd20, pl_X2_hasHour⟩
theorem wd42 : Cond.methodLink RX7 198 yX2_isTold ∈ tblG := gw4 64 (by decide +kernel) (by decide +kernel)
theorem lk_X7_198 : LkV RX7 198 2 yX2_isTold cX2_isTold 1 (some .boolean) 0 := ⟨⟨TX2, 16, rfl⟩, wd42, wd14, wd15, wd6, wd16, pl_X2_isTold⟩
theorem wd43 : Cond.methodLink RX7 212 yX7_areTwo ∈ tblG := gw4 94 (by decide +kernel) (by decide +kernel)
theorem wd44 : Cond.instanceMethod yX7_areTwo ∈ tblG := gw4 96 (by decide +kernel) (by decide +kernel)
theorem wd45 : Cond.selects RX7 yX7_areTwo yX7_areTwo ∈ tblG := gw0 25 (by decide +kernel) (by decide +kernel)
theorem wd46 : Cond.code yX7_areTwo cX7_areTwo 3 (some .boolean) ∈ tblG := gw4 97 (by decide +kernel) (by decide +kernel)
theorem pl_X7_areTwo : Plain yX7_areTwo 2 := ⟨by decide, by decide, by decide +kernel⟩
theorem lk_X7_212 : LkV RX7 212 7 yX7_areTwo cX7_areTwo 3 (some .boolean) 2 := ⟨⟨TX7, 12, rfl⟩, wd43, wd44, wd45, wd33, wd46, pl_X7_areTwo⟩
theorem wd47 : Cond.methodLink RX7 288 yX7_refusalOfSeen ∈ tblG := gw5 23 (by decide +kernel) (by decide +kernel)
theorem wd48 : Cond.instanceMethod yX7_refusalOfSeen ∈ tblG := gw5 25 (by decide +kernel) (by decide +kernel)
theorem wd49 : Cond.selects RX7 yX7_refusalOfSeen yX7_refusalOfSeen ∈ tblG := gw0 31 (by decide +kernel) (by decide +kernel)
theorem wd50 : Cond.code yX7_refusalOfSeen cX7_refusalOfSeen 3 (some .int) ∈ tblG := gw5 26 (by decide +kernel) (by decide +kernel)
theorem pl_X7_refusalOfSeen : Plain yX7_refusalOfSeen 2 := ⟨by decide, by decide, by decide +kernel⟩
theorem lk_X7_288 : LkV RX7 288 7 yX7_refusalOfSeen cX7_refusalOfSeen 3 (some .int) 2 := ⟨⟨TX7, 12, rfl⟩, wd47, wd48, wd49, wd33, wd50, pl_X7_refusalOfSeen⟩
theorem wd51 : Cond.constantLong RX7 330 (-2) ∈ tblG := gw5 129 (by decide +kernel) (by decide +kernel)
theorem wd52 : Cond.methodLink RX7 327 yX7_isFogHour ∈ tblG := gw5 125 (by decide +kernel) (by decide +kernel)
theorem wd53 : Cond.instanceMethod yX7_isFogHour ∈ tblG := gw5 127 (by decide +kernel) (by decide +kernel)
theorem wd54 : Cond.selects RX7 yX7_isFogHour yX7_isFogHour ∈ tblG := gw0 42 (by decide +kernel) (by decide +kernel)
theorem wd55 : Cond.code yX7_isFogHour cX7_isFogHour 2 (some .boolean) ∈ tblG := gw5 128 (by decide +kernel) (by decide +kernel)
theorem pl_X7_isFogHour : Plain yX7_isFogHour 1 := ⟨by decide, by decide, by decide +kernel⟩
theorem lk_X7_327 : LkV RX7 327 7 yX7_isFogHour cX7_isFogHour 2 (some .boolean) 1 := ⟨⟨TX7, 12, rfl⟩, wd52, wd53, wd54, wd33, wd55, pl_X7_isFogHour⟩
theorem wd56 : Cond.methodLink RX7 361 yX7_isSeed ∈ tblG := gw5 182 (by decide +kernel) (by decide +kernel)
theorem wd57 : Cond.static yX7_isSeed ∈ tblG := gw5 183 (by decide +kernel) (by decide +kernel)
theorem wd58 : Cond.code yX7_isSeed cX7_isSeed 1 (some .boolean) ∈ tblG := gw5 184 (by decide +kernel) (by decide +kernel)
theorem pl_X7_isSeed : Plain yX7_isSeed 1 := ⟨by decide, by decide, by decide +kernel⟩
theorem lk_X7_361 : LkS RX7 361 yX7_isSeed cX7_isSeed 1 (some .boolean) 1 := ⟨wd56, wd57, wd33, wd58, pl_X7_isSeed⟩
theorem wd59 : Cond.methodLink RX7 246 yX7_isFewInARow ∈ tblG := gw4 187 (by decide +kernel) (by decide +kernel)
theorem wd60 : Cond.static yX7_isFewInARow ∈ tblG := gw4 188 (by decide +kernel) (by decide +kernel)
theorem wd61 : Cond.code yX7_isFewInARow cX7_isFewInARow 1 (some .boolean) ∈ tblG := gw4 189 (by decide +kernel) (by decide +kernel)
theorem pl_X7_isFewInARow : Plain yX7_isFewInARow 1 := ⟨by decide, by decide, by decide +kernel⟩
theorem lk_X7_246 : LkS RX7 246 yX7_isFewInARow cX7_isFewInARow 1 (some .boolean) 1 := ⟨wd59, wd60, wd33, wd61, pl_X7_isFewInARow⟩
theorem wd62 : Cond.fieldLink RX7 12 RX7 "tape" "LObligingPosts$Tape;" ∈ tblG := gw2 24 (by decide +kernel) (by decide +kernel)
theorem fk_X7_12 : FLk RX7 12 7 0 (.object "ObligingPosts$Tape") true := ⟨RX7, TX7, 12, tyX7, clX7, by decide, rfl, rfl, rfl, Or.inl wd62⟩
theorem wd63 : Cond.fieldLink RX7 23 RX7 "draft" "LObligingPosts$Heath;" ∈ tblG := gw2 26 (by decide +kernel) (by decide +kernel)
theorem fk_X7_23 : FLk RX7 23 7 2 (.object "ObligingPosts$Heath") true := ⟨RX7, TX7, 12, tyX7, clX7, by decide, rfl, rfl, rfl, Or.inl wd63⟩
theorem wd64 : Cond.methodLink RX7 81 yX6_readInto ∈ tblG := gw2 77 (by decide +kernel) (by decide +kernel)
theorem wd65 : Cond.instanceMethod yX6_readInto ∈ tblG := gw2 78 (by decide +kernel) (by decide +kernel)
theorem wd66 : Cond.selects RX6 yX6_readInto yX6_readInto ∈ tblG := gw2 79 (by decide +kernel) (by decide +kernel)
theorem wd67 : Cond.initialized RX6 ∈ tblG := gw1 2 (by decide +kernel) (by decide +kernel)
theorem wd68 : Cond.code yX6_readInto cX6_readInto 3 none ∈ tblG := gw2 80 (by decide +kernel) (by decide +kernel)
theorem pl_X6_readInto : Plain yX6_readInto 1 := ⟨by decide, by decide, by decide +kernel⟩
theorem lk_X7_81 : LkV RX7 81 6 yX6_readInto cX6_readInto 3 none 1 := ⟨⟨TX6, 8, rfl⟩, wd64, wd65, wd66, wd67, wd68, pl_X6_readInto⟩
theorem wd69 : Cond.methodLink RX6 37 yX2_clear ∈ tblG := gw2 81 (by decide +kernel) (by decide +kernel)
theorem wd70 : Cond.instanceMethod yX2_clear ∈ tblG := gw2 82 (by decide +kernel) (by decide +kernel)
theorem wd71 : Cond.selects RX2 yX2_clear yX2_clear ∈ tblG := gw2 83 (by decide +kernel) (by decide +kernel)
theorem wd72 : Cond.code yX2_clear cX2_clear 1 none ∈ tblG := gw2 84 (by decide +kernel) (by decide +kernel)
theorem pl_X2_clear : Plain yX2_clear 0 := ⟨by decide, by decide, by decide +kernel⟩
theorem lk_X6_37 : LkV RX6 37 2 yX2_clear cX2_clear 1 none 0 := ⟨⟨TX2, 16, rfl⟩, wd69, wd70, wd71, wd6, wd72, pl_X2_clear⟩
theorem wd73 : Cond.fieldLink RX2 15 RX2 "hours" "I" ∈ tblG := gw1 88 (by decide +kernel) (by decide +kernel)
theorem fk_X2_15 : FLk RX2 15 2 1 (.int) false := ⟨RX2, TX2, 16, tyX2, clX2, by decide, rfl, rfl, rfl, Or.inl wd73⟩
theorem wd74 : Cond.fieldLink RX2 18 RX2 "law" "I" ∈ tblG := gw1 93 (by decide +kernel) (by decide +kernel)
theorem fk_X2_18 : FLk RX2 18 2 2 (.int) false := ⟨RX2, TX2, 16, tyX2, clX2, by decide, rfl, rfl, rfl, Or.inl wd74⟩
theorem wd75 : Cond.fieldLink RX2 21 RX2 "odds" "I" ∈ tblG := gw1 98 (by decide +kernel) (by decide +kernel)
theorem fk_X2_21 : FLk RX2 21 2 3 (.int) false := ⟨RX2, TX2, 16, tyX2, clX2, by decide, rfl, rfl, rfl, Or.inl wd75⟩
theorem wd76 : Cond.fieldLink RX2 30 RX2 "roads" "I" ∈ tblG := gw1 110 (by decide +kernel) (by decide +kernel)
theorem fk_X2_30 : FLk RX2 30 2 6 (.int) false := ⟨RX2, TX2, 16, tyX2, clX2, by decide, rfl, rfl, rfl, Or.inl wd76⟩
theorem wd77 : Cond.fieldLink RX2 33 RX2 "armLines" "I" ∈ tblG := gw1 113 (by decide +kernel) (by decide +kernel)
theorem fk_X2_33 : FLk RX2 33 2 7 (.int) false := ⟨RX2, TX2, 16, tyX2, clX2, by decide, rfl, rfl, rfl, Or.inl wd77⟩
theorem wd78 : Cond.fieldLink RX2 43 RX2 "roadsOf" "[I" ∈ tblG := gw1 125 (by decide +kernel) (by decide +kernel)
theorem fk_X2_43 : FLk RX2 43 2 10 (.array .int) true := ⟨RX2, TX2, 16, tyX2, clX2, by decide, rfl, rfl, rfl, Or.inl wd78⟩
theorem wd79 : Cond.methodLink RX2 65 yJ7_fill_53178 ∈ tblG := gw2 85 (by decide +kernel) (by decide +kernel)
theorem wd80 : Cond.static yJ7_fill_53178 ∈ tblG := gw2 86 (by decide +kernel) (by decide +kernel)
theorem wd81 : Cond.initialized RJ7 ∈ tblG := gw1 9 (by decide +kernel) (by decide +kernel)
theorem wd82 : Cond.code yJ7_fill_53178 cJ7_fill_53178 4 none ∈ tblG := gw2 87 (by decide +kernel) (by decide +kernel)
theorem pl_J7_fill_53178 : Plain yJ7_fill_53178 2 := ⟨by decide, by decide, by decide +kernel⟩
theorem lk_X2_65 : LkS RX2 65 yJ7_fill_53178 cJ7_fill_53178 4 none 2 := ⟨wd79, wd80, wd81, wd82, pl_J7_fill_53178⟩
theorem wd83 : Cond.fieldLink RX2 49 RX2 "toldArms" "[I" ∈ tblG := gw1 131 (by decide +kernel) (by decide +kernel)
theorem fk_X2_49 : FLk RX2 49 2 12 (.array .int) true := ⟨RX2, TX2, 16, tyX2, clX2, by decide, rfl, rfl, rfl, Or.inl wd83⟩
theorem wd84 : Cond.fieldLink RX2 61 RX2 "acts" "LObligingPosts$Acts;" ∈ tblG := gw1 144 (by decide +kernel) (by decide +kernel)
theorem fk_X2_61 : FLk RX2 61 2 15 (.object "ObligingPosts$Acts") true := ⟨RX2, TX2, 16, tyX2, clX2, by decide, rfl, rfl, rfl, Or.inl wd84⟩
theorem wd85 : Cond.methodLink RX2 71 yX0_clear ∈ tblG := gw2 88 (by decide +kernel) (by decide +kernel)
theorem wd86 : Cond.instanceMethod yX0_clear ∈ tblG := gw2 89 (by decide +kernel) (by decide +kernel)
theorem wd87 : Cond.selects RX0 yX0_clear yX0_clear ∈ tblG := gw2 90 (by decide +kernel) (by decide +kernel)
theorem wd88 : Cond.initialized RX0 ∈ tblG := gw1 4 (by decide +kernel) (by decide +kernel)
theorem wd89 : Cond.code yX0_clear cX0_clear 1 none ∈ tblG := gw2 91 (by decide +kernel) (by decide +kernel)
theorem pl_X0_clear : Plain yX0_clear 0 := ⟨by decide, by decide, by decide +kernel⟩
theorem lk_X2_71 : LkV RX2 71 0 yX0_clear cX0_clear 1 none 0 := ⟨⟨TX0, 3, rfl⟩, wd85, wd86, wd87, wd88, wd89, pl_X0_clear⟩
theorem layX0 : ∀ k, k < 3 → u_lay RX0 TX0 k ∈ tblG := fun k hk => match k, hk with
  | 0, _ => gw1 77 (by decide +kernel) (by decide +kernel)
  | 1, _ => gw1 79 (by decide +kernel) (by decide +kernel)
  | 2, _ => gw1 81 (by decide +kernel) (by decide +kernel)
  | k + 3, hk => absurd hk (by omega)
theorem clX0 : CLk 0 RX0 TX0 3 tyX0 := ⟨rfl, fun w hw => by
  obtain ⟨k, hk, rfl⟩ := List.mem_map.mp hw
  exact layX0 k (List.mem_range.mp hk), tyX0_ok, nmX0⟩
theorem wd90 : Cond.fieldLink RX0 9 RX0 "size" "I" ∈ tblG := gw1 73 (by decide +kernel) (by decide +kernel)
theorem fk_X0_9 : FLk RX0 9 0 0 (.int) false := ⟨RX0, TX0, 3, tyX0, clX0, by decide, rfl, rfl, rfl, Or.inl wd90⟩
theorem wd91 : Cond.fieldLink RX0 19 RX0 "times" "[I" ∈ tblG := gw1 76 (by decide +kernel) (by decide +kernel)
theorem fk_X0_19 : FLk RX0 19 0 2 (.array .int) true := ⟨RX0, TX0, 3, tyX0, clX0, by decide, rfl, rfl, rfl, Or.inl wd91⟩
theorem wd92 : Cond.methodLink RX0 22 yJ7_fill_53178 ∈ tblG := gw2 92 (by decide +kernel) (by decide +kernel)
theorem lk_X0_22 : LkS RX0 22 yJ7_fill_53178 cJ7_fill_53178 4 none 2 := ⟨wd92, wd80, wd81, wd82, pl_J7_fill_53178⟩
theorem layX6 : ∀ k, k < 8 → u_lay RX6 TX6 k ∈ tblG := fun k hk => match k, hk with
  | 0, _ => gw1 43 (by decide +kernel) (by decide +kernel)
  | 1, _ => gw1 45 (by decide +kernel) (by decide +kernel)
  | 2, _ => gw1 47 (by decide +kernel) (by decide +kernel)
  | 3, _ => gw1 49 (by decide +kernel) (by decide +kernel)
  | 4, _ => gw1 51 (by decide +kernel) (by decide +kernel)
  | 5, _ => gw1 53 (by decide +kernel) (by decide +kernel)
  | 6, _ => gw1 55 (by decide +kernel) (by decide +kernel)
  | 7, _ => gw1 57 (by decide +kernel) (by decide +kernel)
  | k + 8, hk => absurd hk (by omega)
theorem clX6 : CLk 6 RX6 TX6 8 tyX6 := ⟨rfl, fun w hw => by
  obtain ⟨k, hk, rfl⟩ := List.mem_map.mp hw
  exact layX6 k (List.mem_range.mp hk), tyX6_ok, nmX6⟩
theorem wd93 : Cond.fieldLink RX6 19 RX6 "fault" "I" ∈ tblG := gw1 35 (by decide +kernel) (by decide +kernel)
theorem fk_X6_19 : FLk RX6 19 6 2 (.int) false := ⟨RX6, TX6, 8, tyX6, clX6, by decide, rfl, rfl, rfl, Or.inl wd93⟩
theorem wd94 : Cond.fieldLink RX6 22 RX6 "faultPlace" "I" ∈ tblG := gw1 37 (by decide +kernel) (by decide +kernel)
theorem fk_X6_22 : FLk RX6 22 6 3 (.int) false := ⟨RX6, TX6, 8, tyX6, clX6, by decide, rfl, rfl, rfl, Or.inl wd94⟩
theorem wd95 : Cond.fieldLink RX6 31 RX6 "next" "I" ∈ tblG := gw1 41 (by decide +kernel) (by decide +kernel)
theorem fk_X6_31 : FLk RX6 31 6 6 (.int) false := ⟨RX6, TX6, 8, tyX6, clX6, by decide, rfl, rfl, rfl, Or.inl wd95⟩
theorem wd96 : Cond.methodLink RX6 42 yX6_take ∈ tblG := gw2 93 (by decide +kernel) (by decide +kernel)
theorem wd97 : Cond.instanceMethod yX6_take ∈ tblG := gw2 95 (by decide +kernel) (by decide +kernel)
theorem wd98 : Cond.selects RX6 yX6_take yX6_take ∈ tblG := gw0 0 (by decide +kernel) (by decide +kernel)
theorem wd99 : Cond.code yX6_take cX6_take 1 none ∈ tblG := gw2 96 (by decide +kernel) (by decide +kernel)
theorem pl_X6_take : Plain yX6_take 0 := ⟨by decide, by decide, by decide +kernel⟩
theorem lk_X6_42 : LkV RX6 42 6 yX6_take cX6_take 1 none 0 := ⟨⟨TX6, 8, rfl⟩, wd96, wd97, wd98, wd67, wd99, pl_X6_take⟩
theorem wd100 : Cond.fieldLink RX6 15 RX6 "size" "I" ∈ tblG := gw1 33 (by decide +kernel) (by decide +kernel)
theorem fk_X6_15 : FLk RX6 15 6 1 (.int) false := ⟨RX6, TX6, 8, tyX6, clX6, by decide, rfl, rfl, rfl, Or.inl wd100⟩
theorem wd101 : Cond.fieldLink RX6 28 RX6 "start" "I" ∈ tblG := gw1 40 (by decide +kernel) (by decide +kernel)
theorem fk_X6_28 : FLk RX6 28 6 5 (.int) false := ⟨RX6, TX6, 8, tyX6, clX6, by decide, rfl, rfl, rfl, Or.inl wd101⟩
theorem wd102 : Cond.fieldLink RX6 34 RX6 "value" "I" ∈ tblG := gw1 42 (by decide +kernel) (by decide +kernel)
theorem fk_X6_34 : FLk RX6 34 6 7 (.int) false := ⟨RX6, TX6, 8, tyX6, clX6, by decide, rfl, rfl, rfl, Or.inl wd102⟩
theorem wd103 : Cond.fieldLink RX6 25 RX6 "kind" "I" ∈ tblG := gw1 39 (by decide +kernel) (by decide +kernel)
theorem fk_X6_25 : FLk RX6 25 6 4 (.int) false := ⟨RX6, TX6, 8, tyX6, clX6, by decide, rfl, rfl, rfl, Or.inl wd103⟩
theorem fk_X7_84 : FLk RX7 84 6 2 (.int) false := ⟨RX6, TX6, 8, tyX6, clX6, by decide, rfl, rfl, rfl, Or.inr ⟨"ObligingPosts", List.mem_of_getElem? (i := 1) (by decide +kernel)⟩⟩
theorem fk_X7_73 : FLk RX7 73 6 1 (.int) false := ⟨RX6, TX6, 8, tyX6, clX6, by decide, rfl, rfl, rfl, Or.inr ⟨"ObligingPosts", List.mem_of_getElem? (i := 0) (by decide +kernel)⟩⟩
theorem wd104 : Cond.methodLink RX7 87 yX2_copyFrom ∈ tblG := gw2 231 (by decide +kernel) (by decide +kernel)
theorem wd105 : Cond.instanceMethod yX2_copyFrom ∈ tblG := gw2 232 (by decide +kernel) (by decide +kernel)
theorem wd106 : Cond.selects RX2 yX2_copyFrom yX2_copyFrom ∈ tblG := gw2 233 (by decide +kernel) (by decide +kernel)
theorem wd107 : Cond.code yX2_copyFrom cX2_copyFrom 2 none ∈ tblG := gw2 234 (by decide +kernel) (by decide +kernel)
theorem pl_X2_copyFrom : Plain yX2_copyFrom 1 := ⟨by decide, by decide, by decide +kernel⟩
theorem lk_X7_87 : LkV RX7 87 2 yX2_copyFrom cX2_copyFrom 2 none 1 := ⟨⟨TX2, 16, rfl⟩, wd104, wd105, wd106, wd6, wd107, pl_X2_copyFrom⟩
theorem wd108 : Cond.fieldLink RX2 39 RX2 "rooms" "[I" ∈ tblG := gw1 121 (by decide +kernel) (by decide +kernel)
theorem fk_X2_39 : FLk RX2 39 2 9 (.array .int) true := ⟨RX2, TX2, 16, tyX2, clX2, by decide, rfl, rfl, rfl, Or.inl wd108⟩
theorem wd109 : Cond.methodLink RX2 74 arraycopyName ∈ tblG := gw2 235 (by decide +kernel) (by decide +kernel)
theorem wd110 : Cond.native arraycopyName ∈ tblG := gw2 237 (by decide +kernel) (by decide +kernel)
theorem wd111 : Cond.static arraycopyName ∈ tblG := gw2 236 (by decide +kernel) (by decide +kernel)
theorem wd112 : Cond.initialized RJ10 ∈ tblG := gw1 15 (by decide +kernel) (by decide +kernel)
theorem wd113 : Cond.fieldLink RX2 46 RX2 "goals" "[I" ∈ tblG := gw1 130 (by decide +kernel) (by decide +kernel)
theorem fk_X2_46 : FLk RX2 46 2 11 (.array .int) true := ⟨RX2, TX2, 16, tyX2, clX2, by decide, rfl, rfl, rfl, Or.inl wd113⟩
theorem wd114 : Cond.fieldLink RX2 52 RX2 "starts" "[I" ∈ tblG := gw1 136 (by decide +kernel) (by decide +kernel)
theorem fk_X2_52 : FLk RX2 52 2 13 (.array .int) true := ⟨RX2, TX2, 16, tyX2, clX2, by decide, rfl, rfl, rfl, Or.inl wd114⟩
theorem wd115 : Cond.fieldLink RX2 55 RX2 "comings" "[I" ∈ tblG := gw1 140 (by decide +kernel) (by decide +kernel)
theorem fk_X2_55 : FLk RX2 55 2 14 (.array .int) true := ⟨RX2, TX2, 16, tyX2, clX2, by decide, rfl, rfl, rfl, Or.inl wd115⟩
theorem wd116 : Cond.methodLink RX2 80 yX0_copyFrom ∈ tblG := gw2 238 (by decide +kernel) (by decide +kernel)
theorem wd117 : Cond.instanceMethod yX0_copyFrom ∈ tblG := gw2 239 (by decide +kernel) (by decide +kernel)
theorem wd118 : Cond.selects RX0 yX0_copyFrom yX0_copyFrom ∈ tblG := gw3 0 (by decide +kernel) (by decide +kernel)
theorem wd119 : Cond.code yX0_copyFrom cX0_copyFrom 2 none ∈ tblG := gw3 1 (by decide +kernel) (by decide +kernel)
theorem pl_X0_copyFrom : Plain yX0_copyFrom 1 := ⟨by decide, by decide, by decide +kernel⟩
theorem lk_X2_80 : LkV RX2 80 0 yX0_copyFrom cX0_copyFrom 2 none 1 := ⟨⟨TX0, 3, rfl⟩, wd116, wd117, wd118, wd88, wd119, pl_X0_copyFrom⟩
theorem wd120 : Cond.fieldLink RX0 15 RX0 "codes" "[I" ∈ tblG := gw1 75 (by decide +kernel) (by decide +kernel)
theorem fk_X0_15 : FLk RX0 15 0 1 (.array .int) true := ⟨RX0, TX0, 3, tyX0, clX0, by decide, rfl, rfl, rfl, Or.inl wd120⟩
theorem wd121 : Cond.methodLink RX0 28 arraycopyName ∈ tblG := gw3 2 (by decide +kernel) (by decide +kernel)
theorem wd122 : Cond.methodLink RX7 90 yX7_changed ∈ tblG := gw3 3 (by decide +kernel) (by decide +kernel)
theorem wd123 : Cond.instanceMethod yX7_changed ∈ tblG := gw3 5 (by decide +kernel) (by decide +kernel)
theorem wd124 : Cond.selects RX7 yX7_changed yX7_changed ∈ tblG := gw0 15 (by decide +kernel) (by decide +kernel)
theorem wd125 : Cond.code yX7_changed cX7_changed 1 none ∈ tblG := gw3 6 (by decide +kernel) (by decide +kernel)
theorem pl_X7_changed : Plain yX7_changed 0 := ⟨by decide, by decide, by decide +kernel⟩
theorem lk_X7_90 : LkV RX7 90 7 yX7_changed cX7_changed 1 none 0 := ⟨⟨TX7, 12, rfl⟩, wd122, wd123, wd124, wd33, wd125, pl_X7_changed⟩
theorem wd126 : Cond.fieldLink RX7 66 RX7 "worthsKnown" "Z" ∈ tblG := gw2 34 (by decide +kernel) (by decide +kernel)
theorem fk_X7_66 : FLk RX7 66 7 10 (.boolean) false := ⟨RX7, TX7, 12, tyX7, clX7, by decide, rfl, rfl, rfl, Or.inl wd126⟩
theorem wd127 : Cond.fieldLink RX7 58 RX7 "fog" "LObligingPosts$Fog;" ∈ tblG := gw2 32 (by decide +kernel) (by decide +kernel)
theorem fk_X7_58 : FLk RX7 58 7 8 (.object "ObligingPosts$Fog") true := ⟨RX7, TX7, 12, tyX7, clX7, by decide, rfl, rfl, rfl, Or.inl wd127⟩
theorem wd128 : Cond.methodLink RX7 415 yX1_forget ∈ tblG := gw3 7 (by decide +kernel) (by decide +kernel)
theorem wd129 : Cond.instanceMethod yX1_forget ∈ tblG := gw3 8 (by decide +kernel) (by decide +kernel)
theorem wd130 : Cond.selects RX1 yX1_forget yX1_forget ∈ tblG := gw3 9 (by decide +kernel) (by decide +kernel)
theorem wd131 : Cond.initialized RX1 ∈ tblG := gw1 7 (by decide +kernel) (by decide +kernel)
theorem wd132 : Cond.code yX1_forget cX1_forget 1 none ∈ tblG := gw3 10 (by decide +kernel) (by decide +kernel)
theorem pl_X1_forget : Plain yX1_forget 0 := ⟨by decide, by decide, by decide +kernel⟩
theorem lk_X7_415 : LkV RX7 415 1 yX1_forget cX1_forget 1 none 0 := ⟨⟨TX1, 4, rfl⟩, wd128, wd129, wd130, wd131, wd132, pl_X1_forget⟩
theorem layX1 : ∀ k, k < 4 → u_lay RX1 TX1 k ∈ tblG := fun k hk => match k, hk with
  | 0, _ => gw2 14 (by decide +kernel) (by decide +kernel)
  | 1, _ => gw2 16 (by decide +kernel) (by decide +kernel)
  | 2, _ => gw2 18 (by decide +kernel) (by decide +kernel)
  | 3, _ => gw2 20 (by decide +kernel) (by decide +kernel)
  | k + 4, hk => absurd hk (by omega)
theorem clX1 : CLk 1 RX1 TX1 4 tyX1 := ⟨rfl, fun w hw => by
  obtain ⟨k, hk, rfl⟩ := List.mem_map.mp hw
  exact layX1 k (List.mem_range.mp hk), tyX1_ok, nmX1⟩
theorem wd133 : Cond.fieldLink RX1 9 RX1 "learned" "I" ∈ tblG := gw2 9 (by decide +kernel) (by decide +kernel)
theorem fk_X1_9 : FLk RX1 9 1 1 (.int) false := ⟨RX1, TX1, 4, tyX1, clX1, by decide, rfl, rfl, rfl, Or.inl wd133⟩
theorem wd134 : Cond.fieldLink RX7 41 RX7 "now" "LObligingPosts$Night;" ∈ tblG := gw2 29 (by decide +kernel) (by decide +kernel)
theorem fk_X7_41 : FLk RX7 41 7 5 (.object "ObligingPosts$Night") true := ⟨RX7, TX7, 12, tyX7, clX7, by decide, rfl, rfl, rfl, Or.inl wd134⟩
theorem wd135 : Cond.methodLink RX7 279 yX4_prepare ∈ tblG := gw3 11 (by decide +kernel) (by decide +kernel)
theorem wd136 : Cond.instanceMethod yX4_prepare ∈ tblG := gw3 12 (by decide +kernel) (by decide +kernel)
theorem wd137 : Cond.selects RX4 yX4_prepare yX4_prepare ∈ tblG := gw3 13 (by decide +kernel) (by decide +kernel)
theorem wd138 : Cond.initialized RX4 ∈ tblG := gw1 5 (by decide +kernel) (by decide +kernel)
theorem wd139 : Cond.code yX4_prepare cX4_prepare 1 none ∈ tblG := gw3 14 (by decide +kernel) (by decide +kernel)
theorem pl_X4_prepare : Plain yX4_prepare 0 := ⟨by decide, by decide, by decide +kernel⟩
theorem lk_X7_279 : LkV RX7 279 4 yX4_prepare cX4_prepare 1 none 0 := ⟨⟨TX4, 9, rfl⟩, wd135, wd136, wd137, wd138, wd139, pl_X4_prepare⟩
theorem layX4 : ∀ k, k < 9 → u_lay RX4 TX4 k ∈ tblG := fun k hk => match k, hk with
  | 0, _ => gw1 205 (by decide +kernel) (by decide +kernel)
  | 1, _ => gw1 207 (by decide +kernel) (by decide +kernel)
  | 2, _ => gw1 209 (by decide +kernel) (by decide +kernel)
  | 3, _ => gw1 211 (by decide +kernel) (by decide +kernel)
  | 4, _ => gw1 213 (by decide +kernel) (by decide +kernel)
  | 5, _ => gw1 215 (by decide +kernel) (by decide +kernel)
  | 6, _ => gw1 217 (by decide +kernel) (by decide +kernel)
  | 7, _ => gw1 219 (by decide +kernel) (by decide +kernel)
  | 8, _ => gw1 221 (by decide +kernel) (by decide +kernel)
  | k + 9, hk => absurd hk (by omega)
theorem clX4 : CLk 4 RX4 TX4 9 tyX4 := ⟨rfl, fun w hw => by
  obtain ⟨k, hk, rfl⟩ := List.mem_map.mp hw
  exact layX4 k (List.mem_range.mp hk), tyX4_ok, nmX4⟩
theorem wd140 : Cond.fieldLink RX4 37 RX4 "heath" "LObligingPosts$Heath;" ∈ tblG := gw1 189 (by decide +kernel) (by decide +kernel)
theorem fk_X4_37 : FLk RX4 37 4 0 (.object "ObligingPosts$Heath") true := ⟨RX4, TX4, 9, tyX4, clX4, by decide, rfl, rfl, rfl, Or.inl wd140⟩
theorem fk_X4_41 : FLk RX4 41 2 2 (.int) false := ⟨RX2, TX2, 16, tyX2, clX2, by decide, rfl, rfl, rfl, Or.inr ⟨"ObligingPosts", List.mem_of_getElem? (i := 40) (by decide +kernel)⟩⟩
theorem wd141 : Cond.fieldLink RX4 9 RX4 "law" "I" ∈ tblG := gw1 190 (by decide +kernel) (by decide +kernel)
theorem fk_X4_9 : FLk RX4 9 4 1 (.int) false := ⟨RX4, TX4, 9, tyX4, clX4, by decide, rfl, rfl, rfl, Or.inl wd141⟩
theorem wd142 : Cond.fieldLink RX4 15 RX4 "turning" "I" ∈ tblG := gw1 192 (by decide +kernel) (by decide +kernel)
theorem fk_X4_15 : FLk RX4 15 4 2 (.int) false := ⟨RX4, TX4, 9, tyX4, clX4, by decide, rfl, rfl, rfl, Or.inl wd142⟩
theorem wd143 : Cond.fieldLink RX4 18 RX4 "foggy" "I" ∈ tblG := gw1 194 (by decide +kernel) (by decide +kernel)
theorem fk_X4_18 : FLk RX4 18 4 3 (.int) false := ⟨RX4, TX4, 9, tyX4, clX4, by decide, rfl, rfl, rfl, Or.inl wd143⟩
theorem fk_X4_44 : FLk RX4 44 2 14 (.array .int) true := ⟨RX2, TX2, 16, tyX2, clX2, by decide, rfl, rfl, rfl, Or.inr ⟨"ObligingPosts", List.mem_of_getElem? (i := 41) (by decide +kernel)⟩⟩
theorem wd144 : Cond.fieldLink RX4 21 RX4 "comings" "[I" ∈ tblG := gw1 197 (by decide +kernel) (by decide +kernel)
theorem fk_X4_21 : FLk RX4 21 4 4 (.array .int) true := ⟨RX4, TX4, 9, tyX4, clX4, by decide, rfl, rfl, rfl, Or.inl wd144⟩
theorem wd145 : Cond.methodLink RX4 45 arraycopyName ∈ tblG := gw3 15 (by decide +kernel) (by decide +kernel)
theorem fk_X4_51 : FLk RX4 51 2 12 (.array .int) true := ⟨RX2, TX2, 16, tyX2, clX2, by decide, rfl, rfl, rfl, Or.inr ⟨"ObligingPosts", List.mem_of_getElem? (i := 42) (by decide +kernel)⟩⟩
theorem wd146 : Cond.fieldLink RX4 28 RX4 "arms" "[I" ∈ tblG := gw1 201 (by decide +kernel) (by decide +kernel)
theorem fk_X4_28 : FLk RX4 28 4 6 (.array .int) true := ⟨RX4, TX4, 9, tyX4, clX4, by decide, rfl, rfl, rfl, Or.inl wd146⟩
theorem wd147 : Cond.methodLink RX7 285 yX4_run ∈ tblG := gw3 16 (by decide +kernel) (by decide +kernel)
theorem wd148 : Cond.instanceMethod yX4_run ∈ tblG := gw3 17 (by decide +kernel) (by decide +kernel)
theorem wd149 : Cond.selects RX4 yX4_run yX4_run ∈ tblG := gw3 18 (by decide +kernel) (by decide +kernel)
theorem wd150 : Cond.code yX4_run cX4_run 2 none ∈ tblG := gw3 19 (by decide +kernel) (by decide +kernel)
theorem pl_X4_run : Plain yX4_run 0 := ⟨by decide, by decide, by decide +kernel⟩
theorem lk_X7_285 : LkV RX7 285 4 yX4_run cX4_run 2 none 0 := ⟨⟨TX4, 9, rfl⟩, wd147, wd148, wd149, wd138, wd150, pl_X4_run⟩
theorem wd151 : Cond.methodLink RX4 54 yX4_begin ∈ tblG := gw3 20 (by decide +kernel) (by decide +kernel)
theorem wd152 : Cond.instanceMethod yX4_begin ∈ tblG := gw3 21 (by decide +kernel) (by decide +kernel)
theorem wd153 : Cond.selects RX4 yX4_begin yX4_begin ∈ tblG := gw3 22 (by decide +kernel) (by decide +kernel)
theorem wd154 : Cond.code yX4_begin cX4_begin 2 none ∈ tblG := gw3 23 (by decide +kernel) (by decide +kernel)
theorem pl_X4_begin : Plain yX4_begin 0 := ⟨by decide, by decide, by decide +kernel⟩
theorem lk_X4_54 : LkV RX4 54 4 yX4_begin cX4_begin 2 none 0 := ⟨⟨TX4, 9, rfl⟩, wd151, wd152, wd153, wd138, wd154, pl_X4_begin⟩
theorem fk_X4_64 : FLk RX4 64 2 8 (.int) false := ⟨RX2, TX2, 16, tyX2, clX2, by decide, rfl, rfl, rfl, Or.inr ⟨"ObligingPosts", List.mem_of_getElem? (i := 44) (by decide +kernel)⟩⟩
theorem fk_X4_57 : FLk RX4 57 2 1 (.int) false := ⟨RX2, TX2, 16, tyX2, clX2, by decide, rfl, rfl, rfl, Or.inr ⟨"ObligingPosts", List.mem_of_getElem? (i := 43) (by decide +kernel)⟩⟩
theorem fk_X7_93 : FLk RX7 93 2 0 (.int) false := ⟨RX2, TX2, 16, tyX2, clX2, by decide, rfl, rfl, rfl, Or.inr ⟨"ObligingPosts", List.mem_of_getElem? (i := 2) (by decide +kernel)⟩⟩
theorem wd155 : Cond.methodLink RX7 3 objectInit ∈ tblG := gw1 23 (by decide +kernel) (by decide +kernel)
theorem wd156 : Cond.instanceMethod objectInit ∈ tblG := gw1 24 (by decide +kernel) (by decide +kernel)
theorem wd157 : Cond.code objectInit ⟨#[0xb1]⟩ 1 none ∈ tblG := gw1 25 (by decide +kernel) (by decide +kernel)
theorem wd158 : Cond.classLink RX7 9 RX6 ∈ tblG := gw1 26 (by decide +kernel) (by decide +kernel)
theorem wd159 : Cond.instantiable RX6 8 ∈ tblG := gw1 27 (by decide +kernel) (by decide +kernel)
theorem wd160 : Cond.instanceMethod yX6_init ∈ tblG := gw1 29 (by decide +kernel) (by decide +kernel)
theorem wd161 : Cond.code yX6_init cX6_init 1 none ∈ tblG := gw1 30 (by decide +kernel) (by decide +kernel)
theorem pl_X6_init : Plain yX6_init 0 := ⟨by decide, by decide, by decide +kernel⟩
theorem lk_X7_11 : LkI RX7 11 yX6_init cX6_init 1 0 := ⟨Or.inr ⟨"ObligingPosts", List.mem_of_getElem? (i := 64) (by decide +kernel)⟩, rfl, wd160, wd67, wd161, pl_X6_init⟩
theorem wd162 : Cond.methodLink RX6 3 objectInit ∈ tblG := gw1 31 (by decide +kernel) (by decide +kernel)
theorem wd163 : Cond.arrayClass .byte ∈ tblG := gw1 60 (by decide +kernel) (by decide +kernel)
theorem wd164 : Cond.fieldLink RX6 9 RX6 "bytes" "[B" ∈ tblG := gw1 32 (by decide +kernel) (by decide +kernel)
theorem fk_X6_9 : FLk RX6 9 6 0 (.array .byte) true := ⟨RX6, TX6, 8, tyX6, clX6, by decide, rfl, rfl, rfl, Or.inl wd164⟩
theorem wd165 : Cond.classLink RX7 16 RX2 ∈ tblG := gw1 61 (by decide +kernel) (by decide +kernel)
theorem wd166 : Cond.instantiable RX2 16 ∈ tblG := gw1 62 (by decide +kernel) (by decide +kernel)
theorem wd167 : Cond.instanceMethod yX2_init ∈ tblG := gw1 64 (by decide +kernel) (by decide +kernel)
theorem wd168 : Cond.code yX2_init cX2_init 1 none ∈ tblG := gw1 65 (by decide +kernel) (by decide +kernel)
theorem pl_X2_init : Plain yX2_init 0 := ⟨by decide, by decide, by decide +kernel⟩
theorem lk_X7_18 : LkI RX7 18 yX2_init cX2_init 1 0 := ⟨Or.inr ⟨"ObligingPosts", List.mem_of_getElem? (i := 65) (by decide +kernel)⟩, rfl, wd167, wd6, wd168, pl_X2_init⟩
theorem wd169 : Cond.methodLink RX2 3 objectInit ∈ tblG := gw1 66 (by decide +kernel) (by decide +kernel)
theorem wd170 : Cond.arrayClass .int ∈ tblG := gw1 84 (by decide +kernel) (by decide +kernel)
theorem wd171 : Cond.classLink RX2 58 RX0 ∈ tblG := gw1 67 (by decide +kernel) (by decide +kernel)
theorem wd172 : Cond.instantiable RX0 3 ∈ tblG := gw1 68 (by decide +kernel) (by decide +kernel)
theorem wd173 : Cond.instanceMethod yX0_init ∈ tblG := gw1 70 (by decide +kernel) (by decide +kernel)
theorem wd174 : Cond.code yX0_init cX0_init 1 none ∈ tblG := gw1 71 (by decide +kernel) (by decide +kernel)
theorem pl_X0_init : Plain yX0_init 0 := ⟨by decide, by decide, by decide +kernel⟩
theorem lk_X2_60 : LkI RX2 60 yX0_init cX0_init 1 0 := ⟨Or.inr ⟨"ObligingPosts", List.mem_of_getElem? (i := 67) (by decide +kernel)⟩, rfl, wd173, wd88, wd174, pl_X0_init⟩
theorem wd175 : Cond.methodLink RX0 3 objectInit ∈ tblG := gw1 72 (by decide +kernel) (by decide +kernel)
theorem wd176 : Cond.fieldLink RX7 26 RX7 "images" "[LObligingPosts$Heath;" ∈ tblG := gw2 27 (by decide +kernel) (by decide +kernel)
theorem fk_X7_26 : FLk RX7 26 7 3 (.array (.object "ObligingPosts$Heath")) true := ⟨RX7, TX7, 12, tyX7, clX7, by decide, rfl, rfl, rfl, Or.inl wd176⟩
theorem wd177 : Cond.classLink RX7 30 RX5 ∈ tblG := gw1 181 (by decide +kernel) (by decide +kernel)
theorem wd178 : Cond.fieldLink RX7 32 RX7 "slots" "[LObligingPosts$Slot;" ∈ tblG := gw2 28 (by decide +kernel) (by decide +kernel)
theorem fk_X7_32 : FLk RX7 32 7 4 (.array (.object "ObligingPosts$Slot")) true := ⟨RX7, TX7, 12, tyX7, clX7, by decide, rfl, rfl, rfl, Or.inl wd178⟩
theorem wd179 : Cond.classLink RX7 36 RX4 ∈ tblG := gw1 183 (by decide +kernel) (by decide +kernel)
theorem wd180 : Cond.instantiable RX4 9 ∈ tblG := gw1 184 (by decide +kernel) (by decide +kernel)
theorem wd181 : Cond.methodLink RX7 38 yX4_init ∈ tblG := gw1 185 (by decide +kernel) (by decide +kernel)
theorem wd182 : Cond.instanceMethod yX4_init ∈ tblG := gw1 186 (by decide +kernel) (by decide +kernel)
theorem wd183 : Cond.code yX4_init cX4_init 2 none ∈ tblG := gw1 187 (by decide +kernel) (by decide +kernel)
theorem pl_X4_init : Plain yX4_init 1 := ⟨by decide, by decide, by decide +kernel⟩
theorem lk_X7_38 : LkI RX7 38 yX4_init cX4_init 2 1 := ⟨Or.inl wd181, rfl, wd182, wd138, wd183, pl_X4_init⟩
theorem wd184 : Cond.methodLink RX4 3 objectInit ∈ tblG := gw1 188 (by decide +kernel) (by decide +kernel)
theorem wd185 : Cond.fieldLink RX4 25 RX4 "places" "[I" ∈ tblG := gw1 199 (by decide +kernel) (by decide +kernel)
theorem fk_X4_25 : FLk RX4 25 4 5 (.array .int) true := ⟨RX4, TX4, 9, tyX4, clX4, by decide, rfl, rfl, rfl, Or.inl wd185⟩
theorem wd186 : Cond.fieldLink RX4 31 RX4 "roadsTaken" "[I" ∈ tblG := gw1 203 (by decide +kernel) (by decide +kernel)
theorem fk_X4_31 : FLk RX4 31 4 7 (.array .int) true := ⟨RX4, TX4, 9, tyX4, clX4, by decide, rfl, rfl, rfl, Or.inl wd186⟩
theorem wd187 : Cond.fieldLink RX4 34 RX4 "guests" "[I" ∈ tblG := gw1 204 (by decide +kernel) (by decide +kernel)
theorem fk_X4_34 : FLk RX4 34 4 8 (.array .int) true := ⟨RX4, TX4, 9, tyX4, clX4, by decide, rfl, rfl, rfl, Or.inl wd187⟩
theorem wd188 : Cond.fieldLink RX7 45 RX7 "other" "LObligingPosts$Night;" ∈ tblG := gw2 30 (by decide +kernel) (by decide +kernel)
theorem fk_X7_45 : FLk RX7 45 7 6 (.object "ObligingPosts$Night") true := ⟨RX7, TX7, 12, tyX7, clX7, by decide, rfl, rfl, rfl, Or.inl wd188⟩
theorem layX3 : ∀ k, k < 3 → u_lay RX3 TX3 k ∈ tblG := fun k hk => match k, hk with
  | 0, _ => gw1 235 (by decide +kernel) (by decide +kernel)
  | 1, _ => gw1 237 (by decide +kernel) (by decide +kernel)
  | 2, _ => gw1 239 (by decide +kernel) (by decide +kernel)
  | k + 3, hk => absurd hk (by omega)
theorem clX3 : CLk 3 RX3 TX3 3 tyX3 := ⟨rfl, fun w hw => by
  obtain ⟨k, hk, rfl⟩ := List.mem_map.mp hw
  exact layX3 k (List.mem_range.mp hk), tyX3_ok, nmX3⟩
theorem wd189 : Cond.classLink RX7 48 RX3 ∈ tblG := gw1 224 (by decide +kernel) (by decide +kernel)
theorem wd190 : Cond.instantiable RX3 3 ∈ tblG := gw1 225 (by decide +kernel) (by decide +kernel)
theorem wd191 : Cond.initialized RX3 ∈ tblG := gw1 6 (by decide +kernel) (by decide +kernel)
theorem wd192 : Cond.methodLink RX7 50 yX3_init ∈ tblG := gw1 226 (by decide +kernel) (by decide +kernel)
theorem wd193 : Cond.instanceMethod yX3_init ∈ tblG := gw1 227 (by decide +kernel) (by decide +kernel)
theorem wd194 : Cond.code yX3_init cX3_init 2 none ∈ tblG := gw1 228 (by decide +kernel) (by decide +kernel)
theorem pl_X3_init : Plain yX3_init 1 := ⟨by decide, by decide, by decide +kernel⟩
theorem lk_X7_50 : LkI RX7 50 yX3_init cX3_init 2 1 := ⟨Or.inl wd192, rfl, wd193, wd191, wd194, pl_X3_init⟩
theorem wd195 : Cond.methodLink RX3 3 objectInit ∈ tblG := gw1 229 (by decide +kernel) (by decide +kernel)
theorem wd196 : Cond.fieldLink RX3 9 RX3 "arms" "[I" ∈ tblG := gw1 231 (by decide +kernel) (by decide +kernel)
theorem fk_X3_9 : FLk RX3 9 3 1 (.array .int) true := ⟨RX3, TX3, 3, tyX3, clX3, by decide, rfl, rfl, rfl, Or.inl wd196⟩
theorem wd197 : Cond.fieldLink RX3 15 RX3 "timesSent" "I" ∈ tblG := gw1 233 (by decide +kernel) (by decide +kernel)
theorem fk_X3_15 : FLk RX3 15 3 2 (.int) false := ⟨RX3, TX3, 3, tyX3, clX3, by decide, rfl, rfl, rfl, Or.inl wd197⟩
theorem wd198 : Cond.fieldLink RX3 19 RX3 "heath" "LObligingPosts$Heath;" ∈ tblG := gw1 230 (by decide +kernel) (by decide +kernel)
theorem fk_X3_19 : FLk RX3 19 3 0 (.object "ObligingPosts$Heath") true := ⟨RX3, TX3, 3, tyX3, clX3, by decide, rfl, rfl, rfl, Or.inl wd198⟩
theorem wd199 : Cond.fieldLink RX7 51 RX7 "lone" "LObligingPosts$Lone;" ∈ tblG := gw2 31 (by decide +kernel) (by decide +kernel)
theorem fk_X7_51 : FLk RX7 51 7 7 (.object "ObligingPosts$Lone") true := ⟨RX7, TX7, 12, tyX7, clX7, by decide, rfl, rfl, rfl, Or.inl wd199⟩
theorem wd200 : Cond.classLink RX7 55 RX1 ∈ tblG := gw2 2 (by decide +kernel) (by decide +kernel)
theorem wd201 : Cond.instantiable RX1 4 ∈ tblG := gw2 3 (by decide +kernel) (by decide +kernel)
theorem wd202 : Cond.methodLink RX7 57 yX1_init ∈ tblG := gw2 4 (by decide +kernel) (by decide +kernel)
theorem wd203 : Cond.instanceMethod yX1_init ∈ tblG := gw2 5 (by decide +kernel) (by decide +kernel)
theorem wd204 : Cond.code yX1_init cX1_init 2 none ∈ tblG := gw2 6 (by decide +kernel) (by decide +kernel)
theorem pl_X1_init : Plain yX1_init 1 := ⟨by decide, by decide, by decide +kernel⟩
theorem lk_X7_57 : LkI RX7 57 yX1_init cX1_init 2 1 := ⟨Or.inl wd202, rfl, wd203, wd131, wd204, pl_X1_init⟩
theorem wd205 : Cond.methodLink RX1 3 objectInit ∈ tblG := gw2 7 (by decide +kernel) (by decide +kernel)
theorem wd206 : Cond.arrayClass .long ∈ tblG := gw2 23 (by decide +kernel) (by decide +kernel)
theorem wd207 : Cond.fieldLink RX1 15 RX1 "weights" "[J" ∈ tblG := gw2 10 (by decide +kernel) (by decide +kernel)
theorem fk_X1_15 : FLk RX1 15 1 2 (.array .long) true := ⟨RX1, TX1, 4, tyX1, clX1, by decide, rfl, rfl, rfl, Or.inl wd207⟩
theorem wd208 : Cond.fieldLink RX1 19 RX1 "whole" "J" ∈ tblG := gw2 12 (by decide +kernel) (by decide +kernel)
theorem fk_X1_19 : FLk RX1 19 1 3 (.long) false := ⟨RX1, TX1, 4, tyX1, clX1, by decide, rfl, rfl, rfl, Or.inl wd208⟩
theorem wd209 : Cond.fieldLink RX1 23 RX1 "heath" "LObligingPosts$Heath;" ∈ tblG := gw2 8 (by decide +kernel) (by decide +kernel)
theorem fk_X1_23 : FLk RX1 23 1 0 (.object "ObligingPosts$Heath") true := ⟨RX1, TX1, 4, tyX1, clX1, by decide, rfl, rfl, rfl, Or.inl wd209⟩
theorem wd210 : Cond.fieldLink RX7 62 RX7 "worths" "[I" ∈ tblG := gw2 33 (by decide +kernel) (by decide +kernel)
theorem fk_X7_62 : FLk RX7 62 7 9 (.array .int) true := ⟨RX7, TX7, 12, tyX7, clX7, by decide, rfl, rfl, rfl, Or.inl wd210⟩
theorem wd211 : Cond.fieldLink RX7 70 RX7 "supposed" "[I" ∈ tblG := gw2 35 (by decide +kernel) (by decide +kernel)
theorem fk_X7_70 : FLk RX7 70 7 11 (.array .int) true := ⟨RX7, TX7, 12, tyX7, clX7, by decide, rfl, rfl, rfl, Or.inl wd211⟩
end
section
abbrev flC (cy : Nat → ClassId) (a : Nat → Nat) : List (Nat × va_E) := [(a 0, .inr (7, [.ref (a 1), .ref (a 3), .ref (a 13), .ref (a 23), .ref (a 24), .ref (a 25), .ref (a 31), .ref (a 37), .ref (a 39), .ref (a 41), .int 0, .ref (a 42)])), (a 1, .inr (6, [.ref (a 2), .int 0, .int 0, .int (-1), .int 0, .int 0, .int 0, .int 0])), (a 2, .inl (cy 0, 800, .inl (fun _ => 0))), (a 3, .inr (2, [.int 0, .int 0, .int 0, .int 0, .int 0, .int 0, .int 0, .int 0, .int 0, .ref (a 4), .ref (a 5), .ref (a 6), .ref (a 7), .ref (a 8), .ref (a 9), .ref (a 10)])), (a 4, .inl (cy 1, 4, .inl (fun _ => 0))), (a 5, .inl (cy 1, 7, .inl (fun _ => 0))), (a 6, .inl (cy 1, 28, .inl (fun _ => 0))), (a 7, .inl (cy 1, 7, .inl (fun _ => 0))), (a 8, .inl (cy 1, 8, .inl (fun _ => 0))), (a 9, .inl (cy 1, 8, .inl (fun _ => 0))), (a 10, .inr (0, [.int 0, .ref (a 11), .ref (a 12)])), (a 11, .inl (cy 1, 30, .inl (fun _ => 0))), (a 12, .inl (cy 1, 240, .inl (fun _ => 0))), (a 13, .inr (2, [.int 0, .int 0, .int 0, .int 0, .int 0, .int 0, .int 0, .int 0, .int 0, .ref (a 14), .ref (a 15), .ref (a 16), .ref (a 17), .ref (a 18), .ref (a 19), .ref (a 20)])), (a 14, .inl (cy 1, 4, .inl (fun _ => 0))), (a 15, .inl (cy 1, 7, .inl (fun _ => 0))), (a 16, .inl (cy 1, 28, .inl (fun _ => 0))), (a 17, .inl (cy 1, 7, .inl (fun _ => 0))), (a 18, .inl (cy 1, 8, .inl (fun _ => 0))), (a 19, .inl (cy 1, 8, .inl (fun _ => 0))), (a 20, .inr (0, [.int 0, .ref (a 21), .ref (a 22)])), (a 21, .inl (cy 1, 30, .inl (fun _ => 0))), (a 22, .inl (cy 1, 240, .inl (fun _ => 0))), (a 23, .inl (cy 4, 3, .inr (.inr (.inr (.inr (fun _ => none)))))), (a 24, .inl (cy 5, 4, .inr (.inr (.inr (.inr (fun _ => none)))))), (a 25, .inr (4, [.ref (a 3), .int 0, .int 127, .int 0, .ref (a 26), .ref (a 27), .ref (a 28), .ref (a 29), .ref (a 30)])), (a 26, .inl (cy 1, 8, .inl (fun _ => 0))), (a 27, .inl (cy 1, 136, .inl (fun _ => 0))), (a 28, .inl (cy 1, 119, .inl (fun _ => 0))), (a 29, .inl (cy 1, 136, .inl (fun _ => 0))), (a 30, .inl (cy 1, 4, .inl (fun _ => 0))), (a 31, .inr (4, [.ref (a 3), .int 0, .int 127, .int 0, .ref (a 32), .ref (a 33), .ref (a 34), .ref (a 35), .ref (a 36)])), (a 32, .inl (cy 1, 8, .inl (fun _ => 0))), (a 33, .inl (cy 1, 136, .inl (fun _ => 0))), (a 34, .inl (cy 1, 119, .inl (fun _ => 0))), (a 35, .inl (cy 1, 136, .inl (fun _ => 0))), (a 36, .inl (cy 1, 4, .inl (fun _ => 0))), (a 37, .inr (3, [.ref (a 3), .ref (a 38), .int 0])), (a 38, .inl (cy 1, 7, .inl (fun _ => 0))), (a 39, .inr (1, [.ref (a 3), .int (-1), .ref (a 40), .long 1])), (a 40, .inl (cy 2, 8, .inr (.inl (fun _ => 0)))), (a 41, .inl (cy 1, 128, .inl (fun _ => 0))), (a 42, .inl (cy 1, 544, .inl (fun _ => 0)))]
set_option maxHeartbeats 4000000 in
set_option maxRecDepth 100000 in
theorem c_X2_hasInn (l : Launch) (G : va_G) {cy : Nat → ClassId} {L : List Nat} {M : Nat → va_E} {a : Nat → Nat} {fr : List (Nat × va_E)}  (F : FW L M (flC cy a ++ fr)) (p0 : Int32) : MI l G cy yX2_hasInn cX2_hasInn 2 (some .boolean) 0 0 0 [.ref (a 3), .int p0] L M (fun r L2 M2 => r = (0) ∧ FW L2 M2 (flC cy a ++ fr)) := by
  refine MI.of (own := RX2) rfl (by decide) (Nat.le_of_ble_eq_true rfl) ?_
  intro p e s m below meth c A C hrt hnm
  refine g_iload_n C dX2_hasInn_0 rfl (j := 1) rfl ?_
  refine g_if_lt C dX2_hasInn_1 (tgt := 16) (by decide) (fun q1 => ?_) (fun q1 => ?_)
  · skip
    refine g_iconst C dX2_hasInn_16 (v := 0) (by decide) ?_
    exact g_zret C hrt rfl dX2_hasInn_17 (by decide) (by decide) ⟨by decide, F⟩
  · skip
    refine g_iload_n C dX2_hasInn_4 rfl (j := 1) rfl ?_
    refine g_aload_n C dX2_hasInn_5 rfl (j := 0) rfl ?_
    refine h_get C F 3 rfl fk_X2_24 dX2_hasInn_6 rfl ?_
    refine g_icmp_ge C dX2_hasInn_9 (tgt := 16) (by decide) (fun q2 => ?_) (fun q2 => ?_)
    · skip
      refine g_iconst C dX2_hasInn_16 (v := 0) (by decide) ?_
      exact g_zret C hrt rfl dX2_hasInn_17 (by decide) (by decide) ⟨by decide, F⟩
    · skip
      exact False.elim (by first | exact q2 (Int32.not_lt.mp q1) | (simp only [Int32.lt_iff_toInt_lt, Int32.le_iff_toInt_le, ← Int32.toInt_inj] at q1 q2; omega))
set_option maxHeartbeats 4000000 in
set_option maxRecDepth 100000 in
theorem c_X2_hasPost (l : Launch) (G : va_G) {cy : Nat → ClassId} {L : List Nat} {M : Nat → va_E} {a : Nat → Nat} {fr : List (Nat × va_E)}  (F : FW L M (flC cy a ++ fr)) (p0 : Int32) : MI l G cy yX2_hasPost cX2_hasPost 2 (some .boolean) 0 0 0 [.ref (a 3), .int p0] L M (fun r L2 M2 => r = (0) ∧ FW L2 M2 (flC cy a ++ fr)) := by
  refine MI.of (own := RX2) rfl (by decide) (Nat.le_of_ble_eq_true rfl) ?_
  intro p e s m below meth c A C hrt hnm
  refine g_iload_n C dX2_hasPost_0 rfl (j := 1) rfl ?_
  refine g_if_lt C dX2_hasPost_1 (tgt := 16) (by decide) (fun q1 => ?_) (fun q1 => ?_)
  · skip
    refine g_iconst C dX2_hasPost_16 (v := 0) (by decide) ?_
    exact g_zret C hrt rfl dX2_hasPost_17 (by decide) (by decide) ⟨by decide, F⟩
  · skip
    refine g_iload_n C dX2_hasPost_4 rfl (j := 1) rfl ?_
    refine g_aload_n C dX2_hasPost_5 rfl (j := 0) rfl ?_
    refine h_get C F 3 rfl fk_X2_27 dX2_hasPost_6 rfl ?_
    refine g_icmp_ge C dX2_hasPost_9 (tgt := 16) (by decide) (fun q2 => ?_) (fun q2 => ?_)
    · skip
      refine g_iconst C dX2_hasPost_16 (v := 0) (by decide) ?_
      exact g_zret C hrt rfl dX2_hasPost_17 (by decide) (by decide) ⟨by decide, F⟩
    · skip
      exact False.elim (by first | exact q2 (Int32.not_lt.mp q1) | (simp only [Int32.lt_iff_toInt_lt, Int32.le_iff_toInt_le, ← Int32.toInt_inj] at q1 q2; omega))
set_option maxHeartbeats 4000000 in
set_option maxRecDepth 100000 in
theorem c_X2_hasWalker (l : Launch) (G : va_G) {cy : Nat → ClassId} {L : List Nat} {M : Nat → va_E} {a : Nat → Nat} {fr : List (Nat × va_E)}  (F : FW L M (flC cy a ++ fr)) (p0 : Int32) : MI l G cy yX2_hasWalker cX2_hasWalker 2 (some .boolean) 0 0 0 [.ref (a 3), .int p0] L M (fun r L2 M2 => r = (0) ∧ FW L2 M2 (flC cy a ++ fr)) := by
  refine MI.of (own := RX2) rfl (by decide) (Nat.le_of_ble_eq_true rfl) ?_
  intro p e s m below meth c A C hrt hnm
  refine g_iload_n C dX2_hasWalker_0 rfl (j := 1) rfl ?_
  refine g_if_lt C dX2_hasWalker_1 (tgt := 16) (by decide) (fun q1 => ?_) (fun q1 => ?_)
  · skip
    refine g_iconst C dX2_hasWalker_16 (v := 0) (by decide) ?_
    exact g_zret C hrt rfl dX2_hasWalker_17 (by decide) (by decide) ⟨by decide, F⟩
  · skip
    refine g_iload_n C dX2_hasWalker_4 rfl (j := 1) rfl ?_
    refine g_aload_n C dX2_hasWalker_5 rfl (j := 0) rfl ?_
    refine h_get C F 3 rfl fk_X2_36 dX2_hasWalker_6 rfl ?_
    refine g_icmp_ge C dX2_hasWalker_9 (tgt := 16) (by decide) (fun q2 => ?_) (fun q2 => ?_)
    · skip
      refine g_iconst C dX2_hasWalker_16 (v := 0) (by decide) ?_
      exact g_zret C hrt rfl dX2_hasWalker_17 (by decide) (by decide) ⟨by decide, F⟩
    · skip
      exact False.elim (by first | exact q2 (Int32.not_lt.mp q1) | (simp only [Int32.lt_iff_toInt_lt, Int32.le_iff_toInt_le, ← Int32.toInt_inj] at q1 q2; omega))
set_option maxHeartbeats 4000000 in
set_option maxRecDepth 100000 in
theorem c_X2_hasPlace (l : Launch) (G : va_G) {cy : Nat → ClassId} {L : List Nat} {M : Nat → va_E} {a : Nat → Nat} {fr : List (Nat × va_E)}  (F : FW L M (flC cy a ++ fr)) (p0 : Int32) : MI l G cy yX2_hasPlace cX2_hasPlace 2 (some .boolean) 1 0 0 [.ref (a 3), .int p0] L M (fun r L2 M2 => r = (0) ∧ FW L2 M2 (flC cy a ++ fr)) := by
  refine MI.of (own := RX2) rfl (by decide) (Nat.le_of_ble_eq_true rfl) ?_
  intro p e s m below meth c A C hrt hnm
  refine g_iload_n C dX2_hasPlace_0 rfl (j := 1) rfl ?_
  refine g_bipush C dX2_hasPlace_1 (v := 10) (by decide) ?_
  refine g_icmp_ge C dX2_hasPlace_3 (tgt := 14) (by decide) (fun q1 => ?_) (fun q1 => ?_)
  · skip
    refine g_aload_n C dX2_hasPlace_14 rfl (j := 0) rfl ?_
    refine g_iload_n C dX2_hasPlace_15 rfl (j := 1) rfl ?_
    refine g_bipush C dX2_hasPlace_16 (v := 10) (by decide) ?_
    refine g_isub C dX2_hasPlace_18 ?_
    refine g_callVI C (c_X2_hasInn l G F (p0 - 10)) lk_X2_88 (F.mem 3 rfl) (F.at 3 rfl) rfl rfl dX2_hasPlace_19 (Nat.le_of_ble_eq_true rfl) ⟨by decide, by decide⟩ ⟨by decide, by decide⟩ (fun r2 L M hp => ?_)
    obtain ⟨r2_, F⟩ := hp
    subst r2_
    exact g_zret C hrt rfl dX2_hasPlace_22 (by decide) (by decide) ⟨by decide, F⟩
  · skip
    refine g_aload_n C dX2_hasPlace_6 rfl (j := 0) rfl ?_
    refine g_iload_n C dX2_hasPlace_7 rfl (j := 1) rfl ?_
    refine g_callVI C (c_X2_hasPost l G F p0) lk_X2_84 (F.mem 3 rfl) (F.at 3 rfl) rfl rfl dX2_hasPlace_8 (Nat.le_of_ble_eq_true rfl) ⟨by decide, by decide⟩ ⟨by decide, by decide⟩ (fun r3 L M hp => ?_)
    obtain ⟨r3_, F⟩ := hp
    subst r3_
    refine g_goto C dX2_hasPlace_11 (tgt := 22) (by decide) ?_
    exact g_zret C hrt rfl dX2_hasPlace_22 (by decide) (by decide) ⟨by decide, F⟩
set_option maxHeartbeats 4000000 in
set_option maxRecDepth 100000 in
theorem c_X2_isTold (l : Launch) (G : va_G) {cy : Nat → ClassId} {L : List Nat} {M : Nat → va_E} {a : Nat → Nat} {fr : List (Nat × va_E)}  (F : FW L M (flC cy a ++ fr))  : MI l G cy yX2_isTold cX2_isTold 1 (some .boolean) 0 0 0 [.ref (a 3)] L M (fun r L2 M2 => r = (0) ∧ FW L2 M2 (flC cy a ++ fr)) := by
  refine MI.of (own := RX2) rfl (by decide) (Nat.le_of_ble_eq_true rfl) ?_
  intro p e s m below meth c A C hrt hnm
  refine g_aload_n C dX2_isTold_0 rfl (j := 0) rfl ?_
  refine h_get C F 3 rfl fk_X2_9 dX2_isTold_1 rfl ?_
  refine g_if_le C dX2_isTold_4 (tgt := 11) (by decide) (fun _ => ?_) (fun q => absurd (by decide) q)
  refine g_iconst C dX2_isTold_11 (v := 0) (by decide) ?_
  exact g_zret C hrt rfl dX2_isTold_12 (by decide) (by decide) ⟨by decide, F⟩
set_option maxHeartbeats 4000000 in
set_option maxRecDepth 100000 in
theorem c_X2_hasHour (l : Launch) (G : va_G) {cy : Nat → ClassId} {L : List Nat} {M : Nat → va_E} {a : Nat → Nat} {fr : List (Nat × va_E)}  (F : FW L M (flC cy a ++ fr)) (p0 : Int32) : MI l G cy yX2_hasHour cX2_hasHour 2 (some .boolean) 1 0 0 [.ref (a 3), .int p0] L M (fun r L2 M2 => r = (0) ∧ FW L2 M2 (flC cy a ++ fr)) := by
  refine MI.of (own := RX2) rfl (by decide) (Nat.le_of_ble_eq_true rfl) ?_
  intro p e s m below meth c A C hrt hnm
  refine g_aload_n C dX2_hasHour_0 rfl (j := 0) rfl ?_
  refine g_callVI C (c_X2_isTold l G F ) lk_X2_91 (F.mem 3 rfl) (F.at 3 rfl) rfl rfl dX2_hasHour_1 (Nat.le_of_ble_eq_true rfl) ⟨by decide, by decide⟩ ⟨by decide, by decide⟩ (fun r1 L M hp => ?_)
  obtain ⟨r1_, F⟩ := hp
  subst r1_
  refine g_if_eq C dX2_hasHour_4 (tgt := 23) (by decide) (fun _ => ?_) (fun q => absurd (by decide) q)
  refine g_iconst C dX2_hasHour_23 (v := 0) (by decide) ?_
  exact g_zret C hrt rfl dX2_hasHour_24 (by decide) (by decide) ⟨by decide, F⟩
set_option maxHeartbeats 4000000 in
set_option maxRecDepth 100000 in
theorem c_X2_hasHourAhead (l : Launch) (G : va_G) {cy : Nat → ClassId} {L : List Nat} {M : Nat → va_E} {a : Nat → Nat} {fr : List (Nat × va_E)}  (F : FW L M (flC cy a ++ fr)) (p0 : Int32) : MI l G cy yX2_hasHourAhead cX2_hasHourAhead 2 (some .boolean) 2 0 0 [.ref (a 3), .int p0] L M (fun r L2 M2 => r = (0) ∧ FW L2 M2 (flC cy a ++ fr)) := by
  refine MI.of (own := RX2) rfl (by decide) (Nat.le_of_ble_eq_true rfl) ?_
  intro p e s m below meth c A C hrt hnm
  refine g_aload_n C dX2_hasHourAhead_0 rfl (j := 0) rfl ?_
  refine g_iload_n C dX2_hasHourAhead_1 rfl (j := 1) rfl ?_
  refine g_callVI C (c_X2_hasHour l G F p0) lk_X2_95 (F.mem 3 rfl) (F.at 3 rfl) rfl rfl dX2_hasHourAhead_2 (Nat.le_of_ble_eq_true rfl) ⟨by decide, by decide⟩ ⟨by decide, by decide⟩ (fun r1 L M hp => ?_)
  obtain ⟨r1_, F⟩ := hp
  subst r1_
  refine g_if_eq C dX2_hasHourAhead_5 (tgt := 20) (by decide) (fun _ => ?_) (fun q => absurd (by decide) q)
  refine g_iconst C dX2_hasHourAhead_20 (v := 0) (by decide) ?_
  exact g_zret C hrt rfl dX2_hasHourAhead_21 (by decide) (by decide) ⟨by decide, F⟩
set_option maxHeartbeats 4000000 in
set_option maxRecDepth 100000 in
theorem c_X7_isEither (l : Launch) (G : va_G) {cy : Nat → ClassId} {L : List Nat} {M : Nat → va_E} {fl : List (Nat × va_E)}  (F : FW L M (fl)) (p0 : Int32) : MI l G cy yX7_isEither cX7_isEither 1 (some .boolean) 0 0 0 [.int p0] L M (fun r L2 M2 => True ∧ FW L2 M2 fl) := by
  refine MI.of (own := RX7) rfl (by decide) (Nat.le_of_ble_eq_true rfl) ?_
  intro p e s m below meth c A C hrt hnm
  refine g_iload_n C dX7_isEither_0 rfl (j := 0) rfl ?_
  refine g_if_eq C dX7_isEither_1 (tgt := 9) (by decide) (fun q1 => ?_) (fun q1 => ?_)
  · skip
    refine g_iconst C dX7_isEither_9 (v := 1) (by decide) ?_
    refine g_goto C dX7_isEither_10 (tgt := 14) (by decide) ?_
    exact g_zret C hrt rfl dX7_isEither_14 (by decide) (by decide) ⟨trivial, F⟩
  · skip
    refine g_iload_n C dX7_isEither_4 rfl (j := 0) rfl ?_
    refine g_iconst C dX7_isEither_5 (v := 1) (by decide) ?_
    refine g_icmp_ne C dX7_isEither_6 (tgt := 13) (by decide) (fun q2 => ?_) (fun q2 => ?_)
    · skip
      refine g_iconst C dX7_isEither_13 (v := 0) (by decide) ?_
      exact g_zret C hrt rfl dX7_isEither_14 (by decide) (by decide) ⟨trivial, F⟩
    · skip
      refine g_iconst C dX7_isEither_9 (v := 1) (by decide) ?_
      refine g_goto C dX7_isEither_10 (tgt := 14) (by decide) ?_
      exact g_zret C hrt rfl dX7_isEither_14 (by decide) (by decide) ⟨trivial, F⟩
set_option maxHeartbeats 4000000 in
set_option maxRecDepth 100000 in
theorem c_X7_isFewInARow (l : Launch) (G : va_G) {cy : Nat → ClassId} {L : List Nat} {M : Nat → va_E} {fl : List (Nat × va_E)}  (F : FW L M (fl)) (p0 : Int32) : MI l G cy yX7_isFewInARow cX7_isFewInARow 1 (some .boolean) 0 0 0 [.int p0] L M (fun r L2 M2 => True ∧ FW L2 M2 fl) := by
  refine MI.of (own := RX7) rfl (by decide) (Nat.le_of_ble_eq_true rfl) ?_
  intro p e s m below meth c A C hrt hnm
  refine g_iload_n C dX7_isFewInARow_0 rfl (j := 0) rfl ?_
  refine g_iconst C dX7_isFewInARow_1 (v := 1) (by decide) ?_
  refine g_icmp_lt C dX7_isFewInARow_2 (tgt := 15) (by decide) (fun q1 => ?_) (fun q1 => ?_)
  · skip
    refine g_iconst C dX7_isFewInARow_15 (v := 0) (by decide) ?_
    exact g_zret C hrt rfl dX7_isFewInARow_16 (by decide) (by decide) ⟨trivial, F⟩
  · skip
    refine g_iload_n C dX7_isFewInARow_5 rfl (j := 0) rfl ?_
    refine g_bipush C dX7_isFewInARow_6 (v := 20) (by decide) ?_
    refine g_icmp_gt C dX7_isFewInARow_8 (tgt := 15) (by decide) (fun q2 => ?_) (fun q2 => ?_)
    · skip
      refine g_iconst C dX7_isFewInARow_15 (v := 0) (by decide) ?_
      exact g_zret C hrt rfl dX7_isFewInARow_16 (by decide) (by decide) ⟨trivial, F⟩
    · skip
      refine g_iconst C dX7_isFewInARow_11 (v := 1) (by decide) ?_
      refine g_goto C dX7_isFewInARow_12 (tgt := 16) (by decide) ?_
      exact g_zret C hrt rfl dX7_isFewInARow_16 (by decide) (by decide) ⟨trivial, F⟩
set_option maxHeartbeats 4000000 in
set_option maxRecDepth 100000 in
theorem c_X7_isSeed (l : Launch) (G : va_G) {cy : Nat → ClassId} {L : List Nat} {M : Nat → va_E} {fl : List (Nat × va_E)}  (F : FW L M (fl)) (p0 : Int32) : MI l G cy yX7_isSeed cX7_isSeed 1 (some .boolean) 0 0 0 [.int p0] L M (fun r L2 M2 => True ∧ FW L2 M2 fl) := by
  refine MI.of (own := RX7) rfl (by decide) (Nat.le_of_ble_eq_true rfl) ?_
  intro p e s m below meth c A C hrt hnm
  refine g_iload_n C dX7_isSeed_0 rfl (j := 0) rfl ?_
  refine g_if_lt C dX7_isSeed_1 (tgt := 15) (by decide) (fun q1 => ?_) (fun q1 => ?_)
  · skip
    refine g_iconst C dX7_isSeed_15 (v := 0) (by decide) ?_
    exact g_zret C hrt rfl dX7_isSeed_16 (by decide) (by decide) ⟨trivial, F⟩
  · skip
    refine g_iload_n C dX7_isSeed_4 rfl (j := 0) rfl ?_
    refine g_ldcw C (v := 2000000000) wd21 dX7_isSeed_5 ?_
    refine g_icmp_gt C dX7_isSeed_8 (tgt := 15) (by decide) (fun q2 => ?_) (fun q2 => ?_)
    · skip
      refine g_iconst C dX7_isSeed_15 (v := 0) (by decide) ?_
      exact g_zret C hrt rfl dX7_isSeed_16 (by decide) (by decide) ⟨trivial, F⟩
    · skip
      refine g_iconst C dX7_isSeed_11 (v := 1) (by decide) ?_
      refine g_goto C dX7_isSeed_12 (tgt := 16) (by decide) ?_
      exact g_zret C hrt rfl dX7_isSeed_16 (by decide) (by decide) ⟨trivial, F⟩
set_option maxHeartbeats 4000000 in
set_option maxRecDepth 100000 in
theorem c_X7_isSlot (l : Launch) (G : va_G) {cy : Nat → ClassId} {L : List Nat} {M : Nat → va_E} {fl : List (Nat × va_E)}  (F : FW L M (fl)) (p0 : Int32) : MI l G cy yX7_isSlot cX7_isSlot 1 (some .boolean) 0 0 0 [.int p0] L M (fun r L2 M2 => ((r = 1 ∧ ¬ p0 < 0 ∧ ¬ 4 ≤ p0) ∨ (r = 0 ∧ (p0 < 0 ∨ 4 ≤ p0))) ∧ FW L2 M2 fl) := by
  refine MI.of (own := RX7) rfl (by decide) (Nat.le_of_ble_eq_true rfl) ?_
  intro p e s m below meth c A C hrt hnm
  refine g_iload_n C dX7_isSlot_0 rfl (j := 0) rfl ?_
  refine g_if_lt C dX7_isSlot_1 (tgt := 13) (by decide) (fun q1 => ?_) (fun q1 => ?_)
  · skip
    refine g_iconst C dX7_isSlot_13 (v := 0) (by decide) ?_
    exact g_zret C hrt rfl dX7_isSlot_14 (by decide) (by decide) ⟨Or.inr ⟨rfl, Or.inl q1⟩, F⟩
  · skip
    refine g_iload_n C dX7_isSlot_4 rfl (j := 0) rfl ?_
    refine g_iconst C dX7_isSlot_5 (v := 4) (by decide) ?_
    refine g_icmp_ge C dX7_isSlot_6 (tgt := 13) (by decide) (fun q2 => ?_) (fun q2 => ?_)
    · skip
      refine g_iconst C dX7_isSlot_13 (v := 0) (by decide) ?_
      exact g_zret C hrt rfl dX7_isSlot_14 (by decide) (by decide) ⟨Or.inr ⟨rfl, Or.inr q2⟩, F⟩
    · skip
      refine g_iconst C dX7_isSlot_9 (v := 1) (by decide) ?_
      refine g_goto C dX7_isSlot_10 (tgt := 14) (by decide) ?_
      exact g_zret C hrt rfl dX7_isSlot_14 (by decide) (by decide) ⟨Or.inl ⟨rfl, q1, q2⟩, F⟩
set_option maxHeartbeats 4000000 in
set_option maxRecDepth 100000 in
theorem c_X7_isFogHour (l : Launch) (G : va_G) {cy : Nat → ClassId} {L : List Nat} {M : Nat → va_E} {a : Nat → Nat} {fr : List (Nat × va_E)}  (F : FW L M (flC cy a ++ fr)) (p0 : Int32) : MI l G cy yX7_isFogHour cX7_isFogHour 2 (some .boolean) 3 0 0 [.ref (a 0), .int p0] L M (fun r L2 M2 => r = (0) ∧ FW L2 M2 (flC cy a ++ fr)) := by
  refine MI.of (own := RX7) rfl (by decide) (Nat.le_of_ble_eq_true rfl) ?_
  intro p e s m below meth c A C hrt hnm
  refine g_aload_n C dX7_isFogHour_0 rfl (j := 0) rfl ?_
  refine h_get C F 0 rfl fk_X7_19 dX7_isFogHour_1 rfl ?_
  refine g_iload_n C dX7_isFogHour_4 rfl (j := 1) rfl ?_
  refine g_callVI C (c_X2_hasHourAhead l G F p0) lk_X7_149 (F.mem 3 rfl) (F.at 3 rfl) rfl rfl dX7_isFogHour_5 (Nat.le_of_ble_eq_true rfl) ⟨by decide, by decide⟩ ⟨by decide, by decide⟩ (fun r1 L M hp => ?_)
  obtain ⟨r1_, F⟩ := hp
  subst r1_
  refine g_if_eq C dX7_isFogHour_8 (tgt := 21) (by decide) (fun _ => ?_) (fun q => absurd (by decide) q)
  refine g_iconst C dX7_isFogHour_21 (v := 0) (by decide) ?_
  exact g_zret C hrt rfl dX7_isFogHour_22 (by decide) (by decide) ⟨by decide, F⟩
set_option maxHeartbeats 4000000 in
set_option maxRecDepth 100000 in
theorem c_X7_areTwo (l : Launch) (G : va_G) {cy : Nat → ClassId} {L : List Nat} {M : Nat → va_E} {a : Nat → Nat} {fr : List (Nat × va_E)}  (F : FW L M (flC cy a ++ fr)) (p0 : Int32) (p1 : Int32) : MI l G cy yX7_areTwo cX7_areTwo 3 (some .boolean) 1 0 0 [.ref (a 0), .int p0, .int p1] L M (fun r L2 M2 => r = (0) ∧ FW L2 M2 (flC cy a ++ fr)) := by
  refine MI.of (own := RX7) rfl (by decide) (Nat.le_of_ble_eq_true rfl) ?_
  intro p e s m below meth c A C hrt hnm
  refine g_aload_n C dX7_areTwo_0 rfl (j := 0) rfl ?_
  refine h_get C F 0 rfl fk_X7_19 dX7_areTwo_1 rfl ?_
  refine g_iload_n C dX7_areTwo_4 rfl (j := 1) rfl ?_
  refine g_callVI C (c_X2_hasWalker l G F p0) lk_X7_122 (F.mem 3 rfl) (F.at 3 rfl) rfl rfl dX7_areTwo_5 (Nat.le_of_ble_eq_true rfl) ⟨by decide, by decide⟩ ⟨by decide, by decide⟩ (fun r1 L M hp => ?_)
  obtain ⟨r1_, F⟩ := hp
  subst r1_
  refine g_if_eq C dX7_areTwo_8 (tgt := 31) (by decide) (fun _ => ?_) (fun q => absurd (by decide) q)
  refine g_iconst C dX7_areTwo_31 (v := 0) (by decide) ?_
  exact g_zret C hrt rfl dX7_areTwo_32 (by decide) (by decide) ⟨by decide, F⟩
set_option maxHeartbeats 4000000 in
set_option maxRecDepth 100000 in
theorem c_X7_refusalOfSeen (l : Launch) (G : va_G) {cy : Nat → ClassId} {L : List Nat} {M : Nat → va_E} {a : Nat → Nat} {fr : List (Nat × va_E)}  (F : FW L M (flC cy a ++ fr)) (p0 : Int32) : MI l G cy yX7_refusalOfSeen cX7_refusalOfSeen 3 (some .int) 1 0 0 [.ref (a 0), .int p0, .int 0] L M (fun r L2 M2 => r = (-2) ∧ FW L2 M2 (flC cy a ++ fr)) := by
  refine MI.of (own := RX7) rfl (by decide) (Nat.le_of_ble_eq_true rfl) ?_
  intro p e s m below meth c A C hrt hnm
  refine g_iload_n C dX7_refusalOfSeen_0 rfl (j := 1) rfl ?_
  refine g_callSI C (c_X7_isSlot l G F p0) lk_X7_389 rfl rfl dX7_refusalOfSeen_1 (Nat.le_of_ble_eq_true rfl) ⟨by decide, by decide⟩ ⟨by decide, by decide⟩ (fun r1 L M hp => ?_)
  obtain ⟨r1_, F⟩ := hp
  refine g_if_eq C dX7_refusalOfSeen_4 (tgt := 11) (by decide) (fun q2 => ?_) (fun q2 => ?_)
  · skip
    refine g_bipush C dX7_refusalOfSeen_11 (v := -2) (by decide) ?_
    exact g_iret C hrt dX7_refusalOfSeen_13 (by decide) (by decide) ⟨by decide, F⟩
  · skip
    refine g_iload_n C dX7_refusalOfSeen_7 rfl (j := 2) rfl ?_
    refine g_if_ne C dX7_refusalOfSeen_8 (tgt := 14) (by decide) (fun q => absurd (by decide) q) (fun _ => ?_)
    refine g_bipush C dX7_refusalOfSeen_11 (v := -2) (by decide) ?_
    exact g_iret C hrt dX7_refusalOfSeen_13 (by decide) (by decide) ⟨by decide, F⟩
set_option maxHeartbeats 4000000 in
set_option maxRecDepth 100000 in
theorem c_X7_room (l : Launch) (G : va_G) {cy : Nat → ClassId} {L : List Nat} {M : Nat → va_E} {a : Nat → Nat} {fr : List (Nat × va_E)}  (F : FW L M (flC cy a ++ fr)) (p0 : Int32) : MI l G cy yX7_room cX7_room 2 (some .int) 1 0 0 [.ref (a 0), .int p0] L M (fun r L2 M2 => r = (-2) ∧ FW L2 M2 (flC cy a ++ fr)) := by
  refine MI.of (own := RX7) rfl (by decide) (Nat.le_of_ble_eq_true rfl) ?_
  intro p e s m below meth c A C hrt hnm
  refine g_aload_n C dX7_room_0 rfl (j := 0) rfl ?_
  refine h_get C F 0 rfl fk_X7_19 dX7_room_1 rfl ?_
  refine g_iload_n C dX7_room_4 rfl (j := 1) rfl ?_
  refine g_callVI C (c_X2_hasInn l G F p0) lk_X7_99 (F.mem 3 rfl) (F.at 3 rfl) rfl rfl dX7_room_5 (Nat.le_of_ble_eq_true rfl) ⟨by decide, by decide⟩ ⟨by decide, by decide⟩ (fun r1 L M hp => ?_)
  obtain ⟨r1_, F⟩ := hp
  subst r1_
  refine g_if_eq C dX7_room_8 (tgt := 23) (by decide) (fun _ => ?_) (fun q => absurd (by decide) q)
  refine g_bipush C dX7_room_23 (v := -2) (by decide) ?_
  exact g_iret C hrt dX7_room_25 (by decide) (by decide) ⟨by decide, F⟩
set_option maxHeartbeats 4000000 in
set_option maxRecDepth 100000 in
theorem c_X7_roads (l : Launch) (G : va_G) {cy : Nat → ClassId} {L : List Nat} {M : Nat → va_E} {a : Nat → Nat} {fr : List (Nat × va_E)}  (F : FW L M (flC cy a ++ fr)) (p0 : Int32) : MI l G cy yX7_roads cX7_roads 2 (some .int) 1 0 0 [.ref (a 0), .int p0] L M (fun r L2 M2 => r = (-2) ∧ FW L2 M2 (flC cy a ++ fr)) := by
  refine MI.of (own := RX7) rfl (by decide) (Nat.le_of_ble_eq_true rfl) ?_
  intro p e s m below meth c A C hrt hnm
  refine g_aload_n C dX7_roads_0 rfl (j := 0) rfl ?_
  refine h_get C F 0 rfl fk_X7_19 dX7_roads_1 rfl ?_
  refine g_iload_n C dX7_roads_4 rfl (j := 1) rfl ?_
  refine g_callVI C (c_X2_hasPost l G F p0) lk_X7_106 (F.mem 3 rfl) (F.at 3 rfl) rfl rfl dX7_roads_5 (Nat.le_of_ble_eq_true rfl) ⟨by decide, by decide⟩ ⟨by decide, by decide⟩ (fun r1 L M hp => ?_)
  obtain ⟨r1_, F⟩ := hp
  subst r1_
  refine g_if_eq C dX7_roads_8 (tgt := 23) (by decide) (fun _ => ?_) (fun q => absurd (by decide) q)
  refine g_bipush C dX7_roads_23 (v := -2) (by decide) ?_
  exact g_iret C hrt dX7_roads_25 (by decide) (by decide) ⟨by decide, F⟩
set_option maxHeartbeats 4000000 in
set_option maxRecDepth 100000 in
theorem c_X7_goes (l : Launch) (G : va_G) {cy : Nat → ClassId} {L : List Nat} {M : Nat → va_E} {a : Nat → Nat} {fr : List (Nat × va_E)}  (F : FW L M (flC cy a ++ fr)) (p0 : Int32) (p1 : Int32) : MI l G cy yX7_goes cX7_goes 3 (some .int) 1 0 0 [.ref (a 0), .int p0, .int p1] L M (fun r L2 M2 => r = (-2) ∧ FW L2 M2 (flC cy a ++ fr)) := by
  refine MI.of (own := RX7) rfl (by decide) (Nat.le_of_ble_eq_true rfl) ?_
  intro p e s m below meth c A C hrt hnm
  refine g_aload_n C dX7_goes_0 rfl (j := 0) rfl ?_
  refine h_get C F 0 rfl fk_X7_19 dX7_goes_1 rfl ?_
  refine g_iload_n C dX7_goes_4 rfl (j := 1) rfl ?_
  refine g_callVI C (c_X2_hasPost l G F p0) lk_X7_106 (F.mem 3 rfl) (F.at 3 rfl) rfl rfl dX7_goes_5 (Nat.le_of_ble_eq_true rfl) ⟨by decide, by decide⟩ ⟨by decide, by decide⟩ (fun r1 L M hp => ?_)
  obtain ⟨r1_, F⟩ := hp
  subst r1_
  refine g_if_eq C dX7_goes_8 (tgt := 15) (by decide) (fun _ => ?_) (fun q => absurd (by decide) q)
  refine g_bipush C dX7_goes_15 (v := -2) (by decide) ?_
  exact g_iret C hrt dX7_goes_17 (by decide) (by decide) ⟨by decide, F⟩
set_option maxHeartbeats 4000000 in
set_option maxRecDepth 100000 in
theorem c_X7_told (l : Launch) (G : va_G) {cy : Nat → ClassId} {L : List Nat} {M : Nat → va_E} {a : Nat → Nat} {fr : List (Nat × va_E)}  (F : FW L M (flC cy a ++ fr)) (p0 : Int32) : MI l G cy yX7_told cX7_told 2 (some .int) 1 0 0 [.ref (a 0), .int p0] L M (fun r L2 M2 => r = (-2) ∧ FW L2 M2 (flC cy a ++ fr)) := by
  refine MI.of (own := RX7) rfl (by decide) (Nat.le_of_ble_eq_true rfl) ?_
  intro p e s m below meth c A C hrt hnm
  refine g_aload_n C dX7_told_0 rfl (j := 0) rfl ?_
  refine h_get C F 0 rfl fk_X7_19 dX7_told_1 rfl ?_
  refine g_iload_n C dX7_told_4 rfl (j := 1) rfl ?_
  refine g_callVI C (c_X2_hasPost l G F p0) lk_X7_106 (F.mem 3 rfl) (F.at 3 rfl) rfl rfl dX7_told_5 (Nat.le_of_ble_eq_true rfl) ⟨by decide, by decide⟩ ⟨by decide, by decide⟩ (fun r1 L M hp => ?_)
  obtain ⟨r1_, F⟩ := hp
  subst r1_
  refine g_if_ne C dX7_told_8 (tgt := 14) (by decide) (fun q => absurd (by decide) q) (fun _ => ?_)
  refine g_bipush C dX7_told_11 (v := -2) (by decide) ?_
  exact g_iret C hrt dX7_told_13 (by decide) (by decide) ⟨by decide, F⟩
set_option maxHeartbeats 4000000 in
set_option maxRecDepth 100000 in
theorem c_X7_walker (l : Launch) (G : va_G) {cy : Nat → ClassId} {L : List Nat} {M : Nat → va_E} {a : Nat → Nat} {fr : List (Nat × va_E)}  (F : FW L M (flC cy a ++ fr)) (p0 : Int32) (p1 : Int32) : MI l G cy yX7_walker cX7_walker 3 (some .int) 1 0 0 [.ref (a 0), .int p0, .int p1] L M (fun r L2 M2 => r = (-2) ∧ FW L2 M2 (flC cy a ++ fr)) := by
  refine MI.of (own := RX7) rfl (by decide) (Nat.le_of_ble_eq_true rfl) ?_
  intro p e s m below meth c A C hrt hnm
  refine g_aload_n C dX7_walker_0 rfl (j := 0) rfl ?_
  refine h_get C F 0 rfl fk_X7_19 dX7_walker_1 rfl ?_
  refine g_iload_n C dX7_walker_4 rfl (j := 1) rfl ?_
  refine g_callVI C (c_X2_hasWalker l G F p0) lk_X7_122 (F.mem 3 rfl) (F.at 3 rfl) rfl rfl dX7_walker_5 (Nat.le_of_ble_eq_true rfl) ⟨by decide, by decide⟩ ⟨by decide, by decide⟩ (fun r1 L M hp => ?_)
  obtain ⟨r1_, F⟩ := hp
  subst r1_
  refine g_if_eq C dX7_walker_8 (tgt := 18) (by decide) (fun _ => ?_) (fun q => absurd (by decide) q)
  refine g_bipush C dX7_walker_18 (v := -2) (by decide) ?_
  exact g_iret C hrt dX7_walker_20 (by decide) (by decide) ⟨by decide, F⟩
set_option maxHeartbeats 4000000 in
set_option maxRecDepth 100000 in
theorem c_X7_at (l : Launch) (G : va_G) {cy : Nat → ClassId} {L : List Nat} {M : Nat → va_E} {a : Nat → Nat} {fr : List (Nat × va_E)}  (F : FW L M (flC cy a ++ fr)) (p0 : Int32) (p1 : Int32) : MI l G cy yX7_at cX7_at 3 (some .int) 1 0 0 [.ref (a 0), .int p0, .int p1] L M (fun r L2 M2 => r = (-2) ∧ FW L2 M2 (flC cy a ++ fr)) := by
  refine MI.of (own := RX7) rfl (by decide) (Nat.le_of_ble_eq_true rfl) ?_
  intro p e s m below meth c A C hrt hnm
  refine g_aload_n C dX7_at_0 rfl (j := 0) rfl ?_
  refine h_get C F 0 rfl fk_X7_19 dX7_at_1 rfl ?_
  refine g_iload_n C dX7_at_4 rfl (j := 1) rfl ?_
  refine g_callVI C (c_X2_hasWalker l G F p0) lk_X7_122 (F.mem 3 rfl) (F.at 3 rfl) rfl rfl dX7_at_5 (Nat.le_of_ble_eq_true rfl) ⟨by decide, by decide⟩ ⟨by decide, by decide⟩ (fun r1 L M hp => ?_)
  obtain ⟨r1_, F⟩ := hp
  subst r1_
  refine g_if_eq C dX7_at_8 (tgt := 22) (by decide) (fun _ => ?_) (fun q => absurd (by decide) q)
  refine g_bipush C dX7_at_22 (v := -2) (by decide) ?_
  exact g_iret C hrt dX7_at_24 (by decide) (by decide) ⟨by decide, F⟩
set_option maxHeartbeats 4000000 in
set_option maxRecDepth 100000 in
theorem c_X7_arm (l : Launch) (G : va_G) {cy : Nat → ClassId} {L : List Nat} {M : Nat → va_E} {a : Nat → Nat} {fr : List (Nat × va_E)}  (F : FW L M (flC cy a ++ fr)) (p0 : Int32) (p1 : Int32) : MI l G cy yX7_arm cX7_arm 3 (some .int) 1 0 0 [.ref (a 0), .int p0, .int p1] L M (fun r L2 M2 => r = (-2) ∧ FW L2 M2 (flC cy a ++ fr)) := by
  refine MI.of (own := RX7) rfl (by decide) (Nat.le_of_ble_eq_true rfl) ?_
  intro p e s m below meth c A C hrt hnm
  refine g_aload_n C dX7_arm_0 rfl (j := 0) rfl ?_
  refine h_get C F 0 rfl fk_X7_19 dX7_arm_1 rfl ?_
  refine g_iload_n C dX7_arm_4 rfl (j := 1) rfl ?_
  refine g_callVI C (c_X2_hasPost l G F p0) lk_X7_106 (F.mem 3 rfl) (F.at 3 rfl) rfl rfl dX7_arm_5 (Nat.le_of_ble_eq_true rfl) ⟨by decide, by decide⟩ ⟨by decide, by decide⟩ (fun r1 L M hp => ?_)
  obtain ⟨r1_, F⟩ := hp
  subst r1_
  refine g_if_eq C dX7_arm_8 (tgt := 22) (by decide) (fun _ => ?_) (fun q => absurd (by decide) q)
  refine g_bipush C dX7_arm_22 (v := -2) (by decide) ?_
  exact g_iret C hrt dX7_arm_24 (by decide) (by decide) ⟨by decide, F⟩
set_option maxHeartbeats 4000000 in
set_option maxRecDepth 100000 in
theorem c_X7_here (l : Launch) (G : va_G) {cy : Nat → ClassId} {L : List Nat} {M : Nat → va_E} {a : Nat → Nat} {fr : List (Nat × va_E)}  (F : FW L M (flC cy a ++ fr)) (p0 : Int32) (p1 : Int32) : MI l G cy yX7_here cX7_here 3 (some .int) 2 0 0 [.ref (a 0), .int p0, .int p1] L M (fun r L2 M2 => r = (-2) ∧ FW L2 M2 (flC cy a ++ fr)) := by
  refine MI.of (own := RX7) rfl (by decide) (Nat.le_of_ble_eq_true rfl) ?_
  intro p e s m below meth c A C hrt hnm
  refine g_aload_n C dX7_here_0 rfl (j := 0) rfl ?_
  refine h_get C F 0 rfl fk_X7_19 dX7_here_1 rfl ?_
  refine g_iload_n C dX7_here_4 rfl (j := 1) rfl ?_
  refine g_callVI C (c_X2_hasPlace l G F p0) lk_X7_143 (F.mem 3 rfl) (F.at 3 rfl) rfl rfl dX7_here_5 (Nat.le_of_ble_eq_true rfl) ⟨by decide, by decide⟩ ⟨by decide, by decide⟩ (fun r1 L M hp => ?_)
  obtain ⟨r1_, F⟩ := hp
  subst r1_
  refine g_if_eq C dX7_here_8 (tgt := 22) (by decide) (fun _ => ?_) (fun q => absurd (by decide) q)
  refine g_bipush C dX7_here_22 (v := -2) (by decide) ?_
  exact g_iret C hrt dX7_here_24 (by decide) (by decide) ⟨by decide, F⟩
set_option maxHeartbeats 4000000 in
set_option maxRecDepth 100000 in
theorem c_X7_sent (l : Launch) (G : va_G) {cy : Nat → ClassId} {L : List Nat} {M : Nat → va_E} {a : Nat → Nat} {fr : List (Nat × va_E)}  (F : FW L M (flC cy a ++ fr)) (p0 : Int32) : MI l G cy yX7_sent cX7_sent 2 (some .int) 3 0 0 [.ref (a 0), .int p0] L M (fun r L2 M2 => r = (-2) ∧ FW L2 M2 (flC cy a ++ fr)) := by
  refine MI.of (own := RX7) rfl (by decide) (Nat.le_of_ble_eq_true rfl) ?_
  intro p e s m below meth c A C hrt hnm
  refine g_aload_n C dX7_sent_0 rfl (j := 0) rfl ?_
  refine h_get C F 0 rfl fk_X7_19 dX7_sent_1 rfl ?_
  refine g_iload_n C dX7_sent_4 rfl (j := 1) rfl ?_
  refine g_callVI C (c_X2_hasHourAhead l G F p0) lk_X7_149 (F.mem 3 rfl) (F.at 3 rfl) rfl rfl dX7_sent_5 (Nat.le_of_ble_eq_true rfl) ⟨by decide, by decide⟩ ⟨by decide, by decide⟩ (fun r1 L M hp => ?_)
  obtain ⟨r1_, F⟩ := hp
  subst r1_
  refine g_if_eq C dX7_sent_8 (tgt := 22) (by decide) (fun _ => ?_) (fun q => absurd (by decide) q)
  refine g_bipush C dX7_sent_22 (v := -2) (by decide) ?_
  exact g_iret C hrt dX7_sent_24 (by decide) (by decide) ⟨by decide, F⟩
set_option maxHeartbeats 4000000 in
set_option maxRecDepth 100000 in
theorem c_X7_sends (l : Launch) (G : va_G) {cy : Nat → ClassId} {L : List Nat} {M : Nat → va_E} {a : Nat → Nat} {fr : List (Nat × va_E)}  (F : FW L M (flC cy a ++ fr)) (p0 : Int32) : MI l G cy yX7_sends cX7_sends 2 (some .int) 1 0 0 [.ref (a 0), .int p0] L M (fun r L2 M2 => r = (-2) ∧ FW L2 M2 (flC cy a ++ fr)) := by
  refine MI.of (own := RX7) rfl (by decide) (Nat.le_of_ble_eq_true rfl) ?_
  intro p e s m below meth c A C hrt hnm
  refine g_aload_n C dX7_sends_0 rfl (j := 0) rfl ?_
  refine h_get C F 0 rfl fk_X7_19 dX7_sends_1 rfl ?_
  refine g_iload_n C dX7_sends_4 rfl (j := 1) rfl ?_
  refine g_callVI C (c_X2_hasPost l G F p0) lk_X7_106 (F.mem 3 rfl) (F.at 3 rfl) rfl rfl dX7_sends_5 (Nat.le_of_ble_eq_true rfl) ⟨by decide, by decide⟩ ⟨by decide, by decide⟩ (fun r1 L M hp => ?_)
  obtain ⟨r1_, F⟩ := hp
  subst r1_
  refine g_if_eq C dX7_sends_8 (tgt := 22) (by decide) (fun _ => ?_) (fun q => absurd (by decide) q)
  refine g_bipush C dX7_sends_22 (v := -2) (by decide) ?_
  exact g_iret C hrt dX7_sends_24 (by decide) (by decide) ⟨by decide, F⟩
set_option maxHeartbeats 4000000 in
set_option maxRecDepth 100000 in
theorem c_X7_used (l : Launch) (G : va_G) {cy : Nat → ClassId} {L : List Nat} {M : Nat → va_E} {a : Nat → Nat} {fr : List (Nat × va_E)}  (F : FW L M (flC cy a ++ fr)) (p0 : Int32) (p1 : Int32) : MI l G cy yX7_used cX7_used 3 (some .int) 1 0 0 [.ref (a 0), .int p0, .int p1] L M (fun r L2 M2 => r = (-2) ∧ FW L2 M2 (flC cy a ++ fr)) := by
  refine MI.of (own := RX7) rfl (by decide) (Nat.le_of_ble_eq_true rfl) ?_
  intro p e s m below meth c A C hrt hnm
  refine g_aload_n C dX7_used_0 rfl (j := 0) rfl ?_
  refine h_get C F 0 rfl fk_X7_19 dX7_used_1 rfl ?_
  refine g_iload_n C dX7_used_4 rfl (j := 1) rfl ?_
  refine g_callVI C (c_X2_hasPost l G F p0) lk_X7_106 (F.mem 3 rfl) (F.at 3 rfl) rfl rfl dX7_used_5 (Nat.le_of_ble_eq_true rfl) ⟨by decide, by decide⟩ ⟨by decide, by decide⟩ (fun r1 L M hp => ?_)
  obtain ⟨r1_, F⟩ := hp
  subst r1_
  refine g_if_eq C dX7_used_8 (tgt := 15) (by decide) (fun _ => ?_) (fun q => absurd (by decide) q)
  refine g_bipush C dX7_used_15 (v := -2) (by decide) ?_
  exact g_iret C hrt dX7_used_17 (by decide) (by decide) ⟨by decide, F⟩
set_option maxHeartbeats 4000000 in
set_option maxRecDepth 100000 in
theorem c_X7_walks (l : Launch) (G : va_G) {cy : Nat → ClassId} {L : List Nat} {M : Nat → va_E} {a : Nat → Nat} {fr : List (Nat × va_E)}  (F : FW L M (flC cy a ++ fr)) (p0 : Int32) : MI l G cy yX7_walks cX7_walks 2 (some .int) 1 0 0 [.ref (a 0), .int p0] L M (fun r L2 M2 => r = (-2) ∧ FW L2 M2 (flC cy a ++ fr)) := by
  refine MI.of (own := RX7) rfl (by decide) (Nat.le_of_ble_eq_true rfl) ?_
  intro p e s m below meth c A C hrt hnm
  refine g_aload_n C dX7_walks_0 rfl (j := 0) rfl ?_
  refine h_get C F 0 rfl fk_X7_19 dX7_walks_1 rfl ?_
  refine g_iload_n C dX7_walks_4 rfl (j := 1) rfl ?_
  refine g_callVI C (c_X2_hasWalker l G F p0) lk_X7_122 (F.mem 3 rfl) (F.at 3 rfl) rfl rfl dX7_walks_5 (Nat.le_of_ble_eq_true rfl) ⟨by decide, by decide⟩ ⟨by decide, by decide⟩ (fun r1 L M hp => ?_)
  obtain ⟨r1_, F⟩ := hp
  subst r1_
  refine g_if_eq C dX7_walks_8 (tgt := 22) (by decide) (fun _ => ?_) (fun q => absurd (by decide) q)
  refine g_bipush C dX7_walks_22 (v := -2) (by decide) ?_
  exact g_iret C hrt dX7_walks_24 (by decide) (by decide) ⟨by decide, F⟩
set_option maxHeartbeats 4000000 in
set_option maxRecDepth 100000 in
theorem c_X7_home (l : Launch) (G : va_G) {cy : Nat → ClassId} {L : List Nat} {M : Nat → va_E} {a : Nat → Nat} {fr : List (Nat × va_E)}  (F : FW L M (flC cy a ++ fr)) (p0 : Int32) : MI l G cy yX7_home cX7_home 2 (some .int) 1 0 0 [.ref (a 0), .int p0] L M (fun r L2 M2 => r = (-2) ∧ FW L2 M2 (flC cy a ++ fr)) := by
  refine MI.of (own := RX7) rfl (by decide) (Nat.le_of_ble_eq_true rfl) ?_
  intro p e s m below meth c A C hrt hnm
  refine g_aload_n C dX7_home_0 rfl (j := 0) rfl ?_
  refine h_get C F 0 rfl fk_X7_19 dX7_home_1 rfl ?_
  refine g_iload_n C dX7_home_4 rfl (j := 1) rfl ?_
  refine g_callVI C (c_X2_hasWalker l G F p0) lk_X7_122 (F.mem 3 rfl) (F.at 3 rfl) rfl rfl dX7_home_5 (Nat.le_of_ble_eq_true rfl) ⟨by decide, by decide⟩ ⟨by decide, by decide⟩ (fun r1 L M hp => ?_)
  obtain ⟨r1_, F⟩ := hp
  subst r1_
  refine g_if_eq C dX7_home_8 (tgt := 22) (by decide) (fun _ => ?_) (fun q => absurd (by decide) q)
  refine g_bipush C dX7_home_22 (v := -2) (by decide) ?_
  exact g_iret C hrt dX7_home_24 (by decide) (by decide) ⟨by decide, F⟩
set_option maxHeartbeats 4000000 in
set_option maxRecDepth 100000 in
theorem c_X7_inn (l : Launch) (G : va_G) {cy : Nat → ClassId} {L : List Nat} {M : Nat → va_E} {a : Nat → Nat} {fr : List (Nat × va_E)}  (F : FW L M (flC cy a ++ fr)) (p0 : Int32) : MI l G cy yX7_inn cX7_inn 3 (some .int) 1 0 0 [.ref (a 0), .int p0] L M (fun r L2 M2 => r = (-2) ∧ FW L2 M2 (flC cy a ++ fr)) := by
  refine MI.of (own := RX7) rfl (by decide) (Nat.le_of_ble_eq_true rfl) ?_
  intro p e s m below meth c A C hrt hnm
  refine g_aload_n C dX7_inn_0 rfl (j := 0) rfl ?_
  refine h_get C F 0 rfl fk_X7_19 dX7_inn_1 rfl ?_
  refine g_iload_n C dX7_inn_4 rfl (j := 1) rfl ?_
  refine g_callVI C (c_X2_hasWalker l G F p0) lk_X7_122 (F.mem 3 rfl) (F.at 3 rfl) rfl rfl dX7_inn_5 (Nat.le_of_ble_eq_true rfl) ⟨by decide, by decide⟩ ⟨by decide, by decide⟩ (fun r1 L M hp => ?_)
  obtain ⟨r1_, F⟩ := hp
  subst r1_
  refine g_if_ne C dX7_inn_8 (tgt := 14) (by decide) (fun q => absurd (by decide) q) (fun _ => ?_)
  refine g_bipush C dX7_inn_11 (v := -2) (by decide) ?_
  exact g_iret C hrt dX7_inn_13 (by decide) (by decide) ⟨by decide, F⟩
set_option maxHeartbeats 4000000 in
set_option maxRecDepth 100000 in
theorem c_X7_trail (l : Launch) (G : va_G) {cy : Nat → ClassId} {L : List Nat} {M : Nat → va_E} {a : Nat → Nat} {fr : List (Nat × va_E)}  (F : FW L M (flC cy a ++ fr)) (p0 : Int32) : MI l G cy yX7_trail cX7_trail 2 (some .int) 1 0 0 [.ref (a 0), .int p0] L M (fun r L2 M2 => r = (-2) ∧ FW L2 M2 (flC cy a ++ fr)) := by
  refine MI.of (own := RX7) rfl (by decide) (Nat.le_of_ble_eq_true rfl) ?_
  intro p e s m below meth c A C hrt hnm
  refine g_aload_n C dX7_trail_0 rfl (j := 0) rfl ?_
  refine h_get C F 0 rfl fk_X7_19 dX7_trail_1 rfl ?_
  refine g_iload_n C dX7_trail_4 rfl (j := 1) rfl ?_
  refine g_callVI C (c_X2_hasWalker l G F p0) lk_X7_122 (F.mem 3 rfl) (F.at 3 rfl) rfl rfl dX7_trail_5 (Nat.le_of_ble_eq_true rfl) ⟨by decide, by decide⟩ ⟨by decide, by decide⟩ (fun r1 L M hp => ?_)
  obtain ⟨r1_, F⟩ := hp
  subst r1_
  refine g_if_eq C dX7_trail_8 (tgt := 22) (by decide) (fun _ => ?_) (fun q => absurd (by decide) q)
  refine g_bipush C dX7_trail_22 (v := -2) (by decide) ?_
  exact g_iret C hrt dX7_trail_24 (by decide) (by decide) ⟨by decide, F⟩
set_option maxHeartbeats 4000000 in
set_option maxRecDepth 100000 in
theorem c_X7_again (l : Launch) (G : va_G) {cy : Nat → ClassId} {L : List Nat} {M : Nat → va_E} {a : Nat → Nat} {fr : List (Nat × va_E)}  (F : FW L M (flC cy a ++ fr)) (p0 : Int32) : MI l G cy yX7_again cX7_again 2 (some .int) 1 0 0 [.ref (a 0), .int p0] L M (fun r L2 M2 => r = (-2) ∧ FW L2 M2 (flC cy a ++ fr)) := by
  refine MI.of (own := RX7) rfl (by decide) (Nat.le_of_ble_eq_true rfl) ?_
  intro p e s m below meth c A C hrt hnm
  refine g_aload_n C dX7_again_0 rfl (j := 0) rfl ?_
  refine h_get C F 0 rfl fk_X7_19 dX7_again_1 rfl ?_
  refine g_iload_n C dX7_again_4 rfl (j := 1) rfl ?_
  refine g_callVI C (c_X2_hasWalker l G F p0) lk_X7_122 (F.mem 3 rfl) (F.at 3 rfl) rfl rfl dX7_again_5 (Nat.le_of_ble_eq_true rfl) ⟨by decide, by decide⟩ ⟨by decide, by decide⟩ (fun r1 L M hp => ?_)
  obtain ⟨r1_, F⟩ := hp
  subst r1_
  refine g_if_eq C dX7_again_8 (tgt := 22) (by decide) (fun _ => ?_) (fun q => absurd (by decide) q)
  refine g_bipush C dX7_again_22 (v := -2) (by decide) ?_
  exact g_iret C hrt dX7_again_24 (by decide) (by decide) ⟨by decide, F⟩
set_option maxHeartbeats 4000000 in
set_option maxRecDepth 100000 in
theorem c_X7_lingers (l : Launch) (G : va_G) {cy : Nat → ClassId} {L : List Nat} {M : Nat → va_E} {a : Nat → Nat} {fr : List (Nat × va_E)}  (F : FW L M (flC cy a ++ fr)) (p0 : Int32) : MI l G cy yX7_lingers cX7_lingers 2 (some .int) 1 0 0 [.ref (a 0), .int p0] L M (fun r L2 M2 => r = (-2) ∧ FW L2 M2 (flC cy a ++ fr)) := by
  refine MI.of (own := RX7) rfl (by decide) (Nat.le_of_ble_eq_true rfl) ?_
  intro p e s m below meth c A C hrt hnm
  refine g_aload_n C dX7_lingers_0 rfl (j := 0) rfl ?_
  refine h_get C F 0 rfl fk_X7_19 dX7_lingers_1 rfl ?_
  refine g_iload_n C dX7_lingers_4 rfl (j := 1) rfl ?_
  refine g_callVI C (c_X2_hasWalker l G F p0) lk_X7_122 (F.mem 3 rfl) (F.at 3 rfl) rfl rfl dX7_lingers_5 (Nat.le_of_ble_eq_true rfl) ⟨by decide, by decide⟩ ⟨by decide, by decide⟩ (fun r1 L M hp => ?_)
  obtain ⟨r1_, F⟩ := hp
  subst r1_
  refine g_if_eq C dX7_lingers_8 (tgt := 22) (by decide) (fun _ => ?_) (fun q => absurd (by decide) q)
  refine g_bipush C dX7_lingers_22 (v := -2) (by decide) ?_
  exact g_iret C hrt dX7_lingers_24 (by decide) (by decide) ⟨by decide, F⟩
set_option maxHeartbeats 4000000 in
set_option maxRecDepth 100000 in
theorem c_X7_doors (l : Launch) (G : va_G) {cy : Nat → ClassId} {L : List Nat} {M : Nat → va_E} {a : Nat → Nat} {fr : List (Nat × va_E)}  (F : FW L M (flC cy a ++ fr)) (p0 : Int32) : MI l G cy yX7_doors cX7_doors 2 (some .int) 1 0 0 [.ref (a 0), .int p0] L M (fun r L2 M2 => r = (-2) ∧ FW L2 M2 (flC cy a ++ fr)) := by
  refine MI.of (own := RX7) rfl (by decide) (Nat.le_of_ble_eq_true rfl) ?_
  intro p e s m below meth c A C hrt hnm
  refine g_aload_n C dX7_doors_0 rfl (j := 0) rfl ?_
  refine h_get C F 0 rfl fk_X7_19 dX7_doors_1 rfl ?_
  refine g_iload_n C dX7_doors_4 rfl (j := 1) rfl ?_
  refine g_callVI C (c_X2_hasPost l G F p0) lk_X7_106 (F.mem 3 rfl) (F.at 3 rfl) rfl rfl dX7_doors_5 (Nat.le_of_ble_eq_true rfl) ⟨by decide, by decide⟩ ⟨by decide, by decide⟩ (fun r1 L M hp => ?_)
  obtain ⟨r1_, F⟩ := hp
  subst r1_
  refine g_if_eq C dX7_doors_8 (tgt := 22) (by decide) (fun _ => ?_) (fun q => absurd (by decide) q)
  refine g_bipush C dX7_doors_22 (v := -2) (by decide) ?_
  exact g_iret C hrt dX7_doors_24 (by decide) (by decide) ⟨by decide, F⟩
set_option maxHeartbeats 4000000 in
set_option maxRecDepth 100000 in
theorem c_X7_guests (l : Launch) (G : va_G) {cy : Nat → ClassId} {L : List Nat} {M : Nat → va_E} {a : Nat → Nat} {fr : List (Nat × va_E)}  (F : FW L M (flC cy a ++ fr)) (p0 : Int32) (p1 : Int32) : MI l G cy yX7_guests cX7_guests 3 (some .int) 1 0 0 [.ref (a 0), .int p0, .int p1] L M (fun r L2 M2 => r = (-2) ∧ FW L2 M2 (flC cy a ++ fr)) := by
  refine MI.of (own := RX7) rfl (by decide) (Nat.le_of_ble_eq_true rfl) ?_
  intro p e s m below meth c A C hrt hnm
  refine g_aload_n C dX7_guests_0 rfl (j := 0) rfl ?_
  refine h_get C F 0 rfl fk_X7_19 dX7_guests_1 rfl ?_
  refine g_iload_n C dX7_guests_4 rfl (j := 1) rfl ?_
  refine g_callVI C (c_X2_hasInn l G F p0) lk_X7_99 (F.mem 3 rfl) (F.at 3 rfl) rfl rfl dX7_guests_5 (Nat.le_of_ble_eq_true rfl) ⟨by decide, by decide⟩ ⟨by decide, by decide⟩ (fun r1 L M hp => ?_)
  obtain ⟨r1_, F⟩ := hp
  subst r1_
  refine g_if_eq C dX7_guests_8 (tgt := 22) (by decide) (fun _ => ?_) (fun q => absurd (by decide) q)
  refine g_bipush C dX7_guests_22 (v := -2) (by decide) ?_
  exact g_iret C hrt dX7_guests_24 (by decide) (by decide) ⟨by decide, F⟩
set_option maxHeartbeats 4000000 in
set_option maxRecDepth 100000 in
theorem c_X7_full (l : Launch) (G : va_G) {cy : Nat → ClassId} {L : List Nat} {M : Nat → va_E} {a : Nat → Nat} {fr : List (Nat × va_E)}  (F : FW L M (flC cy a ++ fr)) (p0 : Int32) : MI l G cy yX7_full cX7_full 2 (some .int) 1 0 0 [.ref (a 0), .int p0] L M (fun r L2 M2 => r = (-2) ∧ FW L2 M2 (flC cy a ++ fr)) := by
  refine MI.of (own := RX7) rfl (by decide) (Nat.le_of_ble_eq_true rfl) ?_
  intro p e s m below meth c A C hrt hnm
  refine g_aload_n C dX7_full_0 rfl (j := 0) rfl ?_
  refine h_get C F 0 rfl fk_X7_19 dX7_full_1 rfl ?_
  refine g_iload_n C dX7_full_4 rfl (j := 1) rfl ?_
  refine g_callVI C (c_X2_hasInn l G F p0) lk_X7_99 (F.mem 3 rfl) (F.at 3 rfl) rfl rfl dX7_full_5 (Nat.le_of_ble_eq_true rfl) ⟨by decide, by decide⟩ ⟨by decide, by decide⟩ (fun r1 L M hp => ?_)
  obtain ⟨r1_, F⟩ := hp
  subst r1_
  refine g_if_eq C dX7_full_8 (tgt := 22) (by decide) (fun _ => ?_) (fun q => absurd (by decide) q)
  refine g_bipush C dX7_full_22 (v := -2) (by decide) ?_
  exact g_iret C hrt dX7_full_24 (by decide) (by decide) ⟨by decide, F⟩
set_option maxHeartbeats 4000000 in
set_option maxRecDepth 100000 in
theorem c_X7_refuses (l : Launch) (G : va_G) {cy : Nat → ClassId} {L : List Nat} {M : Nat → va_E} {a : Nat → Nat} {fr : List (Nat × va_E)}  (F : FW L M (flC cy a ++ fr)) (p0 : Int32) : MI l G cy yX7_refuses cX7_refuses 2 (some .int) 1 0 0 [.ref (a 0), .int p0] L M (fun r L2 M2 => r = (-2) ∧ FW L2 M2 (flC cy a ++ fr)) := by
  refine MI.of (own := RX7) rfl (by decide) (Nat.le_of_ble_eq_true rfl) ?_
  intro p e s m below meth c A C hrt hnm
  refine g_aload_n C dX7_refuses_0 rfl (j := 0) rfl ?_
  refine h_get C F 0 rfl fk_X7_19 dX7_refuses_1 rfl ?_
  refine g_iload_n C dX7_refuses_4 rfl (j := 1) rfl ?_
  refine g_callVI C (c_X2_hasInn l G F p0) lk_X7_99 (F.mem 3 rfl) (F.at 3 rfl) rfl rfl dX7_refuses_5 (Nat.le_of_ble_eq_true rfl) ⟨by decide, by decide⟩ ⟨by decide, by decide⟩ (fun r1 L M hp => ?_)
  obtain ⟨r1_, F⟩ := hp
  subst r1_
  refine g_if_eq C dX7_refuses_8 (tgt := 22) (by decide) (fun _ => ?_) (fun q => absurd (by decide) q)
  refine g_bipush C dX7_refuses_22 (v := -2) (by decide) ?_
  exact g_iret C hrt dX7_refuses_24 (by decide) (by decide) ⟨by decide, F⟩
set_option maxHeartbeats 4000000 in
set_option maxRecDepth 100000 in
theorem c_X7_inside (l : Launch) (G : va_G) {cy : Nat → ClassId} {L : List Nat} {M : Nat → va_E} {a : Nat → Nat} {fr : List (Nat × va_E)}  (F : FW L M (flC cy a ++ fr)) (p0 : Int32) : MI l G cy yX7_inside cX7_inside 2 (some .int) 2 0 0 [.ref (a 0), .int p0] L M (fun r L2 M2 => r = (-2) ∧ FW L2 M2 (flC cy a ++ fr)) := by
  refine MI.of (own := RX7) rfl (by decide) (Nat.le_of_ble_eq_true rfl) ?_
  intro p e s m below meth c A C hrt hnm
  refine g_aload_n C dX7_inside_0 rfl (j := 0) rfl ?_
  refine h_get C F 0 rfl fk_X7_19 dX7_inside_1 rfl ?_
  refine g_iload_n C dX7_inside_4 rfl (j := 1) rfl ?_
  refine g_callVI C (c_X2_hasHour l G F p0) lk_X7_134 (F.mem 3 rfl) (F.at 3 rfl) rfl rfl dX7_inside_5 (Nat.le_of_ble_eq_true rfl) ⟨by decide, by decide⟩ ⟨by decide, by decide⟩ (fun r1 L M hp => ?_)
  obtain ⟨r1_, F⟩ := hp
  subst r1_
  refine g_if_eq C dX7_inside_8 (tgt := 22) (by decide) (fun _ => ?_) (fun q => absurd (by decide) q)
  refine g_bipush C dX7_inside_22 (v := -2) (by decide) ?_
  exact g_iret C hrt dX7_inside_24 (by decide) (by decide) ⟨by decide, F⟩
set_option maxHeartbeats 4000000 in
set_option maxRecDepth 100000 in
theorem c_X7_outside (l : Launch) (G : va_G) {cy : Nat → ClassId} {L : List Nat} {M : Nat → va_E} {a : Nat → Nat} {fr : List (Nat × va_E)}  (F : FW L M (flC cy a ++ fr)) (p0 : Int32) : MI l G cy yX7_outside cX7_outside 2 (some .int) 2 0 0 [.ref (a 0), .int p0] L M (fun r L2 M2 => r = (-2) ∧ FW L2 M2 (flC cy a ++ fr)) := by
  refine MI.of (own := RX7) rfl (by decide) (Nat.le_of_ble_eq_true rfl) ?_
  intro p e s m below meth c A C hrt hnm
  refine g_aload_n C dX7_outside_0 rfl (j := 0) rfl ?_
  refine h_get C F 0 rfl fk_X7_19 dX7_outside_1 rfl ?_
  refine g_iload_n C dX7_outside_4 rfl (j := 1) rfl ?_
  refine g_callVI C (c_X2_hasHour l G F p0) lk_X7_134 (F.mem 3 rfl) (F.at 3 rfl) rfl rfl dX7_outside_5 (Nat.le_of_ble_eq_true rfl) ⟨by decide, by decide⟩ ⟨by decide, by decide⟩ (fun r1 L M hp => ?_)
  obtain ⟨r1_, F⟩ := hp
  subst r1_
  refine g_if_eq C dX7_outside_8 (tgt := 22) (by decide) (fun _ => ?_) (fun q => absurd (by decide) q)
  refine g_bipush C dX7_outside_22 (v := -2) (by decide) ?_
  exact g_iret C hrt dX7_outside_24 (by decide) (by decide) ⟨by decide, F⟩
set_option maxHeartbeats 4000000 in
set_option maxRecDepth 100000 in
theorem c_X7_done (l : Launch) (G : va_G) {cy : Nat → ClassId} {L : List Nat} {M : Nat → va_E} {a : Nat → Nat} {fr : List (Nat × va_E)}  (F : FW L M (flC cy a ++ fr))  : MI l G cy yX7_done cX7_done 1 (some .int) 1 0 0 [.ref (a 0)] L M (fun r L2 M2 => r = (-2) ∧ FW L2 M2 (flC cy a ++ fr)) := by
  refine MI.of (own := RX7) rfl (by decide) (Nat.le_of_ble_eq_true rfl) ?_
  intro p e s m below meth c A C hrt hnm
  refine g_aload_n C dX7_done_0 rfl (j := 0) rfl ?_
  refine h_get C F 0 rfl fk_X7_19 dX7_done_1 rfl ?_
  refine g_callVI C (c_X2_isTold l G F ) lk_X7_198 (F.mem 3 rfl) (F.at 3 rfl) rfl rfl dX7_done_4 (Nat.le_of_ble_eq_true rfl) ⟨by decide, by decide⟩ ⟨by decide, by decide⟩ (fun r1 L M hp => ?_)
  obtain ⟨r1_, F⟩ := hp
  subst r1_
  refine g_if_eq C dX7_done_7 (tgt := 20) (by decide) (fun _ => ?_) (fun q => absurd (by decide) q)
  refine g_bipush C dX7_done_20 (v := -2) (by decide) ?_
  exact g_iret C hrt dX7_done_22 (by decide) (by decide) ⟨by decide, F⟩
set_option maxHeartbeats 4000000 in
set_option maxRecDepth 100000 in
theorem c_X7_crowd (l : Launch) (G : va_G) {cy : Nat → ClassId} {L : List Nat} {M : Nat → va_E} {a : Nat → Nat} {fr : List (Nat × va_E)}  (F : FW L M (flC cy a ++ fr)) (p0 : Int32) : MI l G cy yX7_crowd cX7_crowd 2 (some .int) 2 0 0 [.ref (a 0), .int p0] L M (fun r L2 M2 => r = (-2) ∧ FW L2 M2 (flC cy a ++ fr)) := by
  refine MI.of (own := RX7) rfl (by decide) (Nat.le_of_ble_eq_true rfl) ?_
  intro p e s m below meth c A C hrt hnm
  refine g_aload_n C dX7_crowd_0 rfl (j := 0) rfl ?_
  refine h_get C F 0 rfl fk_X7_19 dX7_crowd_1 rfl ?_
  refine g_iload_n C dX7_crowd_4 rfl (j := 1) rfl ?_
  refine g_callVI C (c_X2_hasHour l G F p0) lk_X7_134 (F.mem 3 rfl) (F.at 3 rfl) rfl rfl dX7_crowd_5 (Nat.le_of_ble_eq_true rfl) ⟨by decide, by decide⟩ ⟨by decide, by decide⟩ (fun r1 L M hp => ?_)
  obtain ⟨r1_, F⟩ := hp
  subst r1_
  refine g_if_eq C dX7_crowd_8 (tgt := 22) (by decide) (fun _ => ?_) (fun q => absurd (by decide) q)
  refine g_bipush C dX7_crowd_22 (v := -2) (by decide) ?_
  exact g_iret C hrt dX7_crowd_24 (by decide) (by decide) ⟨by decide, F⟩
set_option maxHeartbeats 4000000 in
set_option maxRecDepth 100000 in
theorem c_X7_armless (l : Launch) (G : va_G) {cy : Nat → ClassId} {L : List Nat} {M : Nat → va_E} {a : Nat → Nat} {fr : List (Nat × va_E)}  (F : FW L M (flC cy a ++ fr))  : MI l G cy yX7_armless cX7_armless 1 (some .int) 1 0 0 [.ref (a 0)] L M (fun r L2 M2 => r = (-2) ∧ FW L2 M2 (flC cy a ++ fr)) := by
  refine MI.of (own := RX7) rfl (by decide) (Nat.le_of_ble_eq_true rfl) ?_
  intro p e s m below meth c A C hrt hnm
  refine g_aload_n C dX7_armless_0 rfl (j := 0) rfl ?_
  refine h_get C F 0 rfl fk_X7_19 dX7_armless_1 rfl ?_
  refine g_callVI C (c_X2_isTold l G F ) lk_X7_198 (F.mem 3 rfl) (F.at 3 rfl) rfl rfl dX7_armless_4 (Nat.le_of_ble_eq_true rfl) ⟨by decide, by decide⟩ ⟨by decide, by decide⟩ (fun r1 L M hp => ?_)
  obtain ⟨r1_, F⟩ := hp
  subst r1_
  refine g_if_eq C dX7_armless_7 (tgt := 20) (by decide) (fun _ => ?_) (fun q => absurd (by decide) q)
  refine g_bipush C dX7_armless_20 (v := -2) (by decide) ?_
  exact g_iret C hrt dX7_armless_22 (by decide) (by decide) ⟨by decide, F⟩
set_option maxHeartbeats 4000000 in
set_option maxRecDepth 100000 in
theorem c_X7_meet (l : Launch) (G : va_G) {cy : Nat → ClassId} {L : List Nat} {M : Nat → va_E} {a : Nat → Nat} {fr : List (Nat × va_E)}  (F : FW L M (flC cy a ++ fr)) (p0 : Int32) (p1 : Int32) : MI l G cy yX7_meet cX7_meet 3 (some .int) 2 0 0 [.ref (a 0), .int p0, .int p1] L M (fun r L2 M2 => r = (-2) ∧ FW L2 M2 (flC cy a ++ fr)) := by
  refine MI.of (own := RX7) rfl (by decide) (Nat.le_of_ble_eq_true rfl) ?_
  intro p e s m below meth c A C hrt hnm
  refine g_aload_n C dX7_meet_0 rfl (j := 0) rfl ?_
  refine g_iload_n C dX7_meet_1 rfl (j := 1) rfl ?_
  refine g_iload_n C dX7_meet_2 rfl (j := 2) rfl ?_
  refine g_callVI C (c_X7_areTwo l G F p0 p1) lk_X7_212 (F.mem 0 rfl) (F.at 0 rfl) rfl rfl dX7_meet_3 (Nat.le_of_ble_eq_true rfl) ⟨by decide, by decide⟩ ⟨by decide, by decide⟩ (fun r1 L M hp => ?_)
  obtain ⟨r1_, F⟩ := hp
  subst r1_
  refine g_if_eq C dX7_meet_6 (tgt := 21) (by decide) (fun _ => ?_) (fun q => absurd (by decide) q)
  refine g_bipush C dX7_meet_21 (v := -2) (by decide) ?_
  exact g_iret C hrt dX7_meet_23 (by decide) (by decide) ⟨by decide, F⟩
set_option maxHeartbeats 4000000 in
set_option maxRecDepth 100000 in
theorem c_X7_busy (l : Launch) (G : va_G) {cy : Nat → ClassId} {L : List Nat} {M : Nat → va_E} {a : Nat → Nat} {fr : List (Nat × va_E)}  (F : FW L M (flC cy a ++ fr))  : MI l G cy yX7_busy cX7_busy 5 (some .int) 1 0 0 [.ref (a 0)] L M (fun r L2 M2 => r = (-2) ∧ FW L2 M2 (flC cy a ++ fr)) := by
  refine MI.of (own := RX7) rfl (by decide) (Nat.le_of_ble_eq_true rfl) ?_
  intro p e s m below meth c A C hrt hnm
  refine g_aload_n C dX7_busy_0 rfl (j := 0) rfl ?_
  refine h_get C F 0 rfl fk_X7_19 dX7_busy_1 rfl ?_
  refine g_callVI C (c_X2_isTold l G F ) lk_X7_198 (F.mem 3 rfl) (F.at 3 rfl) rfl rfl dX7_busy_4 (Nat.le_of_ble_eq_true rfl) ⟨by decide, by decide⟩ ⟨by decide, by decide⟩ (fun r1 L M hp => ?_)
  obtain ⟨r1_, F⟩ := hp
  subst r1_
  refine g_if_ne C dX7_busy_7 (tgt := 13) (by decide) (fun q => absurd (by decide) q) (fun _ => ?_)
  refine g_bipush C dX7_busy_10 (v := -2) (by decide) ?_
  exact g_iret C hrt dX7_busy_12 (by decide) (by decide) ⟨by decide, F⟩
set_option maxHeartbeats 4000000 in
set_option maxRecDepth 100000 in
theorem c_X7_idle (l : Launch) (G : va_G) {cy : Nat → ClassId} {L : List Nat} {M : Nat → va_E} {a : Nat → Nat} {fr : List (Nat × va_E)}  (F : FW L M (flC cy a ++ fr))  : MI l G cy yX7_idle cX7_idle 3 (some .int) 1 0 0 [.ref (a 0)] L M (fun r L2 M2 => r = (-2) ∧ FW L2 M2 (flC cy a ++ fr)) := by
  refine MI.of (own := RX7) rfl (by decide) (Nat.le_of_ble_eq_true rfl) ?_
  intro p e s m below meth c A C hrt hnm
  refine g_aload_n C dX7_idle_0 rfl (j := 0) rfl ?_
  refine h_get C F 0 rfl fk_X7_19 dX7_idle_1 rfl ?_
  refine g_callVI C (c_X2_isTold l G F ) lk_X7_198 (F.mem 3 rfl) (F.at 3 rfl) rfl rfl dX7_idle_4 (Nat.le_of_ble_eq_true rfl) ⟨by decide, by decide⟩ ⟨by decide, by decide⟩ (fun r1 L M hp => ?_)
  obtain ⟨r1_, F⟩ := hp
  subst r1_
  refine g_if_ne C dX7_idle_7 (tgt := 13) (by decide) (fun q => absurd (by decide) q) (fun _ => ?_)
  refine g_bipush C dX7_idle_10 (v := -2) (by decide) ?_
  exact g_iret C hrt dX7_idle_12 (by decide) (by decide) ⟨by decide, F⟩
set_option maxHeartbeats 4000000 in
set_option maxRecDepth 100000 in
theorem c_X7_reach (l : Launch) (G : va_G) {cy : Nat → ClassId} {L : List Nat} {M : Nat → va_E} {a : Nat → Nat} {fr : List (Nat × va_E)}  (F : FW L M (flC cy a ++ fr)) (p0 : Int32) : MI l G cy yX7_reach cX7_reach 2 (some .int) 1 0 0 [.ref (a 0), .int p0] L M (fun r L2 M2 => r = (-2) ∧ FW L2 M2 (flC cy a ++ fr)) := by
  refine MI.of (own := RX7) rfl (by decide) (Nat.le_of_ble_eq_true rfl) ?_
  intro p e s m below meth c A C hrt hnm
  refine g_aload_n C dX7_reach_0 rfl (j := 0) rfl ?_
  refine h_get C F 0 rfl fk_X7_19 dX7_reach_1 rfl ?_
  refine g_iload_n C dX7_reach_4 rfl (j := 1) rfl ?_
  refine g_callVI C (c_X2_hasPost l G F p0) lk_X7_106 (F.mem 3 rfl) (F.at 3 rfl) rfl rfl dX7_reach_5 (Nat.le_of_ble_eq_true rfl) ⟨by decide, by decide⟩ ⟨by decide, by decide⟩ (fun r1 L M hp => ?_)
  obtain ⟨r1_, F⟩ := hp
  subst r1_
  refine g_if_eq C dX7_reach_8 (tgt := 22) (by decide) (fun _ => ?_) (fun q => absurd (by decide) q)
  refine g_bipush C dX7_reach_22 (v := -2) (by decide) ?_
  exact g_iret C hrt dX7_reach_24 (by decide) (by decide) ⟨by decide, F⟩
set_option maxHeartbeats 4000000 in
set_option maxRecDepth 100000 in
theorem c_X7_far (l : Launch) (G : va_G) {cy : Nat → ClassId} {L : List Nat} {M : Nat → va_E} {a : Nat → Nat} {fr : List (Nat × va_E)}  (F : FW L M (flC cy a ++ fr)) (p0 : Int32) (p1 : Int32) : MI l G cy yX7_far cX7_far 3 (some .int) 1 0 0 [.ref (a 0), .int p0, .int p1] L M (fun r L2 M2 => r = (-2) ∧ FW L2 M2 (flC cy a ++ fr)) := by
  refine MI.of (own := RX7) rfl (by decide) (Nat.le_of_ble_eq_true rfl) ?_
  intro p e s m below meth c A C hrt hnm
  refine g_aload_n C dX7_far_0 rfl (j := 0) rfl ?_
  refine h_get C F 0 rfl fk_X7_19 dX7_far_1 rfl ?_
  refine g_iload_n C dX7_far_4 rfl (j := 1) rfl ?_
  refine g_callVI C (c_X2_hasPost l G F p0) lk_X7_106 (F.mem 3 rfl) (F.at 3 rfl) rfl rfl dX7_far_5 (Nat.le_of_ble_eq_true rfl) ⟨by decide, by decide⟩ ⟨by decide, by decide⟩ (fun r1 L M hp => ?_)
  obtain ⟨r1_, F⟩ := hp
  subst r1_
  refine g_if_eq C dX7_far_8 (tgt := 22) (by decide) (fun _ => ?_) (fun q => absurd (by decide) q)
  refine g_bipush C dX7_far_22 (v := -2) (by decide) ?_
  exact g_iret C hrt dX7_far_24 (by decide) (by decide) ⟨by decide, F⟩
set_option maxHeartbeats 4000000 in
set_option maxRecDepth 100000 in
theorem c_X7_setting (l : Launch) (G : va_G) {cy : Nat → ClassId} {L : List Nat} {M : Nat → va_E} {a : Nat → Nat} {fr : List (Nat × va_E)}  (F : FW L M (flC cy a ++ fr)) (p0 : Int32) : MI l G cy yX7_setting cX7_setting 2 (some .int) 2 0 0 [.ref (a 0), .int p0] L M (fun r L2 M2 => r = (-2) ∧ FW L2 M2 (flC cy a ++ fr)) := by
  refine MI.of (own := RX7) rfl (by decide) (Nat.le_of_ble_eq_true rfl) ?_
  intro p e s m below meth c A C hrt hnm
  refine g_aload_n C dX7_setting_0 rfl (j := 0) rfl ?_
  refine h_get C F 0 rfl fk_X7_19 dX7_setting_1 rfl ?_
  refine g_iload_n C dX7_setting_4 rfl (j := 1) rfl ?_
  refine g_callVI C (c_X2_hasHour l G F p0) lk_X7_134 (F.mem 3 rfl) (F.at 3 rfl) rfl rfl dX7_setting_5 (Nat.le_of_ble_eq_true rfl) ⟨by decide, by decide⟩ ⟨by decide, by decide⟩ (fun r1 L M hp => ?_)
  obtain ⟨r1_, F⟩ := hp
  subst r1_
  refine g_if_eq C dX7_setting_8 (tgt := 19) (by decide) (fun _ => ?_) (fun q => absurd (by decide) q)
  refine g_bipush C dX7_setting_19 (v := -2) (by decide) ?_
  exact g_iret C hrt dX7_setting_21 (by decide) (by decide) ⟨by decide, F⟩
set_option maxHeartbeats 4000000 in
set_option maxRecDepth 100000 in
theorem c_X7_settings (l : Launch) (G : va_G) {cy : Nat → ClassId} {L : List Nat} {M : Nat → va_E} {a : Nat → Nat} {fr : List (Nat × va_E)}  (F : FW L M (flC cy a ++ fr))  : MI l G cy yX7_settings cX7_settings 1 (some .int) 1 0 0 [.ref (a 0)] L M (fun r L2 M2 => r = (-2) ∧ FW L2 M2 (flC cy a ++ fr)) := by
  refine MI.of (own := RX7) rfl (by decide) (Nat.le_of_ble_eq_true rfl) ?_
  intro p e s m below meth c A C hrt hnm
  refine g_aload_n C dX7_settings_0 rfl (j := 0) rfl ?_
  refine h_get C F 0 rfl fk_X7_19 dX7_settings_1 rfl ?_
  refine g_callVI C (c_X2_isTold l G F ) lk_X7_198 (F.mem 3 rfl) (F.at 3 rfl) rfl rfl dX7_settings_4 (Nat.le_of_ble_eq_true rfl) ⟨by decide, by decide⟩ ⟨by decide, by decide⟩ (fun r1 L M hp => ?_)
  obtain ⟨r1_, F⟩ := hp
  subst r1_
  refine g_if_eq C dX7_settings_7 (tgt := 20) (by decide) (fun _ => ?_) (fun q => absurd (by decide) q)
  refine g_bipush C dX7_settings_20 (v := -2) (by decide) ?_
  exact g_iret C hrt dX7_settings_22 (by decide) (by decide) ⟨by decide, F⟩
set_option maxHeartbeats 4000000 in
set_option maxRecDepth 100000 in
theorem c_X7_same (l : Launch) (G : va_G) {cy : Nat → ClassId} {L : List Nat} {M : Nat → va_E} {a : Nat → Nat} {fr : List (Nat × va_E)}  (F : FW L M (flC cy a ++ fr))  : MI l G cy yX7_same cX7_same 3 (some .int) 1 0 0 [.ref (a 0)] L M (fun r L2 M2 => r = (-2) ∧ FW L2 M2 (flC cy a ++ fr)) := by
  refine MI.of (own := RX7) rfl (by decide) (Nat.le_of_ble_eq_true rfl) ?_
  intro p e s m below meth c A C hrt hnm
  refine g_aload_n C dX7_same_0 rfl (j := 0) rfl ?_
  refine h_get C F 0 rfl fk_X7_19 dX7_same_1 rfl ?_
  refine g_callVI C (c_X2_isTold l G F ) lk_X7_198 (F.mem 3 rfl) (F.at 3 rfl) rfl rfl dX7_same_4 (Nat.le_of_ble_eq_true rfl) ⟨by decide, by decide⟩ ⟨by decide, by decide⟩ (fun r1 L M hp => ?_)
  obtain ⟨r1_, F⟩ := hp
  subst r1_
  refine g_if_ne C dX7_same_7 (tgt := 13) (by decide) (fun q => absurd (by decide) q) (fun _ => ?_)
  refine g_bipush C dX7_same_10 (v := -2) (by decide) ?_
  exact g_iret C hrt dX7_same_12 (by decide) (by decide) ⟨by decide, F⟩
set_option maxHeartbeats 4000000 in
set_option maxRecDepth 100000 in
theorem c_X7_alone (l : Launch) (G : va_G) {cy : Nat → ClassId} {L : List Nat} {M : Nat → va_E} {a : Nat → Nat} {fr : List (Nat × va_E)}  (F : FW L M (flC cy a ++ fr)) (p0 : Int32) : MI l G cy yX7_alone cX7_alone 2 (some .int) 1 0 0 [.ref (a 0), .int p0] L M (fun r L2 M2 => r = (-2) ∧ FW L2 M2 (flC cy a ++ fr)) := by
  refine MI.of (own := RX7) rfl (by decide) (Nat.le_of_ble_eq_true rfl) ?_
  intro p e s m below meth c A C hrt hnm
  refine g_aload_n C dX7_alone_0 rfl (j := 0) rfl ?_
  refine h_get C F 0 rfl fk_X7_19 dX7_alone_1 rfl ?_
  refine g_iload_n C dX7_alone_4 rfl (j := 1) rfl ?_
  refine g_callVI C (c_X2_hasPost l G F p0) lk_X7_106 (F.mem 3 rfl) (F.at 3 rfl) rfl rfl dX7_alone_5 (Nat.le_of_ble_eq_true rfl) ⟨by decide, by decide⟩ ⟨by decide, by decide⟩ (fun r1 L M hp => ?_)
  obtain ⟨r1_, F⟩ := hp
  subst r1_
  refine g_if_ne C dX7_alone_8 (tgt := 14) (by decide) (fun q => absurd (by decide) q) (fun _ => ?_)
  refine g_bipush C dX7_alone_11 (v := -2) (by decide) ?_
  exact g_iret C hrt dX7_alone_13 (by decide) (by decide) ⟨by decide, F⟩
set_option maxHeartbeats 4000000 in
set_option maxRecDepth 100000 in
theorem c_X7_steps (l : Launch) (G : va_G) {cy : Nat → ClassId} {L : List Nat} {M : Nat → va_E} {a : Nat → Nat} {fr : List (Nat × va_E)}  (F : FW L M (flC cy a ++ fr)) (p0 : Int32) : MI l G cy yX7_steps cX7_steps 2 (some .int) 1 0 0 [.ref (a 0), .int p0] L M (fun r L2 M2 => r = (-2) ∧ FW L2 M2 (flC cy a ++ fr)) := by
  refine MI.of (own := RX7) rfl (by decide) (Nat.le_of_ble_eq_true rfl) ?_
  intro p e s m below meth c A C hrt hnm
  refine g_aload_n C dX7_steps_0 rfl (j := 0) rfl ?_
  refine h_get C F 0 rfl fk_X7_19 dX7_steps_1 rfl ?_
  refine g_iload_n C dX7_steps_4 rfl (j := 1) rfl ?_
  refine g_callVI C (c_X2_hasPost l G F p0) lk_X7_106 (F.mem 3 rfl) (F.at 3 rfl) rfl rfl dX7_steps_5 (Nat.le_of_ble_eq_true rfl) ⟨by decide, by decide⟩ ⟨by decide, by decide⟩ (fun r1 L M hp => ?_)
  obtain ⟨r1_, F⟩ := hp
  subst r1_
  refine g_if_ne C dX7_steps_8 (tgt := 14) (by decide) (fun q => absurd (by decide) q) (fun _ => ?_)
  refine g_bipush C dX7_steps_11 (v := -2) (by decide) ?_
  exact g_iret C hrt dX7_steps_13 (by decide) (by decide) ⟨by decide, F⟩
set_option maxHeartbeats 4000000 in
set_option maxRecDepth 100000 in
theorem c_X7_behind (l : Launch) (G : va_G) {cy : Nat → ClassId} {L : List Nat} {M : Nat → va_E} {a : Nat → Nat} {fr : List (Nat × va_E)}  (F : FW L M (flC cy a ++ fr)) (p0 : Int32) : MI l G cy yX7_behind cX7_behind 2 (some .int) 1 0 0 [.ref (a 0), .int p0] L M (fun r L2 M2 => r = (-2) ∧ FW L2 M2 (flC cy a ++ fr)) := by
  refine MI.of (own := RX7) rfl (by decide) (Nat.le_of_ble_eq_true rfl) ?_
  intro p e s m below meth c A C hrt hnm
  refine g_aload_n C dX7_behind_0 rfl (j := 0) rfl ?_
  refine h_get C F 0 rfl fk_X7_19 dX7_behind_1 rfl ?_
  refine g_iload_n C dX7_behind_4 rfl (j := 1) rfl ?_
  refine g_callVI C (c_X2_hasPost l G F p0) lk_X7_106 (F.mem 3 rfl) (F.at 3 rfl) rfl rfl dX7_behind_5 (Nat.le_of_ble_eq_true rfl) ⟨by decide, by decide⟩ ⟨by decide, by decide⟩ (fun r1 L M hp => ?_)
  obtain ⟨r1_, F⟩ := hp
  subst r1_
  refine g_if_ne C dX7_behind_8 (tgt := 14) (by decide) (fun q => absurd (by decide) q) (fun _ => ?_)
  refine g_bipush C dX7_behind_11 (v := -2) (by decide) ?_
  exact g_iret C hrt dX7_behind_13 (by decide) (by decide) ⟨by decide, F⟩
set_option maxHeartbeats 4000000 in
set_option maxRecDepth 100000 in
theorem c_X7_nth (l : Launch) (G : va_G) {cy : Nat → ClassId} {L : List Nat} {M : Nat → va_E} {a : Nat → Nat} {fr : List (Nat × va_E)}  (F : FW L M (flC cy a ++ fr)) (p0 : Int32) (p1 : Int32) : MI l G cy yX7_nth cX7_nth 5 (some .int) 1 0 0 [.ref (a 0), .int p0, .int p1] L M (fun r L2 M2 => r = (-2) ∧ FW L2 M2 (flC cy a ++ fr)) := by
  refine MI.of (own := RX7) rfl (by decide) (Nat.le_of_ble_eq_true rfl) ?_
  intro p e s m below meth c A C hrt hnm
  refine g_aload_n C dX7_nth_0 rfl (j := 0) rfl ?_
  refine h_get C F 0 rfl fk_X7_19 dX7_nth_1 rfl ?_
  refine g_iload_n C dX7_nth_4 rfl (j := 1) rfl ?_
  refine g_callVI C (c_X2_hasPost l G F p0) lk_X7_106 (F.mem 3 rfl) (F.at 3 rfl) rfl rfl dX7_nth_5 (Nat.le_of_ble_eq_true rfl) ⟨by decide, by decide⟩ ⟨by decide, by decide⟩ (fun r1 L M hp => ?_)
  obtain ⟨r1_, F⟩ := hp
  subst r1_
  refine g_if_eq C dX7_nth_8 (tgt := 18) (by decide) (fun _ => ?_) (fun q => absurd (by decide) q)
  refine g_bipush C dX7_nth_18 (v := -2) (by decide) ?_
  exact g_iret C hrt dX7_nth_20 (by decide) (by decide) ⟨by decide, F⟩
set_option maxHeartbeats 4000000 in
set_option maxRecDepth 100000 in
theorem c_X7_round (l : Launch) (G : va_G) {cy : Nat → ClassId} {L : List Nat} {M : Nat → va_E} {a : Nat → Nat} {fr : List (Nat × va_E)}  (F : FW L M (flC cy a ++ fr)) (p0 : Int32) : MI l G cy yX7_round cX7_round 4 (some .int) 1 0 0 [.ref (a 0), .int p0] L M (fun r L2 M2 => r = (-2) ∧ FW L2 M2 (flC cy a ++ fr)) := by
  refine MI.of (own := RX7) rfl (by decide) (Nat.le_of_ble_eq_true rfl) ?_
  intro p e s m below meth c A C hrt hnm
  refine g_aload_n C dX7_round_0 rfl (j := 0) rfl ?_
  refine h_get C F 0 rfl fk_X7_19 dX7_round_1 rfl ?_
  refine g_iload_n C dX7_round_4 rfl (j := 1) rfl ?_
  refine g_callVI C (c_X2_hasPost l G F p0) lk_X7_106 (F.mem 3 rfl) (F.at 3 rfl) rfl rfl dX7_round_5 (Nat.le_of_ble_eq_true rfl) ⟨by decide, by decide⟩ ⟨by decide, by decide⟩ (fun r1 L M hp => ?_)
  obtain ⟨r1_, F⟩ := hp
  subst r1_
  refine g_if_ne C dX7_round_8 (tgt := 14) (by decide) (fun q => absurd (by decide) q) (fun _ => ?_)
  refine g_bipush C dX7_round_11 (v := -2) (by decide) ?_
  exact g_iret C hrt dX7_round_13 (by decide) (by decide) ⟨by decide, F⟩
set_option maxHeartbeats 4000000 in
set_option maxRecDepth 100000 in
theorem c_X7_houses (l : Launch) (G : va_G) {cy : Nat → ClassId} {L : List Nat} {M : Nat → va_E} {a : Nat → Nat} {fr : List (Nat × va_E)}  (F : FW L M (flC cy a ++ fr)) (p0 : Int32) (p1 : Int32) (p2 : Int32) : MI l G cy yX7_houses cX7_houses 7 (some .int) 1 0 0 [.ref (a 0), .int p0, .int p1, .int p2] L M (fun r L2 M2 => r = (-2) ∧ FW L2 M2 (flC cy a ++ fr)) := by
  refine MI.of (own := RX7) rfl (by decide) (Nat.le_of_ble_eq_true rfl) ?_
  intro p e s m below meth c A C hrt hnm
  refine g_aload_n C dX7_houses_0 rfl (j := 0) rfl ?_
  refine h_get C F 0 rfl fk_X7_19 dX7_houses_1 rfl ?_
  refine g_iload_n C dX7_houses_4 rfl (j := 1) rfl ?_
  refine g_callVI C (c_X2_hasPost l G F p0) lk_X7_106 (F.mem 3 rfl) (F.at 3 rfl) rfl rfl dX7_houses_5 (Nat.le_of_ble_eq_true rfl) ⟨by decide, by decide⟩ ⟨by decide, by decide⟩ (fun r1 L M hp => ?_)
  obtain ⟨r1_, F⟩ := hp
  subst r1_
  refine g_if_eq C dX7_houses_8 (tgt := 29) (by decide) (fun _ => ?_) (fun q => absurd (by decide) q)
  refine g_bipush C dX7_houses_29 (v := -2) (by decide) ?_
  exact g_iret C hrt dX7_houses_31 (by decide) (by decide) ⟨by decide, F⟩
set_option maxHeartbeats 4000000 in
set_option maxRecDepth 100000 in
theorem c_X7_tree (l : Launch) (G : va_G) {cy : Nat → ClassId} {L : List Nat} {M : Nat → va_E} {a : Nat → Nat} {fr : List (Nat × va_E)}  (F : FW L M (flC cy a ++ fr)) (p0 : Int32) : MI l G cy yX7_tree cX7_tree 2 (some .int) 2 0 0 [.ref (a 0), .int p0] L M (fun r L2 M2 => r = (-2) ∧ FW L2 M2 (flC cy a ++ fr)) := by
  refine MI.of (own := RX7) rfl (by decide) (Nat.le_of_ble_eq_true rfl) ?_
  intro p e s m below meth c A C hrt hnm
  refine g_aload_n C dX7_tree_0 rfl (j := 0) rfl ?_
  refine h_get C F 0 rfl fk_X7_19 dX7_tree_1 rfl ?_
  refine g_iload_n C dX7_tree_4 rfl (j := 1) rfl ?_
  refine g_callVI C (c_X2_hasHour l G F p0) lk_X7_134 (F.mem 3 rfl) (F.at 3 rfl) rfl rfl dX7_tree_5 (Nat.le_of_ble_eq_true rfl) ⟨by decide, by decide⟩ ⟨by decide, by decide⟩ (fun r1 L M hp => ?_)
  obtain ⟨r1_, F⟩ := hp
  subst r1_
  refine g_if_ne C dX7_tree_8 (tgt := 14) (by decide) (fun q => absurd (by decide) q) (fun _ => ?_)
  refine g_bipush C dX7_tree_11 (v := -2) (by decide) ?_
  exact g_iret C hrt dX7_tree_13 (by decide) (by decide) ⟨by decide, F⟩
set_option maxHeartbeats 4000000 in
set_option maxRecDepth 100000 in
theorem c_X7_ring (l : Launch) (G : va_G) {cy : Nat → ClassId} {L : List Nat} {M : Nat → va_E} {a : Nat → Nat} {fr : List (Nat × va_E)}  (F : FW L M (flC cy a ++ fr)) (p0 : Int32) : MI l G cy yX7_ring cX7_ring 2 (some .int) 2 0 0 [.ref (a 0), .int p0] L M (fun r L2 M2 => r = (-2) ∧ FW L2 M2 (flC cy a ++ fr)) := by
  refine MI.of (own := RX7) rfl (by decide) (Nat.le_of_ble_eq_true rfl) ?_
  intro p e s m below meth c A C hrt hnm
  refine g_aload_n C dX7_ring_0 rfl (j := 0) rfl ?_
  refine h_get C F 0 rfl fk_X7_19 dX7_ring_1 rfl ?_
  refine g_iload_n C dX7_ring_4 rfl (j := 1) rfl ?_
  refine g_callVI C (c_X2_hasHour l G F p0) lk_X7_134 (F.mem 3 rfl) (F.at 3 rfl) rfl rfl dX7_ring_5 (Nat.le_of_ble_eq_true rfl) ⟨by decide, by decide⟩ ⟨by decide, by decide⟩ (fun r1 L M hp => ?_)
  obtain ⟨r1_, F⟩ := hp
  subst r1_
  refine g_if_eq C dX7_ring_8 (tgt := 32) (by decide) (fun _ => ?_) (fun q => absurd (by decide) q)
  refine g_bipush C dX7_ring_32 (v := -2) (by decide) ?_
  exact g_iret C hrt dX7_ring_34 (by decide) (by decide) ⟨by decide, F⟩
set_option maxHeartbeats 4000000 in
set_option maxRecDepth 100000 in
theorem c_X7_trees (l : Launch) (G : va_G) {cy : Nat → ClassId} {L : List Nat} {M : Nat → va_E} {a : Nat → Nat} {fr : List (Nat × va_E)}  (F : FW L M (flC cy a ++ fr))  : MI l G cy yX7_trees cX7_trees 4 (some .int) 1 0 0 [.ref (a 0)] L M (fun r L2 M2 => r = (-2) ∧ FW L2 M2 (flC cy a ++ fr)) := by
  refine MI.of (own := RX7) rfl (by decide) (Nat.le_of_ble_eq_true rfl) ?_
  intro p e s m below meth c A C hrt hnm
  refine g_aload_n C dX7_trees_0 rfl (j := 0) rfl ?_
  refine h_get C F 0 rfl fk_X7_19 dX7_trees_1 rfl ?_
  refine g_callVI C (c_X2_isTold l G F ) lk_X7_198 (F.mem 3 rfl) (F.at 3 rfl) rfl rfl dX7_trees_4 (Nat.le_of_ble_eq_true rfl) ⟨by decide, by decide⟩ ⟨by decide, by decide⟩ (fun r1 L M hp => ?_)
  obtain ⟨r1_, F⟩ := hp
  subst r1_
  refine g_if_ne C dX7_trees_7 (tgt := 13) (by decide) (fun q => absurd (by decide) q) (fun _ => ?_)
  refine g_bipush C dX7_trees_10 (v := -2) (by decide) ?_
  exact g_iret C hrt dX7_trees_12 (by decide) (by decide) ⟨by decide, F⟩
set_option maxHeartbeats 4000000 in
set_option maxRecDepth 100000 in
theorem c_X7_point (l : Launch) (G : va_G) {cy : Nat → ClassId} {L : List Nat} {M : Nat → va_E} {a : Nat → Nat} {fr : List (Nat × va_E)}  (F : FW L M (flC cy a ++ fr)) (p0 : Int32) (p1 : Int32) : MI l G cy yX7_point cX7_point 8 (some .int) 1 0 0 [.ref (a 0), .int p0, .int p1] L M (fun r L2 M2 => r = (-2) ∧ FW L2 M2 (flC cy a ++ fr)) := by
  refine MI.of (own := RX7) rfl (by decide) (Nat.le_of_ble_eq_true rfl) ?_
  intro p e s m below meth c A C hrt hnm
  refine g_aload_n C dX7_point_0 rfl (j := 0) rfl ?_
  refine h_get C F 0 rfl fk_X7_19 dX7_point_1 rfl ?_
  refine g_iload_n C dX7_point_4 rfl (j := 1) rfl ?_
  refine g_callVI C (c_X2_hasWalker l G F p0) lk_X7_122 (F.mem 3 rfl) (F.at 3 rfl) rfl rfl dX7_point_5 (Nat.le_of_ble_eq_true rfl) ⟨by decide, by decide⟩ ⟨by decide, by decide⟩ (fun r1 L M hp => ?_)
  obtain ⟨r1_, F⟩ := hp
  subst r1_
  refine g_if_eq C dX7_point_8 (tgt := 22) (by decide) (fun _ => ?_) (fun q => absurd (by decide) q)
  refine g_bipush C dX7_point_22 (v := -2) (by decide) ?_
  exact g_iret C hrt dX7_point_24 (by decide) (by decide) ⟨by decide, F⟩
set_option maxHeartbeats 4000000 in
set_option maxRecDepth 100000 in
theorem c_X7_best (l : Launch) (G : va_G) {cy : Nat → ClassId} {L : List Nat} {M : Nat → va_E} {a : Nat → Nat} {fr : List (Nat × va_E)}  (F : FW L M (flC cy a ++ fr))  : MI l G cy yX7_best cX7_best 6 (some .int) 1 0 0 [.ref (a 0)] L M (fun r L2 M2 => r = (-2) ∧ FW L2 M2 (flC cy a ++ fr)) := by
  refine MI.of (own := RX7) rfl (by decide) (Nat.le_of_ble_eq_true rfl) ?_
  intro p e s m below meth c A C hrt hnm
  refine g_aload_n C dX7_best_0 rfl (j := 0) rfl ?_
  refine h_get C F 0 rfl fk_X7_19 dX7_best_1 rfl ?_
  refine g_callVI C (c_X2_isTold l G F ) lk_X7_198 (F.mem 3 rfl) (F.at 3 rfl) rfl rfl dX7_best_4 (Nat.le_of_ble_eq_true rfl) ⟨by decide, by decide⟩ ⟨by decide, by decide⟩ (fun r1 L M hp => ?_)
  obtain ⟨r1_, F⟩ := hp
  subst r1_
  refine g_if_ne C dX7_best_7 (tgt := 13) (by decide) (fun q => absurd (by decide) q) (fun _ => ?_)
  refine g_bipush C dX7_best_10 (v := -2) (by decide) ?_
  exact g_iret C hrt dX7_best_12 (by decide) (by decide) ⟨by decide, F⟩
set_option maxHeartbeats 4000000 in
set_option maxRecDepth 100000 in
theorem c_X7_crowds (l : Launch) (G : va_G) {cy : Nat → ClassId} {L : List Nat} {M : Nat → va_E} {a : Nat → Nat} {fr : List (Nat × va_E)}  (F : FW L M (flC cy a ++ fr))  : MI l G cy yX7_crowds cX7_crowds 7 (some .int) 1 0 0 [.ref (a 0)] L M (fun r L2 M2 => r = (-2) ∧ FW L2 M2 (flC cy a ++ fr)) := by
  refine MI.of (own := RX7) rfl (by decide) (Nat.le_of_ble_eq_true rfl) ?_
  intro p e s m below meth c A C hrt hnm
  refine g_aload_n C dX7_crowds_0 rfl (j := 0) rfl ?_
  refine h_get C F 0 rfl fk_X7_19 dX7_crowds_1 rfl ?_
  refine g_callVI C (c_X2_isTold l G F ) lk_X7_198 (F.mem 3 rfl) (F.at 3 rfl) rfl rfl dX7_crowds_4 (Nat.le_of_ble_eq_true rfl) ⟨by decide, by decide⟩ ⟨by decide, by decide⟩ (fun r1 L M hp => ?_)
  obtain ⟨r1_, F⟩ := hp
  subst r1_
  refine g_if_ne C dX7_crowds_7 (tgt := 13) (by decide) (fun q => absurd (by decide) q) (fun _ => ?_)
  refine g_bipush C dX7_crowds_10 (v := -2) (by decide) ?_
  exact g_iret C hrt dX7_crowds_12 (by decide) (by decide) ⟨by decide, F⟩
set_option maxHeartbeats 4000000 in
set_option maxRecDepth 100000 in
theorem c_X7_may (l : Launch) (G : va_G) {cy : Nat → ClassId} {L : List Nat} {M : Nat → va_E} {a : Nat → Nat} {fr : List (Nat × va_E)}  (F : FW L M (flC cy a ++ fr)) (p0 : Int32) (p1 : Int32) : MI l G cy yX7_may cX7_may 4 (some .int) 2 0 0 [.ref (a 0), .int p0, .int p1] L M (fun r L2 M2 => r = (-2) ∧ FW L2 M2 (flC cy a ++ fr)) := by
  refine MI.of (own := RX7) rfl (by decide) (Nat.le_of_ble_eq_true rfl) ?_
  intro p e s m below meth c A C hrt hnm
  refine g_aload_n C dX7_may_0 rfl (j := 0) rfl ?_
  refine g_iload_n C dX7_may_1 rfl (j := 1) rfl ?_
  refine g_aload_n C dX7_may_2 rfl (j := 0) rfl ?_
  refine h_get C F 0 rfl fk_X7_19 dX7_may_3 rfl ?_
  refine g_iload_n C dX7_may_6 rfl (j := 2) rfl ?_
  refine g_callVI C (c_X2_hasPost l G F p1) lk_X7_106 (F.mem 3 rfl) (F.at 3 rfl) rfl rfl dX7_may_7 (Nat.le_of_ble_eq_true rfl) ⟨by decide, by decide⟩ ⟨by decide, by decide⟩ (fun r1 L M hp => ?_)
  obtain ⟨r1_, F⟩ := hp
  subst r1_
  refine g_callVI C (c_X7_refusalOfSeen l G F p0) lk_X7_288 (F.mem 0 rfl) (F.at 0 rfl) rfl rfl dX7_may_10 (Nat.le_of_ble_eq_true rfl) ⟨by decide, by decide⟩ ⟨by decide, by decide⟩ (fun r2 L M hp => ?_)
  obtain ⟨r2_, F⟩ := hp
  subst r2_
  refine g_istore_n C dX7_may_13 rfl (by decide) (lv2 := [(3, .int (-2)), (0, .ref (a 0)), (1, .int p0), (2, .int p1)]) rfl ?_
  refine g_iload_n C dX7_may_14 rfl (j := 0) rfl ?_
  refine g_if_eq C dX7_may_15 (tgt := 22) (by decide) (fun q => absurd q (by decide)) (fun _ => ?_)
  refine g_iload_n C dX7_may_18 rfl (j := 0) rfl ?_
  refine g_goto C dX7_may_19 (tgt := 33) (by decide) ?_
  exact g_iret C hrt dX7_may_33 (by decide) (by decide) ⟨by decide, F⟩
set_option maxHeartbeats 4000000 in
set_option maxRecDepth 100000 in
theorem c_X7_ask (l : Launch) (G : va_G) {cy : Nat → ClassId} {L : List Nat} {M : Nat → va_E} {a : Nat → Nat} {fr : List (Nat × va_E)}  (F : FW L M (flC cy a ++ fr)) (p0 : Int32) (p1 : Int32) : MI l G cy yX7_ask cX7_ask 4 (some .int) 2 0 0 [.ref (a 0), .int p0, .int p1] L M (fun r L2 M2 => r = (-2) ∧ FW L2 M2 (flC cy a ++ fr)) := by
  refine MI.of (own := RX7) rfl (by decide) (Nat.le_of_ble_eq_true rfl) ?_
  intro p e s m below meth c A C hrt hnm
  refine g_aload_n C dX7_ask_0 rfl (j := 0) rfl ?_
  refine g_iload_n C dX7_ask_1 rfl (j := 1) rfl ?_
  refine g_aload_n C dX7_ask_2 rfl (j := 0) rfl ?_
  refine h_get C F 0 rfl fk_X7_19 dX7_ask_3 rfl ?_
  refine g_iload_n C dX7_ask_6 rfl (j := 2) rfl ?_
  refine g_callVI C (c_X2_hasPost l G F p1) lk_X7_106 (F.mem 3 rfl) (F.at 3 rfl) rfl rfl dX7_ask_7 (Nat.le_of_ble_eq_true rfl) ⟨by decide, by decide⟩ ⟨by decide, by decide⟩ (fun r1 L M hp => ?_)
  obtain ⟨r1_, F⟩ := hp
  subst r1_
  refine g_callVI C (c_X7_refusalOfSeen l G F p0) lk_X7_288 (F.mem 0 rfl) (F.at 0 rfl) rfl rfl dX7_ask_10 (Nat.le_of_ble_eq_true rfl) ⟨by decide, by decide⟩ ⟨by decide, by decide⟩ (fun r2 L M hp => ?_)
  obtain ⟨r2_, F⟩ := hp
  subst r2_
  refine g_istore_n C dX7_ask_13 rfl (by decide) (lv2 := [(3, .int (-2)), (0, .ref (a 0)), (1, .int p0), (2, .int p1)]) rfl ?_
  refine g_iload_n C dX7_ask_14 rfl (j := 0) rfl ?_
  refine g_if_eq C dX7_ask_15 (tgt := 20) (by decide) (fun q => absurd q (by decide)) (fun _ => ?_)
  refine g_iload_n C dX7_ask_18 rfl (j := 0) rfl ?_
  exact g_iret C hrt dX7_ask_19 (by decide) (by decide) ⟨by decide, F⟩
set_option maxHeartbeats 4000000 in
set_option maxRecDepth 100000 in
theorem c_X7_leaves (l : Launch) (G : va_G) {cy : Nat → ClassId} {L : List Nat} {M : Nat → va_E} {a : Nat → Nat} {fr : List (Nat × va_E)}  (F : FW L M (flC cy a ++ fr)) (p0 : Int32) (p1 : Int32) : MI l G cy yX7_leaves cX7_leaves 6 (some .int) 2 0 0 [.ref (a 0), .int p0, .int p1] L M (fun r L2 M2 => r = (-2) ∧ FW L2 M2 (flC cy a ++ fr)) := by
  refine MI.of (own := RX7) rfl (by decide) (Nat.le_of_ble_eq_true rfl) ?_
  intro p e s m below meth c A C hrt hnm
  refine g_aload_n C dX7_leaves_0 rfl (j := 0) rfl ?_
  refine g_iload_n C dX7_leaves_1 rfl (j := 1) rfl ?_
  refine g_aload_n C dX7_leaves_2 rfl (j := 0) rfl ?_
  refine h_get C F 0 rfl fk_X7_19 dX7_leaves_3 rfl ?_
  refine g_iload_n C dX7_leaves_6 rfl (j := 2) rfl ?_
  refine g_callVI C (c_X2_hasPost l G F p1) lk_X7_106 (F.mem 3 rfl) (F.at 3 rfl) rfl rfl dX7_leaves_7 (Nat.le_of_ble_eq_true rfl) ⟨by decide, by decide⟩ ⟨by decide, by decide⟩ (fun r1 L M hp => ?_)
  obtain ⟨r1_, F⟩ := hp
  subst r1_
  refine g_callVI C (c_X7_refusalOfSeen l G F p0) lk_X7_288 (F.mem 0 rfl) (F.at 0 rfl) rfl rfl dX7_leaves_10 (Nat.le_of_ble_eq_true rfl) ⟨by decide, by decide⟩ ⟨by decide, by decide⟩ (fun r2 L M hp => ?_)
  obtain ⟨r2_, F⟩ := hp
  subst r2_
  refine g_istore_n C dX7_leaves_13 rfl (by decide) (lv2 := [(3, .int (-2)), (0, .ref (a 0)), (1, .int p0), (2, .int p1)]) rfl ?_
  refine g_iload_n C dX7_leaves_14 rfl (j := 0) rfl ?_
  refine g_if_eq C dX7_leaves_15 (tgt := 20) (by decide) (fun q => absurd q (by decide)) (fun _ => ?_)
  refine g_iload_n C dX7_leaves_18 rfl (j := 0) rfl ?_
  exact g_iret C hrt dX7_leaves_19 (by decide) (by decide) ⟨by decide, F⟩
set_option maxHeartbeats 4000000 in
set_option maxRecDepth 100000 in
theorem c_X7_laws (l : Launch) (G : va_G) {cy : Nat → ClassId} {L : List Nat} {M : Nat → va_E} {a : Nat → Nat} {fr : List (Nat × va_E)}  (F : FW L M (flC cy a ++ fr)) (p0 : Int32) : MI l G cy yX7_laws cX7_laws 5 (some .int) 2 0 0 [.ref (a 0), .int p0] L M (fun r L2 M2 => r = (-2) ∧ FW L2 M2 (flC cy a ++ fr)) := by
  refine MI.of (own := RX7) rfl (by decide) (Nat.le_of_ble_eq_true rfl) ?_
  intro p e s m below meth c A C hrt hnm
  refine g_aload_n C dX7_laws_0 rfl (j := 0) rfl ?_
  refine g_iload_n C dX7_laws_1 rfl (j := 1) rfl ?_
  refine g_aload_n C dX7_laws_2 rfl (j := 0) rfl ?_
  refine h_get C F 0 rfl fk_X7_19 dX7_laws_3 rfl ?_
  refine g_callVI C (c_X2_isTold l G F ) lk_X7_198 (F.mem 3 rfl) (F.at 3 rfl) rfl rfl dX7_laws_6 (Nat.le_of_ble_eq_true rfl) ⟨by decide, by decide⟩ ⟨by decide, by decide⟩ (fun r1 L M hp => ?_)
  obtain ⟨r1_, F⟩ := hp
  subst r1_
  refine g_callVI C (c_X7_refusalOfSeen l G F p0) lk_X7_288 (F.mem 0 rfl) (F.at 0 rfl) rfl rfl dX7_laws_9 (Nat.le_of_ble_eq_true rfl) ⟨by decide, by decide⟩ ⟨by decide, by decide⟩ (fun r2 L M hp => ?_)
  obtain ⟨r2_, F⟩ := hp
  subst r2_
  refine g_istore_n C dX7_laws_12 rfl (by decide) (lv2 := [(2, .int (-2)), (0, .ref (a 0)), (1, .int p0)]) rfl ?_
  refine g_iload_n C dX7_laws_13 rfl (j := 0) rfl ?_
  refine g_if_eq C dX7_laws_14 (tgt := 19) (by decide) (fun q => absurd q (by decide)) (fun _ => ?_)
  refine g_iload_n C dX7_laws_17 rfl (j := 0) rfl ?_
  exact g_iret C hrt dX7_laws_18 (by decide) (by decide) ⟨by decide, F⟩
set_option maxHeartbeats 4000000 in
set_option maxRecDepth 100000 in
theorem c_X7_by (l : Launch) (G : va_G) {cy : Nat → ClassId} {L : List Nat} {M : Nat → va_E} {a : Nat → Nat} {fr : List (Nat × va_E)}  (F : FW L M (flC cy a ++ fr)) (p0 : Int32) : MI l G cy yX7_by cX7_by 2 (some .int) 1 0 0 [.ref (a 0), .int p0] L M (fun r L2 M2 => r = (-2) ∧ FW L2 M2 (flC cy a ++ fr)) := by
  refine MI.of (own := RX7) rfl (by decide) (Nat.le_of_ble_eq_true rfl) ?_
  intro p e s m below meth c A C hrt hnm
  refine g_aload_n C dX7_by_0 rfl (j := 0) rfl ?_
  refine h_get C F 0 rfl fk_X7_19 dX7_by_1 rfl ?_
  refine g_callVI C (c_X2_isTold l G F ) lk_X7_198 (F.mem 3 rfl) (F.at 3 rfl) rfl rfl dX7_by_4 (Nat.le_of_ble_eq_true rfl) ⟨by decide, by decide⟩ ⟨by decide, by decide⟩ (fun r1 L M hp => ?_)
  obtain ⟨r1_, F⟩ := hp
  subst r1_
  refine g_if_eq C dX7_by_7 (tgt := 19) (by decide) (fun _ => ?_) (fun q => absurd (by decide) q)
  refine g_bipush C dX7_by_19 (v := -2) (by decide) ?_
  exact g_iret C hrt dX7_by_21 (by decide) (by decide) ⟨by decide, F⟩
set_option maxHeartbeats 4000000 in
set_option maxRecDepth 100000 in
theorem c_X7_law (l : Launch) (G : va_G) {cy : Nat → ClassId} {L : List Nat} {M : Nat → va_E} {a : Nat → Nat} {fr : List (Nat × va_E)}  (F : FW L M (flC cy a ++ fr))  : MI l G cy yX7_law cX7_law 5 (some .int) 1 0 0 [.ref (a 0)] L M (fun r L2 M2 => r = (-2) ∧ FW L2 M2 (flC cy a ++ fr)) := by
  refine MI.of (own := RX7) rfl (by decide) (Nat.le_of_ble_eq_true rfl) ?_
  intro p e s m below meth c A C hrt hnm
  refine g_aload_n C dX7_law_0 rfl (j := 0) rfl ?_
  refine h_get C F 0 rfl fk_X7_19 dX7_law_1 rfl ?_
  refine g_callVI C (c_X2_isTold l G F ) lk_X7_198 (F.mem 3 rfl) (F.at 3 rfl) rfl rfl dX7_law_4 (Nat.le_of_ble_eq_true rfl) ⟨by decide, by decide⟩ ⟨by decide, by decide⟩ (fun r1 L M hp => ?_)
  obtain ⟨r1_, F⟩ := hp
  subst r1_
  refine g_if_ne C dX7_law_7 (tgt := 13) (by decide) (fun q => absurd (by decide) q) (fun _ => ?_)
  refine g_bipush C dX7_law_10 (v := -2) (by decide) ?_
  exact g_iret C hrt dX7_law_12 (by decide) (by decide) ⟨by decide, F⟩
set_option maxHeartbeats 4000000 in
set_option maxRecDepth 100000 in
theorem c_X7_worth (l : Launch) (G : va_G) {cy : Nat → ClassId} {L : List Nat} {M : Nat → va_E} {a : Nat → Nat} {fr : List (Nat × va_E)}  (F : FW L M (flC cy a ++ fr)) (p0 : Int32) : MI l G cy yX7_worth cX7_worth 2 (some .int) 1 0 0 [.ref (a 0), .int p0] L M (fun r L2 M2 => r = (-2) ∧ FW L2 M2 (flC cy a ++ fr)) := by
  refine MI.of (own := RX7) rfl (by decide) (Nat.le_of_ble_eq_true rfl) ?_
  intro p e s m below meth c A C hrt hnm
  refine g_aload_n C dX7_worth_0 rfl (j := 0) rfl ?_
  refine h_get C F 0 rfl fk_X7_19 dX7_worth_1 rfl ?_
  refine g_callVI C (c_X2_isTold l G F ) lk_X7_198 (F.mem 3 rfl) (F.at 3 rfl) rfl rfl dX7_worth_4 (Nat.le_of_ble_eq_true rfl) ⟨by decide, by decide⟩ ⟨by decide, by decide⟩ (fun r1 L M hp => ?_)
  obtain ⟨r1_, F⟩ := hp
  subst r1_
  refine g_if_eq C dX7_worth_7 (tgt := 27) (by decide) (fun _ => ?_) (fun q => absurd (by decide) q)
  refine g_bipush C dX7_worth_27 (v := -2) (by decide) ?_
  exact g_iret C hrt dX7_worth_29 (by decide) (by decide) ⟨by decide, F⟩
set_option maxHeartbeats 4000000 in
set_option maxRecDepth 100000 in
theorem c_X7_share (l : Launch) (G : va_G) {cy : Nat → ClassId} {L : List Nat} {M : Nat → va_E} {a : Nat → Nat} {fr : List (Nat × va_E)}  (F : FW L M (flC cy a ++ fr)) (p0 : Int32) (p1 : Int32) : MI l G cy yX7_share cX7_share 7 (some .int) 1 0 0 [.ref (a 0), .int p0, .int p1] L M (fun r L2 M2 => r = (-1000) ∧ FW L2 M2 (flC cy a ++ fr)) := by
  refine MI.of (own := RX7) rfl (by decide) (Nat.le_of_ble_eq_true rfl) ?_
  intro p e s m below meth c A C hrt hnm
  refine g_aload_n C dX7_share_0 rfl (j := 0) rfl ?_
  refine h_get C F 0 rfl fk_X7_19 dX7_share_1 rfl ?_
  refine g_iload_n C dX7_share_4 rfl (j := 1) rfl ?_
  refine g_callVI C (c_X2_hasPost l G F p0) lk_X7_106 (F.mem 3 rfl) (F.at 3 rfl) rfl rfl dX7_share_5 (Nat.le_of_ble_eq_true rfl) ⟨by decide, by decide⟩ ⟨by decide, by decide⟩ (fun r1 L M hp => ?_)
  obtain ⟨r1_, F⟩ := hp
  subst r1_
  refine g_if_eq C dX7_share_8 (tgt := 18) (by decide) (fun _ => ?_) (fun q => absurd (by decide) q)
  refine g_sipush C dX7_share_18 (v := -1000) (by decide) ?_
  exact g_iret C hrt dX7_share_21 (by decide) (by decide) ⟨by decide, F⟩
set_option maxHeartbeats 4000000 in
set_option maxRecDepth 100000 in
theorem c_X7_rests (l : Launch) (G : va_G) {cy : Nat → ClassId} {L : List Nat} {M : Nat → va_E} {a : Nat → Nat} {fr : List (Nat × va_E)}  (F : FW L M (flC cy a ++ fr)) (p0 : Int32) (p1 : Int32) : MI l G cy yX7_rests cX7_rests 9 (some .int) 2 0 0 [.ref (a 0), .int p0, .int p1] L M (fun r L2 M2 => r = (-2) ∧ FW L2 M2 (flC cy a ++ fr)) := by
  refine MI.of (own := RX7) rfl (by decide) (Nat.le_of_ble_eq_true rfl) ?_
  intro p e s m below meth c A C hrt hnm
  refine g_aload_n C dX7_rests_0 rfl (j := 0) rfl ?_
  refine g_iload_n C dX7_rests_1 rfl (j := 1) rfl ?_
  refine g_iload_n C dX7_rests_2 rfl (j := 2) rfl ?_
  refine g_callVI C (c_X7_areTwo l G F p0 p1) lk_X7_212 (F.mem 0 rfl) (F.at 0 rfl) rfl rfl dX7_rests_3 (Nat.le_of_ble_eq_true rfl) ⟨by decide, by decide⟩ ⟨by decide, by decide⟩ (fun r1 L M hp => ?_)
  obtain ⟨r1_, F⟩ := hp
  subst r1_
  refine g_if_ne C dX7_rests_6 (tgt := 12) (by decide) (fun q => absurd (by decide) q) (fun _ => ?_)
  refine g_bipush C dX7_rests_9 (v := -2) (by decide) ?_
  exact g_iret C hrt dX7_rests_11 (by decide) (by decide) ⟨by decide, F⟩
set_option maxHeartbeats 4000000 in
set_option maxRecDepth 100000 in
theorem c_X7_gets (l : Launch) (G : va_G) {cy : Nat → ClassId} {L : List Nat} {M : Nat → va_E} {a : Nat → Nat} {fr : List (Nat × va_E)}  (F : FW L M (flC cy a ++ fr)) (p0 : Int32) (p1 : Int32) (p2 : Int32) (p3 : Int32) : MI l G cy yX7_gets cX7_gets 5 (some .int) 2 0 0 [.ref (a 0), .int p0, .int p1, .int p2, .int p3] L M (fun r L2 M2 => r = (-1000) ∧ FW L2 M2 (flC cy a ++ fr)) := by
  refine MI.of (own := RX7) rfl (by decide) (Nat.le_of_ble_eq_true rfl) ?_
  intro p e s m below meth c A C hrt hnm
  refine g_aload_n C dX7_gets_0 rfl (j := 0) rfl ?_
  refine g_iload_n C dX7_gets_1 rfl (j := 1) rfl ?_
  refine g_iload_n C dX7_gets_2 rfl (j := 2) rfl ?_
  refine g_callVI C (c_X7_areTwo l G F p0 p1) lk_X7_212 (F.mem 0 rfl) (F.at 0 rfl) rfl rfl dX7_gets_3 (Nat.le_of_ble_eq_true rfl) ⟨by decide, by decide⟩ ⟨by decide, by decide⟩ (fun r1 L M hp => ?_)
  obtain ⟨r1_, F⟩ := hp
  subst r1_
  refine g_if_eq C dX7_gets_6 (tgt := 24) (by decide) (fun _ => ?_) (fun q => absurd (by decide) q)
  refine g_sipush C dX7_gets_24 (v := -1000) (by decide) ?_
  exact g_iret C hrt dX7_gets_27 (by decide) (by decide) ⟨by decide, F⟩
set_option maxHeartbeats 4000000 in
set_option maxRecDepth 100000 in
theorem c_X7_chance (l : Launch) (G : va_G) {cy : Nat → ClassId} {L : List Nat} {M : Nat → va_E} {a : Nat → Nat} {fr : List (Nat × va_E)}  (F : FW L M (flC cy a ++ fr)) (p0 : Int32) (p1 : Int32) (p2 : Int32) : MJ l G cy yX7_chance cX7_chance 4 (some .long) 1 0 0 [.ref (a 0), .int p0, .int p1, .int p2] L M (fun r L2 M2 => r = (-2) ∧ FW L2 M2 (flC cy a ++ fr)) := by
  refine MJ.of (own := RX7) rfl (by decide) (Nat.le_of_ble_eq_true rfl) ?_
  intro p e s m below meth c A C hrt hnm
  refine g_aload_n C dX7_chance_0 rfl (j := 0) rfl ?_
  refine h_get C F 0 rfl fk_X7_19 dX7_chance_1 rfl ?_
  refine g_iload_n C dX7_chance_4 rfl (j := 1) rfl ?_
  refine g_callVI C (c_X2_hasWalker l G F p0) lk_X7_122 (F.mem 3 rfl) (F.at 3 rfl) rfl rfl dX7_chance_5 (Nat.le_of_ble_eq_true rfl) ⟨by decide, by decide⟩ ⟨by decide, by decide⟩ (fun r1 L M hp => ?_)
  obtain ⟨r1_, F⟩ := hp
  subst r1_
  refine g_if_eq C dX7_chance_8 (tgt := 26) (by decide) (fun _ => ?_) (fun q => absurd (by decide) q)
  refine g_ldc2 C (v := -2) wd51 dX7_chance_26 ?_
  exact g_lret C hrt dX7_chance_29 (by decide) (by decide) ⟨by decide, F⟩
set_option maxHeartbeats 4000000 in
set_option maxRecDepth 100000 in
theorem c_X7_mean (l : Launch) (G : va_G) {cy : Nat → ClassId} {L : List Nat} {M : Nat → va_E} {a : Nat → Nat} {fr : List (Nat × va_E)}  (F : FW L M (flC cy a ++ fr)) (p0 : Int32) (p1 : Int32) : MJ l G cy yX7_mean cX7_mean 6 (some .long) 4 0 0 [.ref (a 0), .int p0, .int p1] L M (fun r L2 M2 => r = (-2) ∧ FW L2 M2 (flC cy a ++ fr)) := by
  refine MJ.of (own := RX7) rfl (by decide) (Nat.le_of_ble_eq_true rfl) ?_
  intro p e s m below meth c A C hrt hnm
  refine g_aload_n C dX7_mean_0 rfl (j := 0) rfl ?_
  refine g_iload_n C dX7_mean_1 rfl (j := 1) rfl ?_
  refine g_callVI C (c_X7_isFogHour l G F p0) lk_X7_327 (F.mem 0 rfl) (F.at 0 rfl) rfl rfl dX7_mean_2 (Nat.le_of_ble_eq_true rfl) ⟨by decide, by decide⟩ ⟨by decide, by decide⟩ (fun r1 L M hp => ?_)
  obtain ⟨r1_, F⟩ := hp
  subst r1_
  refine g_if_eq C dX7_mean_5 (tgt := 15) (by decide) (fun _ => ?_) (fun q => absurd (by decide) q)
  refine g_ldc2 C (v := -2) wd51 dX7_mean_15 ?_
  exact g_lret C hrt dX7_mean_18 (by decide) (by decide) ⟨by decide, F⟩
set_option maxHeartbeats 4000000 in
set_option maxRecDepth 100000 in
theorem c_X7_twists (l : Launch) (G : va_G) {cy : Nat → ClassId} {L : List Nat} {M : Nat → va_E} {a : Nat → Nat} {fr : List (Nat × va_E)}  (F : FW L M (flC cy a ++ fr)) (p0 : Int32) (p1 : Int32) : MI l G cy yX7_twists cX7_twists 3 (some .int) 1 0 0 [.ref (a 0), .int p0, .int p1] L M (fun r L2 M2 => r = (-2) ∧ FW L2 M2 (flC cy a ++ fr)) := by
  refine MI.of (own := RX7) rfl (by decide) (Nat.le_of_ble_eq_true rfl) ?_
  intro p e s m below meth c A C hrt hnm
  refine g_aload_n C dX7_twists_0 rfl (j := 0) rfl ?_
  refine h_get C F 0 rfl fk_X7_19 dX7_twists_1 rfl ?_
  refine g_iload_n C dX7_twists_4 rfl (j := 1) rfl ?_
  refine g_callVI C (c_X2_hasPost l G F p0) lk_X7_106 (F.mem 3 rfl) (F.at 3 rfl) rfl rfl dX7_twists_5 (Nat.le_of_ble_eq_true rfl) ⟨by decide, by decide⟩ ⟨by decide, by decide⟩ (fun r1 L M hp => ?_)
  obtain ⟨r1_, F⟩ := hp
  subst r1_
  refine g_if_eq C dX7_twists_8 (tgt := 22) (by decide) (fun _ => ?_) (fun q => absurd (by decide) q)
  refine g_bipush C dX7_twists_22 (v := -2) (by decide) ?_
  exact g_iret C hrt dX7_twists_24 (by decide) (by decide) ⟨by decide, F⟩
set_option maxHeartbeats 4000000 in
set_option maxRecDepth 100000 in
theorem c_X7_holds (l : Launch) (G : va_G) {cy : Nat → ClassId} {L : List Nat} {M : Nat → va_E} {a : Nat → Nat} {fr : List (Nat × va_E)}  (F : FW L M (flC cy a ++ fr)) (p0 : Int32) (p1 : Int32) : MI l G cy yX7_holds cX7_holds 3 (some .int) 1 0 0 [.ref (a 0), .int p0, .int p1] L M (fun r L2 M2 => r = (-2) ∧ FW L2 M2 (flC cy a ++ fr)) := by
  refine MI.of (own := RX7) rfl (by decide) (Nat.le_of_ble_eq_true rfl) ?_
  intro p e s m below meth c A C hrt hnm
  refine g_aload_n C dX7_holds_0 rfl (j := 0) rfl ?_
  refine h_get C F 0 rfl fk_X7_19 dX7_holds_1 rfl ?_
  refine g_iload_n C dX7_holds_4 rfl (j := 1) rfl ?_
  refine g_callVI C (c_X2_hasWalker l G F p0) lk_X7_122 (F.mem 3 rfl) (F.at 3 rfl) rfl rfl dX7_holds_5 (Nat.le_of_ble_eq_true rfl) ⟨by decide, by decide⟩ ⟨by decide, by decide⟩ (fun r1 L M hp => ?_)
  obtain ⟨r1_, F⟩ := hp
  subst r1_
  refine g_if_eq C dX7_holds_8 (tgt := 22) (by decide) (fun _ => ?_) (fun q => absurd (by decide) q)
  refine g_bipush C dX7_holds_22 (v := -2) (by decide) ?_
  exact g_iret C hrt dX7_holds_24 (by decide) (by decide) ⟨by decide, F⟩
set_option maxHeartbeats 4000000 in
set_option maxRecDepth 100000 in
theorem c_X7_undo (l : Launch) (G : va_G) {cy : Nat → ClassId} {L : List Nat} {M : Nat → va_E} {a : Nat → Nat} {fr : List (Nat × va_E)}  (F : FW L M (flC cy a ++ fr))  : MI l G cy yX7_undo cX7_undo 1 (some .int) 1 0 0 [.ref (a 0)] L M (fun r L2 M2 => r = (-2) ∧ FW L2 M2 (flC cy a ++ fr)) := by
  refine MI.of (own := RX7) rfl (by decide) (Nat.le_of_ble_eq_true rfl) ?_
  intro p e s m below meth c A C hrt hnm
  refine g_aload_n C dX7_undo_0 rfl (j := 0) rfl ?_
  refine h_get C F 0 rfl fk_X7_19 dX7_undo_1 rfl ?_
  refine g_callVI C (c_X2_isTold l G F ) lk_X7_198 (F.mem 3 rfl) (F.at 3 rfl) rfl rfl dX7_undo_4 (Nat.le_of_ble_eq_true rfl) ⟨by decide, by decide⟩ ⟨by decide, by decide⟩ (fun r1 L M hp => ?_)
  obtain ⟨r1_, F⟩ := hp
  subst r1_
  refine g_if_ne C dX7_undo_7 (tgt := 13) (by decide) (fun q => absurd (by decide) q) (fun _ => ?_)
  refine g_bipush C dX7_undo_10 (v := -2) (by decide) ?_
  exact g_iret C hrt dX7_undo_12 (by decide) (by decide) ⟨by decide, F⟩
set_option maxHeartbeats 4000000 in
set_option maxRecDepth 100000 in
theorem c_X7_anew (l : Launch) (G : va_G) {cy : Nat → ClassId} {L : List Nat} {M : Nat → va_E} {a : Nat → Nat} {fr : List (Nat × va_E)}  (F : FW L M (flC cy a ++ fr))  : MI l G cy yX7_anew cX7_anew 2 (some .int) 1 0 0 [.ref (a 0)] L M (fun r L2 M2 => r = (-2) ∧ FW L2 M2 (flC cy a ++ fr)) := by
  refine MI.of (own := RX7) rfl (by decide) (Nat.le_of_ble_eq_true rfl) ?_
  intro p e s m below meth c A C hrt hnm
  refine g_aload_n C dX7_anew_0 rfl (j := 0) rfl ?_
  refine h_get C F 0 rfl fk_X7_19 dX7_anew_1 rfl ?_
  refine g_callVI C (c_X2_isTold l G F ) lk_X7_198 (F.mem 3 rfl) (F.at 3 rfl) rfl rfl dX7_anew_4 (Nat.le_of_ble_eq_true rfl) ⟨by decide, by decide⟩ ⟨by decide, by decide⟩ (fun r1 L M hp => ?_)
  obtain ⟨r1_, F⟩ := hp
  subst r1_
  refine g_if_ne C dX7_anew_7 (tgt := 13) (by decide) (fun q => absurd (by decide) q) (fun _ => ?_)
  refine g_bipush C dX7_anew_10 (v := -2) (by decide) ?_
  exact g_iret C hrt dX7_anew_12 (by decide) (by decide) ⟨by decide, F⟩
set_option maxHeartbeats 4000000 in
set_option maxRecDepth 100000 in
theorem c_X7_drawn (l : Launch) (G : va_G) {cy : Nat → ClassId} {L : List Nat} {M : Nat → va_E} {a : Nat → Nat} {fr : List (Nat × va_E)}  (F : FW L M (flC cy a ++ fr)) (p0 : Int32) (p1 : Int32) : MI l G cy yX7_drawn cX7_drawn 4 (some .int) 1 0 0 [.ref (a 0), .int p0, .int p1] L M (fun r L2 M2 => r = (-2) ∧ FW L2 M2 (flC cy a ++ fr)) := by
  refine MI.of (own := RX7) rfl (by decide) (Nat.le_of_ble_eq_true rfl) ?_
  intro p e s m below meth c A C hrt hnm
  refine g_aload_n C dX7_drawn_0 rfl (j := 0) rfl ?_
  refine h_get C F 0 rfl fk_X7_19 dX7_drawn_1 rfl ?_
  refine g_callVI C (c_X2_isTold l G F ) lk_X7_198 (F.mem 3 rfl) (F.at 3 rfl) rfl rfl dX7_drawn_4 (Nat.le_of_ble_eq_true rfl) ⟨by decide, by decide⟩ ⟨by decide, by decide⟩ (fun r1 L M hp => ?_)
  obtain ⟨r1_, F⟩ := hp
  subst r1_
  refine g_if_eq C dX7_drawn_7 (tgt := 24) (by decide) (fun _ => ?_) (fun q => absurd (by decide) q)
  refine g_bipush C dX7_drawn_24 (v := -2) (by decide) ?_
  exact g_iret C hrt dX7_drawn_26 (by decide) (by decide) ⟨by decide, F⟩
set_option maxHeartbeats 4000000 in
set_option maxRecDepth 100000 in
theorem c_X7_luck (l : Launch) (G : va_G) {cy : Nat → ClassId} {L : List Nat} {M : Nat → va_E} {a : Nat → Nat} {fr : List (Nat × va_E)}  (F : FW L M (flC cy a ++ fr)) (p0 : Int32) (p1 : Int32) (p2 : Int32) : MI l G cy yX7_luck cX7_luck 6 (some .int) 1 0 0 [.ref (a 0), .int p0, .int p1, .int p2] L M (fun r L2 M2 => r = (-2) ∧ FW L2 M2 (flC cy a ++ fr)) := by
  refine MI.of (own := RX7) rfl (by decide) (Nat.le_of_ble_eq_true rfl) ?_
  intro p e s m below meth c A C hrt hnm
  refine g_iload_n C dX7_luck_0 rfl (j := 1) rfl ?_
  refine g_callSI C (c_X7_isSeed l G F p0) lk_X7_361 rfl rfl dX7_luck_1 (Nat.le_of_ble_eq_true rfl) ⟨by decide, by decide⟩ ⟨by decide, by decide⟩ (fun r1 L M hp => ?_)
  obtain ⟨-, F⟩ := hp
  refine g_if_eq C dX7_luck_4 (tgt := 25) (by decide) (fun q2 => ?_) (fun q2 => ?_)
  · skip
    refine g_bipush C dX7_luck_25 (v := -2) (by decide) ?_
    exact g_iret C hrt dX7_luck_27 (by decide) (by decide) ⟨by decide, F⟩
  · skip
    refine g_iload_n C dX7_luck_7 rfl (j := 2) rfl ?_
    refine g_callSI C (c_X7_isFewInARow l G F p1) lk_X7_246 rfl rfl dX7_luck_8 (Nat.le_of_ble_eq_true rfl) ⟨by decide, by decide⟩ ⟨by decide, by decide⟩ (fun r3 L M hp => ?_)
    obtain ⟨-, F⟩ := hp
    refine g_if_eq C dX7_luck_11 (tgt := 25) (by decide) (fun q4 => ?_) (fun q4 => ?_)
    · skip
      refine g_bipush C dX7_luck_25 (v := -2) (by decide) ?_
      exact g_iret C hrt dX7_luck_27 (by decide) (by decide) ⟨by decide, F⟩
    · skip
      refine g_aload_n C dX7_luck_14 rfl (j := 0) rfl ?_
      refine h_get C F 0 rfl fk_X7_19 dX7_luck_15 rfl ?_
      refine g_iload_n C dX7_luck_18 rfl (j := 3) rfl ?_
      refine g_callVI C (c_X2_hasWalker l G F p2) lk_X7_122 (F.mem 3 rfl) (F.at 3 rfl) rfl rfl dX7_luck_19 (Nat.le_of_ble_eq_true rfl) ⟨by decide, by decide⟩ ⟨by decide, by decide⟩ (fun r5 L M hp => ?_)
      obtain ⟨r5_, F⟩ := hp
      subst r5_
      refine g_if_ne C dX7_luck_22 (tgt := 28) (by decide) (fun q => absurd (by decide) q) (fun _ => ?_)
      refine g_bipush C dX7_luck_25 (v := -2) (by decide) ?_
      exact g_iret C hrt dX7_luck_27 (by decide) (by decide) ⟨by decide, F⟩
set_option maxHeartbeats 4000000 in
set_option maxRecDepth 100000 in
theorem c_X7_rate (l : Launch) (G : va_G) {cy : Nat → ClassId} {L : List Nat} {M : Nat → va_E} {a : Nat → Nat} {fr : List (Nat × va_E)}  (F : FW L M (flC cy a ++ fr)) (p0 : Int32) (p1 : Int32) : MI l G cy yX7_rate cX7_rate 4 (some .int) 1 0 0 [.ref (a 0), .int p0, .int p1] L M (fun r L2 M2 => r = (-2) ∧ FW L2 M2 (flC cy a ++ fr)) := by
  refine MI.of (own := RX7) rfl (by decide) (Nat.le_of_ble_eq_true rfl) ?_
  intro p e s m below meth c A C hrt hnm
  refine g_aload_n C dX7_rate_0 rfl (j := 0) rfl ?_
  refine h_get C F 0 rfl fk_X7_19 dX7_rate_1 rfl ?_
  refine g_iload_n C dX7_rate_4 rfl (j := 1) rfl ?_
  refine g_callVI C (c_X2_hasInn l G F p0) lk_X7_99 (F.mem 3 rfl) (F.at 3 rfl) rfl rfl dX7_rate_5 (Nat.le_of_ble_eq_true rfl) ⟨by decide, by decide⟩ ⟨by decide, by decide⟩ (fun r1 L M hp => ?_)
  obtain ⟨r1_, F⟩ := hp
  subst r1_
  refine g_if_eq C dX7_rate_8 (tgt := 21) (by decide) (fun _ => ?_) (fun q => absurd (by decide) q)
  refine g_bipush C dX7_rate_21 (v := -2) (by decide) ?_
  exact g_iret C hrt dX7_rate_23 (by decide) (by decide) ⟨by decide, F⟩
end
section
theorem c_J7_fill_53178 (l : Launch) (G : va_G) {cy : Nat → ClassId} {L : List Nat} {M : Nat → va_E} {fl : List (Nat × va_E)} (F : FW L M fl) (k0 : Nat) {ar N : Nat} (hk : fl[k0]? = some (ar, .inl (cy 1, N, .inl (fun _ => 0)))) (hN : N < 2 ^ 31) : MV l G cy yJ7_fill_53178 cJ7_fill_53178 4 none 0 0 0 [.ref ar, .int 0] L M (fun L2 M2 => FW L2 M2 fl) := by
  refine MV.of (own := RJ7) rfl (by decide) (Nat.le_of_ble_eq_true rfl) ?_
  intro p e s m below meth c A C hrt hnm
  refine g_iconst C dJ7_fill_53178_0 (v := 0) (by decide) ?_
  refine g_istore_n C dJ7_fill_53178_1 rfl (by decide) (lv2 := [(2, .int 0), (0, .ref ar), (1, .int 0)]) rfl ?_
  refine g_aload_n C dJ7_fill_53178_2 rfl (j := 1) rfl ?_
  refine h_alen C F k0 hk (t0 := 1) rfl dJ7_fill_53178_3 (v := nI N) rfl ?_
  refine g_istore_n C dJ7_fill_53178_4 rfl (by decide) (lv2 := [(3, .int (nI N)), (2, .int 0), (0, .ref ar), (1, .int 0)]) rfl ?_
  refine g_lv [1, 0, 2, 3] (lv2 := [(2, .int 0), (3, .int (nI N)), (0, .ref ar), (1, .int 0)]) rfl ?_
  refine g_loop N (lvf := fun i => [(2, .int (nI i)), (3, .int (nI N)), (0, .ref ar), (1, .int 0)]) (fun i M F hi ih => ?_) (fun M F => ?_) F
  · refine g_iload_n C dJ7_fill_53178_5 rfl (j := 0) rfl ?_
    refine g_iload_n C dJ7_fill_53178_6 rfl (j := 1) rfl ?_
    refine g_icmp_ge C dJ7_fill_53178_7 (tgt := 20) (by decide) (fun q => absurd q (nI_ge hi hN)) (fun _ => ?_)
    refine g_aload_n C dJ7_fill_53178_10 rfl (j := 2) rfl ?_
    refine g_iload_n C dJ7_fill_53178_11 rfl (j := 0) rfl ?_
    refine g_iload_n C dJ7_fill_53178_12 rfl (j := 3) rfl ?_
    refine h_iast C F k0 hk dJ7_fill_53178_13 (vp_in_nI hi hN) (g := fun _ => 0) (upd0 _) (fl2 := fl) (set_same hk) (fun M F => ?_)
    refine g_iinc C dJ7_fill_53178_14 (j := 0) rfl (v := nI (i + 1)) (nI_1 i) (by decide) (lv2 := [(2, .int (nI (i + 1))), (3, .int (nI N)), (0, .ref ar), (1, .int 0)]) rfl ?_
    refine g_goto C dJ7_fill_53178_17 (tgt := 5) (by decide) ?_
    exact ih M F
  · refine g_iload_n C dJ7_fill_53178_5 rfl (j := 0) rfl ?_
    refine g_iload_n C dJ7_fill_53178_6 rfl (j := 1) rfl ?_
    refine g_icmp_ge C dJ7_fill_53178_7 (tgt := 20) (by decide) (fun _ => ?_) (fun q => absurd (nI_le (Nat.le_refl N) hN) q)
    exact g_vret C hrt dJ7_fill_53178_20 (by decide) (by decide) F
theorem c_J7_fill_d0a16 (l : Launch) (G : va_G) {cy : Nat → ClassId} {L : List Nat} {M : Nat → va_E} {fl : List (Nat × va_E)} (F : FW L M fl) (k0 : Nat) {ar N : Nat} (hk : fl[k0]? = some (ar, .inl (cy 2, N, .inr (.inl (fun _ => 0))))) (hN : N < 2 ^ 31) : MV l G cy yJ7_fill_d0a16 cJ7_fill_d0a16 5 none 0 0 0 [.ref ar, .long 0] L M (fun L2 M2 => FW L2 M2 fl) := by
  refine MV.of (own := RJ7) rfl (by decide) (Nat.le_of_ble_eq_true rfl) ?_
  intro p e s m below meth c A C hrt hnm
  refine g_iconst C dJ7_fill_d0a16_0 (v := 0) (by decide) ?_
  refine g_istore_n C dJ7_fill_d0a16_1 rfl (by decide) (lv2 := [(3, .int 0), (0, .ref ar), (1, .long 0)]) rfl ?_
  refine g_aload_n C dJ7_fill_d0a16_2 rfl (j := 1) rfl ?_
  refine h_alen C F k0 hk (t0 := 2) rfl dJ7_fill_d0a16_3 (v := nI N) rfl ?_
  refine g_istore C dJ7_fill_d0a16_4 (by decide) (lv2 := [(4, .int (nI N)), (3, .int 0), (0, .ref ar), (1, .long 0)]) rfl ?_
  refine g_lv [1, 0, 2, 3] (lv2 := [(3, .int 0), (4, .int (nI N)), (0, .ref ar), (1, .long 0)]) rfl ?_
  refine g_loop N (lvf := fun i => [(3, .int (nI i)), (4, .int (nI N)), (0, .ref ar), (1, .long 0)]) (fun i M F hi ih => ?_) (fun M F => ?_) F
  · refine g_iload_n C dJ7_fill_d0a16_6 rfl (j := 0) rfl ?_
    refine g_iload C dJ7_fill_d0a16_7 (j := 1) rfl ?_
    refine g_icmp_ge C dJ7_fill_d0a16_9 (tgt := 22) (by decide) (fun q => absurd q (nI_ge hi hN)) (fun _ => ?_)
    refine g_aload_n C dJ7_fill_d0a16_12 rfl (j := 2) rfl ?_
    refine g_iload_n C dJ7_fill_d0a16_13 rfl (j := 0) rfl ?_
    refine g_lload_n C dJ7_fill_d0a16_14 rfl (j := 3) rfl ?_
    refine h_last C F k0 hk dJ7_fill_d0a16_15 (vp_in_nI hi hN) (g := fun _ => 0) (updL0 _) (fl2 := fl) (set_same hk) (fun M F => ?_)
    refine g_iinc C dJ7_fill_d0a16_16 (j := 0) rfl (v := nI (i + 1)) (nI_1 i) (by decide) (lv2 := [(3, .int (nI (i + 1))), (4, .int (nI N)), (0, .ref ar), (1, .long 0)]) rfl ?_
    refine g_goto C dJ7_fill_d0a16_19 (tgt := 6) (by decide) ?_
    exact ih M F
  · refine g_iload_n C dJ7_fill_d0a16_6 rfl (j := 0) rfl ?_
    refine g_iload C dJ7_fill_d0a16_7 (j := 1) rfl ?_
    refine g_icmp_ge C dJ7_fill_d0a16_9 (tgt := 22) (by decide) (fun _ => ?_) (fun q => absurd (nI_le (Nat.le_refl N) hN) q)
    exact g_vret C hrt dJ7_fill_d0a16_22 (by decide) (by decide) F
set_option maxHeartbeats 4000000 in
set_option maxRecDepth 100000 in
theorem c_X0_clear_s0 (l : Launch) (G : va_G) {cy : Nat → ClassId} {L : List Nat} {M : Nat → va_E} {a : Nat → Nat} {fr : List (Nat × va_E)}  (F : FW L M (flC cy a ++ fr))  : MV l G cy yX0_clear cX0_clear 1 none 1 0 0 [.ref (a 20)] L M (fun L2 M2 => FW L2 M2 (flC cy a ++ fr)) := by
  refine MV.of (own := RX0) rfl (by decide) (Nat.le_of_ble_eq_true rfl) ?_
  intro p e s m below meth c A C hrt hnm
  refine g_aload_n C dX0_clear_0 rfl (j := 0) rfl ?_
  refine g_iconst C dX0_clear_1 (v := 0) (by decide) ?_
  refine h_put C F 20 rfl fk_X0_9 dX0_clear_2 rfl rfl (Nat.le_of_ble_eq_true rfl) (fl2 := flC cy a ++ fr) rfl (fun M F => ?_)
  refine g_aload_n C dX0_clear_5 rfl (j := 0) rfl ?_
  refine h_get C F 20 rfl fk_X0_19 dX0_clear_6 rfl ?_
  refine g_iconst C dX0_clear_9 (v := 0) (by decide) ?_
  refine g_callSV C (c_J7_fill_53178 l G F 22 rfl (by decide)) lk_X0_22 rfl rfl dX0_clear_10 (Nat.le_of_ble_eq_true rfl) ⟨by decide, by decide⟩ ⟨by decide, by decide⟩ (fun L M hp => ?_)
  have F := hp
  exact g_vret C hrt dX0_clear_13 (by decide) (by decide) F
set_option maxHeartbeats 4000000 in
set_option maxRecDepth 100000 in
theorem c_X2_clear_s1 (l : Launch) (G : va_G) {cy : Nat → ClassId} {L : List Nat} {M : Nat → va_E} {a : Nat → Nat} {fr : List (Nat × va_E)}  (F : FW L M (flC cy a ++ fr))  : MV l G cy yX2_clear cX2_clear 1 none 2 0 0 [.ref (a 13)] L M (fun L2 M2 => FW L2 M2 (flC cy a ++ fr)) := by
  refine MV.of (own := RX2) rfl (by decide) (Nat.le_of_ble_eq_true rfl) ?_
  intro p e s m below meth c A C hrt hnm
  refine g_aload_n C dX2_clear_0 rfl (j := 0) rfl ?_
  refine g_iconst C dX2_clear_1 (v := 0) (by decide) ?_
  refine h_put C F 13 rfl fk_X2_9 dX2_clear_2 rfl rfl (Nat.le_of_ble_eq_true rfl) (fl2 := flC cy a ++ fr) rfl (fun M F => ?_)
  refine g_aload_n C dX2_clear_5 rfl (j := 0) rfl ?_
  refine g_iconst C dX2_clear_6 (v := 0) (by decide) ?_
  refine h_put C F 13 rfl fk_X2_15 dX2_clear_7 rfl rfl (Nat.le_of_ble_eq_true rfl) (fl2 := flC cy a ++ fr) rfl (fun M F => ?_)
  refine g_aload_n C dX2_clear_10 rfl (j := 0) rfl ?_
  refine g_iconst C dX2_clear_11 (v := 0) (by decide) ?_
  refine h_put C F 13 rfl fk_X2_18 dX2_clear_12 rfl rfl (Nat.le_of_ble_eq_true rfl) (fl2 := flC cy a ++ fr) rfl (fun M F => ?_)
  refine g_aload_n C dX2_clear_15 rfl (j := 0) rfl ?_
  refine g_iconst C dX2_clear_16 (v := 0) (by decide) ?_
  refine h_put C F 13 rfl fk_X2_21 dX2_clear_17 rfl rfl (Nat.le_of_ble_eq_true rfl) (fl2 := flC cy a ++ fr) rfl (fun M F => ?_)
  refine g_aload_n C dX2_clear_20 rfl (j := 0) rfl ?_
  refine g_iconst C dX2_clear_21 (v := 0) (by decide) ?_
  refine h_put C F 13 rfl fk_X2_24 dX2_clear_22 rfl rfl (Nat.le_of_ble_eq_true rfl) (fl2 := flC cy a ++ fr) rfl (fun M F => ?_)
  refine g_aload_n C dX2_clear_25 rfl (j := 0) rfl ?_
  refine g_iconst C dX2_clear_26 (v := 0) (by decide) ?_
  refine h_put C F 13 rfl fk_X2_27 dX2_clear_27 rfl rfl (Nat.le_of_ble_eq_true rfl) (fl2 := flC cy a ++ fr) rfl (fun M F => ?_)
  refine g_aload_n C dX2_clear_30 rfl (j := 0) rfl ?_
  refine g_iconst C dX2_clear_31 (v := 0) (by decide) ?_
  refine h_put C F 13 rfl fk_X2_30 dX2_clear_32 rfl rfl (Nat.le_of_ble_eq_true rfl) (fl2 := flC cy a ++ fr) rfl (fun M F => ?_)
  refine g_aload_n C dX2_clear_35 rfl (j := 0) rfl ?_
  refine g_iconst C dX2_clear_36 (v := 0) (by decide) ?_
  refine h_put C F 13 rfl fk_X2_33 dX2_clear_37 rfl rfl (Nat.le_of_ble_eq_true rfl) (fl2 := flC cy a ++ fr) rfl (fun M F => ?_)
  refine g_aload_n C dX2_clear_40 rfl (j := 0) rfl ?_
  refine g_iconst C dX2_clear_41 (v := 0) (by decide) ?_
  refine h_put C F 13 rfl fk_X2_36 dX2_clear_42 rfl rfl (Nat.le_of_ble_eq_true rfl) (fl2 := flC cy a ++ fr) rfl (fun M F => ?_)
  refine g_aload_n C dX2_clear_45 rfl (j := 0) rfl ?_
  refine h_get C F 13 rfl fk_X2_43 dX2_clear_46 rfl ?_
  refine g_iconst C dX2_clear_49 (v := 0) (by decide) ?_
  refine g_callSV C (c_J7_fill_53178 l G F 15 rfl (by decide)) lk_X2_65 rfl rfl dX2_clear_50 (Nat.le_of_ble_eq_true rfl) ⟨by decide, by decide⟩ ⟨by decide, by decide⟩ (fun L M hp => ?_)
  have F := hp
  refine g_aload_n C dX2_clear_53 rfl (j := 0) rfl ?_
  refine h_get C F 13 rfl fk_X2_49 dX2_clear_54 rfl ?_
  refine g_iconst C dX2_clear_57 (v := 0) (by decide) ?_
  refine g_callSV C (c_J7_fill_53178 l G F 17 rfl (by decide)) lk_X2_65 rfl rfl dX2_clear_58 (Nat.le_of_ble_eq_true rfl) ⟨by decide, by decide⟩ ⟨by decide, by decide⟩ (fun L M hp => ?_)
  have F := hp
  refine g_aload_n C dX2_clear_61 rfl (j := 0) rfl ?_
  refine h_get C F 13 rfl fk_X2_61 dX2_clear_62 rfl ?_
  refine g_callVV C (c_X0_clear_s0 l G F ) lk_X2_71 (F.mem 20 rfl) (F.at 20 rfl) rfl rfl dX2_clear_65 (Nat.le_of_ble_eq_true rfl) ⟨by decide, by decide⟩ ⟨by decide, by decide⟩ (fun L M hp => ?_)
  have F := hp
  exact g_vret C hrt dX2_clear_68 (by decide) (by decide) F
set_option maxHeartbeats 4000000 in
set_option maxRecDepth 100000 in
theorem c_X6_take_s2 (l : Launch) (G : va_G) {cy : Nat → ClassId} {L : List Nat} {M : Nat → va_E} {a : Nat → Nat} {fr : List (Nat × va_E)}  (F : FW L M (flC cy a ++ fr))  : MV l G cy yX6_take cX6_take 1 none 0 0 0 [.ref (a 1)] L M (fun L2 M2 => FW L2 M2 (flC cy a ++ fr)) := by
  refine MV.of (own := RX6) rfl (by decide) (Nat.le_of_ble_eq_true rfl) ?_
  intro p e s m below meth c A C hrt hnm
  refine g_aload_n C dX6_take_0 rfl (j := 0) rfl ?_
  refine h_get C F 1 rfl fk_X6_19 dX6_take_1 rfl ?_
  refine g_if_eq C dX6_take_4 (tgt := 8) (by decide) (fun _ => ?_) (fun q => absurd (by decide) q)
  refine g_aload_n C dX6_take_8 rfl (j := 0) rfl ?_
  refine h_get C F 1 rfl fk_X6_31 dX6_take_9 rfl ?_
  refine g_aload_n C dX6_take_12 rfl (j := 0) rfl ?_
  refine h_get C F 1 rfl fk_X6_15 dX6_take_13 rfl ?_
  refine g_icmp_ge C dX6_take_16 (tgt := 47) (by decide) (fun _ => ?_) (fun q => absurd (by decide) q)
  refine g_aload_n C dX6_take_47 rfl (j := 0) rfl ?_
  refine g_aload_n C dX6_take_48 rfl (j := 0) rfl ?_
  refine h_get C F 1 rfl fk_X6_31 dX6_take_49 rfl ?_
  refine h_put C F 1 rfl fk_X6_28 dX6_take_52 rfl rfl (Nat.le_of_ble_eq_true rfl) (fl2 := flC cy a ++ fr) rfl (fun M F => ?_)
  refine g_aload_n C dX6_take_55 rfl (j := 0) rfl ?_
  refine g_iconst C dX6_take_56 (v := 0) (by decide) ?_
  refine h_put C F 1 rfl fk_X6_34 dX6_take_57 rfl rfl (Nat.le_of_ble_eq_true rfl) (fl2 := flC cy a ++ fr) rfl (fun M F => ?_)
  refine g_aload_n C dX6_take_60 rfl (j := 0) rfl ?_
  refine h_get C F 1 rfl fk_X6_31 dX6_take_61 rfl ?_
  refine g_aload_n C dX6_take_64 rfl (j := 0) rfl ?_
  refine h_get C F 1 rfl fk_X6_15 dX6_take_65 rfl ?_
  refine g_icmp_lt C dX6_take_68 (tgt := 79) (by decide) (fun q => absurd q (by decide)) (fun _ => ?_)
  refine g_aload_n C dX6_take_71 rfl (j := 0) rfl ?_
  refine g_iconst C dX6_take_72 (v := 0) (by decide) ?_
  refine h_put C F 1 rfl fk_X6_25 dX6_take_73 rfl rfl (Nat.le_of_ble_eq_true rfl) (fl2 := flC cy a ++ fr) rfl (fun M F => ?_)
  refine g_goto C dX6_take_76 (tgt := 259) (by decide) ?_
  exact g_vret C hrt dX6_take_259 (by decide) (by decide) F
set_option maxHeartbeats 4000000 in
set_option maxRecDepth 100000 in
theorem c_X6_readInto_s3 (l : Launch) (G : va_G) {cy : Nat → ClassId} {L : List Nat} {M : Nat → va_E} {a : Nat → Nat} {fr : List (Nat × va_E)}  (F : FW L M (flC cy a ++ fr))  : MV l G cy yX6_readInto cX6_readInto 3 none 3 0 0 [.ref (a 1), .ref (a 13)] L M (fun L2 M2 => FW L2 M2 (flC cy a ++ fr)) := by
  refine MV.of (own := RX6) rfl (by decide) (Nat.le_of_ble_eq_true rfl) ?_
  intro p e s m below meth c A C hrt hnm
  refine g_aload_n C dX6_readInto_0 rfl (j := 1) rfl ?_
  refine g_callVV C (c_X2_clear_s1 l G F ) lk_X6_37 (F.mem 13 rfl) (F.at 13 rfl) rfl rfl dX6_readInto_1 (Nat.le_of_ble_eq_true rfl) ⟨by decide, by decide⟩ ⟨by decide, by decide⟩ (fun L M hp => ?_)
  have F := hp
  refine g_aload_n C dX6_readInto_4 rfl (j := 0) rfl ?_
  refine g_iconst C dX6_readInto_5 (v := 0) (by decide) ?_
  refine h_put C F 1 rfl fk_X6_19 dX6_readInto_6 rfl rfl (Nat.le_of_ble_eq_true rfl) (fl2 := flC cy a ++ fr) rfl (fun M F => ?_)
  refine g_aload_n C dX6_readInto_9 rfl (j := 0) rfl ?_
  refine g_iconst C dX6_readInto_10 (v := -1) (by decide) ?_
  refine h_put C F 1 rfl fk_X6_22 dX6_readInto_11 rfl rfl (Nat.le_of_ble_eq_true rfl) (fl2 := flC cy a ++ fr) rfl (fun M F => ?_)
  refine g_aload_n C dX6_readInto_14 rfl (j := 0) rfl ?_
  refine g_iconst C dX6_readInto_15 (v := 0) (by decide) ?_
  refine h_put C F 1 rfl fk_X6_31 dX6_readInto_16 rfl rfl (Nat.le_of_ble_eq_true rfl) (fl2 := flC cy a ++ fr) rfl (fun M F => ?_)
  refine g_aload_n C dX6_readInto_19 rfl (j := 0) rfl ?_
  refine g_callVV C (c_X6_take_s2 l G F ) lk_X6_42 (F.mem 1 rfl) (F.at 1 rfl) rfl rfl dX6_readInto_20 (Nat.le_of_ble_eq_true rfl) ⟨by decide, by decide⟩ ⟨by decide, by decide⟩ (fun L M hp => ?_)
  have F := hp
  refine g_iconst C dX6_readInto_23 (v := 0) (by decide) ?_
  refine g_istore_n C dX6_readInto_24 rfl (by decide) (lv2 := [(2, .int 0), (0, .ref (a 1)), (1, .ref (a 13))]) rfl ?_
  refine g_iload_n C dX6_readInto_25 rfl (j := 0) rfl ?_
  refine g_sipush C dX6_readInto_26 (v := 800) (by decide) ?_
  refine g_icmp_gt C dX6_readInto_29 (tgt := 71) (by decide) (fun q => absurd q (by decide)) (fun _ => ?_)
  refine g_aload_n C dX6_readInto_32 rfl (j := 1) rfl ?_
  refine h_get C F 1 rfl fk_X6_19 dX6_readInto_33 rfl ?_
  refine g_if_ne C dX6_readInto_36 (tgt := 71) (by decide) (fun q => absurd (by decide) q) (fun _ => ?_)
  refine g_aload_n C dX6_readInto_39 rfl (j := 1) rfl ?_
  refine h_get C F 1 rfl fk_X6_25 dX6_readInto_40 rfl ?_
  refine g_if_eq C dX6_readInto_43 (tgt := 71) (by decide) (fun _ => ?_) (fun q => absurd (by decide) q)
  exact g_vret C hrt dX6_readInto_71 (by decide) (by decide) F
set_option maxHeartbeats 4000000 in
set_option maxRecDepth 100000 in
theorem c_X0_copyFrom_s4 (l : Launch) (G : va_G) {cy : Nat → ClassId} {L : List Nat} {M : Nat → va_E} {a : Nat → Nat} {fr : List (Nat × va_E)}  (F : FW L M (flC cy a ++ fr))  : MV l G cy yX0_copyFrom cX0_copyFrom 2 none 1 0 0 [.ref (a 10), .ref (a 20)] L M (fun L2 M2 => FW L2 M2 (flC cy a ++ fr)) := by
  refine MV.of (own := RX0) rfl (by decide) (Nat.le_of_ble_eq_true rfl) ?_
  intro p e s m below meth c A C hrt hnm
  refine g_aload_n C dX0_copyFrom_0 rfl (j := 0) rfl ?_
  refine g_aload_n C dX0_copyFrom_1 rfl (j := 1) rfl ?_
  refine h_get C F 20 rfl fk_X0_9 dX0_copyFrom_2 rfl ?_
  refine h_put C F 10 rfl fk_X0_9 dX0_copyFrom_5 rfl rfl (Nat.le_of_ble_eq_true rfl) (fl2 := flC cy a ++ fr) rfl (fun M F => ?_)
  refine g_aload_n C dX0_copyFrom_8 rfl (j := 1) rfl ?_
  refine h_get C F 20 rfl fk_X0_15 dX0_copyFrom_9 rfl ?_
  refine g_iconst C dX0_copyFrom_12 (v := 0) (by decide) ?_
  refine g_aload_n C dX0_copyFrom_13 rfl (j := 0) rfl ?_
  refine h_get C F 10 rfl fk_X0_15 dX0_copyFrom_14 rfl ?_
  refine g_iconst C dX0_copyFrom_17 (v := 0) (by decide) ?_
  refine g_bipush C dX0_copyFrom_18 (v := 30) (by decide) ?_
  refine h_copyi C F 21 11 rfl rfl (t0 := 1) rfl rfl wd121 wd110 wd111 wd112 (by decide) (by decide) (by decide) (by decide) (by decide) (fun _ _ => rfl) (by decide) (Nat.le_of_ble_eq_true rfl) dX0_copyFrom_20 (g2 := (fun _ => 0)) (cpy0 _ _ _) (fl2 := flC cy a ++ fr) rfl (fun M F => ?_)
  refine g_aload_n C dX0_copyFrom_23 rfl (j := 1) rfl ?_
  refine h_get C F 20 rfl fk_X0_19 dX0_copyFrom_24 rfl ?_
  refine g_iconst C dX0_copyFrom_27 (v := 0) (by decide) ?_
  refine g_aload_n C dX0_copyFrom_28 rfl (j := 0) rfl ?_
  refine h_get C F 10 rfl fk_X0_19 dX0_copyFrom_29 rfl ?_
  refine g_iconst C dX0_copyFrom_32 (v := 0) (by decide) ?_
  refine g_aload_n C dX0_copyFrom_33 rfl (j := 0) rfl ?_
  refine h_get C F 10 rfl fk_X0_19 dX0_copyFrom_34 rfl ?_
  refine h_alen C F 12 rfl (t0 := 1) rfl dX0_copyFrom_37 (v := 240) (by decide) ?_
  refine h_copyi C F 22 12 rfl rfl (t0 := 1) rfl rfl wd121 wd110 wd111 wd112 (by decide) (by decide) (by decide) (by decide) (by decide) (fun _ _ => rfl) (by decide) (Nat.le_of_ble_eq_true rfl) dX0_copyFrom_38 (g2 := (fun _ => 0)) (cpy0 _ _ _) (fl2 := flC cy a ++ fr) rfl (fun M F => ?_)
  exact g_vret C hrt dX0_copyFrom_41 (by decide) (by decide) F
set_option maxHeartbeats 4000000 in
set_option maxRecDepth 100000 in
theorem c_X2_copyFrom_s5 (l : Launch) (G : va_G) {cy : Nat → ClassId} {L : List Nat} {M : Nat → va_E} {a : Nat → Nat} {fr : List (Nat × va_E)}  (F : FW L M (flC cy a ++ fr))  : MV l G cy yX2_copyFrom cX2_copyFrom 2 none 2 0 0 [.ref (a 3), .ref (a 13)] L M (fun L2 M2 => FW L2 M2 (flC cy a ++ fr)) := by
  refine MV.of (own := RX2) rfl (by decide) (Nat.le_of_ble_eq_true rfl) ?_
  intro p e s m below meth c A C hrt hnm
  refine g_aload_n C dX2_copyFrom_0 rfl (j := 0) rfl ?_
  refine g_aload_n C dX2_copyFrom_1 rfl (j := 1) rfl ?_
  refine h_get C F 13 rfl fk_X2_9 dX2_copyFrom_2 rfl ?_
  refine h_put C F 3 rfl fk_X2_9 dX2_copyFrom_5 rfl rfl (Nat.le_of_ble_eq_true rfl) (fl2 := flC cy a ++ fr) rfl (fun M F => ?_)
  refine g_aload_n C dX2_copyFrom_8 rfl (j := 0) rfl ?_
  refine g_aload_n C dX2_copyFrom_9 rfl (j := 1) rfl ?_
  refine h_get C F 13 rfl fk_X2_15 dX2_copyFrom_10 rfl ?_
  refine h_put C F 3 rfl fk_X2_15 dX2_copyFrom_13 rfl rfl (Nat.le_of_ble_eq_true rfl) (fl2 := flC cy a ++ fr) rfl (fun M F => ?_)
  refine g_aload_n C dX2_copyFrom_16 rfl (j := 0) rfl ?_
  refine g_aload_n C dX2_copyFrom_17 rfl (j := 1) rfl ?_
  refine h_get C F 13 rfl fk_X2_18 dX2_copyFrom_18 rfl ?_
  refine h_put C F 3 rfl fk_X2_18 dX2_copyFrom_21 rfl rfl (Nat.le_of_ble_eq_true rfl) (fl2 := flC cy a ++ fr) rfl (fun M F => ?_)
  refine g_aload_n C dX2_copyFrom_24 rfl (j := 0) rfl ?_
  refine g_aload_n C dX2_copyFrom_25 rfl (j := 1) rfl ?_
  refine h_get C F 13 rfl fk_X2_21 dX2_copyFrom_26 rfl ?_
  refine h_put C F 3 rfl fk_X2_21 dX2_copyFrom_29 rfl rfl (Nat.le_of_ble_eq_true rfl) (fl2 := flC cy a ++ fr) rfl (fun M F => ?_)
  refine g_aload_n C dX2_copyFrom_32 rfl (j := 0) rfl ?_
  refine g_aload_n C dX2_copyFrom_33 rfl (j := 1) rfl ?_
  refine h_get C F 13 rfl fk_X2_24 dX2_copyFrom_34 rfl ?_
  refine h_put C F 3 rfl fk_X2_24 dX2_copyFrom_37 rfl rfl (Nat.le_of_ble_eq_true rfl) (fl2 := flC cy a ++ fr) rfl (fun M F => ?_)
  refine g_aload_n C dX2_copyFrom_40 rfl (j := 0) rfl ?_
  refine g_aload_n C dX2_copyFrom_41 rfl (j := 1) rfl ?_
  refine h_get C F 13 rfl fk_X2_27 dX2_copyFrom_42 rfl ?_
  refine h_put C F 3 rfl fk_X2_27 dX2_copyFrom_45 rfl rfl (Nat.le_of_ble_eq_true rfl) (fl2 := flC cy a ++ fr) rfl (fun M F => ?_)
  refine g_aload_n C dX2_copyFrom_48 rfl (j := 0) rfl ?_
  refine g_aload_n C dX2_copyFrom_49 rfl (j := 1) rfl ?_
  refine h_get C F 13 rfl fk_X2_30 dX2_copyFrom_50 rfl ?_
  refine h_put C F 3 rfl fk_X2_30 dX2_copyFrom_53 rfl rfl (Nat.le_of_ble_eq_true rfl) (fl2 := flC cy a ++ fr) rfl (fun M F => ?_)
  refine g_aload_n C dX2_copyFrom_56 rfl (j := 0) rfl ?_
  refine g_aload_n C dX2_copyFrom_57 rfl (j := 1) rfl ?_
  refine h_get C F 13 rfl fk_X2_33 dX2_copyFrom_58 rfl ?_
  refine h_put C F 3 rfl fk_X2_33 dX2_copyFrom_61 rfl rfl (Nat.le_of_ble_eq_true rfl) (fl2 := flC cy a ++ fr) rfl (fun M F => ?_)
  refine g_aload_n C dX2_copyFrom_64 rfl (j := 0) rfl ?_
  refine g_aload_n C dX2_copyFrom_65 rfl (j := 1) rfl ?_
  refine h_get C F 13 rfl fk_X2_36 dX2_copyFrom_66 rfl ?_
  refine h_put C F 3 rfl fk_X2_36 dX2_copyFrom_69 rfl rfl (Nat.le_of_ble_eq_true rfl) (fl2 := flC cy a ++ fr) rfl (fun M F => ?_)
  refine g_aload_n C dX2_copyFrom_72 rfl (j := 1) rfl ?_
  refine h_get C F 13 rfl fk_X2_39 dX2_copyFrom_73 rfl ?_
  refine g_iconst C dX2_copyFrom_76 (v := 0) (by decide) ?_
  refine g_aload_n C dX2_copyFrom_77 rfl (j := 0) rfl ?_
  refine h_get C F 3 rfl fk_X2_39 dX2_copyFrom_78 rfl ?_
  refine g_iconst C dX2_copyFrom_81 (v := 0) (by decide) ?_
  refine g_iconst C dX2_copyFrom_82 (v := 4) (by decide) ?_
  refine h_copyi C F 14 4 rfl rfl (t0 := 1) rfl rfl wd109 wd110 wd111 wd112 (by decide) (by decide) (by decide) (by decide) (by decide) (fun _ _ => rfl) (by decide) (Nat.le_of_ble_eq_true rfl) dX2_copyFrom_83 (g2 := (fun _ => 0)) (cpy0 _ _ _) (fl2 := flC cy a ++ fr) rfl (fun M F => ?_)
  refine g_aload_n C dX2_copyFrom_86 rfl (j := 1) rfl ?_
  refine h_get C F 13 rfl fk_X2_43 dX2_copyFrom_87 rfl ?_
  refine g_iconst C dX2_copyFrom_90 (v := 0) (by decide) ?_
  refine g_aload_n C dX2_copyFrom_91 rfl (j := 0) rfl ?_
  refine h_get C F 3 rfl fk_X2_43 dX2_copyFrom_92 rfl ?_
  refine g_iconst C dX2_copyFrom_95 (v := 0) (by decide) ?_
  refine g_bipush C dX2_copyFrom_96 (v := 7) (by decide) ?_
  refine h_copyi C F 15 5 rfl rfl (t0 := 1) rfl rfl wd109 wd110 wd111 wd112 (by decide) (by decide) (by decide) (by decide) (by decide) (fun _ _ => rfl) (by decide) (Nat.le_of_ble_eq_true rfl) dX2_copyFrom_98 (g2 := (fun _ => 0)) (cpy0 _ _ _) (fl2 := flC cy a ++ fr) rfl (fun M F => ?_)
  refine g_aload_n C dX2_copyFrom_101 rfl (j := 1) rfl ?_
  refine h_get C F 13 rfl fk_X2_46 dX2_copyFrom_102 rfl ?_
  refine g_iconst C dX2_copyFrom_105 (v := 0) (by decide) ?_
  refine g_aload_n C dX2_copyFrom_106 rfl (j := 0) rfl ?_
  refine h_get C F 3 rfl fk_X2_46 dX2_copyFrom_107 rfl ?_
  refine g_iconst C dX2_copyFrom_110 (v := 0) (by decide) ?_
  refine g_aload_n C dX2_copyFrom_111 rfl (j := 0) rfl ?_
  refine h_get C F 3 rfl fk_X2_46 dX2_copyFrom_112 rfl ?_
  refine h_alen C F 6 rfl (t0 := 1) rfl dX2_copyFrom_115 (v := 28) (by decide) ?_
  refine h_copyi C F 16 6 rfl rfl (t0 := 1) rfl rfl wd109 wd110 wd111 wd112 (by decide) (by decide) (by decide) (by decide) (by decide) (fun _ _ => rfl) (by decide) (Nat.le_of_ble_eq_true rfl) dX2_copyFrom_116 (g2 := (fun _ => 0)) (cpy0 _ _ _) (fl2 := flC cy a ++ fr) rfl (fun M F => ?_)
  refine g_aload_n C dX2_copyFrom_119 rfl (j := 1) rfl ?_
  refine h_get C F 13 rfl fk_X2_49 dX2_copyFrom_120 rfl ?_
  refine g_iconst C dX2_copyFrom_123 (v := 0) (by decide) ?_
  refine g_aload_n C dX2_copyFrom_124 rfl (j := 0) rfl ?_
  refine h_get C F 3 rfl fk_X2_49 dX2_copyFrom_125 rfl ?_
  refine g_iconst C dX2_copyFrom_128 (v := 0) (by decide) ?_
  refine g_bipush C dX2_copyFrom_129 (v := 7) (by decide) ?_
  refine h_copyi C F 17 7 rfl rfl (t0 := 1) rfl rfl wd109 wd110 wd111 wd112 (by decide) (by decide) (by decide) (by decide) (by decide) (fun _ _ => rfl) (by decide) (Nat.le_of_ble_eq_true rfl) dX2_copyFrom_131 (g2 := (fun _ => 0)) (cpy0 _ _ _) (fl2 := flC cy a ++ fr) rfl (fun M F => ?_)
  refine g_aload_n C dX2_copyFrom_134 rfl (j := 1) rfl ?_
  refine h_get C F 13 rfl fk_X2_52 dX2_copyFrom_135 rfl ?_
  refine g_iconst C dX2_copyFrom_138 (v := 0) (by decide) ?_
  refine g_aload_n C dX2_copyFrom_139 rfl (j := 0) rfl ?_
  refine h_get C F 3 rfl fk_X2_52 dX2_copyFrom_140 rfl ?_
  refine g_iconst C dX2_copyFrom_143 (v := 0) (by decide) ?_
  refine g_bipush C dX2_copyFrom_144 (v := 8) (by decide) ?_
  refine h_copyi C F 18 8 rfl rfl (t0 := 1) rfl rfl wd109 wd110 wd111 wd112 (by decide) (by decide) (by decide) (by decide) (by decide) (fun _ _ => rfl) (by decide) (Nat.le_of_ble_eq_true rfl) dX2_copyFrom_146 (g2 := (fun _ => 0)) (cpy0 _ _ _) (fl2 := flC cy a ++ fr) rfl (fun M F => ?_)
  refine g_aload_n C dX2_copyFrom_149 rfl (j := 1) rfl ?_
  refine h_get C F 13 rfl fk_X2_55 dX2_copyFrom_150 rfl ?_
  refine g_iconst C dX2_copyFrom_153 (v := 0) (by decide) ?_
  refine g_aload_n C dX2_copyFrom_154 rfl (j := 0) rfl ?_
  refine h_get C F 3 rfl fk_X2_55 dX2_copyFrom_155 rfl ?_
  refine g_iconst C dX2_copyFrom_158 (v := 0) (by decide) ?_
  refine g_bipush C dX2_copyFrom_159 (v := 8) (by decide) ?_
  refine h_copyi C F 19 9 rfl rfl (t0 := 1) rfl rfl wd109 wd110 wd111 wd112 (by decide) (by decide) (by decide) (by decide) (by decide) (fun _ _ => rfl) (by decide) (Nat.le_of_ble_eq_true rfl) dX2_copyFrom_161 (g2 := (fun _ => 0)) (cpy0 _ _ _) (fl2 := flC cy a ++ fr) rfl (fun M F => ?_)
  refine g_aload_n C dX2_copyFrom_164 rfl (j := 0) rfl ?_
  refine h_get C F 3 rfl fk_X2_61 dX2_copyFrom_165 rfl ?_
  refine g_aload_n C dX2_copyFrom_168 rfl (j := 1) rfl ?_
  refine h_get C F 13 rfl fk_X2_61 dX2_copyFrom_169 rfl ?_
  refine g_callVV C (c_X0_copyFrom_s4 l G F ) lk_X2_80 (F.mem 10 rfl) (F.at 10 rfl) rfl rfl dX2_copyFrom_172 (Nat.le_of_ble_eq_true rfl) ⟨by decide, by decide⟩ ⟨by decide, by decide⟩ (fun L M hp => ?_)
  have F := hp
  exact g_vret C hrt dX2_copyFrom_175 (by decide) (by decide) F
set_option maxHeartbeats 4000000 in
set_option maxRecDepth 100000 in
theorem c_X1_forget_s6 (l : Launch) (G : va_G) {cy : Nat → ClassId} {L : List Nat} {M : Nat → va_E} {a : Nat → Nat} {fr : List (Nat × va_E)}  (F : FW L M (flC cy a ++ fr))  : MV l G cy yX1_forget cX1_forget 1 none 0 0 0 [.ref (a 39)] L M (fun L2 M2 => FW L2 M2 (flC cy a ++ fr)) := by
  refine MV.of (own := RX1) rfl (by decide) (Nat.le_of_ble_eq_true rfl) ?_
  intro p e s m below meth c A C hrt hnm
  refine g_aload_n C dX1_forget_0 rfl (j := 0) rfl ?_
  refine g_iconst C dX1_forget_1 (v := -1) (by decide) ?_
  refine h_put C F 39 rfl fk_X1_9 dX1_forget_2 rfl rfl (Nat.le_of_ble_eq_true rfl) (fl2 := flC cy a ++ fr) rfl (fun M F => ?_)
  exact g_vret C hrt dX1_forget_5 (by decide) (by decide) F
set_option maxHeartbeats 4000000 in
set_option maxRecDepth 100000 in
theorem c_X4_prepare_s7 (l : Launch) (G : va_G) {cy : Nat → ClassId} {L : List Nat} {M : Nat → va_E} {a : Nat → Nat} {fr : List (Nat × va_E)}  (F : FW L M (flC cy a ++ fr))  : MV l G cy yX4_prepare cX4_prepare 1 none 1 0 0 [.ref (a 25)] L M (fun L2 M2 => FW L2 M2 (flC cy a ++ fr)) := by
  refine MV.of (own := RX4) rfl (by decide) (Nat.le_of_ble_eq_true rfl) ?_
  intro p e s m below meth c A C hrt hnm
  refine g_aload_n C dX4_prepare_0 rfl (j := 0) rfl ?_
  refine g_aload_n C dX4_prepare_1 rfl (j := 0) rfl ?_
  refine h_get C F 25 rfl fk_X4_37 dX4_prepare_2 rfl ?_
  refine h_get C F 3 rfl fk_X4_41 dX4_prepare_5 rfl ?_
  refine h_put C F 25 rfl fk_X4_9 dX4_prepare_8 rfl rfl (Nat.le_of_ble_eq_true rfl) (fl2 := flC cy a ++ fr) rfl (fun M F => ?_)
  refine g_aload_n C dX4_prepare_11 rfl (j := 0) rfl ?_
  refine g_bipush C dX4_prepare_12 (v := 127) (by decide) ?_
  refine h_put C F 25 rfl fk_X4_15 dX4_prepare_14 rfl rfl (Nat.le_of_ble_eq_true rfl) (fl2 := flC cy a ++ fr) rfl (fun M F => ?_)
  refine g_aload_n C dX4_prepare_17 rfl (j := 0) rfl ?_
  refine g_iconst C dX4_prepare_18 (v := 0) (by decide) ?_
  refine h_put C F 25 rfl fk_X4_18 dX4_prepare_19 rfl rfl (Nat.le_of_ble_eq_true rfl) (fl2 := flC cy a ++ fr) rfl (fun M F => ?_)
  refine g_aload_n C dX4_prepare_22 rfl (j := 0) rfl ?_
  refine h_get C F 25 rfl fk_X4_37 dX4_prepare_23 rfl ?_
  refine h_get C F 3 rfl fk_X4_44 dX4_prepare_26 rfl ?_
  refine g_iconst C dX4_prepare_29 (v := 0) (by decide) ?_
  refine g_aload_n C dX4_prepare_30 rfl (j := 0) rfl ?_
  refine h_get C F 25 rfl fk_X4_21 dX4_prepare_31 rfl ?_
  refine g_iconst C dX4_prepare_34 (v := 0) (by decide) ?_
  refine g_bipush C dX4_prepare_35 (v := 8) (by decide) ?_
  refine h_copyi C F 9 26 rfl rfl (t0 := 1) rfl rfl wd145 wd110 wd111 wd112 (by decide) (by decide) (by decide) (by decide) (by decide) (fun _ _ => rfl) (by decide) (Nat.le_of_ble_eq_true rfl) dX4_prepare_37 (g2 := (fun _ => 0)) (cpy0 _ _ _) (fl2 := flC cy a ++ fr) rfl (fun M F => ?_)
  refine g_aload_n C dX4_prepare_40 rfl (j := 0) rfl ?_
  refine h_get C F 25 rfl fk_X4_37 dX4_prepare_41 rfl ?_
  refine h_get C F 3 rfl fk_X4_51 dX4_prepare_44 rfl ?_
  refine g_iconst C dX4_prepare_47 (v := 0) (by decide) ?_
  refine g_aload_n C dX4_prepare_48 rfl (j := 0) rfl ?_
  refine h_get C F 25 rfl fk_X4_28 dX4_prepare_49 rfl ?_
  refine g_iconst C dX4_prepare_52 (v := 0) (by decide) ?_
  refine g_bipush C dX4_prepare_53 (v := 7) (by decide) ?_
  refine h_copyi C F 7 28 rfl rfl (t0 := 1) rfl rfl wd145 wd110 wd111 wd112 (by decide) (by decide) (by decide) (by decide) (by decide) (fun _ _ => rfl) (by decide) (Nat.le_of_ble_eq_true rfl) dX4_prepare_55 (g2 := (fun _ => 0)) (cpy0 _ _ _) (fl2 := flC cy a ++ fr) rfl (fun M F => ?_)
  exact g_vret C hrt dX4_prepare_58 (by decide) (by decide) F
set_option maxHeartbeats 4000000 in
set_option maxRecDepth 100000 in
theorem c_X4_begin_s8 (l : Launch) (G : va_G) {cy : Nat → ClassId} {L : List Nat} {M : Nat → va_E} {a : Nat → Nat} {fr : List (Nat × va_E)}  (F : FW L M (flC cy a ++ fr))  : MV l G cy yX4_begin cX4_begin 2 none 0 0 0 [.ref (a 25)] L M (fun L2 M2 => FW L2 M2 (flC cy a ++ fr)) := by
  refine MV.of (own := RX4) rfl (by decide) (Nat.le_of_ble_eq_true rfl) ?_
  intro p e s m below meth c A C hrt hnm
  refine g_iconst C dX4_begin_0 (v := 0) (by decide) ?_
  refine g_istore_n C dX4_begin_1 rfl (by decide) (lv2 := [(1, .int 0), (0, .ref (a 25))]) rfl ?_
  refine g_iload_n C dX4_begin_2 rfl (j := 0) rfl ?_
  refine g_aload_n C dX4_begin_3 rfl (j := 1) rfl ?_
  refine h_get C F 25 rfl fk_X4_37 dX4_begin_4 rfl ?_
  refine h_get C F 3 rfl fk_X4_64 dX4_begin_7 rfl ?_
  refine g_icmp_ge C dX4_begin_10 (tgt := 47) (by decide) (fun _ => ?_) (fun q => absurd (by decide) q)
  exact g_vret C hrt dX4_begin_47 (by decide) (by decide) F
set_option maxHeartbeats 4000000 in
set_option maxRecDepth 100000 in
theorem c_X4_run_s9 (l : Launch) (G : va_G) {cy : Nat → ClassId} {L : List Nat} {M : Nat → va_E} {a : Nat → Nat} {fr : List (Nat × va_E)}  (F : FW L M (flC cy a ++ fr))  : MV l G cy yX4_run cX4_run 2 none 1 0 0 [.ref (a 25)] L M (fun L2 M2 => FW L2 M2 (flC cy a ++ fr)) := by
  refine MV.of (own := RX4) rfl (by decide) (Nat.le_of_ble_eq_true rfl) ?_
  intro p e s m below meth c A C hrt hnm
  refine g_aload_n C dX4_run_0 rfl (j := 0) rfl ?_
  refine g_callVV C (c_X4_begin_s8 l G F ) lk_X4_54 (F.mem 25 rfl) (F.at 25 rfl) rfl rfl dX4_run_1 (Nat.le_of_ble_eq_true rfl) ⟨by decide, by decide⟩ ⟨by decide, by decide⟩ (fun L M hp => ?_)
  have F := hp
  refine g_iconst C dX4_run_4 (v := 0) (by decide) ?_
  refine g_istore_n C dX4_run_5 rfl (by decide) (lv2 := [(1, .int 0), (0, .ref (a 25))]) rfl ?_
  refine g_iload_n C dX4_run_6 rfl (j := 0) rfl ?_
  refine g_aload_n C dX4_run_7 rfl (j := 1) rfl ?_
  refine h_get C F 25 rfl fk_X4_37 dX4_run_8 rfl ?_
  refine h_get C F 3 rfl fk_X4_57 dX4_run_11 rfl ?_
  refine g_icmp_ge C dX4_run_14 (tgt := 28) (by decide) (fun _ => ?_) (fun q => absurd (by decide) q)
  exact g_vret C hrt dX4_run_28 (by decide) (by decide) F
set_option maxHeartbeats 4000000 in
set_option maxRecDepth 100000 in
theorem c_X7_changed_s10 (l : Launch) (G : va_G) {cy : Nat → ClassId} {L : List Nat} {M : Nat → va_E} {a : Nat → Nat} {fr : List (Nat × va_E)}  (F : FW L M (flC cy a ++ fr))  : MV l G cy yX7_changed cX7_changed 1 none 2 0 0 [.ref (a 0)] L M (fun L2 M2 => FW L2 M2 (flC cy a ++ fr)) := by
  refine MV.of (own := RX7) rfl (by decide) (Nat.le_of_ble_eq_true rfl) ?_
  intro p e s m below meth c A C hrt hnm
  refine g_aload_n C dX7_changed_0 rfl (j := 0) rfl ?_
  refine g_iconst C dX7_changed_1 (v := 0) (by decide) ?_
  refine h_put C F 0 rfl fk_X7_66 dX7_changed_2 rfl rfl (Nat.le_of_ble_eq_true rfl) (fl2 := flC cy a ++ fr) rfl (fun M F => ?_)
  refine g_aload_n C dX7_changed_5 rfl (j := 0) rfl ?_
  refine h_get C F 0 rfl fk_X7_58 dX7_changed_6 rfl ?_
  refine g_callVV C (c_X1_forget_s6 l G F ) lk_X7_415 (F.mem 39 rfl) (F.at 39 rfl) rfl rfl dX7_changed_9 (Nat.le_of_ble_eq_true rfl) ⟨by decide, by decide⟩ ⟨by decide, by decide⟩ (fun L M hp => ?_)
  have F := hp
  refine g_aload_n C dX7_changed_12 rfl (j := 0) rfl ?_
  refine h_get C F 0 rfl fk_X7_41 dX7_changed_13 rfl ?_
  refine g_callVV C (c_X4_prepare_s7 l G F ) lk_X7_279 (F.mem 25 rfl) (F.at 25 rfl) rfl rfl dX7_changed_16 (Nat.le_of_ble_eq_true rfl) ⟨by decide, by decide⟩ ⟨by decide, by decide⟩ (fun L M hp => ?_)
  have F := hp
  refine g_aload_n C dX7_changed_19 rfl (j := 0) rfl ?_
  refine h_get C F 0 rfl fk_X7_41 dX7_changed_20 rfl ?_
  refine g_callVV C (c_X4_run_s9 l G F ) lk_X7_285 (F.mem 25 rfl) (F.at 25 rfl) rfl rfl dX7_changed_23 (Nat.le_of_ble_eq_true rfl) ⟨by decide, by decide⟩ ⟨by decide, by decide⟩ (fun L M hp => ?_)
  have F := hp
  exact g_vret C hrt dX7_changed_26 (by decide) (by decide) F
set_option maxHeartbeats 4000000 in
set_option maxRecDepth 100000 in
theorem c_X7_heath (l : Launch) (G : va_G) {cy : Nat → ClassId} {L : List Nat} {M : Nat → va_E} {a : Nat → Nat} {fr : List (Nat × va_E)}  (F : FW L M (flC cy a ++ fr))  : MI l G cy yX7_heath cX7_heath 1 (some .int) 4 0 0 [.ref (a 0)] L M (fun r L2 M2 => r = (0) ∧ FW L2 M2 (flC cy a ++ fr)) := by
  refine MI.of (own := RX7) rfl (by decide) (Nat.le_of_ble_eq_true rfl) ?_
  intro p e s m below meth c A C hrt hnm
  refine g_aload_n C dX7_heath_0 rfl (j := 0) rfl ?_
  refine h_get C F 0 rfl fk_X7_12 dX7_heath_1 rfl ?_
  refine g_aload_n C dX7_heath_4 rfl (j := 0) rfl ?_
  refine h_get C F 0 rfl fk_X7_23 dX7_heath_5 rfl ?_
  refine g_callVV C (c_X6_readInto_s3 l G F ) lk_X7_81 (F.mem 1 rfl) (F.at 1 rfl) rfl rfl dX7_heath_8 (Nat.le_of_ble_eq_true rfl) ⟨by decide, by decide⟩ ⟨by decide, by decide⟩ (fun L M hp => ?_)
  have F := hp
  refine g_aload_n C dX7_heath_11 rfl (j := 0) rfl ?_
  refine h_get C F 0 rfl fk_X7_12 dX7_heath_12 rfl ?_
  refine h_get C F 1 rfl fk_X7_84 dX7_heath_15 rfl ?_
  refine g_if_eq C dX7_heath_18 (tgt := 24) (by decide) (fun _ => ?_) (fun q => absurd (by decide) q)
  refine g_aload_n C dX7_heath_24 rfl (j := 0) rfl ?_
  refine h_get C F 0 rfl fk_X7_12 dX7_heath_25 rfl ?_
  refine g_iconst C dX7_heath_28 (v := 0) (by decide) ?_
  refine h_put C F 1 rfl fk_X7_73 dX7_heath_29 rfl rfl (Nat.le_of_ble_eq_true rfl) (fl2 := flC cy a ++ fr) rfl (fun M F => ?_)
  refine g_aload_n C dX7_heath_32 rfl (j := 0) rfl ?_
  refine h_get C F 0 rfl fk_X7_19 dX7_heath_33 rfl ?_
  refine g_aload_n C dX7_heath_36 rfl (j := 0) rfl ?_
  refine h_get C F 0 rfl fk_X7_23 dX7_heath_37 rfl ?_
  refine g_callVV C (c_X2_copyFrom_s5 l G F ) lk_X7_87 (F.mem 3 rfl) (F.at 3 rfl) rfl rfl dX7_heath_40 (Nat.le_of_ble_eq_true rfl) ⟨by decide, by decide⟩ ⟨by decide, by decide⟩ (fun L M hp => ?_)
  have F := hp
  refine g_aload_n C dX7_heath_43 rfl (j := 0) rfl ?_
  refine g_callVV C (c_X7_changed_s10 l G F ) lk_X7_90 (F.mem 0 rfl) (F.at 0 rfl) rfl rfl dX7_heath_44 (Nat.le_of_ble_eq_true rfl) ⟨by decide, by decide⟩ ⟨by decide, by decide⟩ (fun L M hp => ?_)
  have F := hp
  refine g_aload_n C dX7_heath_47 rfl (j := 0) rfl ?_
  refine h_get C F 0 rfl fk_X7_19 dX7_heath_48 rfl ?_
  refine h_get C F 3 rfl fk_X7_93 dX7_heath_51 rfl ?_
  exact g_iret C hrt dX7_heath_54 (by decide) (by decide) ⟨by decide, F⟩
set_option maxHeartbeats 4000000 in
set_option maxRecDepth 100000 in
theorem c_X6_init_s11 (l : Launch) (G : va_G) {cy : Nat → ClassId} {L : List Nat} {M : Nat → va_E} {h : Nat} {fr : List (Nat × va_E)}  (F : FW L M ((h, .inr (6, [.null, .int 0, .int 0, .int 0, .int 0, .int 0, .int 0, .int 0])) :: fr))  : MV l G cy yX6_init cX6_init 1 none 1 1 800 [.ref h] L M (fun L2 M2 => ∃ (z2 : Nat), FW L2 M2 ((z2, .inl (cy 0, 800, .inl (fun _ => 0))) :: (h, .inr (6, [.ref z2, .int 0, .int 0, .int (-1), .int 0, .int 0, .int 0, .int 0])) :: fr)) := by
  refine MV.of (own := RX6) rfl (by decide) (Nat.le_of_ble_eq_true rfl) ?_
  intro p e s m below meth c A C hrt hnm
  refine g_aload_n C dX6_init_0 rfl (j := 0) rfl ?_
  refine g_objInit C wd162 wd156 wd157 dX6_init_1 (by decide) (Nat.le_of_ble_eq_true rfl) ?_
  refine g_aload_n C dX6_init_4 rfl (j := 0) rfl ?_
  refine g_sipush C dX6_init_5 (v := 800) (by decide) ?_
  refine h_newa C F (t0 := 0) rfl wd163 rfl (a0 := (800, .inl (fun _ => 0))) (fun _ => rfl) (by decide) (N := 800) (by decide) (by decide) (by decide) (by decide) dX6_init_8 (fun z2 L M F => ?_)
  refine g_widen (k1 := 1) (k2 := 800) (by decide) (by decide) ?_
  refine h_putF C F 1 rfl fk_X6_9 hnm (by intro K T N h; cases h; rfl) (by intro host T N h; cases h; exact nest_no (by decide +kernel) _ _ _ _) dX6_init_10 rfl rfl (Nat.le_of_ble_eq_true rfl) (fl2 := (z2, .inl (cy 0, 800, .inl (fun _ => 0))) :: (h, .inr (6, [.ref z2, .int 0, .int 0, .int 0, .int 0, .int 0, .int 0, .int 0])) :: fr) rfl (fun M F => ?_)
  refine g_aload_n C dX6_init_13 rfl (j := 0) rfl ?_
  refine g_iconst C dX6_init_14 (v := 0) (by decide) ?_
  refine h_put C F 1 rfl fk_X6_15 dX6_init_15 rfl rfl (Nat.le_of_ble_eq_true rfl) (fl2 := (z2, .inl (cy 0, 800, .inl (fun _ => 0))) :: (h, .inr (6, [.ref z2, .int 0, .int 0, .int 0, .int 0, .int 0, .int 0, .int 0])) :: fr) rfl (fun M F => ?_)
  refine g_aload_n C dX6_init_18 rfl (j := 0) rfl ?_
  refine g_iconst C dX6_init_19 (v := 0) (by decide) ?_
  refine h_put C F 1 rfl fk_X6_19 dX6_init_20 rfl rfl (Nat.le_of_ble_eq_true rfl) (fl2 := (z2, .inl (cy 0, 800, .inl (fun _ => 0))) :: (h, .inr (6, [.ref z2, .int 0, .int 0, .int 0, .int 0, .int 0, .int 0, .int 0])) :: fr) rfl (fun M F => ?_)
  refine g_aload_n C dX6_init_23 rfl (j := 0) rfl ?_
  refine g_iconst C dX6_init_24 (v := -1) (by decide) ?_
  refine h_put C F 1 rfl fk_X6_22 dX6_init_25 rfl rfl (Nat.le_of_ble_eq_true rfl) (fl2 := (z2, .inl (cy 0, 800, .inl (fun _ => 0))) :: (h, .inr (6, [.ref z2, .int 0, .int 0, .int (-1), .int 0, .int 0, .int 0, .int 0])) :: fr) rfl (fun M F => ?_)
  refine g_aload_n C dX6_init_28 rfl (j := 0) rfl ?_
  refine g_iconst C dX6_init_29 (v := 0) (by decide) ?_
  refine h_put C F 1 rfl fk_X6_25 dX6_init_30 rfl rfl (Nat.le_of_ble_eq_true rfl) (fl2 := (z2, .inl (cy 0, 800, .inl (fun _ => 0))) :: (h, .inr (6, [.ref z2, .int 0, .int 0, .int (-1), .int 0, .int 0, .int 0, .int 0])) :: fr) rfl (fun M F => ?_)
  refine g_aload_n C dX6_init_33 rfl (j := 0) rfl ?_
  refine g_iconst C dX6_init_34 (v := 0) (by decide) ?_
  refine h_put C F 1 rfl fk_X6_28 dX6_init_35 rfl rfl (Nat.le_of_ble_eq_true rfl) (fl2 := (z2, .inl (cy 0, 800, .inl (fun _ => 0))) :: (h, .inr (6, [.ref z2, .int 0, .int 0, .int (-1), .int 0, .int 0, .int 0, .int 0])) :: fr) rfl (fun M F => ?_)
  refine g_aload_n C dX6_init_38 rfl (j := 0) rfl ?_
  refine g_iconst C dX6_init_39 (v := 0) (by decide) ?_
  refine h_put C F 1 rfl fk_X6_31 dX6_init_40 rfl rfl (Nat.le_of_ble_eq_true rfl) (fl2 := (z2, .inl (cy 0, 800, .inl (fun _ => 0))) :: (h, .inr (6, [.ref z2, .int 0, .int 0, .int (-1), .int 0, .int 0, .int 0, .int 0])) :: fr) rfl (fun M F => ?_)
  refine g_aload_n C dX6_init_43 rfl (j := 0) rfl ?_
  refine g_iconst C dX6_init_44 (v := 0) (by decide) ?_
  refine h_put C F 1 rfl fk_X6_34 dX6_init_45 rfl rfl (Nat.le_of_ble_eq_true rfl) (fl2 := (z2, .inl (cy 0, 800, .inl (fun _ => 0))) :: (h, .inr (6, [.ref z2, .int 0, .int 0, .int (-1), .int 0, .int 0, .int 0, .int 0])) :: fr) rfl (fun M F => ?_)
  exact g_vret C hrt dX6_init_48 (by decide) (by decide) ⟨z2, F⟩
set_option maxHeartbeats 4000000 in
set_option maxRecDepth 100000 in
theorem c_X0_init_s12 (l : Launch) (G : va_G) {cy : Nat → ClassId} {L : List Nat} {M : Nat → va_E} {h : Nat} {fr : List (Nat × va_E)}  (F : FW L M ((h, .inr (0, [.int 0, .null, .null])) :: fr))  : MV l G cy yX0_init cX0_init 1 none 1 2 270 [.ref h] L M (fun L2 M2 => ∃ (z12 : Nat) (z13 : Nat), FW L2 M2 ((z13, .inl (cy 1, 240, .inl (fun _ => 0))) :: (z12, .inl (cy 1, 30, .inl (fun _ => 0))) :: (h, .inr (0, [.int 0, .ref z12, .ref z13])) :: fr)) := by
  refine MV.of (own := RX0) rfl (by decide) (Nat.le_of_ble_eq_true rfl) ?_
  intro p e s m below meth c A C hrt hnm
  refine g_aload_n C dX0_init_0 rfl (j := 0) rfl ?_
  refine g_objInit C wd175 wd156 wd157 dX0_init_1 (by decide) (Nat.le_of_ble_eq_true rfl) ?_
  refine g_aload_n C dX0_init_4 rfl (j := 0) rfl ?_
  refine g_iconst C dX0_init_5 (v := 0) (by decide) ?_
  refine h_put C F 0 rfl fk_X0_9 dX0_init_6 rfl rfl (Nat.le_of_ble_eq_true rfl) (fl2 := (h, .inr (0, [.int 0, .null, .null])) :: fr) rfl (fun M F => ?_)
  refine g_aload_n C dX0_init_9 rfl (j := 0) rfl ?_
  refine g_bipush C dX0_init_10 (v := 30) (by decide) ?_
  refine h_newa C F (t0 := 1) rfl wd170 rfl (a0 := (30, .inl (fun _ => 0))) (fun _ => rfl) (by decide) (N := 30) (by decide) (by decide) (by decide) (by decide) dX0_init_12 (fun z12 L M F => ?_)
  refine g_widen (k1 := 1) (k2 := 30) (by decide) (by decide) ?_
  refine h_putF C F 1 rfl fk_X0_15 hnm (by intro K T N h; cases h; rfl) (by intro host T N h; cases h; exact nest_no (by decide +kernel) _ _ _ _) dX0_init_14 rfl rfl (Nat.le_of_ble_eq_true rfl) (fl2 := (z12, .inl (cy 1, 30, .inl (fun _ => 0))) :: (h, .inr (0, [.int 0, .ref z12, .null])) :: fr) rfl (fun M F => ?_)
  refine g_aload_n C dX0_init_17 rfl (j := 0) rfl ?_
  refine g_sipush C dX0_init_18 (v := 240) (by decide) ?_
  refine h_newa C F (t0 := 1) rfl wd170 rfl (a0 := (240, .inl (fun _ => 0))) (fun _ => rfl) (by decide) (N := 240) (by decide) (by decide) (by decide) (by decide) dX0_init_21 (fun z13 L M F => ?_)
  refine g_widen (k1 := 2) (k2 := 270) (by decide) (by decide) ?_
  refine h_putF C F 2 rfl fk_X0_19 hnm (by intro K T N h; cases h; rfl) (by intro host T N h; cases h; exact nest_no (by decide +kernel) _ _ _ _) dX0_init_23 rfl rfl (Nat.le_of_ble_eq_true rfl) (fl2 := (z13, .inl (cy 1, 240, .inl (fun _ => 0))) :: (z12, .inl (cy 1, 30, .inl (fun _ => 0))) :: (h, .inr (0, [.int 0, .ref z12, .ref z13])) :: fr) rfl (fun M F => ?_)
  exact g_vret C hrt dX0_init_26 (by decide) (by decide) ⟨z12, z13, F⟩
set_option maxHeartbeats 4000000 in
set_option maxRecDepth 100000 in
theorem c_X2_init_s13 (l : Launch) (G : va_G) {cy : Nat → ClassId} {L : List Nat} {M : Nat → va_E} {h : Nat} {fr : List (Nat × va_E)}  (F : FW L M ((h, .inr (2, [.int 0, .int 0, .int 0, .int 0, .int 0, .int 0, .int 0, .int 0, .int 0, .null, .null, .null, .null, .null, .null, .null])) :: fr))  : MV l G cy yX2_init cX2_init 1 none 2 9 335 [.ref h] L M (fun L2 M2 => ∃ (z10 : Nat) (z11 : Nat) (z14 : Nat) (z15 : Nat) (z5 : Nat) (z6 : Nat) (z7 : Nat) (z8 : Nat) (z9 : Nat), FW L2 M2 ((z15, .inl (cy 1, 240, .inl (fun _ => 0))) :: (z14, .inl (cy 1, 30, .inl (fun _ => 0))) :: (z11, .inr (0, [.int 0, .ref z14, .ref z15])) :: (z10, .inl (cy 1, 8, .inl (fun _ => 0))) :: (z9, .inl (cy 1, 8, .inl (fun _ => 0))) :: (z8, .inl (cy 1, 7, .inl (fun _ => 0))) :: (z7, .inl (cy 1, 28, .inl (fun _ => 0))) :: (z6, .inl (cy 1, 7, .inl (fun _ => 0))) :: (z5, .inl (cy 1, 4, .inl (fun _ => 0))) :: (h, .inr (2, [.int 0, .int 0, .int 0, .int 0, .int 0, .int 0, .int 0, .int 0, .int 0, .ref z5, .ref z6, .ref z7, .ref z8, .ref z9, .ref z10, .ref z11])) :: fr)) := by
  refine MV.of (own := RX2) rfl (by decide) (Nat.le_of_ble_eq_true rfl) ?_
  intro p e s m below meth c A C hrt hnm
  refine g_aload_n C dX2_init_0 rfl (j := 0) rfl ?_
  refine g_objInit C wd169 wd156 wd157 dX2_init_1 (by decide) (Nat.le_of_ble_eq_true rfl) ?_
  refine g_aload_n C dX2_init_4 rfl (j := 0) rfl ?_
  refine g_iconst C dX2_init_5 (v := 0) (by decide) ?_
  refine h_put C F 0 rfl fk_X2_9 dX2_init_6 rfl rfl (Nat.le_of_ble_eq_true rfl) (fl2 := (h, .inr (2, [.int 0, .int 0, .int 0, .int 0, .int 0, .int 0, .int 0, .int 0, .int 0, .null, .null, .null, .null, .null, .null, .null])) :: fr) rfl (fun M F => ?_)
  refine g_aload_n C dX2_init_9 rfl (j := 0) rfl ?_
  refine g_iconst C dX2_init_10 (v := 0) (by decide) ?_
  refine h_put C F 0 rfl fk_X2_15 dX2_init_11 rfl rfl (Nat.le_of_ble_eq_true rfl) (fl2 := (h, .inr (2, [.int 0, .int 0, .int 0, .int 0, .int 0, .int 0, .int 0, .int 0, .int 0, .null, .null, .null, .null, .null, .null, .null])) :: fr) rfl (fun M F => ?_)
  refine g_aload_n C dX2_init_14 rfl (j := 0) rfl ?_
  refine g_iconst C dX2_init_15 (v := 0) (by decide) ?_
  refine h_put C F 0 rfl fk_X2_18 dX2_init_16 rfl rfl (Nat.le_of_ble_eq_true rfl) (fl2 := (h, .inr (2, [.int 0, .int 0, .int 0, .int 0, .int 0, .int 0, .int 0, .int 0, .int 0, .null, .null, .null, .null, .null, .null, .null])) :: fr) rfl (fun M F => ?_)
  refine g_aload_n C dX2_init_19 rfl (j := 0) rfl ?_
  refine g_iconst C dX2_init_20 (v := 0) (by decide) ?_
  refine h_put C F 0 rfl fk_X2_21 dX2_init_21 rfl rfl (Nat.le_of_ble_eq_true rfl) (fl2 := (h, .inr (2, [.int 0, .int 0, .int 0, .int 0, .int 0, .int 0, .int 0, .int 0, .int 0, .null, .null, .null, .null, .null, .null, .null])) :: fr) rfl (fun M F => ?_)
  refine g_aload_n C dX2_init_24 rfl (j := 0) rfl ?_
  refine g_iconst C dX2_init_25 (v := 0) (by decide) ?_
  refine h_put C F 0 rfl fk_X2_24 dX2_init_26 rfl rfl (Nat.le_of_ble_eq_true rfl) (fl2 := (h, .inr (2, [.int 0, .int 0, .int 0, .int 0, .int 0, .int 0, .int 0, .int 0, .int 0, .null, .null, .null, .null, .null, .null, .null])) :: fr) rfl (fun M F => ?_)
  refine g_aload_n C dX2_init_29 rfl (j := 0) rfl ?_
  refine g_iconst C dX2_init_30 (v := 0) (by decide) ?_
  refine h_put C F 0 rfl fk_X2_27 dX2_init_31 rfl rfl (Nat.le_of_ble_eq_true rfl) (fl2 := (h, .inr (2, [.int 0, .int 0, .int 0, .int 0, .int 0, .int 0, .int 0, .int 0, .int 0, .null, .null, .null, .null, .null, .null, .null])) :: fr) rfl (fun M F => ?_)
  refine g_aload_n C dX2_init_34 rfl (j := 0) rfl ?_
  refine g_iconst C dX2_init_35 (v := 0) (by decide) ?_
  refine h_put C F 0 rfl fk_X2_30 dX2_init_36 rfl rfl (Nat.le_of_ble_eq_true rfl) (fl2 := (h, .inr (2, [.int 0, .int 0, .int 0, .int 0, .int 0, .int 0, .int 0, .int 0, .int 0, .null, .null, .null, .null, .null, .null, .null])) :: fr) rfl (fun M F => ?_)
  refine g_aload_n C dX2_init_39 rfl (j := 0) rfl ?_
  refine g_iconst C dX2_init_40 (v := 0) (by decide) ?_
  refine h_put C F 0 rfl fk_X2_33 dX2_init_41 rfl rfl (Nat.le_of_ble_eq_true rfl) (fl2 := (h, .inr (2, [.int 0, .int 0, .int 0, .int 0, .int 0, .int 0, .int 0, .int 0, .int 0, .null, .null, .null, .null, .null, .null, .null])) :: fr) rfl (fun M F => ?_)
  refine g_aload_n C dX2_init_44 rfl (j := 0) rfl ?_
  refine g_iconst C dX2_init_45 (v := 0) (by decide) ?_
  refine h_put C F 0 rfl fk_X2_36 dX2_init_46 rfl rfl (Nat.le_of_ble_eq_true rfl) (fl2 := (h, .inr (2, [.int 0, .int 0, .int 0, .int 0, .int 0, .int 0, .int 0, .int 0, .int 0, .null, .null, .null, .null, .null, .null, .null])) :: fr) rfl (fun M F => ?_)
  refine g_aload_n C dX2_init_49 rfl (j := 0) rfl ?_
  refine g_iconst C dX2_init_50 (v := 4) (by decide) ?_
  refine h_newa C F (t0 := 1) rfl wd170 rfl (a0 := (4, .inl (fun _ => 0))) (fun _ => rfl) (by decide) (N := 4) (by decide) (by decide) (by decide) (by decide) dX2_init_51 (fun z5 L M F => ?_)
  refine g_widen (k1 := 1) (k2 := 4) (by decide) (by decide) ?_
  refine h_putF C F 1 rfl fk_X2_39 hnm (by intro K T N h; cases h; rfl) (by intro host T N h; cases h; exact nest_no (by decide +kernel) _ _ _ _) dX2_init_53 rfl rfl (Nat.le_of_ble_eq_true rfl) (fl2 := (z5, .inl (cy 1, 4, .inl (fun _ => 0))) :: (h, .inr (2, [.int 0, .int 0, .int 0, .int 0, .int 0, .int 0, .int 0, .int 0, .int 0, .ref z5, .null, .null, .null, .null, .null, .null])) :: fr) rfl (fun M F => ?_)
  refine g_aload_n C dX2_init_56 rfl (j := 0) rfl ?_
  refine g_bipush C dX2_init_57 (v := 7) (by decide) ?_
  refine h_newa C F (t0 := 1) rfl wd170 rfl (a0 := (7, .inl (fun _ => 0))) (fun _ => rfl) (by decide) (N := 7) (by decide) (by decide) (by decide) (by decide) dX2_init_59 (fun z6 L M F => ?_)
  refine g_widen (k1 := 2) (k2 := 11) (by decide) (by decide) ?_
  refine h_putF C F 2 rfl fk_X2_43 hnm (by intro K T N h; cases h; rfl) (by intro host T N h; cases h; exact nest_no (by decide +kernel) _ _ _ _) dX2_init_61 rfl rfl (Nat.le_of_ble_eq_true rfl) (fl2 := (z6, .inl (cy 1, 7, .inl (fun _ => 0))) :: (z5, .inl (cy 1, 4, .inl (fun _ => 0))) :: (h, .inr (2, [.int 0, .int 0, .int 0, .int 0, .int 0, .int 0, .int 0, .int 0, .int 0, .ref z5, .ref z6, .null, .null, .null, .null, .null])) :: fr) rfl (fun M F => ?_)
  refine g_aload_n C dX2_init_64 rfl (j := 0) rfl ?_
  refine g_bipush C dX2_init_65 (v := 28) (by decide) ?_
  refine h_newa C F (t0 := 1) rfl wd170 rfl (a0 := (28, .inl (fun _ => 0))) (fun _ => rfl) (by decide) (N := 28) (by decide) (by decide) (by decide) (by decide) dX2_init_67 (fun z7 L M F => ?_)
  refine g_widen (k1 := 3) (k2 := 39) (by decide) (by decide) ?_
  refine h_putF C F 3 rfl fk_X2_46 hnm (by intro K T N h; cases h; rfl) (by intro host T N h; cases h; exact nest_no (by decide +kernel) _ _ _ _) dX2_init_69 rfl rfl (Nat.le_of_ble_eq_true rfl) (fl2 := (z7, .inl (cy 1, 28, .inl (fun _ => 0))) :: (z6, .inl (cy 1, 7, .inl (fun _ => 0))) :: (z5, .inl (cy 1, 4, .inl (fun _ => 0))) :: (h, .inr (2, [.int 0, .int 0, .int 0, .int 0, .int 0, .int 0, .int 0, .int 0, .int 0, .ref z5, .ref z6, .ref z7, .null, .null, .null, .null])) :: fr) rfl (fun M F => ?_)
  refine g_aload_n C dX2_init_72 rfl (j := 0) rfl ?_
  refine g_bipush C dX2_init_73 (v := 7) (by decide) ?_
  refine h_newa C F (t0 := 1) rfl wd170 rfl (a0 := (7, .inl (fun _ => 0))) (fun _ => rfl) (by decide) (N := 7) (by decide) (by decide) (by decide) (by decide) dX2_init_75 (fun z8 L M F => ?_)
  refine g_widen (k1 := 4) (k2 := 46) (by decide) (by decide) ?_
  refine h_putF C F 4 rfl fk_X2_49 hnm (by intro K T N h; cases h; rfl) (by intro host T N h; cases h; exact nest_no (by decide +kernel) _ _ _ _) dX2_init_77 rfl rfl (Nat.le_of_ble_eq_true rfl) (fl2 := (z8, .inl (cy 1, 7, .inl (fun _ => 0))) :: (z7, .inl (cy 1, 28, .inl (fun _ => 0))) :: (z6, .inl (cy 1, 7, .inl (fun _ => 0))) :: (z5, .inl (cy 1, 4, .inl (fun _ => 0))) :: (h, .inr (2, [.int 0, .int 0, .int 0, .int 0, .int 0, .int 0, .int 0, .int 0, .int 0, .ref z5, .ref z6, .ref z7, .ref z8, .null, .null, .null])) :: fr) rfl (fun M F => ?_)
  refine g_aload_n C dX2_init_80 rfl (j := 0) rfl ?_
  refine g_bipush C dX2_init_81 (v := 8) (by decide) ?_
  refine h_newa C F (t0 := 1) rfl wd170 rfl (a0 := (8, .inl (fun _ => 0))) (fun _ => rfl) (by decide) (N := 8) (by decide) (by decide) (by decide) (by decide) dX2_init_83 (fun z9 L M F => ?_)
  refine g_widen (k1 := 5) (k2 := 54) (by decide) (by decide) ?_
  refine h_putF C F 5 rfl fk_X2_52 hnm (by intro K T N h; cases h; rfl) (by intro host T N h; cases h; exact nest_no (by decide +kernel) _ _ _ _) dX2_init_85 rfl rfl (Nat.le_of_ble_eq_true rfl) (fl2 := (z9, .inl (cy 1, 8, .inl (fun _ => 0))) :: (z8, .inl (cy 1, 7, .inl (fun _ => 0))) :: (z7, .inl (cy 1, 28, .inl (fun _ => 0))) :: (z6, .inl (cy 1, 7, .inl (fun _ => 0))) :: (z5, .inl (cy 1, 4, .inl (fun _ => 0))) :: (h, .inr (2, [.int 0, .int 0, .int 0, .int 0, .int 0, .int 0, .int 0, .int 0, .int 0, .ref z5, .ref z6, .ref z7, .ref z8, .ref z9, .null, .null])) :: fr) rfl (fun M F => ?_)
  refine g_aload_n C dX2_init_88 rfl (j := 0) rfl ?_
  refine g_bipush C dX2_init_89 (v := 8) (by decide) ?_
  refine h_newa C F (t0 := 1) rfl wd170 rfl (a0 := (8, .inl (fun _ => 0))) (fun _ => rfl) (by decide) (N := 8) (by decide) (by decide) (by decide) (by decide) dX2_init_91 (fun z10 L M F => ?_)
  refine g_widen (k1 := 6) (k2 := 62) (by decide) (by decide) ?_
  refine h_putF C F 6 rfl fk_X2_55 hnm (by intro K T N h; cases h; rfl) (by intro host T N h; cases h; exact nest_no (by decide +kernel) _ _ _ _) dX2_init_93 rfl rfl (Nat.le_of_ble_eq_true rfl) (fl2 := (z10, .inl (cy 1, 8, .inl (fun _ => 0))) :: (z9, .inl (cy 1, 8, .inl (fun _ => 0))) :: (z8, .inl (cy 1, 7, .inl (fun _ => 0))) :: (z7, .inl (cy 1, 28, .inl (fun _ => 0))) :: (z6, .inl (cy 1, 7, .inl (fun _ => 0))) :: (z5, .inl (cy 1, 4, .inl (fun _ => 0))) :: (h, .inr (2, [.int 0, .int 0, .int 0, .int 0, .int 0, .int 0, .int 0, .int 0, .int 0, .ref z5, .ref z6, .ref z7, .ref z8, .ref z9, .ref z10, .null])) :: fr) rfl (fun M F => ?_)
  refine g_aload_n C dX2_init_96 rfl (j := 0) rfl ?_
  refine h_new C F clX0 wd171 wd172 wd88 (fs := [.int 0, .null, .null]) (by decide) (by decide) (by decide) dX2_init_97 (fun z11 L M F => ?_)
  refine g_widen (k1 := 7) (k2 := 65) (by decide) (by decide) ?_
  refine g_dup C dX2_init_100 rfl ?_
  refine g_callI C (c_X0_init_s12 l G F ) lk_X2_60 rfl rfl dX2_init_101 (Nat.le_of_ble_eq_true rfl) ⟨by decide, by decide⟩ ⟨by decide, by decide⟩ (fun L M hp => ?_)
  obtain ⟨z14, z15, F⟩ := hp
  refine g_widen (k1 := 9) (k2 := 335) (by decide) (by decide) ?_
  refine h_putF C F 9 rfl fk_X2_61 hnm (by intro K T N h; cases h; rfl) (by intro host T N h; cases h; exact nest_no (by decide +kernel) _ _ _ _) dX2_init_104 rfl rfl (Nat.le_of_ble_eq_true rfl) (fl2 := (z15, .inl (cy 1, 240, .inl (fun _ => 0))) :: (z14, .inl (cy 1, 30, .inl (fun _ => 0))) :: (z11, .inr (0, [.int 0, .ref z14, .ref z15])) :: (z10, .inl (cy 1, 8, .inl (fun _ => 0))) :: (z9, .inl (cy 1, 8, .inl (fun _ => 0))) :: (z8, .inl (cy 1, 7, .inl (fun _ => 0))) :: (z7, .inl (cy 1, 28, .inl (fun _ => 0))) :: (z6, .inl (cy 1, 7, .inl (fun _ => 0))) :: (z5, .inl (cy 1, 4, .inl (fun _ => 0))) :: (h, .inr (2, [.int 0, .int 0, .int 0, .int 0, .int 0, .int 0, .int 0, .int 0, .int 0, .ref z5, .ref z6, .ref z7, .ref z8, .ref z9, .ref z10, .ref z11])) :: fr) rfl (fun M F => ?_)
  exact g_vret C hrt dX2_init_107 (by decide) (by decide) ⟨z10, z11, z14, z15, z5, z6, z7, z8, z9, F⟩
set_option maxHeartbeats 4000000 in
set_option maxRecDepth 100000 in
theorem c_X4_init_s14 (l : Launch) (G : va_G) {cy : Nat → ClassId} {L : List Nat} {M : Nat → va_E} {h : Nat} {fr : List (Nat × va_E)}  (F : FW L M ((h, .inr (4, [.null, .int 0, .int 0, .int 0, .null, .null, .null, .null, .null])) :: fr)) (h1 : Nat) : MV l G cy yX4_init cX4_init 2 none 1 5 403 [.ref h, .ref h1] L M (fun L2 M2 => ∃ (z38 : Nat) (z39 : Nat) (z40 : Nat) (z41 : Nat) (z42 : Nat), FW L2 M2 ((z42, .inl (cy 1, 4, .inl (fun _ => 0))) :: (z41, .inl (cy 1, 136, .inl (fun _ => 0))) :: (z40, .inl (cy 1, 119, .inl (fun _ => 0))) :: (z39, .inl (cy 1, 136, .inl (fun _ => 0))) :: (z38, .inl (cy 1, 8, .inl (fun _ => 0))) :: (h, .inr (4, [.ref h1, .int 0, .int 127, .int 0, .ref z38, .ref z39, .ref z40, .ref z41, .ref z42])) :: fr)) := by
  refine MV.of (own := RX4) rfl (by decide) (Nat.le_of_ble_eq_true rfl) ?_
  intro p e s m below meth c A C hrt hnm
  refine g_aload_n C dX4_init_0 rfl (j := 0) rfl ?_
  refine g_objInit C wd184 wd156 wd157 dX4_init_1 (by decide) (Nat.le_of_ble_eq_true rfl) ?_
  refine g_aload_n C dX4_init_4 rfl (j := 0) rfl ?_
  refine g_iconst C dX4_init_5 (v := 0) (by decide) ?_
  refine h_put C F 0 rfl fk_X4_9 dX4_init_6 rfl rfl (Nat.le_of_ble_eq_true rfl) (fl2 := (h, .inr (4, [.null, .int 0, .int 0, .int 0, .null, .null, .null, .null, .null])) :: fr) rfl (fun M F => ?_)
  refine g_aload_n C dX4_init_9 rfl (j := 0) rfl ?_
  refine g_bipush C dX4_init_10 (v := 127) (by decide) ?_
  refine h_put C F 0 rfl fk_X4_15 dX4_init_12 rfl rfl (Nat.le_of_ble_eq_true rfl) (fl2 := (h, .inr (4, [.null, .int 0, .int 127, .int 0, .null, .null, .null, .null, .null])) :: fr) rfl (fun M F => ?_)
  refine g_aload_n C dX4_init_15 rfl (j := 0) rfl ?_
  refine g_iconst C dX4_init_16 (v := 0) (by decide) ?_
  refine h_put C F 0 rfl fk_X4_18 dX4_init_17 rfl rfl (Nat.le_of_ble_eq_true rfl) (fl2 := (h, .inr (4, [.null, .int 0, .int 127, .int 0, .null, .null, .null, .null, .null])) :: fr) rfl (fun M F => ?_)
  refine g_aload_n C dX4_init_20 rfl (j := 0) rfl ?_
  refine g_bipush C dX4_init_21 (v := 8) (by decide) ?_
  refine h_newa C F (t0 := 1) rfl wd170 rfl (a0 := (8, .inl (fun _ => 0))) (fun _ => rfl) (by decide) (N := 8) (by decide) (by decide) (by decide) (by decide) dX4_init_23 (fun z38 L M F => ?_)
  refine g_widen (k1 := 1) (k2 := 8) (by decide) (by decide) ?_
  refine h_putF C F 1 rfl fk_X4_21 hnm (by intro K T N h; cases h; rfl) (by intro host T N h; cases h; exact nest_no (by decide +kernel) _ _ _ _) dX4_init_25 rfl rfl (Nat.le_of_ble_eq_true rfl) (fl2 := (z38, .inl (cy 1, 8, .inl (fun _ => 0))) :: (h, .inr (4, [.null, .int 0, .int 127, .int 0, .ref z38, .null, .null, .null, .null])) :: fr) rfl (fun M F => ?_)
  refine g_aload_n C dX4_init_28 rfl (j := 0) rfl ?_
  refine g_sipush C dX4_init_29 (v := 136) (by decide) ?_
  refine h_newa C F (t0 := 1) rfl wd170 rfl (a0 := (136, .inl (fun _ => 0))) (fun _ => rfl) (by decide) (N := 136) (by decide) (by decide) (by decide) (by decide) dX4_init_32 (fun z39 L M F => ?_)
  refine g_widen (k1 := 2) (k2 := 144) (by decide) (by decide) ?_
  refine h_putF C F 2 rfl fk_X4_25 hnm (by intro K T N h; cases h; rfl) (by intro host T N h; cases h; exact nest_no (by decide +kernel) _ _ _ _) dX4_init_34 rfl rfl (Nat.le_of_ble_eq_true rfl) (fl2 := (z39, .inl (cy 1, 136, .inl (fun _ => 0))) :: (z38, .inl (cy 1, 8, .inl (fun _ => 0))) :: (h, .inr (4, [.null, .int 0, .int 127, .int 0, .ref z38, .ref z39, .null, .null, .null])) :: fr) rfl (fun M F => ?_)
  refine g_aload_n C dX4_init_37 rfl (j := 0) rfl ?_
  refine g_bipush C dX4_init_38 (v := 119) (by decide) ?_
  refine h_newa C F (t0 := 1) rfl wd170 rfl (a0 := (119, .inl (fun _ => 0))) (fun _ => rfl) (by decide) (N := 119) (by decide) (by decide) (by decide) (by decide) dX4_init_40 (fun z40 L M F => ?_)
  refine g_widen (k1 := 3) (k2 := 263) (by decide) (by decide) ?_
  refine h_putF C F 3 rfl fk_X4_28 hnm (by intro K T N h; cases h; rfl) (by intro host T N h; cases h; exact nest_no (by decide +kernel) _ _ _ _) dX4_init_42 rfl rfl (Nat.le_of_ble_eq_true rfl) (fl2 := (z40, .inl (cy 1, 119, .inl (fun _ => 0))) :: (z39, .inl (cy 1, 136, .inl (fun _ => 0))) :: (z38, .inl (cy 1, 8, .inl (fun _ => 0))) :: (h, .inr (4, [.null, .int 0, .int 127, .int 0, .ref z38, .ref z39, .ref z40, .null, .null])) :: fr) rfl (fun M F => ?_)
  refine g_aload_n C dX4_init_45 rfl (j := 0) rfl ?_
  refine g_sipush C dX4_init_46 (v := 136) (by decide) ?_
  refine h_newa C F (t0 := 1) rfl wd170 rfl (a0 := (136, .inl (fun _ => 0))) (fun _ => rfl) (by decide) (N := 136) (by decide) (by decide) (by decide) (by decide) dX4_init_49 (fun z41 L M F => ?_)
  refine g_widen (k1 := 4) (k2 := 399) (by decide) (by decide) ?_
  refine h_putF C F 4 rfl fk_X4_31 hnm (by intro K T N h; cases h; rfl) (by intro host T N h; cases h; exact nest_no (by decide +kernel) _ _ _ _) dX4_init_51 rfl rfl (Nat.le_of_ble_eq_true rfl) (fl2 := (z41, .inl (cy 1, 136, .inl (fun _ => 0))) :: (z40, .inl (cy 1, 119, .inl (fun _ => 0))) :: (z39, .inl (cy 1, 136, .inl (fun _ => 0))) :: (z38, .inl (cy 1, 8, .inl (fun _ => 0))) :: (h, .inr (4, [.null, .int 0, .int 127, .int 0, .ref z38, .ref z39, .ref z40, .ref z41, .null])) :: fr) rfl (fun M F => ?_)
  refine g_aload_n C dX4_init_54 rfl (j := 0) rfl ?_
  refine g_iconst C dX4_init_55 (v := 4) (by decide) ?_
  refine h_newa C F (t0 := 1) rfl wd170 rfl (a0 := (4, .inl (fun _ => 0))) (fun _ => rfl) (by decide) (N := 4) (by decide) (by decide) (by decide) (by decide) dX4_init_56 (fun z42 L M F => ?_)
  refine g_widen (k1 := 5) (k2 := 403) (by decide) (by decide) ?_
  refine h_putF C F 5 rfl fk_X4_34 hnm (by intro K T N h; cases h; rfl) (by intro host T N h; cases h; exact nest_no (by decide +kernel) _ _ _ _) dX4_init_58 rfl rfl (Nat.le_of_ble_eq_true rfl) (fl2 := (z42, .inl (cy 1, 4, .inl (fun _ => 0))) :: (z41, .inl (cy 1, 136, .inl (fun _ => 0))) :: (z40, .inl (cy 1, 119, .inl (fun _ => 0))) :: (z39, .inl (cy 1, 136, .inl (fun _ => 0))) :: (z38, .inl (cy 1, 8, .inl (fun _ => 0))) :: (h, .inr (4, [.null, .int 0, .int 127, .int 0, .ref z38, .ref z39, .ref z40, .ref z41, .ref z42])) :: fr) rfl (fun M F => ?_)
  refine g_aload_n C dX4_init_61 rfl (j := 0) rfl ?_
  refine g_aload_n C dX4_init_62 rfl (j := 1) rfl ?_
  refine h_putF C F 5 rfl fk_X4_37 hnm (by intro K T N h; cases h; rfl) (by intro host T N h; cases h; exact nest_no (by decide +kernel) _ _ _ _) dX4_init_63 rfl rfl (Nat.le_of_ble_eq_true rfl) (fl2 := (z42, .inl (cy 1, 4, .inl (fun _ => 0))) :: (z41, .inl (cy 1, 136, .inl (fun _ => 0))) :: (z40, .inl (cy 1, 119, .inl (fun _ => 0))) :: (z39, .inl (cy 1, 136, .inl (fun _ => 0))) :: (z38, .inl (cy 1, 8, .inl (fun _ => 0))) :: (h, .inr (4, [.ref h1, .int 0, .int 127, .int 0, .ref z38, .ref z39, .ref z40, .ref z41, .ref z42])) :: fr) rfl (fun M F => ?_)
  exact g_vret C hrt dX4_init_66 (by decide) (by decide) ⟨z38, z39, z40, z41, z42, F⟩
set_option maxHeartbeats 4000000 in
set_option maxRecDepth 100000 in
theorem c_X3_init_s15 (l : Launch) (G : va_G) {cy : Nat → ClassId} {L : List Nat} {M : Nat → va_E} {h : Nat} {fr : List (Nat × va_E)}  (F : FW L M ((h, .inr (3, [.null, .null, .int 0])) :: fr)) (h1 : Nat) : MV l G cy yX3_init cX3_init 2 none 1 1 7 [.ref h, .ref h1] L M (fun L2 M2 => ∃ (z55 : Nat), FW L2 M2 ((z55, .inl (cy 1, 7, .inl (fun _ => 0))) :: (h, .inr (3, [.ref h1, .ref z55, .int 0])) :: fr)) := by
  refine MV.of (own := RX3) rfl (by decide) (Nat.le_of_ble_eq_true rfl) ?_
  intro p e s m below meth c A C hrt hnm
  refine g_aload_n C dX3_init_0 rfl (j := 0) rfl ?_
  refine g_objInit C wd195 wd156 wd157 dX3_init_1 (by decide) (Nat.le_of_ble_eq_true rfl) ?_
  refine g_aload_n C dX3_init_4 rfl (j := 0) rfl ?_
  refine g_bipush C dX3_init_5 (v := 7) (by decide) ?_
  refine h_newa C F (t0 := 1) rfl wd170 rfl (a0 := (7, .inl (fun _ => 0))) (fun _ => rfl) (by decide) (N := 7) (by decide) (by decide) (by decide) (by decide) dX3_init_7 (fun z55 L M F => ?_)
  refine g_widen (k1 := 1) (k2 := 7) (by decide) (by decide) ?_
  refine h_putF C F 1 rfl fk_X3_9 hnm (by intro K T N h; cases h; rfl) (by intro host T N h; cases h; exact nest_no (by decide +kernel) _ _ _ _) dX3_init_9 rfl rfl (Nat.le_of_ble_eq_true rfl) (fl2 := (z55, .inl (cy 1, 7, .inl (fun _ => 0))) :: (h, .inr (3, [.null, .ref z55, .int 0])) :: fr) rfl (fun M F => ?_)
  refine g_aload_n C dX3_init_12 rfl (j := 0) rfl ?_
  refine g_iconst C dX3_init_13 (v := 0) (by decide) ?_
  refine h_put C F 1 rfl fk_X3_15 dX3_init_14 rfl rfl (Nat.le_of_ble_eq_true rfl) (fl2 := (z55, .inl (cy 1, 7, .inl (fun _ => 0))) :: (h, .inr (3, [.null, .ref z55, .int 0])) :: fr) rfl (fun M F => ?_)
  refine g_aload_n C dX3_init_17 rfl (j := 0) rfl ?_
  refine g_aload_n C dX3_init_18 rfl (j := 1) rfl ?_
  refine h_putF C F 1 rfl fk_X3_19 hnm (by intro K T N h; cases h; rfl) (by intro host T N h; cases h; exact nest_no (by decide +kernel) _ _ _ _) dX3_init_19 rfl rfl (Nat.le_of_ble_eq_true rfl) (fl2 := (z55, .inl (cy 1, 7, .inl (fun _ => 0))) :: (h, .inr (3, [.ref h1, .ref z55, .int 0])) :: fr) rfl (fun M F => ?_)
  exact g_vret C hrt dX3_init_22 (by decide) (by decide) ⟨z55, F⟩
set_option maxHeartbeats 4000000 in
set_option maxRecDepth 100000 in
theorem c_X1_init_s16 (l : Launch) (G : va_G) {cy : Nat → ClassId} {L : List Nat} {M : Nat → va_E} {h : Nat} {fr : List (Nat × va_E)}  (F : FW L M ((h, .inr (1, [.null, .int 0, .null, .long 0])) :: fr)) (h1 : Nat) : MV l G cy yX1_init cX1_init 2 none 1 1 8 [.ref h, .ref h1] L M (fun L2 M2 => ∃ (z58 : Nat), FW L2 M2 ((z58, .inl (cy 2, 8, .inr (.inl (fun _ => 0)))) :: (h, .inr (1, [.ref h1, .int (-1), .ref z58, .long 1])) :: fr)) := by
  refine MV.of (own := RX1) rfl (by decide) (Nat.le_of_ble_eq_true rfl) ?_
  intro p e s m below meth c A C hrt hnm
  refine g_aload_n C dX1_init_0 rfl (j := 0) rfl ?_
  refine g_objInit C wd205 wd156 wd157 dX1_init_1 (by decide) (Nat.le_of_ble_eq_true rfl) ?_
  refine g_aload_n C dX1_init_4 rfl (j := 0) rfl ?_
  refine g_iconst C dX1_init_5 (v := -1) (by decide) ?_
  refine h_put C F 0 rfl fk_X1_9 dX1_init_6 rfl rfl (Nat.le_of_ble_eq_true rfl) (fl2 := (h, .inr (1, [.null, .int (-1), .null, .long 0])) :: fr) rfl (fun M F => ?_)
  refine g_aload_n C dX1_init_9 rfl (j := 0) rfl ?_
  refine g_bipush C dX1_init_10 (v := 8) (by decide) ?_
  refine h_newa C F (t0 := 2) rfl wd206 rfl (a0 := (8, .inr (.inl (fun _ => 0)))) (fun _ => rfl) (by decide) (N := 8) (by decide) (by decide) (by decide) (by decide) dX1_init_12 (fun z58 L M F => ?_)
  refine g_widen (k1 := 1) (k2 := 8) (by decide) (by decide) ?_
  refine h_putF C F 1 rfl fk_X1_15 hnm (by intro K T N h; cases h; rfl) (by intro host T N h; cases h; exact nest_no (by decide +kernel) _ _ _ _) dX1_init_14 rfl rfl (Nat.le_of_ble_eq_true rfl) (fl2 := (z58, .inl (cy 2, 8, .inr (.inl (fun _ => 0)))) :: (h, .inr (1, [.null, .int (-1), .ref z58, .long 0])) :: fr) rfl (fun M F => ?_)
  refine g_aload_n C dX1_init_17 rfl (j := 0) rfl ?_
  refine g_lconst C dX1_init_18 (v := 1) (by decide) ?_
  refine h_put C F 1 rfl fk_X1_19 dX1_init_19 rfl rfl (Nat.le_of_ble_eq_true rfl) (fl2 := (z58, .inl (cy 2, 8, .inr (.inl (fun _ => 0)))) :: (h, .inr (1, [.null, .int (-1), .ref z58, .long 1])) :: fr) rfl (fun M F => ?_)
  refine g_aload_n C dX1_init_22 rfl (j := 0) rfl ?_
  refine g_aload_n C dX1_init_23 rfl (j := 1) rfl ?_
  refine h_putF C F 1 rfl fk_X1_23 hnm (by intro K T N h; cases h; rfl) (by intro host T N h; cases h; exact nest_no (by decide +kernel) _ _ _ _) dX1_init_24 rfl rfl (Nat.le_of_ble_eq_true rfl) (fl2 := (z58, .inl (cy 2, 8, .inr (.inl (fun _ => 0)))) :: (h, .inr (1, [.ref h1, .int (-1), .ref z58, .long 1])) :: fr) rfl (fun M F => ?_)
  exact g_vret C hrt dX1_init_27 (by decide) (by decide) ⟨z58, F⟩
set_option maxHeartbeats 4000000 in
set_option maxRecDepth 100000 in
theorem c_X7_init (l : Launch) (G : va_G) {cy : Nat → ClassId} {L : List Nat} {M : Nat → va_E} {h : Nat} {fr : List (Nat × va_E)} (F : FW L M ((h, .inr (7, [.null, .null, .null, .null, .null, .null, .null, .null, .null, .null, .int 0, .null])) :: fr))  : MV l G cy yX7_init cX7_init 1 none 3 42 3035 [.ref h] L M (fun L2 M2 => ∃ a : Nat → Nat, a 0 = h ∧ FW L2 M2 (flC cy a ++ fr)) := by
  refine MV.of (own := RX7) rfl (by decide) (Nat.le_of_ble_eq_true rfl) ?_
  intro p e s m below meth c A C hrt hnm
  refine g_aload_n C dX7_init_0 rfl (j := 0) rfl ?_
  refine g_objInit C wd155 wd156 wd157 dX7_init_1 (by decide) (Nat.le_of_ble_eq_true rfl) ?_
  refine g_aload_n C dX7_init_4 rfl (j := 0) rfl ?_
  refine h_new C F clX6 wd158 wd159 wd67 (fs := [.null, .int 0, .int 0, .int 0, .int 0, .int 0, .int 0, .int 0]) (by decide) (by decide) (by decide) dX7_init_5 (fun z1 L M F => ?_)
  refine g_widen (k1 := 1) (k2 := 8) (by decide) (by decide) ?_
  refine g_dup C dX7_init_8 rfl ?_
  refine g_callI C (c_X6_init_s11 l G F ) lk_X7_11 rfl rfl dX7_init_9 (Nat.le_of_ble_eq_true rfl) ⟨by decide, by decide⟩ ⟨by decide, by decide⟩ (fun L M hp => ?_)
  obtain ⟨z3, F⟩ := hp
  refine g_widen (k1 := 2) (k2 := 808) (by decide) (by decide) ?_
  refine h_putF C F 2 rfl fk_X7_12 hnm (by intro K T N h; cases h; rfl) (by intro host T N h; cases h; exact nest_no (by decide +kernel) _ _ _ _) dX7_init_12 rfl rfl (Nat.le_of_ble_eq_true rfl) (fl2 := (z3, .inl (cy 0, 800, .inl (fun _ => 0))) :: (z1, .inr (6, [.ref z3, .int 0, .int 0, .int (-1), .int 0, .int 0, .int 0, .int 0])) :: (h, .inr (7, [.ref z1, .null, .null, .null, .null, .null, .null, .null, .null, .null, .int 0, .null])) :: fr) rfl (fun M F => ?_)
  refine g_aload_n C dX7_init_15 rfl (j := 0) rfl ?_
  refine h_new C F clX2 wd165 wd166 wd6 (fs := [.int 0, .int 0, .int 0, .int 0, .int 0, .int 0, .int 0, .int 0, .int 0, .null, .null, .null, .null, .null, .null, .null]) (by decide) (by decide) (by decide) dX7_init_16 (fun z4 L M F => ?_)
  refine g_widen (k1 := 3) (k2 := 824) (by decide) (by decide) ?_
  refine g_dup C dX7_init_19 rfl ?_
  refine g_callI C (c_X2_init_s13 l G F ) lk_X7_18 rfl rfl dX7_init_20 (Nat.le_of_ble_eq_true rfl) ⟨by decide, by decide⟩ ⟨by decide, by decide⟩ (fun L M hp => ?_)
  obtain ⟨z16, z17, z18, z19, z20, z21, z22, z23, z24, F⟩ := hp
  refine g_widen (k1 := 12) (k2 := 1159) (by decide) (by decide) ?_
  refine h_putF C F 12 rfl fk_X7_19 hnm (by intro K T N h; cases h; rfl) (by intro host T N h; cases h; exact nest_no (by decide +kernel) _ _ _ _) dX7_init_23 rfl rfl (Nat.le_of_ble_eq_true rfl) (fl2 := (z19, .inl (cy 1, 240, .inl (fun _ => 0))) :: (z18, .inl (cy 1, 30, .inl (fun _ => 0))) :: (z17, .inr (0, [.int 0, .ref z18, .ref z19])) :: (z16, .inl (cy 1, 8, .inl (fun _ => 0))) :: (z24, .inl (cy 1, 8, .inl (fun _ => 0))) :: (z23, .inl (cy 1, 7, .inl (fun _ => 0))) :: (z22, .inl (cy 1, 28, .inl (fun _ => 0))) :: (z21, .inl (cy 1, 7, .inl (fun _ => 0))) :: (z20, .inl (cy 1, 4, .inl (fun _ => 0))) :: (z4, .inr (2, [.int 0, .int 0, .int 0, .int 0, .int 0, .int 0, .int 0, .int 0, .int 0, .ref z20, .ref z21, .ref z22, .ref z23, .ref z24, .ref z16, .ref z17])) :: (z3, .inl (cy 0, 800, .inl (fun _ => 0))) :: (z1, .inr (6, [.ref z3, .int 0, .int 0, .int (-1), .int 0, .int 0, .int 0, .int 0])) :: (h, .inr (7, [.ref z1, .ref z4, .null, .null, .null, .null, .null, .null, .null, .null, .int 0, .null])) :: fr) rfl (fun M F => ?_)
  refine g_aload_n C dX7_init_26 rfl (j := 0) rfl ?_
  refine h_new C F clX2 wd165 wd166 wd6 (fs := [.int 0, .int 0, .int 0, .int 0, .int 0, .int 0, .int 0, .int 0, .int 0, .null, .null, .null, .null, .null, .null, .null]) (by decide) (by decide) (by decide) dX7_init_27 (fun z25 L M F => ?_)
  refine g_widen (k1 := 13) (k2 := 1175) (by decide) (by decide) ?_
  refine g_dup C dX7_init_30 rfl ?_
  refine g_callI C (c_X2_init_s13 l G F ) lk_X7_18 rfl rfl dX7_init_31 (Nat.le_of_ble_eq_true rfl) ⟨by decide, by decide⟩ ⟨by decide, by decide⟩ (fun L M hp => ?_)
  obtain ⟨z26, z27, z28, z29, z30, z31, z32, z33, z34, F⟩ := hp
  refine g_widen (k1 := 22) (k2 := 1510) (by decide) (by decide) ?_
  refine h_putF C F 22 rfl fk_X7_23 hnm (by intro K T N h; cases h; rfl) (by intro host T N h; cases h; exact nest_no (by decide +kernel) _ _ _ _) dX7_init_34 rfl rfl (Nat.le_of_ble_eq_true rfl) (fl2 := (z29, .inl (cy 1, 240, .inl (fun _ => 0))) :: (z28, .inl (cy 1, 30, .inl (fun _ => 0))) :: (z27, .inr (0, [.int 0, .ref z28, .ref z29])) :: (z26, .inl (cy 1, 8, .inl (fun _ => 0))) :: (z34, .inl (cy 1, 8, .inl (fun _ => 0))) :: (z33, .inl (cy 1, 7, .inl (fun _ => 0))) :: (z32, .inl (cy 1, 28, .inl (fun _ => 0))) :: (z31, .inl (cy 1, 7, .inl (fun _ => 0))) :: (z30, .inl (cy 1, 4, .inl (fun _ => 0))) :: (z25, .inr (2, [.int 0, .int 0, .int 0, .int 0, .int 0, .int 0, .int 0, .int 0, .int 0, .ref z30, .ref z31, .ref z32, .ref z33, .ref z34, .ref z26, .ref z27])) :: (z19, .inl (cy 1, 240, .inl (fun _ => 0))) :: (z18, .inl (cy 1, 30, .inl (fun _ => 0))) :: (z17, .inr (0, [.int 0, .ref z18, .ref z19])) :: (z16, .inl (cy 1, 8, .inl (fun _ => 0))) :: (z24, .inl (cy 1, 8, .inl (fun _ => 0))) :: (z23, .inl (cy 1, 7, .inl (fun _ => 0))) :: (z22, .inl (cy 1, 28, .inl (fun _ => 0))) :: (z21, .inl (cy 1, 7, .inl (fun _ => 0))) :: (z20, .inl (cy 1, 4, .inl (fun _ => 0))) :: (z4, .inr (2, [.int 0, .int 0, .int 0, .int 0, .int 0, .int 0, .int 0, .int 0, .int 0, .ref z20, .ref z21, .ref z22, .ref z23, .ref z24, .ref z16, .ref z17])) :: (z3, .inl (cy 0, 800, .inl (fun _ => 0))) :: (z1, .inr (6, [.ref z3, .int 0, .int 0, .int (-1), .int 0, .int 0, .int 0, .int 0])) :: (h, .inr (7, [.ref z1, .ref z4, .ref z25, .null, .null, .null, .null, .null, .null, .null, .int 0, .null])) :: fr) rfl (fun M F => ?_)
  refine g_aload_n C dX7_init_37 rfl (j := 0) rfl ?_
  refine g_iconst C dX7_init_38 (v := 3) (by decide) ?_
  refine h_newq C F (t0 := 4) rfl wd165 C.2.2.2.2.2.1.2.1 (by decide) (N := 3) (by decide) (by decide) (by decide) (by decide) dX7_init_39 (fun z35 L M F => ?_)
  refine g_widen (k1 := 23) (k2 := 1513) (by decide) (by decide) ?_
  refine h_putF C F 23 rfl fk_X7_26 hnm (by intro K T N h; cases h; rfl) (by intro host T N h; cases h; exact nest_no (by decide +kernel) _ _ _ _) dX7_init_42 rfl rfl (Nat.le_of_ble_eq_true rfl) (fl2 := (z35, .inl (cy 4, 3, .inr (.inr (.inr (.inr (fun _ => none)))))) :: (z29, .inl (cy 1, 240, .inl (fun _ => 0))) :: (z28, .inl (cy 1, 30, .inl (fun _ => 0))) :: (z27, .inr (0, [.int 0, .ref z28, .ref z29])) :: (z26, .inl (cy 1, 8, .inl (fun _ => 0))) :: (z34, .inl (cy 1, 8, .inl (fun _ => 0))) :: (z33, .inl (cy 1, 7, .inl (fun _ => 0))) :: (z32, .inl (cy 1, 28, .inl (fun _ => 0))) :: (z31, .inl (cy 1, 7, .inl (fun _ => 0))) :: (z30, .inl (cy 1, 4, .inl (fun _ => 0))) :: (z25, .inr (2, [.int 0, .int 0, .int 0, .int 0, .int 0, .int 0, .int 0, .int 0, .int 0, .ref z30, .ref z31, .ref z32, .ref z33, .ref z34, .ref z26, .ref z27])) :: (z19, .inl (cy 1, 240, .inl (fun _ => 0))) :: (z18, .inl (cy 1, 30, .inl (fun _ => 0))) :: (z17, .inr (0, [.int 0, .ref z18, .ref z19])) :: (z16, .inl (cy 1, 8, .inl (fun _ => 0))) :: (z24, .inl (cy 1, 8, .inl (fun _ => 0))) :: (z23, .inl (cy 1, 7, .inl (fun _ => 0))) :: (z22, .inl (cy 1, 28, .inl (fun _ => 0))) :: (z21, .inl (cy 1, 7, .inl (fun _ => 0))) :: (z20, .inl (cy 1, 4, .inl (fun _ => 0))) :: (z4, .inr (2, [.int 0, .int 0, .int 0, .int 0, .int 0, .int 0, .int 0, .int 0, .int 0, .ref z20, .ref z21, .ref z22, .ref z23, .ref z24, .ref z16, .ref z17])) :: (z3, .inl (cy 0, 800, .inl (fun _ => 0))) :: (z1, .inr (6, [.ref z3, .int 0, .int 0, .int (-1), .int 0, .int 0, .int 0, .int 0])) :: (h, .inr (7, [.ref z1, .ref z4, .ref z25, .ref z35, .null, .null, .null, .null, .null, .null, .int 0, .null])) :: fr) rfl (fun M F => ?_)
  refine g_aload_n C dX7_init_45 rfl (j := 0) rfl ?_
  refine g_iconst C dX7_init_46 (v := 4) (by decide) ?_
  refine h_newq C F (t0 := 5) rfl wd177 C.2.2.2.2.2.1.2.2 (by decide) (N := 4) (by decide) (by decide) (by decide) (by decide) dX7_init_47 (fun z36 L M F => ?_)
  refine g_widen (k1 := 24) (k2 := 1517) (by decide) (by decide) ?_
  refine h_putF C F 24 rfl fk_X7_32 hnm (by intro K T N h; cases h; rfl) (by intro host T N h; cases h; exact nest_no (by decide +kernel) _ _ _ _) dX7_init_50 rfl rfl (Nat.le_of_ble_eq_true rfl) (fl2 := (z36, .inl (cy 5, 4, .inr (.inr (.inr (.inr (fun _ => none)))))) :: (z35, .inl (cy 4, 3, .inr (.inr (.inr (.inr (fun _ => none)))))) :: (z29, .inl (cy 1, 240, .inl (fun _ => 0))) :: (z28, .inl (cy 1, 30, .inl (fun _ => 0))) :: (z27, .inr (0, [.int 0, .ref z28, .ref z29])) :: (z26, .inl (cy 1, 8, .inl (fun _ => 0))) :: (z34, .inl (cy 1, 8, .inl (fun _ => 0))) :: (z33, .inl (cy 1, 7, .inl (fun _ => 0))) :: (z32, .inl (cy 1, 28, .inl (fun _ => 0))) :: (z31, .inl (cy 1, 7, .inl (fun _ => 0))) :: (z30, .inl (cy 1, 4, .inl (fun _ => 0))) :: (z25, .inr (2, [.int 0, .int 0, .int 0, .int 0, .int 0, .int 0, .int 0, .int 0, .int 0, .ref z30, .ref z31, .ref z32, .ref z33, .ref z34, .ref z26, .ref z27])) :: (z19, .inl (cy 1, 240, .inl (fun _ => 0))) :: (z18, .inl (cy 1, 30, .inl (fun _ => 0))) :: (z17, .inr (0, [.int 0, .ref z18, .ref z19])) :: (z16, .inl (cy 1, 8, .inl (fun _ => 0))) :: (z24, .inl (cy 1, 8, .inl (fun _ => 0))) :: (z23, .inl (cy 1, 7, .inl (fun _ => 0))) :: (z22, .inl (cy 1, 28, .inl (fun _ => 0))) :: (z21, .inl (cy 1, 7, .inl (fun _ => 0))) :: (z20, .inl (cy 1, 4, .inl (fun _ => 0))) :: (z4, .inr (2, [.int 0, .int 0, .int 0, .int 0, .int 0, .int 0, .int 0, .int 0, .int 0, .ref z20, .ref z21, .ref z22, .ref z23, .ref z24, .ref z16, .ref z17])) :: (z3, .inl (cy 0, 800, .inl (fun _ => 0))) :: (z1, .inr (6, [.ref z3, .int 0, .int 0, .int (-1), .int 0, .int 0, .int 0, .int 0])) :: (h, .inr (7, [.ref z1, .ref z4, .ref z25, .ref z35, .ref z36, .null, .null, .null, .null, .null, .int 0, .null])) :: fr) rfl (fun M F => ?_)
  refine g_aload_n C dX7_init_53 rfl (j := 0) rfl ?_
  refine h_new C F clX4 wd179 wd180 wd138 (fs := [.null, .int 0, .int 0, .int 0, .null, .null, .null, .null, .null]) (by decide) (by decide) (by decide) dX7_init_54 (fun z37 L M F => ?_)
  refine g_widen (k1 := 25) (k2 := 1526) (by decide) (by decide) ?_
  refine g_dup C dX7_init_57 rfl ?_
  refine g_aload_n C dX7_init_58 rfl (j := 0) rfl ?_
  refine h_get C F 25 rfl fk_X7_19 dX7_init_59 rfl ?_
  refine g_callI C (c_X4_init_s14 l G F z4) lk_X7_38 rfl rfl dX7_init_62 (Nat.le_of_ble_eq_true rfl) ⟨by decide, by decide⟩ ⟨by decide, by decide⟩ (fun L M hp => ?_)
  obtain ⟨z43, z44, z45, z46, z47, F⟩ := hp
  refine g_widen (k1 := 30) (k2 := 1929) (by decide) (by decide) ?_
  refine h_putF C F 30 rfl fk_X7_41 hnm (by intro K T N h; cases h; rfl) (by intro host T N h; cases h; exact nest_no (by decide +kernel) _ _ _ _) dX7_init_65 rfl rfl (Nat.le_of_ble_eq_true rfl) (fl2 := (z47, .inl (cy 1, 4, .inl (fun _ => 0))) :: (z46, .inl (cy 1, 136, .inl (fun _ => 0))) :: (z45, .inl (cy 1, 119, .inl (fun _ => 0))) :: (z44, .inl (cy 1, 136, .inl (fun _ => 0))) :: (z43, .inl (cy 1, 8, .inl (fun _ => 0))) :: (z37, .inr (4, [.ref z4, .int 0, .int 127, .int 0, .ref z43, .ref z44, .ref z45, .ref z46, .ref z47])) :: (z36, .inl (cy 5, 4, .inr (.inr (.inr (.inr (fun _ => none)))))) :: (z35, .inl (cy 4, 3, .inr (.inr (.inr (.inr (fun _ => none)))))) :: (z29, .inl (cy 1, 240, .inl (fun _ => 0))) :: (z28, .inl (cy 1, 30, .inl (fun _ => 0))) :: (z27, .inr (0, [.int 0, .ref z28, .ref z29])) :: (z26, .inl (cy 1, 8, .inl (fun _ => 0))) :: (z34, .inl (cy 1, 8, .inl (fun _ => 0))) :: (z33, .inl (cy 1, 7, .inl (fun _ => 0))) :: (z32, .inl (cy 1, 28, .inl (fun _ => 0))) :: (z31, .inl (cy 1, 7, .inl (fun _ => 0))) :: (z30, .inl (cy 1, 4, .inl (fun _ => 0))) :: (z25, .inr (2, [.int 0, .int 0, .int 0, .int 0, .int 0, .int 0, .int 0, .int 0, .int 0, .ref z30, .ref z31, .ref z32, .ref z33, .ref z34, .ref z26, .ref z27])) :: (z19, .inl (cy 1, 240, .inl (fun _ => 0))) :: (z18, .inl (cy 1, 30, .inl (fun _ => 0))) :: (z17, .inr (0, [.int 0, .ref z18, .ref z19])) :: (z16, .inl (cy 1, 8, .inl (fun _ => 0))) :: (z24, .inl (cy 1, 8, .inl (fun _ => 0))) :: (z23, .inl (cy 1, 7, .inl (fun _ => 0))) :: (z22, .inl (cy 1, 28, .inl (fun _ => 0))) :: (z21, .inl (cy 1, 7, .inl (fun _ => 0))) :: (z20, .inl (cy 1, 4, .inl (fun _ => 0))) :: (z4, .inr (2, [.int 0, .int 0, .int 0, .int 0, .int 0, .int 0, .int 0, .int 0, .int 0, .ref z20, .ref z21, .ref z22, .ref z23, .ref z24, .ref z16, .ref z17])) :: (z3, .inl (cy 0, 800, .inl (fun _ => 0))) :: (z1, .inr (6, [.ref z3, .int 0, .int 0, .int (-1), .int 0, .int 0, .int 0, .int 0])) :: (h, .inr (7, [.ref z1, .ref z4, .ref z25, .ref z35, .ref z36, .ref z37, .null, .null, .null, .null, .int 0, .null])) :: fr) rfl (fun M F => ?_)
  refine g_aload_n C dX7_init_68 rfl (j := 0) rfl ?_
  refine h_new C F clX4 wd179 wd180 wd138 (fs := [.null, .int 0, .int 0, .int 0, .null, .null, .null, .null, .null]) (by decide) (by decide) (by decide) dX7_init_69 (fun z48 L M F => ?_)
  refine g_widen (k1 := 31) (k2 := 1938) (by decide) (by decide) ?_
  refine g_dup C dX7_init_72 rfl ?_
  refine g_aload_n C dX7_init_73 rfl (j := 0) rfl ?_
  refine h_get C F 31 rfl fk_X7_19 dX7_init_74 rfl ?_
  refine g_callI C (c_X4_init_s14 l G F z4) lk_X7_38 rfl rfl dX7_init_77 (Nat.le_of_ble_eq_true rfl) ⟨by decide, by decide⟩ ⟨by decide, by decide⟩ (fun L M hp => ?_)
  obtain ⟨z49, z50, z51, z52, z53, F⟩ := hp
  refine g_widen (k1 := 36) (k2 := 2341) (by decide) (by decide) ?_
  refine h_putF C F 36 rfl fk_X7_45 hnm (by intro K T N h; cases h; rfl) (by intro host T N h; cases h; exact nest_no (by decide +kernel) _ _ _ _) dX7_init_80 rfl rfl (Nat.le_of_ble_eq_true rfl) (fl2 := (z53, .inl (cy 1, 4, .inl (fun _ => 0))) :: (z52, .inl (cy 1, 136, .inl (fun _ => 0))) :: (z51, .inl (cy 1, 119, .inl (fun _ => 0))) :: (z50, .inl (cy 1, 136, .inl (fun _ => 0))) :: (z49, .inl (cy 1, 8, .inl (fun _ => 0))) :: (z48, .inr (4, [.ref z4, .int 0, .int 127, .int 0, .ref z49, .ref z50, .ref z51, .ref z52, .ref z53])) :: (z47, .inl (cy 1, 4, .inl (fun _ => 0))) :: (z46, .inl (cy 1, 136, .inl (fun _ => 0))) :: (z45, .inl (cy 1, 119, .inl (fun _ => 0))) :: (z44, .inl (cy 1, 136, .inl (fun _ => 0))) :: (z43, .inl (cy 1, 8, .inl (fun _ => 0))) :: (z37, .inr (4, [.ref z4, .int 0, .int 127, .int 0, .ref z43, .ref z44, .ref z45, .ref z46, .ref z47])) :: (z36, .inl (cy 5, 4, .inr (.inr (.inr (.inr (fun _ => none)))))) :: (z35, .inl (cy 4, 3, .inr (.inr (.inr (.inr (fun _ => none)))))) :: (z29, .inl (cy 1, 240, .inl (fun _ => 0))) :: (z28, .inl (cy 1, 30, .inl (fun _ => 0))) :: (z27, .inr (0, [.int 0, .ref z28, .ref z29])) :: (z26, .inl (cy 1, 8, .inl (fun _ => 0))) :: (z34, .inl (cy 1, 8, .inl (fun _ => 0))) :: (z33, .inl (cy 1, 7, .inl (fun _ => 0))) :: (z32, .inl (cy 1, 28, .inl (fun _ => 0))) :: (z31, .inl (cy 1, 7, .inl (fun _ => 0))) :: (z30, .inl (cy 1, 4, .inl (fun _ => 0))) :: (z25, .inr (2, [.int 0, .int 0, .int 0, .int 0, .int 0, .int 0, .int 0, .int 0, .int 0, .ref z30, .ref z31, .ref z32, .ref z33, .ref z34, .ref z26, .ref z27])) :: (z19, .inl (cy 1, 240, .inl (fun _ => 0))) :: (z18, .inl (cy 1, 30, .inl (fun _ => 0))) :: (z17, .inr (0, [.int 0, .ref z18, .ref z19])) :: (z16, .inl (cy 1, 8, .inl (fun _ => 0))) :: (z24, .inl (cy 1, 8, .inl (fun _ => 0))) :: (z23, .inl (cy 1, 7, .inl (fun _ => 0))) :: (z22, .inl (cy 1, 28, .inl (fun _ => 0))) :: (z21, .inl (cy 1, 7, .inl (fun _ => 0))) :: (z20, .inl (cy 1, 4, .inl (fun _ => 0))) :: (z4, .inr (2, [.int 0, .int 0, .int 0, .int 0, .int 0, .int 0, .int 0, .int 0, .int 0, .ref z20, .ref z21, .ref z22, .ref z23, .ref z24, .ref z16, .ref z17])) :: (z3, .inl (cy 0, 800, .inl (fun _ => 0))) :: (z1, .inr (6, [.ref z3, .int 0, .int 0, .int (-1), .int 0, .int 0, .int 0, .int 0])) :: (h, .inr (7, [.ref z1, .ref z4, .ref z25, .ref z35, .ref z36, .ref z37, .ref z48, .null, .null, .null, .int 0, .null])) :: fr) rfl (fun M F => ?_)
  refine g_aload_n C dX7_init_83 rfl (j := 0) rfl ?_
  refine h_new C F clX3 wd189 wd190 wd191 (fs := [.null, .null, .int 0]) (by decide) (by decide) (by decide) dX7_init_84 (fun z54 L M F => ?_)
  refine g_widen (k1 := 37) (k2 := 2344) (by decide) (by decide) ?_
  refine g_dup C dX7_init_87 rfl ?_
  refine g_aload_n C dX7_init_88 rfl (j := 0) rfl ?_
  refine h_get C F 37 rfl fk_X7_19 dX7_init_89 rfl ?_
  refine g_callI C (c_X3_init_s15 l G F z4) lk_X7_50 rfl rfl dX7_init_92 (Nat.le_of_ble_eq_true rfl) ⟨by decide, by decide⟩ ⟨by decide, by decide⟩ (fun L M hp => ?_)
  obtain ⟨z56, F⟩ := hp
  refine g_widen (k1 := 38) (k2 := 2351) (by decide) (by decide) ?_
  refine h_putF C F 38 rfl fk_X7_51 hnm (by intro K T N h; cases h; rfl) (by intro host T N h; cases h; exact nest_no (by decide +kernel) _ _ _ _) dX7_init_95 rfl rfl (Nat.le_of_ble_eq_true rfl) (fl2 := (z56, .inl (cy 1, 7, .inl (fun _ => 0))) :: (z54, .inr (3, [.ref z4, .ref z56, .int 0])) :: (z53, .inl (cy 1, 4, .inl (fun _ => 0))) :: (z52, .inl (cy 1, 136, .inl (fun _ => 0))) :: (z51, .inl (cy 1, 119, .inl (fun _ => 0))) :: (z50, .inl (cy 1, 136, .inl (fun _ => 0))) :: (z49, .inl (cy 1, 8, .inl (fun _ => 0))) :: (z48, .inr (4, [.ref z4, .int 0, .int 127, .int 0, .ref z49, .ref z50, .ref z51, .ref z52, .ref z53])) :: (z47, .inl (cy 1, 4, .inl (fun _ => 0))) :: (z46, .inl (cy 1, 136, .inl (fun _ => 0))) :: (z45, .inl (cy 1, 119, .inl (fun _ => 0))) :: (z44, .inl (cy 1, 136, .inl (fun _ => 0))) :: (z43, .inl (cy 1, 8, .inl (fun _ => 0))) :: (z37, .inr (4, [.ref z4, .int 0, .int 127, .int 0, .ref z43, .ref z44, .ref z45, .ref z46, .ref z47])) :: (z36, .inl (cy 5, 4, .inr (.inr (.inr (.inr (fun _ => none)))))) :: (z35, .inl (cy 4, 3, .inr (.inr (.inr (.inr (fun _ => none)))))) :: (z29, .inl (cy 1, 240, .inl (fun _ => 0))) :: (z28, .inl (cy 1, 30, .inl (fun _ => 0))) :: (z27, .inr (0, [.int 0, .ref z28, .ref z29])) :: (z26, .inl (cy 1, 8, .inl (fun _ => 0))) :: (z34, .inl (cy 1, 8, .inl (fun _ => 0))) :: (z33, .inl (cy 1, 7, .inl (fun _ => 0))) :: (z32, .inl (cy 1, 28, .inl (fun _ => 0))) :: (z31, .inl (cy 1, 7, .inl (fun _ => 0))) :: (z30, .inl (cy 1, 4, .inl (fun _ => 0))) :: (z25, .inr (2, [.int 0, .int 0, .int 0, .int 0, .int 0, .int 0, .int 0, .int 0, .int 0, .ref z30, .ref z31, .ref z32, .ref z33, .ref z34, .ref z26, .ref z27])) :: (z19, .inl (cy 1, 240, .inl (fun _ => 0))) :: (z18, .inl (cy 1, 30, .inl (fun _ => 0))) :: (z17, .inr (0, [.int 0, .ref z18, .ref z19])) :: (z16, .inl (cy 1, 8, .inl (fun _ => 0))) :: (z24, .inl (cy 1, 8, .inl (fun _ => 0))) :: (z23, .inl (cy 1, 7, .inl (fun _ => 0))) :: (z22, .inl (cy 1, 28, .inl (fun _ => 0))) :: (z21, .inl (cy 1, 7, .inl (fun _ => 0))) :: (z20, .inl (cy 1, 4, .inl (fun _ => 0))) :: (z4, .inr (2, [.int 0, .int 0, .int 0, .int 0, .int 0, .int 0, .int 0, .int 0, .int 0, .ref z20, .ref z21, .ref z22, .ref z23, .ref z24, .ref z16, .ref z17])) :: (z3, .inl (cy 0, 800, .inl (fun _ => 0))) :: (z1, .inr (6, [.ref z3, .int 0, .int 0, .int (-1), .int 0, .int 0, .int 0, .int 0])) :: (h, .inr (7, [.ref z1, .ref z4, .ref z25, .ref z35, .ref z36, .ref z37, .ref z48, .ref z54, .null, .null, .int 0, .null])) :: fr) rfl (fun M F => ?_)
  refine g_aload_n C dX7_init_98 rfl (j := 0) rfl ?_
  refine h_new C F clX1 wd200 wd201 wd131 (fs := [.null, .int 0, .null, .long 0]) (by decide) (by decide) (by decide) dX7_init_99 (fun z57 L M F => ?_)
  refine g_widen (k1 := 39) (k2 := 2355) (by decide) (by decide) ?_
  refine g_dup C dX7_init_102 rfl ?_
  refine g_aload_n C dX7_init_103 rfl (j := 0) rfl ?_
  refine h_get C F 39 rfl fk_X7_19 dX7_init_104 rfl ?_
  refine g_callI C (c_X1_init_s16 l G F z4) lk_X7_57 rfl rfl dX7_init_107 (Nat.le_of_ble_eq_true rfl) ⟨by decide, by decide⟩ ⟨by decide, by decide⟩ (fun L M hp => ?_)
  obtain ⟨z59, F⟩ := hp
  refine g_widen (k1 := 40) (k2 := 2363) (by decide) (by decide) ?_
  refine h_putF C F 40 rfl fk_X7_58 hnm (by intro K T N h; cases h; rfl) (by intro host T N h; cases h; exact nest_no (by decide +kernel) _ _ _ _) dX7_init_110 rfl rfl (Nat.le_of_ble_eq_true rfl) (fl2 := (z59, .inl (cy 2, 8, .inr (.inl (fun _ => 0)))) :: (z57, .inr (1, [.ref z4, .int (-1), .ref z59, .long 1])) :: (z56, .inl (cy 1, 7, .inl (fun _ => 0))) :: (z54, .inr (3, [.ref z4, .ref z56, .int 0])) :: (z53, .inl (cy 1, 4, .inl (fun _ => 0))) :: (z52, .inl (cy 1, 136, .inl (fun _ => 0))) :: (z51, .inl (cy 1, 119, .inl (fun _ => 0))) :: (z50, .inl (cy 1, 136, .inl (fun _ => 0))) :: (z49, .inl (cy 1, 8, .inl (fun _ => 0))) :: (z48, .inr (4, [.ref z4, .int 0, .int 127, .int 0, .ref z49, .ref z50, .ref z51, .ref z52, .ref z53])) :: (z47, .inl (cy 1, 4, .inl (fun _ => 0))) :: (z46, .inl (cy 1, 136, .inl (fun _ => 0))) :: (z45, .inl (cy 1, 119, .inl (fun _ => 0))) :: (z44, .inl (cy 1, 136, .inl (fun _ => 0))) :: (z43, .inl (cy 1, 8, .inl (fun _ => 0))) :: (z37, .inr (4, [.ref z4, .int 0, .int 127, .int 0, .ref z43, .ref z44, .ref z45, .ref z46, .ref z47])) :: (z36, .inl (cy 5, 4, .inr (.inr (.inr (.inr (fun _ => none)))))) :: (z35, .inl (cy 4, 3, .inr (.inr (.inr (.inr (fun _ => none)))))) :: (z29, .inl (cy 1, 240, .inl (fun _ => 0))) :: (z28, .inl (cy 1, 30, .inl (fun _ => 0))) :: (z27, .inr (0, [.int 0, .ref z28, .ref z29])) :: (z26, .inl (cy 1, 8, .inl (fun _ => 0))) :: (z34, .inl (cy 1, 8, .inl (fun _ => 0))) :: (z33, .inl (cy 1, 7, .inl (fun _ => 0))) :: (z32, .inl (cy 1, 28, .inl (fun _ => 0))) :: (z31, .inl (cy 1, 7, .inl (fun _ => 0))) :: (z30, .inl (cy 1, 4, .inl (fun _ => 0))) :: (z25, .inr (2, [.int 0, .int 0, .int 0, .int 0, .int 0, .int 0, .int 0, .int 0, .int 0, .ref z30, .ref z31, .ref z32, .ref z33, .ref z34, .ref z26, .ref z27])) :: (z19, .inl (cy 1, 240, .inl (fun _ => 0))) :: (z18, .inl (cy 1, 30, .inl (fun _ => 0))) :: (z17, .inr (0, [.int 0, .ref z18, .ref z19])) :: (z16, .inl (cy 1, 8, .inl (fun _ => 0))) :: (z24, .inl (cy 1, 8, .inl (fun _ => 0))) :: (z23, .inl (cy 1, 7, .inl (fun _ => 0))) :: (z22, .inl (cy 1, 28, .inl (fun _ => 0))) :: (z21, .inl (cy 1, 7, .inl (fun _ => 0))) :: (z20, .inl (cy 1, 4, .inl (fun _ => 0))) :: (z4, .inr (2, [.int 0, .int 0, .int 0, .int 0, .int 0, .int 0, .int 0, .int 0, .int 0, .ref z20, .ref z21, .ref z22, .ref z23, .ref z24, .ref z16, .ref z17])) :: (z3, .inl (cy 0, 800, .inl (fun _ => 0))) :: (z1, .inr (6, [.ref z3, .int 0, .int 0, .int (-1), .int 0, .int 0, .int 0, .int 0])) :: (h, .inr (7, [.ref z1, .ref z4, .ref z25, .ref z35, .ref z36, .ref z37, .ref z48, .ref z54, .ref z57, .null, .int 0, .null])) :: fr) rfl (fun M F => ?_)
  refine g_aload_n C dX7_init_113 rfl (j := 0) rfl ?_
  refine g_sipush C dX7_init_114 (v := 128) (by decide) ?_
  refine h_newa C F (t0 := 1) rfl wd170 rfl (a0 := (128, .inl (fun _ => 0))) (fun _ => rfl) (by decide) (N := 128) (by decide) (by decide) (by decide) (by decide) dX7_init_117 (fun z60 L M F => ?_)
  refine g_widen (k1 := 41) (k2 := 2491) (by decide) (by decide) ?_
  refine h_putF C F 41 rfl fk_X7_62 hnm (by intro K T N h; cases h; rfl) (by intro host T N h; cases h; exact nest_no (by decide +kernel) _ _ _ _) dX7_init_119 rfl rfl (Nat.le_of_ble_eq_true rfl) (fl2 := (z60, .inl (cy 1, 128, .inl (fun _ => 0))) :: (z59, .inl (cy 2, 8, .inr (.inl (fun _ => 0)))) :: (z57, .inr (1, [.ref z4, .int (-1), .ref z59, .long 1])) :: (z56, .inl (cy 1, 7, .inl (fun _ => 0))) :: (z54, .inr (3, [.ref z4, .ref z56, .int 0])) :: (z53, .inl (cy 1, 4, .inl (fun _ => 0))) :: (z52, .inl (cy 1, 136, .inl (fun _ => 0))) :: (z51, .inl (cy 1, 119, .inl (fun _ => 0))) :: (z50, .inl (cy 1, 136, .inl (fun _ => 0))) :: (z49, .inl (cy 1, 8, .inl (fun _ => 0))) :: (z48, .inr (4, [.ref z4, .int 0, .int 127, .int 0, .ref z49, .ref z50, .ref z51, .ref z52, .ref z53])) :: (z47, .inl (cy 1, 4, .inl (fun _ => 0))) :: (z46, .inl (cy 1, 136, .inl (fun _ => 0))) :: (z45, .inl (cy 1, 119, .inl (fun _ => 0))) :: (z44, .inl (cy 1, 136, .inl (fun _ => 0))) :: (z43, .inl (cy 1, 8, .inl (fun _ => 0))) :: (z37, .inr (4, [.ref z4, .int 0, .int 127, .int 0, .ref z43, .ref z44, .ref z45, .ref z46, .ref z47])) :: (z36, .inl (cy 5, 4, .inr (.inr (.inr (.inr (fun _ => none)))))) :: (z35, .inl (cy 4, 3, .inr (.inr (.inr (.inr (fun _ => none)))))) :: (z29, .inl (cy 1, 240, .inl (fun _ => 0))) :: (z28, .inl (cy 1, 30, .inl (fun _ => 0))) :: (z27, .inr (0, [.int 0, .ref z28, .ref z29])) :: (z26, .inl (cy 1, 8, .inl (fun _ => 0))) :: (z34, .inl (cy 1, 8, .inl (fun _ => 0))) :: (z33, .inl (cy 1, 7, .inl (fun _ => 0))) :: (z32, .inl (cy 1, 28, .inl (fun _ => 0))) :: (z31, .inl (cy 1, 7, .inl (fun _ => 0))) :: (z30, .inl (cy 1, 4, .inl (fun _ => 0))) :: (z25, .inr (2, [.int 0, .int 0, .int 0, .int 0, .int 0, .int 0, .int 0, .int 0, .int 0, .ref z30, .ref z31, .ref z32, .ref z33, .ref z34, .ref z26, .ref z27])) :: (z19, .inl (cy 1, 240, .inl (fun _ => 0))) :: (z18, .inl (cy 1, 30, .inl (fun _ => 0))) :: (z17, .inr (0, [.int 0, .ref z18, .ref z19])) :: (z16, .inl (cy 1, 8, .inl (fun _ => 0))) :: (z24, .inl (cy 1, 8, .inl (fun _ => 0))) :: (z23, .inl (cy 1, 7, .inl (fun _ => 0))) :: (z22, .inl (cy 1, 28, .inl (fun _ => 0))) :: (z21, .inl (cy 1, 7, .inl (fun _ => 0))) :: (z20, .inl (cy 1, 4, .inl (fun _ => 0))) :: (z4, .inr (2, [.int 0, .int 0, .int 0, .int 0, .int 0, .int 0, .int 0, .int 0, .int 0, .ref z20, .ref z21, .ref z22, .ref z23, .ref z24, .ref z16, .ref z17])) :: (z3, .inl (cy 0, 800, .inl (fun _ => 0))) :: (z1, .inr (6, [.ref z3, .int 0, .int 0, .int (-1), .int 0, .int 0, .int 0, .int 0])) :: (h, .inr (7, [.ref z1, .ref z4, .ref z25, .ref z35, .ref z36, .ref z37, .ref z48, .ref z54, .ref z57, .ref z60, .int 0, .null])) :: fr) rfl (fun M F => ?_)
  refine g_aload_n C dX7_init_122 rfl (j := 0) rfl ?_
  refine g_iconst C dX7_init_123 (v := 0) (by decide) ?_
  refine h_put C F 41 rfl fk_X7_66 dX7_init_124 rfl rfl (Nat.le_of_ble_eq_true rfl) (fl2 := (z60, .inl (cy 1, 128, .inl (fun _ => 0))) :: (z59, .inl (cy 2, 8, .inr (.inl (fun _ => 0)))) :: (z57, .inr (1, [.ref z4, .int (-1), .ref z59, .long 1])) :: (z56, .inl (cy 1, 7, .inl (fun _ => 0))) :: (z54, .inr (3, [.ref z4, .ref z56, .int 0])) :: (z53, .inl (cy 1, 4, .inl (fun _ => 0))) :: (z52, .inl (cy 1, 136, .inl (fun _ => 0))) :: (z51, .inl (cy 1, 119, .inl (fun _ => 0))) :: (z50, .inl (cy 1, 136, .inl (fun _ => 0))) :: (z49, .inl (cy 1, 8, .inl (fun _ => 0))) :: (z48, .inr (4, [.ref z4, .int 0, .int 127, .int 0, .ref z49, .ref z50, .ref z51, .ref z52, .ref z53])) :: (z47, .inl (cy 1, 4, .inl (fun _ => 0))) :: (z46, .inl (cy 1, 136, .inl (fun _ => 0))) :: (z45, .inl (cy 1, 119, .inl (fun _ => 0))) :: (z44, .inl (cy 1, 136, .inl (fun _ => 0))) :: (z43, .inl (cy 1, 8, .inl (fun _ => 0))) :: (z37, .inr (4, [.ref z4, .int 0, .int 127, .int 0, .ref z43, .ref z44, .ref z45, .ref z46, .ref z47])) :: (z36, .inl (cy 5, 4, .inr (.inr (.inr (.inr (fun _ => none)))))) :: (z35, .inl (cy 4, 3, .inr (.inr (.inr (.inr (fun _ => none)))))) :: (z29, .inl (cy 1, 240, .inl (fun _ => 0))) :: (z28, .inl (cy 1, 30, .inl (fun _ => 0))) :: (z27, .inr (0, [.int 0, .ref z28, .ref z29])) :: (z26, .inl (cy 1, 8, .inl (fun _ => 0))) :: (z34, .inl (cy 1, 8, .inl (fun _ => 0))) :: (z33, .inl (cy 1, 7, .inl (fun _ => 0))) :: (z32, .inl (cy 1, 28, .inl (fun _ => 0))) :: (z31, .inl (cy 1, 7, .inl (fun _ => 0))) :: (z30, .inl (cy 1, 4, .inl (fun _ => 0))) :: (z25, .inr (2, [.int 0, .int 0, .int 0, .int 0, .int 0, .int 0, .int 0, .int 0, .int 0, .ref z30, .ref z31, .ref z32, .ref z33, .ref z34, .ref z26, .ref z27])) :: (z19, .inl (cy 1, 240, .inl (fun _ => 0))) :: (z18, .inl (cy 1, 30, .inl (fun _ => 0))) :: (z17, .inr (0, [.int 0, .ref z18, .ref z19])) :: (z16, .inl (cy 1, 8, .inl (fun _ => 0))) :: (z24, .inl (cy 1, 8, .inl (fun _ => 0))) :: (z23, .inl (cy 1, 7, .inl (fun _ => 0))) :: (z22, .inl (cy 1, 28, .inl (fun _ => 0))) :: (z21, .inl (cy 1, 7, .inl (fun _ => 0))) :: (z20, .inl (cy 1, 4, .inl (fun _ => 0))) :: (z4, .inr (2, [.int 0, .int 0, .int 0, .int 0, .int 0, .int 0, .int 0, .int 0, .int 0, .ref z20, .ref z21, .ref z22, .ref z23, .ref z24, .ref z16, .ref z17])) :: (z3, .inl (cy 0, 800, .inl (fun _ => 0))) :: (z1, .inr (6, [.ref z3, .int 0, .int 0, .int (-1), .int 0, .int 0, .int 0, .int 0])) :: (h, .inr (7, [.ref z1, .ref z4, .ref z25, .ref z35, .ref z36, .ref z37, .ref z48, .ref z54, .ref z57, .ref z60, .int 0, .null])) :: fr) rfl (fun M F => ?_)
  refine g_aload_n C dX7_init_127 rfl (j := 0) rfl ?_
  refine g_sipush C dX7_init_128 (v := 544) (by decide) ?_
  refine h_newa C F (t0 := 1) rfl wd170 rfl (a0 := (544, .inl (fun _ => 0))) (fun _ => rfl) (by decide) (N := 544) (by decide) (by decide) (by decide) (by decide) dX7_init_131 (fun z61 L M F => ?_)
  refine g_widen (k1 := 42) (k2 := 3035) (by decide) (by decide) ?_
  refine h_putF C F 42 rfl fk_X7_70 hnm (by intro K T N h; cases h; rfl) (by intro host T N h; cases h; exact nest_no (by decide +kernel) _ _ _ _) dX7_init_133 rfl rfl (Nat.le_of_ble_eq_true rfl) (fl2 := (z61, .inl (cy 1, 544, .inl (fun _ => 0))) :: (z60, .inl (cy 1, 128, .inl (fun _ => 0))) :: (z59, .inl (cy 2, 8, .inr (.inl (fun _ => 0)))) :: (z57, .inr (1, [.ref z4, .int (-1), .ref z59, .long 1])) :: (z56, .inl (cy 1, 7, .inl (fun _ => 0))) :: (z54, .inr (3, [.ref z4, .ref z56, .int 0])) :: (z53, .inl (cy 1, 4, .inl (fun _ => 0))) :: (z52, .inl (cy 1, 136, .inl (fun _ => 0))) :: (z51, .inl (cy 1, 119, .inl (fun _ => 0))) :: (z50, .inl (cy 1, 136, .inl (fun _ => 0))) :: (z49, .inl (cy 1, 8, .inl (fun _ => 0))) :: (z48, .inr (4, [.ref z4, .int 0, .int 127, .int 0, .ref z49, .ref z50, .ref z51, .ref z52, .ref z53])) :: (z47, .inl (cy 1, 4, .inl (fun _ => 0))) :: (z46, .inl (cy 1, 136, .inl (fun _ => 0))) :: (z45, .inl (cy 1, 119, .inl (fun _ => 0))) :: (z44, .inl (cy 1, 136, .inl (fun _ => 0))) :: (z43, .inl (cy 1, 8, .inl (fun _ => 0))) :: (z37, .inr (4, [.ref z4, .int 0, .int 127, .int 0, .ref z43, .ref z44, .ref z45, .ref z46, .ref z47])) :: (z36, .inl (cy 5, 4, .inr (.inr (.inr (.inr (fun _ => none)))))) :: (z35, .inl (cy 4, 3, .inr (.inr (.inr (.inr (fun _ => none)))))) :: (z29, .inl (cy 1, 240, .inl (fun _ => 0))) :: (z28, .inl (cy 1, 30, .inl (fun _ => 0))) :: (z27, .inr (0, [.int 0, .ref z28, .ref z29])) :: (z26, .inl (cy 1, 8, .inl (fun _ => 0))) :: (z34, .inl (cy 1, 8, .inl (fun _ => 0))) :: (z33, .inl (cy 1, 7, .inl (fun _ => 0))) :: (z32, .inl (cy 1, 28, .inl (fun _ => 0))) :: (z31, .inl (cy 1, 7, .inl (fun _ => 0))) :: (z30, .inl (cy 1, 4, .inl (fun _ => 0))) :: (z25, .inr (2, [.int 0, .int 0, .int 0, .int 0, .int 0, .int 0, .int 0, .int 0, .int 0, .ref z30, .ref z31, .ref z32, .ref z33, .ref z34, .ref z26, .ref z27])) :: (z19, .inl (cy 1, 240, .inl (fun _ => 0))) :: (z18, .inl (cy 1, 30, .inl (fun _ => 0))) :: (z17, .inr (0, [.int 0, .ref z18, .ref z19])) :: (z16, .inl (cy 1, 8, .inl (fun _ => 0))) :: (z24, .inl (cy 1, 8, .inl (fun _ => 0))) :: (z23, .inl (cy 1, 7, .inl (fun _ => 0))) :: (z22, .inl (cy 1, 28, .inl (fun _ => 0))) :: (z21, .inl (cy 1, 7, .inl (fun _ => 0))) :: (z20, .inl (cy 1, 4, .inl (fun _ => 0))) :: (z4, .inr (2, [.int 0, .int 0, .int 0, .int 0, .int 0, .int 0, .int 0, .int 0, .int 0, .ref z20, .ref z21, .ref z22, .ref z23, .ref z24, .ref z16, .ref z17])) :: (z3, .inl (cy 0, 800, .inl (fun _ => 0))) :: (z1, .inr (6, [.ref z3, .int 0, .int 0, .int (-1), .int 0, .int 0, .int 0, .int 0])) :: (h, .inr (7, [.ref z1, .ref z4, .ref z25, .ref z35, .ref z36, .ref z37, .ref z48, .ref z54, .ref z57, .ref z60, .int 0, .ref z61])) :: fr) rfl (fun M F => ?_)
  exact g_vret C hrt dX7_init_136 (by decide) (by decide) ⟨fun k => ([h, z1, z3, z4, z20, z21, z22, z23, z24, z16, z17, z18, z19, z25, z30, z31, z32, z33, z34, z26, z27, z28, z29, z35, z36, z37, z43, z44, z45, z46, z47, z48, z49, z50, z51, z52, z53, z54, z56, z57, z59, z60, z61] : List Nat).getD k 0, rfl, FW.selR (x := (z61, .inl (cy 1, 544, .inl (fun _ => 0))) :: (z60, .inl (cy 1, 128, .inl (fun _ => 0))) :: (z59, .inl (cy 2, 8, .inr (.inl (fun _ => 0)))) :: (z57, .inr (1, [.ref z4, .int (-1), .ref z59, .long 1])) :: (z56, .inl (cy 1, 7, .inl (fun _ => 0))) :: (z54, .inr (3, [.ref z4, .ref z56, .int 0])) :: (z53, .inl (cy 1, 4, .inl (fun _ => 0))) :: (z52, .inl (cy 1, 136, .inl (fun _ => 0))) :: (z51, .inl (cy 1, 119, .inl (fun _ => 0))) :: (z50, .inl (cy 1, 136, .inl (fun _ => 0))) :: (z49, .inl (cy 1, 8, .inl (fun _ => 0))) :: (z48, .inr (4, [.ref z4, .int 0, .int 127, .int 0, .ref z49, .ref z50, .ref z51, .ref z52, .ref z53])) :: (z47, .inl (cy 1, 4, .inl (fun _ => 0))) :: (z46, .inl (cy 1, 136, .inl (fun _ => 0))) :: (z45, .inl (cy 1, 119, .inl (fun _ => 0))) :: (z44, .inl (cy 1, 136, .inl (fun _ => 0))) :: (z43, .inl (cy 1, 8, .inl (fun _ => 0))) :: (z37, .inr (4, [.ref z4, .int 0, .int 127, .int 0, .ref z43, .ref z44, .ref z45, .ref z46, .ref z47])) :: (z36, .inl (cy 5, 4, .inr (.inr (.inr (.inr (fun _ => none)))))) :: (z35, .inl (cy 4, 3, .inr (.inr (.inr (.inr (fun _ => none)))))) :: (z29, .inl (cy 1, 240, .inl (fun _ => 0))) :: (z28, .inl (cy 1, 30, .inl (fun _ => 0))) :: (z27, .inr (0, [.int 0, .ref z28, .ref z29])) :: (z26, .inl (cy 1, 8, .inl (fun _ => 0))) :: (z34, .inl (cy 1, 8, .inl (fun _ => 0))) :: (z33, .inl (cy 1, 7, .inl (fun _ => 0))) :: (z32, .inl (cy 1, 28, .inl (fun _ => 0))) :: (z31, .inl (cy 1, 7, .inl (fun _ => 0))) :: (z30, .inl (cy 1, 4, .inl (fun _ => 0))) :: (z25, .inr (2, [.int 0, .int 0, .int 0, .int 0, .int 0, .int 0, .int 0, .int 0, .int 0, .ref z30, .ref z31, .ref z32, .ref z33, .ref z34, .ref z26, .ref z27])) :: (z19, .inl (cy 1, 240, .inl (fun _ => 0))) :: (z18, .inl (cy 1, 30, .inl (fun _ => 0))) :: (z17, .inr (0, [.int 0, .ref z18, .ref z19])) :: (z16, .inl (cy 1, 8, .inl (fun _ => 0))) :: (z24, .inl (cy 1, 8, .inl (fun _ => 0))) :: (z23, .inl (cy 1, 7, .inl (fun _ => 0))) :: (z22, .inl (cy 1, 28, .inl (fun _ => 0))) :: (z21, .inl (cy 1, 7, .inl (fun _ => 0))) :: (z20, .inl (cy 1, 4, .inl (fun _ => 0))) :: (z4, .inr (2, [.int 0, .int 0, .int 0, .int 0, .int 0, .int 0, .int 0, .int 0, .int 0, .ref z20, .ref z21, .ref z22, .ref z23, .ref z24, .ref z16, .ref z17])) :: (z3, .inl (cy 0, 800, .inl (fun _ => 0))) :: (z1, .inr (6, [.ref z3, .int 0, .int 0, .int (-1), .int 0, .int 0, .int 0, .int 0])) :: (h, .inr (7, [.ref z1, .ref z4, .ref z25, .ref z35, .ref z36, .ref z37, .ref z48, .ref z54, .ref z57, .ref z60, .int 0, .ref z61])) :: []) F [42, 41, 40, 39, 38, 37, 36, 35, 34, 33, 32, 31, 30, 29, 28, 27, 26, 25, 24, 23, 22, 21, 20, 19, 18, 17, 16, 15, 14, 13, 12, 11, 10, 9, 8, 7, 6, 5, 4, 3, 2, 1, 0] (by decide) rfl⟩
end

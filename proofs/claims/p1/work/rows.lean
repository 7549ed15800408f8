section
-- ===== PART A: goes FIRST, ahead of the names: the tables' words, and 'selects' of the private methods out of them =====
/-- a private method of a class that the tables say can be made, by its rows of tables_1 -/
def lw_okq (q : MethodName × Nat) : Prop := (q.1.cls ≠ "java/lang/invoke/MethodHandle" ∧ q.1.cls ≠ "java/lang/invoke/VarHandle") ∧ Cond.instantiable q.1.cls q.2 ∈ tables_1 ∧ Cond.privateMethod q.1 ∈ tables_1 ∧ Cond.instanceMethod q.1 ∈ tables_1
theorem lw_p0 : lw_okq (⟨"WakeVillage$Village", "lateness", "(III)I"⟩, 16) := ⟨⟨by decide +kernel, by decide +kernel⟩, List.mem_of_getElem? (i := 153) (by decide +kernel), List.mem_of_getElem? (i := 457) (by decide +kernel), List.mem_of_getElem? (i := 458) (by decide +kernel)⟩
theorem lw_p1 : lw_okq (⟨"WakeVillage$Village", "wakesAfter", "(III)Z"⟩, 16) := ⟨⟨by decide +kernel, by decide +kernel⟩, List.mem_of_getElem? (i := 153) (by decide +kernel), List.mem_of_getElem? (i := 465) (by decide +kernel), List.mem_of_getElem? (i := 466) (by decide +kernel)⟩
theorem lw_p2 : lw_okq (⟨"WakeVillage$Village", "grown", "(II)I"⟩, 16) := ⟨⟨by decide +kernel, by decide +kernel⟩, List.mem_of_getElem? (i := 153) (by decide +kernel), List.mem_of_getElem? (i := 521) (by decide +kernel), List.mem_of_getElem? (i := 522) (by decide +kernel)⟩
theorem lw_p3 : lw_okq (⟨"WakeVillage$Village", "wakeNodes", "()V"⟩, 16) := ⟨⟨by decide +kernel, by decide +kernel⟩, List.mem_of_getElem? (i := 153) (by decide +kernel), List.mem_of_getElem? (i := 560) (by decide +kernel), List.mem_of_getElem? (i := 561) (by decide +kernel)⟩
theorem lw_p4 : lw_okq (⟨"WakeVillage$Village", "meetOrMiss", "(LWakeVillage$Link;)V"⟩, 16) := ⟨⟨by decide +kernel, by decide +kernel⟩, List.mem_of_getElem? (i := 153) (by decide +kernel), List.mem_of_getElem? (i := 572) (by decide +kernel), List.mem_of_getElem? (i := 573) (by decide +kernel)⟩
theorem lw_p5 : lw_okq (⟨"WakeVillage$Village", "miss", "(LWakeVillage$Link;)V"⟩, 16) := ⟨⟨by decide +kernel, by decide +kernel⟩, List.mem_of_getElem? (i := 153) (by decide +kernel), List.mem_of_getElem? (i := 576) (by decide +kernel), List.mem_of_getElem? (i := 577) (by decide +kernel)⟩
theorem lw_p6 : lw_okq (⟨"WakeVillage$Village", "passMessages", "(Z)I"⟩, 16) := ⟨⟨by decide +kernel, by decide +kernel⟩, List.mem_of_getElem? (i := 153) (by decide +kernel), List.mem_of_getElem? (i := 583) (by decide +kernel), List.mem_of_getElem? (i := 584) (by decide +kernel)⟩
theorem lw_p7 : lw_okq (⟨"WakeVillage$Village", "tryToPass", "(LWakeVillage$Message;)V"⟩, 16) := ⟨⟨by decide +kernel, by decide +kernel⟩, List.mem_of_getElem? (i := 153) (by decide +kernel), List.mem_of_getElem? (i := 587) (by decide +kernel), List.mem_of_getElem? (i := 588) (by decide +kernel)⟩
theorem lw_p8 : lw_okq (⟨"WakeVillage$Village", "moveTo", "(LWakeVillage$Message;I)V"⟩, 16) := ⟨⟨by decide +kernel, by decide +kernel⟩, List.mem_of_getElem? (i := 153) (by decide +kernel), List.mem_of_getElem? (i := 598) (by decide +kernel), List.mem_of_getElem? (i := 599) (by decide +kernel)⟩
theorem lw_p9 : lw_okq (⟨"WakeVillage$Village", "loseMessages", "()V"⟩, 16) := ⟨⟨by decide +kernel, by decide +kernel⟩, List.mem_of_getElem? (i := 153) (by decide +kernel), List.mem_of_getElem? (i := 602) (by decide +kernel), List.mem_of_getElem? (i := 603) (by decide +kernel)⟩
theorem lw_p10 : lw_okq (⟨"WakeVillage$Report", "writeNode", "(LWakeVillage$Village;I)V"⟩, 2) := ⟨⟨by decide +kernel, by decide +kernel⟩, List.mem_of_getElem? (i := 378) (by decide +kernel), List.mem_of_getElem? (i := 614) (by decide +kernel), List.mem_of_getElem? (i := 615) (by decide +kernel)⟩
theorem lw_p11 : lw_okq (⟨"WakeVillage$Report", "writeName", "(J)V"⟩, 2) := ⟨⟨by decide +kernel, by decide +kernel⟩, List.mem_of_getElem? (i := 378) (by decide +kernel), List.mem_of_getElem? (i := 619) (by decide +kernel), List.mem_of_getElem? (i := 620) (by decide +kernel)⟩
theorem lw_p12 : lw_okq (⟨"WakeVillage$Report", "put", "(I)V"⟩, 2) := ⟨⟨by decide +kernel, by decide +kernel⟩, List.mem_of_getElem? (i := 378) (by decide +kernel), List.mem_of_getElem? (i := 627) (by decide +kernel), List.mem_of_getElem? (i := 628) (by decide +kernel)⟩
theorem lw_p13 : lw_okq (⟨"WakeVillage$Report", "putNumber", "(I)V"⟩, 2) := ⟨⟨by decide +kernel, by decide +kernel⟩, List.mem_of_getElem? (i := 378) (by decide +kernel), List.mem_of_getElem? (i := 632) (by decide +kernel), List.mem_of_getElem? (i := 633) (by decide +kernel)⟩
theorem lw_p14 : lw_okq (⟨"java/lang/Throwable", "fillInStackTrace", "(I)Ljava/lang/Throwable;"⟩, 6) := ⟨⟨by decide +kernel, by decide +kernel⟩, List.mem_of_getElem? (i := 706) (by decide +kernel), List.mem_of_getElem? (i := 704) (by decide +kernel), List.mem_of_getElem? (i := 705) (by decide +kernel)⟩
theorem lw_p15 : lw_okq (⟨"WakeVillage$Source", "byteAt", "(I)I"⟩, 10) := ⟨⟨by decide +kernel, by decide +kernel⟩, List.mem_of_getElem? (i := 36) (by decide +kernel), List.mem_of_getElem? (i := 783) (by decide +kernel), List.mem_of_getElem? (i := 784) (by decide +kernel)⟩
def lw_privs_1 : List (MethodName × Nat) := [(⟨"WakeVillage$Village", "lateness", "(III)I"⟩, 16), (⟨"WakeVillage$Village", "wakesAfter", "(III)Z"⟩, 16), (⟨"WakeVillage$Village", "grown", "(II)I"⟩, 16), (⟨"WakeVillage$Village", "wakeNodes", "()V"⟩, 16), (⟨"WakeVillage$Village", "meetOrMiss", "(LWakeVillage$Link;)V"⟩, 16), (⟨"WakeVillage$Village", "miss", "(LWakeVillage$Link;)V"⟩, 16), (⟨"WakeVillage$Village", "passMessages", "(Z)I"⟩, 16), (⟨"WakeVillage$Village", "tryToPass", "(LWakeVillage$Message;)V"⟩, 16), (⟨"WakeVillage$Village", "moveTo", "(LWakeVillage$Message;I)V"⟩, 16), (⟨"WakeVillage$Village", "loseMessages", "()V"⟩, 16), (⟨"WakeVillage$Report", "writeNode", "(LWakeVillage$Village;I)V"⟩, 2), (⟨"WakeVillage$Report", "writeName", "(J)V"⟩, 2), (⟨"WakeVillage$Report", "put", "(I)V"⟩, 2), (⟨"WakeVillage$Report", "putNumber", "(I)V"⟩, 2), (⟨"java/lang/Throwable", "fillInStackTrace", "(I)Ljava/lang/Throwable;"⟩, 6), (⟨"WakeVillage$Source", "byteAt", "(I)I"⟩, 10)]
theorem lw_r1 : ∀ q ∈ lw_privs_1, lw_okq q := List.forall_mem_cons.mpr ⟨lw_p0, List.forall_mem_cons.mpr ⟨lw_p1, List.forall_mem_cons.mpr ⟨lw_p2, List.forall_mem_cons.mpr ⟨lw_p3, List.forall_mem_cons.mpr ⟨lw_p4, List.forall_mem_cons.mpr ⟨lw_p5, List.forall_mem_cons.mpr ⟨lw_p6, List.forall_mem_cons.mpr ⟨lw_p7, List.forall_mem_cons.mpr ⟨lw_p8, List.forall_mem_cons.mpr ⟨lw_p9, List.forall_mem_cons.mpr ⟨lw_p10, List.forall_mem_cons.mpr ⟨lw_p11, List.forall_mem_cons.mpr ⟨lw_p12, List.forall_mem_cons.mpr ⟨lw_p13, List.forall_mem_cons.mpr ⟨lw_p14, List.forall_mem_cons.mpr ⟨lw_p15, fun _ h => absurd h List.not_mem_nil⟩⟩⟩⟩⟩⟩⟩⟩⟩⟩⟩⟩⟩⟩⟩⟩
theorem lw_p16 : lw_okq (⟨"WakeVillage$Source", "scanWord", "()V"⟩, 10) := ⟨⟨by decide +kernel, by decide +kernel⟩, List.mem_of_getElem? (i := 36) (by decide +kernel), List.mem_of_getElem? (i := 790) (by decide +kernel), List.mem_of_getElem? (i := 791) (by decide +kernel)⟩
theorem lw_p17 : lw_okq (⟨"WakeVillage$Source", "scanNumber", "()V"⟩, 10) := ⟨⟨by decide +kernel, by decide +kernel⟩, List.mem_of_getElem? (i := 36) (by decide +kernel), List.mem_of_getElem? (i := 797) (by decide +kernel), List.mem_of_getElem? (i := 798) (by decide +kernel)⟩
theorem lw_p18 : lw_okq (⟨"WakeVillage$TextReader", "readStatement", "(LWakeVillage$Source;LWakeVillage$Village;)Z"⟩, 3) := ⟨⟨by decide +kernel, by decide +kernel⟩, List.mem_of_getElem? (i := 80) (by decide +kernel), List.mem_of_getElem? (i := 805) (by decide +kernel), List.mem_of_getElem? (i := 806) (by decide +kernel)⟩
theorem lw_p19 : lw_okq (⟨"WakeVillage$TextReader", "readYear", "(LWakeVillage$Source;LWakeVillage$Village;)Z"⟩, 3) := ⟨⟨by decide +kernel, by decide +kernel⟩, List.mem_of_getElem? (i := 80) (by decide +kernel), List.mem_of_getElem? (i := 863) (by decide +kernel), List.mem_of_getElem? (i := 864) (by decide +kernel)⟩
theorem lw_p20 : lw_okq (⟨"WakeVillage$TextReader", "readCosts", "(LWakeVillage$Source;LWakeVillage$Village;)Z"⟩, 3) := ⟨⟨by decide +kernel, by decide +kernel⟩, List.mem_of_getElem? (i := 80) (by decide +kernel), List.mem_of_getElem? (i := 878) (by decide +kernel), List.mem_of_getElem? (i := 879) (by decide +kernel)⟩
theorem lw_p21 : lw_okq (⟨"WakeVillage$TextReader", "readMiss", "(LWakeVillage$Source;LWakeVillage$Village;)Z"⟩, 3) := ⟨⟨by decide +kernel, by decide +kernel⟩, List.mem_of_getElem? (i := 80) (by decide +kernel), List.mem_of_getElem? (i := 883) (by decide +kernel), List.mem_of_getElem? (i := 884) (by decide +kernel)⟩
theorem lw_p22 : lw_okq (⟨"WakeVillage$TextReader", "readNode", "(LWakeVillage$Source;LWakeVillage$Village;)Z"⟩, 3) := ⟨⟨by decide +kernel, by decide +kernel⟩, List.mem_of_getElem? (i := 80) (by decide +kernel), List.mem_of_getElem? (i := 888) (by decide +kernel), List.mem_of_getElem? (i := 889) (by decide +kernel)⟩
theorem lw_p23 : lw_okq (⟨"WakeVillage$TextReader", "readLink", "(LWakeVillage$Source;LWakeVillage$Village;)Z"⟩, 3) := ⟨⟨by decide +kernel, by decide +kernel⟩, List.mem_of_getElem? (i := 80) (by decide +kernel), List.mem_of_getElem? (i := 913) (by decide +kernel), List.mem_of_getElem? (i := 914) (by decide +kernel)⟩
theorem lw_p24 : lw_okq (⟨"WakeVillage$Script", "closeRepeat", "(LWakeVillage$Source;)Z"⟩, 5) := ⟨⟨by decide +kernel, by decide +kernel⟩, List.mem_of_getElem? (i := 96) (by decide +kernel), List.mem_of_getElem? (i := 960) (by decide +kernel), List.mem_of_getElem? (i := 961) (by decide +kernel)⟩
theorem lw_p25 : lw_okq (⟨"WakeVillage$Script", "commandAt", "(I)LWakeVillage$Command;"⟩, 5) := ⟨⟨by decide +kernel, by decide +kernel⟩, List.mem_of_getElem? (i := 96) (by decide +kernel), List.mem_of_getElem? (i := 964) (by decide +kernel), List.mem_of_getElem? (i := 965) (by decide +kernel)⟩
theorem lw_p26 : lw_okq (⟨"WakeVillage$Script", "readCommand", "(LWakeVillage$Source;LWakeVillage$Village;)Z"⟩, 5) := ⟨⟨by decide +kernel, by decide +kernel⟩, List.mem_of_getElem? (i := 96) (by decide +kernel), List.mem_of_getElem? (i := 969) (by decide +kernel), List.mem_of_getElem? (i := 970) (by decide +kernel)⟩
theorem lw_p27 : lw_okq (⟨"WakeVillage$Script", "openRepeat", "(LWakeVillage$Source;LWakeVillage$Command;)Z"⟩, 5) := ⟨⟨by decide +kernel, by decide +kernel⟩, List.mem_of_getElem? (i := 96) (by decide +kernel), List.mem_of_getElem? (i := 986) (by decide +kernel), List.mem_of_getElem? (i := 987) (by decide +kernel)⟩
theorem lw_p28 : lw_okq (⟨"WakeVillage$Script", "readNames", "(LWakeVillage$Source;LWakeVillage$Village;LWakeVillage$Command;)Z"⟩, 5) := ⟨⟨by decide +kernel, by decide +kernel⟩, List.mem_of_getElem? (i := 96) (by decide +kernel), List.mem_of_getElem? (i := 991) (by decide +kernel), List.mem_of_getElem? (i := 992) (by decide +kernel)⟩
theorem lw_p29 : lw_okq (⟨"WakeVillage$Script", "readNumber", "(LWakeVillage$Source;LWakeVillage$Command;)Z"⟩, 5) := ⟨⟨by decide +kernel, by decide +kernel⟩, List.mem_of_getElem? (i := 96) (by decide +kernel), List.mem_of_getElem? (i := 996) (by decide +kernel), List.mem_of_getElem? (i := 997) (by decide +kernel)⟩
theorem lw_p30 : lw_okq (⟨"WakeVillage$Script", "endRound", "(I)I"⟩, 5) := ⟨⟨by decide +kernel, by decide +kernel⟩, List.mem_of_getElem? (i := 96) (by decide +kernel), List.mem_of_getElem? (i := 1011) (by decide +kernel), List.mem_of_getElem? (i := 1012) (by decide +kernel)⟩
theorem lw_p31 : lw_okq (⟨"WakeVillage$Village", "messagesInState", "(I)I"⟩, 16) := ⟨⟨by decide +kernel, by decide +kernel⟩, List.mem_of_getElem? (i := 153) (by decide +kernel), List.mem_of_getElem? (i := 1081) (by decide +kernel), List.mem_of_getElem? (i := 1082) (by decide +kernel)⟩
def lw_privs_2 : List (MethodName × Nat) := [(⟨"WakeVillage$Source", "scanWord", "()V"⟩, 10), (⟨"WakeVillage$Source", "scanNumber", "()V"⟩, 10), (⟨"WakeVillage$TextReader", "readStatement", "(LWakeVillage$Source;LWakeVillage$Village;)Z"⟩, 3), (⟨"WakeVillage$TextReader", "readYear", "(LWakeVillage$Source;LWakeVillage$Village;)Z"⟩, 3), (⟨"WakeVillage$TextReader", "readCosts", "(LWakeVillage$Source;LWakeVillage$Village;)Z"⟩, 3), (⟨"WakeVillage$TextReader", "readMiss", "(LWakeVillage$Source;LWakeVillage$Village;)Z"⟩, 3), (⟨"WakeVillage$TextReader", "readNode", "(LWakeVillage$Source;LWakeVillage$Village;)Z"⟩, 3), (⟨"WakeVillage$TextReader", "readLink", "(LWakeVillage$Source;LWakeVillage$Village;)Z"⟩, 3), (⟨"WakeVillage$Script", "closeRepeat", "(LWakeVillage$Source;)Z"⟩, 5), (⟨"WakeVillage$Script", "commandAt", "(I)LWakeVillage$Command;"⟩, 5), (⟨"WakeVillage$Script", "readCommand", "(LWakeVillage$Source;LWakeVillage$Village;)Z"⟩, 5), (⟨"WakeVillage$Script", "openRepeat", "(LWakeVillage$Source;LWakeVillage$Command;)Z"⟩, 5), (⟨"WakeVillage$Script", "readNames", "(LWakeVillage$Source;LWakeVillage$Village;LWakeVillage$Command;)Z"⟩, 5), (⟨"WakeVillage$Script", "readNumber", "(LWakeVillage$Source;LWakeVillage$Command;)Z"⟩, 5), (⟨"WakeVillage$Script", "endRound", "(I)I"⟩, 5), (⟨"WakeVillage$Village", "messagesInState", "(I)I"⟩, 16)]
theorem lw_r2 : ∀ q ∈ lw_privs_2, lw_okq q := List.forall_mem_cons.mpr ⟨lw_p16, List.forall_mem_cons.mpr ⟨lw_p17, List.forall_mem_cons.mpr ⟨lw_p18, List.forall_mem_cons.mpr ⟨lw_p19, List.forall_mem_cons.mpr ⟨lw_p20, List.forall_mem_cons.mpr ⟨lw_p21, List.forall_mem_cons.mpr ⟨lw_p22, List.forall_mem_cons.mpr ⟨lw_p23, List.forall_mem_cons.mpr ⟨lw_p24, List.forall_mem_cons.mpr ⟨lw_p25, List.forall_mem_cons.mpr ⟨lw_p26, List.forall_mem_cons.mpr ⟨lw_p27, List.forall_mem_cons.mpr ⟨lw_p28, List.forall_mem_cons.mpr ⟨lw_p29, List.forall_mem_cons.mpr ⟨lw_p30, List.forall_mem_cons.mpr ⟨lw_p31, fun _ h => absurd h List.not_mem_nil⟩⟩⟩⟩⟩⟩⟩⟩⟩⟩⟩⟩⟩⟩⟩⟩
theorem lw_p32 : lw_okq (⟨"WakeVillage$Village", "messagesInTime", "()I"⟩, 16) := ⟨⟨by decide +kernel, by decide +kernel⟩, List.mem_of_getElem? (i := 153) (by decide +kernel), List.mem_of_getElem? (i := 1085) (by decide +kernel), List.mem_of_getElem? (i := 1086) (by decide +kernel)⟩
theorem lw_p33 : lw_okq (⟨"WakeVillage", "requireNode", "(I)V"⟩, 10) := ⟨⟨by decide +kernel, by decide +kernel⟩, List.mem_of_getElem? (i := 28) (by decide +kernel), List.mem_of_getElem? (i := 1097) (by decide +kernel), List.mem_of_getElem? (i := 1098) (by decide +kernel)⟩
theorem lw_p34 : lw_okq (⟨"WakeVillage$Village", "messagesWaitingAt", "(I)I"⟩, 16) := ⟨⟨by decide +kernel, by decide +kernel⟩, List.mem_of_getElem? (i := 153) (by decide +kernel), List.mem_of_getElem? (i := 1128) (by decide +kernel), List.mem_of_getElem? (i := 1129) (by decide +kernel)⟩
theorem lw_p35 : lw_okq (⟨"WakeVillage", "requireMessage", "(I)V"⟩, 10) := ⟨⟨by decide +kernel, by decide +kernel⟩, List.mem_of_getElem? (i := 28) (by decide +kernel), List.mem_of_getElem? (i := 1154) (by decide +kernel), List.mem_of_getElem? (i := 1155) (by decide +kernel)⟩
theorem lw_p36 : lw_okq (⟨"WakeVillage", "requireDay", "(I)V"⟩, 10) := ⟨⟨by decide +kernel, by decide +kernel⟩, List.mem_of_getElem? (i := 28) (by decide +kernel), List.mem_of_getElem? (i := 1181) (by decide +kernel), List.mem_of_getElem? (i := 1182) (by decide +kernel)⟩
theorem lw_p37 : lw_okq (⟨"WakeVillage$Forecast", "trialArrival", "(II)I"⟩, 1) := ⟨⟨by decide +kernel, by decide +kernel⟩, List.mem_of_getElem? (i := 147) (by decide +kernel), List.mem_of_getElem? (i := 1243) (by decide +kernel), List.mem_of_getElem? (i := 1244) (by decide +kernel)⟩
theorem lw_p38 : lw_okq (⟨"WakeVillage", "requireDifferent", "(II)V"⟩, 10) := ⟨⟨by decide +kernel, by decide +kernel⟩, List.mem_of_getElem? (i := 28) (by decide +kernel), List.mem_of_getElem? (i := 1255) (by decide +kernel), List.mem_of_getElem? (i := 1256) (by decide +kernel)⟩
theorem lw_p39 : lw_okq (⟨"WakeVillage$Forecast", "sendInThought", "(LWakeVillage$Village;IIZ)I"⟩, 1) := ⟨⟨by decide +kernel, by decide +kernel⟩, List.mem_of_getElem? (i := 147) (by decide +kernel), List.mem_of_getElem? (i := 1265) (by decide +kernel), List.mem_of_getElem? (i := 1266) (by decide +kernel)⟩
theorem lw_p40 : lw_okq (⟨"WakeVillage$Village", "greatestLateness", "(II)I"⟩, 16) := ⟨⟨by decide +kernel, by decide +kernel⟩, List.mem_of_getElem? (i := 153) (by decide +kernel), List.mem_of_getElem? (i := 1304) (by decide +kernel), List.mem_of_getElem? (i := 1305) (by decide +kernel)⟩
theorem lw_p41 : lw_okq (⟨"WakeVillageModel", "clears", "()V"⟩, 41) := ⟨⟨by decide +kernel, by decide +kernel⟩, List.mem_of_getElem? (i := 1406) (by decide +kernel), List.mem_of_getElem? (i := 1412) (by decide +kernel), List.mem_of_getElem? (i := 1413) (by decide +kernel)⟩
theorem lw_p42 : lw_okq (⟨"WakeVillageModel", "goes", "(Z)Z"⟩, 41) := ⟨⟨by decide +kernel, by decide +kernel⟩, List.mem_of_getElem? (i := 1406) (by decide +kernel), List.mem_of_getElem? (i := 1550) (by decide +kernel), List.mem_of_getElem? (i := 1551) (by decide +kernel)⟩
theorem lw_p43 : lw_okq (⟨"WakeVillageModel", "four", "(I)V"⟩, 41) := ⟨⟨by decide +kernel, by decide +kernel⟩, List.mem_of_getElem? (i := 1406) (by decide +kernel), List.mem_of_getElem? (i := 1557) (by decide +kernel), List.mem_of_getElem? (i := 1558) (by decide +kernel)⟩
theorem lw_p44 : lw_okq (⟨"WakeVillageModel", "beginsText", "()V"⟩, 41) := ⟨⟨by decide +kernel, by decide +kernel⟩, List.mem_of_getElem? (i := 1406) (by decide +kernel), List.mem_of_getElem? (i := 1598) (by decide +kernel), List.mem_of_getElem? (i := 1599) (by decide +kernel)⟩
theorem lw_p45 : lw_okq (⟨"WakeVillageModel", "goOn", "()V"⟩, 41) := ⟨⟨by decide +kernel, by decide +kernel⟩, List.mem_of_getElem? (i := 1406) (by decide +kernel), List.mem_of_getElem? (i := 1602) (by decide +kernel), List.mem_of_getElem? (i := 1603) (by decide +kernel)⟩
theorem lw_p46 : lw_okq (⟨"WakeVillageModel", "here", "(I)I"⟩, 41) := ⟨⟨by decide +kernel, by decide +kernel⟩, List.mem_of_getElem? (i := 1406) (by decide +kernel), List.mem_of_getElem? (i := 1606) (by decide +kernel), List.mem_of_getElem? (i := 1607) (by decide +kernel)⟩
theorem lw_p47 : lw_okq (⟨"WakeVillageModel", "laysAside", "()V"⟩, 41) := ⟨⟨by decide +kernel, by decide +kernel⟩, List.mem_of_getElem? (i := 1406) (by decide +kernel), List.mem_of_getElem? (i := 1616) (by decide +kernel), List.mem_of_getElem? (i := 1617) (by decide +kernel)⟩
def lw_privs_3 : List (MethodName × Nat) := [(⟨"WakeVillage$Village", "messagesInTime", "()I"⟩, 16), (⟨"WakeVillage", "requireNode", "(I)V"⟩, 10), (⟨"WakeVillage$Village", "messagesWaitingAt", "(I)I"⟩, 16), (⟨"WakeVillage", "requireMessage", "(I)V"⟩, 10), (⟨"WakeVillage", "requireDay", "(I)V"⟩, 10), (⟨"WakeVillage$Forecast", "trialArrival", "(II)I"⟩, 1), (⟨"WakeVillage", "requireDifferent", "(II)V"⟩, 10), (⟨"WakeVillage$Forecast", "sendInThought", "(LWakeVillage$Village;IIZ)I"⟩, 1), (⟨"WakeVillage$Village", "greatestLateness", "(II)I"⟩, 16), (⟨"WakeVillageModel", "clears", "()V"⟩, 41), (⟨"WakeVillageModel", "goes", "(Z)Z"⟩, 41), (⟨"WakeVillageModel", "four", "(I)V"⟩, 41), (⟨"WakeVillageModel", "beginsText", "()V"⟩, 41), (⟨"WakeVillageModel", "goOn", "()V"⟩, 41), (⟨"WakeVillageModel", "here", "(I)I"⟩, 41), (⟨"WakeVillageModel", "laysAside", "()V"⟩, 41)]
theorem lw_r3 : ∀ q ∈ lw_privs_3, lw_okq q := List.forall_mem_cons.mpr ⟨lw_p32, List.forall_mem_cons.mpr ⟨lw_p33, List.forall_mem_cons.mpr ⟨lw_p34, List.forall_mem_cons.mpr ⟨lw_p35, List.forall_mem_cons.mpr ⟨lw_p36, List.forall_mem_cons.mpr ⟨lw_p37, List.forall_mem_cons.mpr ⟨lw_p38, List.forall_mem_cons.mpr ⟨lw_p39, List.forall_mem_cons.mpr ⟨lw_p40, List.forall_mem_cons.mpr ⟨lw_p41, List.forall_mem_cons.mpr ⟨lw_p42, List.forall_mem_cons.mpr ⟨lw_p43, List.forall_mem_cons.mpr ⟨lw_p44, List.forall_mem_cons.mpr ⟨lw_p45, List.forall_mem_cons.mpr ⟨lw_p46, List.forall_mem_cons.mpr ⟨lw_p47, fun _ h => absurd h List.not_mem_nil⟩⟩⟩⟩⟩⟩⟩⟩⟩⟩⟩⟩⟩⟩⟩⟩
theorem lw_p48 : lw_okq (⟨"WakeVillageModel", "isGood", "()Z"⟩, 41) := ⟨⟨by decide +kernel, by decide +kernel⟩, List.mem_of_getElem? (i := 1406) (by decide +kernel), List.mem_of_getElem? (i := 1620) (by decide +kernel), List.mem_of_getElem? (i := 1621) (by decide +kernel)⟩
theorem lw_p49 : lw_okq (⟨"WakeVillageModel", "statement", "()V"⟩, 41) := ⟨⟨by decide +kernel, by decide +kernel⟩, List.mem_of_getElem? (i := 1406) (by decide +kernel), List.mem_of_getElem? (i := 1624) (by decide +kernel), List.mem_of_getElem? (i := 1625) (by decide +kernel)⟩
theorem lw_p50 : lw_okq (⟨"WakeVillageModel", "isWord", "(J)Z"⟩, 41) := ⟨⟨by decide +kernel, by decide +kernel⟩, List.mem_of_getElem? (i := 1406) (by decide +kernel), List.mem_of_getElem? (i := 1629) (by decide +kernel), List.mem_of_getElem? (i := 1630) (by decide +kernel)⟩
theorem lw_p51 : lw_okq (⟨"WakeVillageModel", "once", "(I)V"⟩, 41) := ⟨⟨by decide +kernel, by decide +kernel⟩, List.mem_of_getElem? (i := 1406) (by decide +kernel), List.mem_of_getElem? (i := 1633) (by decide +kernel), List.mem_of_getElem? (i := 1634) (by decide +kernel)⟩
theorem lw_p52 : lw_okq (⟨"WakeVillageModel", "wrong", "(I)V"⟩, 41) := ⟨⟨by decide +kernel, by decide +kernel⟩, List.mem_of_getElem? (i := 1406) (by decide +kernel), List.mem_of_getElem? (i := 1640) (by decide +kernel), List.mem_of_getElem? (i := 1641) (by decide +kernel)⟩
theorem lw_p53 : lw_okq (⟨"WakeVillageModel", "number", "(II)I"⟩, 41) := ⟨⟨by decide +kernel, by decide +kernel⟩, List.mem_of_getElem? (i := 1406) (by decide +kernel), List.mem_of_getElem? (i := 1644) (by decide +kernel), List.mem_of_getElem? (i := 1645) (by decide +kernel)⟩
theorem lw_p54 : lw_okq (⟨"WakeVillageModel", "looks", "(II)I"⟩, 41) := ⟨⟨by decide +kernel, by decide +kernel⟩, List.mem_of_getElem? (i := 1406) (by decide +kernel), List.mem_of_getElem? (i := 1648) (by decide +kernel), List.mem_of_getElem? (i := 1649) (by decide +kernel)⟩
theorem lw_p55 : lw_okq (⟨"WakeVillageModel", "readsNode", "()V"⟩, 41) := ⟨⟨by decide +kernel, by decide +kernel⟩, List.mem_of_getElem? (i := 1406) (by decide +kernel), List.mem_of_getElem? (i := 1655) (by decide +kernel), List.mem_of_getElem? (i := 1656) (by decide +kernel)⟩
theorem lw_p56 : lw_okq (⟨"WakeVillageModel", "mustBeWord", "()V"⟩, 41) := ⟨⟨by decide +kernel, by decide +kernel⟩, List.mem_of_getElem? (i := 1406) (by decide +kernel), List.mem_of_getElem? (i := 1659) (by decide +kernel), List.mem_of_getElem? (i := 1660) (by decide +kernel)⟩
theorem lw_p57 : lw_okq (⟨"WakeVillageModel", "named", "()I"⟩, 41) := ⟨⟨by decide +kernel, by decide +kernel⟩, List.mem_of_getElem? (i := 1406) (by decide +kernel), List.mem_of_getElem? (i := 1663) (by decide +kernel), List.mem_of_getElem? (i := 1664) (by decide +kernel)⟩
theorem lw_p58 : lw_okq (⟨"WakeVillageModel", "after", "(JII)I"⟩, 41) := ⟨⟨by decide +kernel, by decide +kernel⟩, List.mem_of_getElem? (i := 1406) (by decide +kernel), List.mem_of_getElem? (i := 1668) (by decide +kernel), List.mem_of_getElem? (i := 1669) (by decide +kernel)⟩
theorem lw_p59 : lw_okq (⟨"WakeVillageModel", "mustWord", "(J)V"⟩, 41) := ⟨⟨by decide +kernel, by decide +kernel⟩, List.mem_of_getElem? (i := 1406) (by decide +kernel), List.mem_of_getElem? (i := 1672) (by decide +kernel), List.mem_of_getElem? (i := 1673) (by decide +kernel)⟩
theorem lw_p60 : lw_okq (⟨"WakeVillageModel", "setsNode", "(III)V"⟩, 41) := ⟨⟨by decide +kernel, by decide +kernel⟩, List.mem_of_getElem? (i := 1406) (by decide +kernel), List.mem_of_getElem? (i := 1676) (by decide +kernel), List.mem_of_getElem? (i := 1677) (by decide +kernel)⟩
theorem lw_p61 : lw_okq (⟨"WakeVillageModel", "readsLink", "()V"⟩, 41) := ⟨⟨by decide +kernel, by decide +kernel⟩, List.mem_of_getElem? (i := 1406) (by decide +kernel), List.mem_of_getElem? (i := 1686) (by decide +kernel), List.mem_of_getElem? (i := 1687) (by decide +kernel)⟩
theorem lw_p62 : lw_okq (⟨"WakeVillageModel", "told", "()I"⟩, 41) := ⟨⟨by decide +kernel, by decide +kernel⟩, List.mem_of_getElem? (i := 1406) (by decide +kernel), List.mem_of_getElem? (i := 1690) (by decide +kernel), List.mem_of_getElem? (i := 1691) (by decide +kernel)⟩
theorem lw_p63 : lw_okq (⟨"WakeVillageModel", "linkOf", "(II)I"⟩, 41) := ⟨⟨by decide +kernel, by decide +kernel⟩, List.mem_of_getElem? (i := 1406) (by decide +kernel), List.mem_of_getElem? (i := 1694) (by decide +kernel), List.mem_of_getElem? (i := 1695) (by decide +kernel)⟩
def lw_privs_4 : List (MethodName × Nat) := [(⟨"WakeVillageModel", "isGood", "()Z"⟩, 41), (⟨"WakeVillageModel", "statement", "()V"⟩, 41), (⟨"WakeVillageModel", "isWord", "(J)Z"⟩, 41), (⟨"WakeVillageModel", "once", "(I)V"⟩, 41), (⟨"WakeVillageModel", "wrong", "(I)V"⟩, 41), (⟨"WakeVillageModel", "number", "(II)I"⟩, 41), (⟨"WakeVillageModel", "looks", "(II)I"⟩, 41), (⟨"WakeVillageModel", "readsNode", "()V"⟩, 41), (⟨"WakeVillageModel", "mustBeWord", "()V"⟩, 41), (⟨"WakeVillageModel", "named", "()I"⟩, 41), (⟨"WakeVillageModel", "after", "(JII)I"⟩, 41), (⟨"WakeVillageModel", "mustWord", "(J)V"⟩, 41), (⟨"WakeVillageModel", "setsNode", "(III)V"⟩, 41), (⟨"WakeVillageModel", "readsLink", "()V"⟩, 41), (⟨"WakeVillageModel", "told", "()I"⟩, 41), (⟨"WakeVillageModel", "linkOf", "(II)I"⟩, 41)]
theorem lw_r4 : ∀ q ∈ lw_privs_4, lw_okq q := List.forall_mem_cons.mpr ⟨lw_p48, List.forall_mem_cons.mpr ⟨lw_p49, List.forall_mem_cons.mpr ⟨lw_p50, List.forall_mem_cons.mpr ⟨lw_p51, List.forall_mem_cons.mpr ⟨lw_p52, List.forall_mem_cons.mpr ⟨lw_p53, List.forall_mem_cons.mpr ⟨lw_p54, List.forall_mem_cons.mpr ⟨lw_p55, List.forall_mem_cons.mpr ⟨lw_p56, List.forall_mem_cons.mpr ⟨lw_p57, List.forall_mem_cons.mpr ⟨lw_p58, List.forall_mem_cons.mpr ⟨lw_p59, List.forall_mem_cons.mpr ⟨lw_p60, List.forall_mem_cons.mpr ⟨lw_p61, List.forall_mem_cons.mpr ⟨lw_p62, List.forall_mem_cons.mpr ⟨lw_p63, fun _ h => absurd h List.not_mem_nil⟩⟩⟩⟩⟩⟩⟩⟩⟩⟩⟩⟩⟩⟩⟩⟩
theorem lw_p64 : lw_okq (⟨"WakeVillageModel", "ofLink", "(II)I"⟩, 41) := ⟨⟨by decide +kernel, by decide +kernel⟩, List.mem_of_getElem? (i := 1406) (by decide +kernel), List.mem_of_getElem? (i := 1698) (by decide +kernel), List.mem_of_getElem? (i := 1699) (by decide +kernel)⟩
theorem lw_p65 : lw_okq (⟨"WakeVillageModel", "setsLink", "(III)V"⟩, 41) := ⟨⟨by decide +kernel, by decide +kernel⟩, List.mem_of_getElem? (i := 1406) (by decide +kernel), List.mem_of_getElem? (i := 1702) (by decide +kernel), List.mem_of_getElem? (i := 1703) (by decide +kernel)⟩
theorem lw_p66 : lw_okq (⟨"WakeVillageModel", "mustSign", "(I)V"⟩, 41) := ⟨⟨by decide +kernel, by decide +kernel⟩, List.mem_of_getElem? (i := 1406) (by decide +kernel), List.mem_of_getElem? (i := 1706) (by decide +kernel), List.mem_of_getElem? (i := 1707) (by decide +kernel)⟩
theorem lw_p67 : lw_okq (⟨"WakeVillageModel", "isSign", "(I)Z"⟩, 41) := ⟨⟨by decide +kernel, by decide +kernel⟩, List.mem_of_getElem? (i := 1406) (by decide +kernel), List.mem_of_getElem? (i := 1710) (by decide +kernel), List.mem_of_getElem? (i := 1711) (by decide +kernel)⟩
theorem lw_p68 : lw_okq (⟨"WakeVillageModel", "endsText", "()Z"⟩, 41) := ⟨⟨by decide +kernel, by decide +kernel⟩, List.mem_of_getElem? (i := 1406) (by decide +kernel), List.mem_of_getElem? (i := 1714) (by decide +kernel), List.mem_of_getElem? (i := 1715) (by decide +kernel)⟩
theorem lw_p69 : lw_okq (⟨"WakeVillageModel", "ofNode", "(II)I"⟩, 41) := ⟨⟨by decide +kernel, by decide +kernel⟩, List.mem_of_getElem? (i := 1406) (by decide +kernel), List.mem_of_getElem? (i := 1718) (by decide +kernel), List.mem_of_getElem? (i := 1719) (by decide +kernel)⟩
theorem lw_p70 : lw_okq (⟨"WakeVillageModel", "inState", "(I)I"⟩, 41) := ⟨⟨by decide +kernel, by decide +kernel⟩, List.mem_of_getElem? (i := 1406) (by decide +kernel), List.mem_of_getElem? (i := 1727) (by decide +kernel), List.mem_of_getElem? (i := 1728) (by decide +kernel)⟩
theorem lw_p71 : lw_okq (⟨"WakeVillageModel", "ofMessage", "(II)I"⟩, 41) := ⟨⟨by decide +kernel, by decide +kernel⟩, List.mem_of_getElem? (i := 1406) (by decide +kernel), List.mem_of_getElem? (i := 1731) (by decide +kernel), List.mem_of_getElem? (i := 1732) (by decide +kernel)⟩
theorem lw_p72 : lw_okq (⟨"WakeVillageModel", "inTime", "()I"⟩, 41) := ⟨⟨by decide +kernel, by decide +kernel⟩, List.mem_of_getElem? (i := 1406) (by decide +kernel), List.mem_of_getElem? (i := 1735) (by decide +kernel), List.mem_of_getElem? (i := 1736) (by decide +kernel)⟩
theorem lw_p73 : lw_okq (⟨"WakeVillageModel", "notOut", "()I"⟩, 41) := ⟨⟨by decide +kernel, by decide +kernel⟩, List.mem_of_getElem? (i := 1406) (by decide +kernel), List.mem_of_getElem? (i := 1739) (by decide +kernel), List.mem_of_getElem? (i := 1740) (by decide +kernel)⟩
theorem lw_p74 : lw_okq (⟨"WakeVillageModel", "isOut", "(I)Z"⟩, 41) := ⟨⟨by decide +kernel, by decide +kernel⟩, List.mem_of_getElem? (i := 1406) (by decide +kernel), List.mem_of_getElem? (i := 1743) (by decide +kernel), List.mem_of_getElem? (i := 1744) (by decide +kernel)⟩
theorem lw_p75 : lw_okq (⟨"WakeVillageModel", "isNode", "(I)Z"⟩, 41) := ⟨⟨by decide +kernel, by decide +kernel⟩, List.mem_of_getElem? (i := 1406) (by decide +kernel), List.mem_of_getElem? (i := 1751) (by decide +kernel), List.mem_of_getElem? (i := 1752) (by decide +kernel)⟩
theorem lw_p76 : lw_okq (⟨"WakeVillageModel", "goesBoth", "(ZZ)Z"⟩, 41) := ⟨⟨by decide +kernel, by decide +kernel⟩, List.mem_of_getElem? (i := 1406) (by decide +kernel), List.mem_of_getElem? (i := 1755) (by decide +kernel), List.mem_of_getElem? (i := 1756) (by decide +kernel)⟩
theorem lw_p77 : lw_okq (⟨"WakeVillageModel", "dayOf", "(I)I"⟩, 41) := ⟨⟨by decide +kernel, by decide +kernel⟩, List.mem_of_getElem? (i := 1406) (by decide +kernel), List.mem_of_getElem? (i := 1759) (by decide +kernel), List.mem_of_getElem? (i := 1760) (by decide +kernel)⟩
theorem lw_p78 : lw_okq (⟨"WakeVillageModel", "dayIn", "(II)I"⟩, 41) := ⟨⟨by decide +kernel, by decide +kernel⟩, List.mem_of_getElem? (i := 1406) (by decide +kernel), List.mem_of_getElem? (i := 1763) (by decide +kernel), List.mem_of_getElem? (i := 1764) (by decide +kernel)⟩
theorem lw_p79 : lw_okq (⟨"WakeVillageModel", "isAwakeNow", "(I)Z"⟩, 41) := ⟨⟨by decide +kernel, by decide +kernel⟩, List.mem_of_getElem? (i := 1406) (by decide +kernel), List.mem_of_getElem? (i := 1767) (by decide +kernel), List.mem_of_getElem? (i := 1768) (by decide +kernel)⟩
def lw_privs_5 : List (MethodName × Nat) := [(⟨"WakeVillageModel", "ofLink", "(II)I"⟩, 41), (⟨"WakeVillageModel", "setsLink", "(III)V"⟩, 41), (⟨"WakeVillageModel", "mustSign", "(I)V"⟩, 41), (⟨"WakeVillageModel", "isSign", "(I)Z"⟩, 41), (⟨"WakeVillageModel", "endsText", "()Z"⟩, 41), (⟨"WakeVillageModel", "ofNode", "(II)I"⟩, 41), (⟨"WakeVillageModel", "inState", "(I)I"⟩, 41), (⟨"WakeVillageModel", "ofMessage", "(II)I"⟩, 41), (⟨"WakeVillageModel", "inTime", "()I"⟩, 41), (⟨"WakeVillageModel", "notOut", "()I"⟩, 41), (⟨"WakeVillageModel", "isOut", "(I)Z"⟩, 41), (⟨"WakeVillageModel", "isNode", "(I)Z"⟩, 41), (⟨"WakeVillageModel", "goesBoth", "(ZZ)Z"⟩, 41), (⟨"WakeVillageModel", "dayOf", "(I)I"⟩, 41), (⟨"WakeVillageModel", "dayIn", "(II)I"⟩, 41), (⟨"WakeVillageModel", "isAwakeNow", "(I)Z"⟩, 41)]
theorem lw_r5 : ∀ q ∈ lw_privs_5, lw_okq q := List.forall_mem_cons.mpr ⟨lw_p64, List.forall_mem_cons.mpr ⟨lw_p65, List.forall_mem_cons.mpr ⟨lw_p66, List.forall_mem_cons.mpr ⟨lw_p67, List.forall_mem_cons.mpr ⟨lw_p68, List.forall_mem_cons.mpr ⟨lw_p69, List.forall_mem_cons.mpr ⟨lw_p70, List.forall_mem_cons.mpr ⟨lw_p71, List.forall_mem_cons.mpr ⟨lw_p72, List.forall_mem_cons.mpr ⟨lw_p73, List.forall_mem_cons.mpr ⟨lw_p74, List.forall_mem_cons.mpr ⟨lw_p75, List.forall_mem_cons.mpr ⟨lw_p76, List.forall_mem_cons.mpr ⟨lw_p77, List.forall_mem_cons.mpr ⟨lw_p78, List.forall_mem_cons.mpr ⟨lw_p79, fun _ h => absurd h List.not_mem_nil⟩⟩⟩⟩⟩⟩⟩⟩⟩⟩⟩⟩⟩⟩⟩⟩
theorem lw_p80 : lw_okq (⟨"WakeVillageModel", "isAwakeIn", "(II)Z"⟩, 41) := ⟨⟨by decide +kernel, by decide +kernel⟩, List.mem_of_getElem? (i := 1406) (by decide +kernel), List.mem_of_getElem? (i := 1771) (by decide +kernel), List.mem_of_getElem? (i := 1772) (by decide +kernel)⟩
theorem lw_p81 : lw_okq (⟨"WakeVillageModel", "isIts", "(II)Z"⟩, 41) := ⟨⟨by decide +kernel, by decide +kernel⟩, List.mem_of_getElem? (i := 1406) (by decide +kernel), List.mem_of_getElem? (i := 1775) (by decide +kernel), List.mem_of_getElem? (i := 1776) (by decide +kernel)⟩
theorem lw_p82 : lw_okq (⟨"WakeVillageModel", "isWatched", "(II)Z"⟩, 41) := ⟨⟨by decide +kernel, by decide +kernel⟩, List.mem_of_getElem? (i := 1406) (by decide +kernel), List.mem_of_getElem? (i := 1779) (by decide +kernel), List.mem_of_getElem? (i := 1780) (by decide +kernel)⟩
theorem lw_p83 : lw_okq (⟨"WakeVillageModel", "neighbours", "(I)I"⟩, 41) := ⟨⟨by decide +kernel, by decide +kernel⟩, List.mem_of_getElem? (i := 1406) (by decide +kernel), List.mem_of_getElem? (i := 1783) (by decide +kernel), List.mem_of_getElem? (i := 1784) (by decide +kernel)⟩
theorem lw_p84 : lw_okq (⟨"WakeVillageModel", "daysOf", "(I)I"⟩, 41) := ⟨⟨by decide +kernel, by decide +kernel⟩, List.mem_of_getElem? (i := 1406) (by decide +kernel), List.mem_of_getElem? (i := 1787) (by decide +kernel), List.mem_of_getElem? (i := 1788) (by decide +kernel)⟩
theorem lw_p85 : lw_okq (⟨"WakeVillageModel", "underWayAt", "(I)I"⟩, 41) := ⟨⟨by decide +kernel, by decide +kernel⟩, List.mem_of_getElem? (i := 1406) (by decide +kernel), List.mem_of_getElem? (i := 1791) (by decide +kernel), List.mem_of_getElem? (i := 1792) (by decide +kernel)⟩
theorem lw_p86 : lw_okq (⟨"WakeVillageModel", "isUnderWayAt", "(II)Z"⟩, 41) := ⟨⟨by decide +kernel, by decide +kernel⟩, List.mem_of_getElem? (i := 1406) (by decide +kernel), List.mem_of_getElem? (i := 1795) (by decide +kernel), List.mem_of_getElem? (i := 1796) (by decide +kernel)⟩
theorem lw_p87 : lw_okq (⟨"WakeVillageModel", "isMessage", "(I)Z"⟩, 41) := ⟨⟨by decide +kernel, by decide +kernel⟩, List.mem_of_getElem? (i := 1406) (by decide +kernel), List.mem_of_getElem? (i := 1808) (by decide +kernel), List.mem_of_getElem? (i := 1809) (by decide +kernel)⟩
theorem lw_p88 : lw_okq (⟨"WakeVillageModel", "isDay", "(I)Z"⟩, 41) := ⟨⟨by decide +kernel, by decide +kernel⟩, List.mem_of_getElem? (i := 1406) (by decide +kernel), List.mem_of_getElem? (i := 1828) (by decide +kernel), List.mem_of_getElem? (i := 1829) (by decide +kernel)⟩
theorem lw_p89 : lw_okq (⟨"WakeVillageModel", "awakeSet", "(I)I"⟩, 41) := ⟨⟨by decide +kernel, by decide +kernel⟩, List.mem_of_getElem? (i := 1406) (by decide +kernel), List.mem_of_getElem? (i := 1845) (by decide +kernel), List.mem_of_getElem? (i := 1846) (by decide +kernel)⟩
theorem lw_p90 : lw_okq (⟨"WakeVillageModel", "meeting", "(II)I"⟩, 41) := ⟨⟨by decide +kernel, by decide +kernel⟩, List.mem_of_getElem? (i := 1406) (by decide +kernel), List.mem_of_getElem? (i := 1853) (by decide +kernel), List.mem_of_getElem? (i := 1854) (by decide +kernel)⟩
theorem lw_p91 : lw_okq (⟨"WakeVillageModel", "lateness", "(II)I"⟩, 41) := ⟨⟨by decide +kernel, by decide +kernel⟩, List.mem_of_getElem? (i := 1406) (by decide +kernel), List.mem_of_getElem? (i := 1861) (by decide +kernel), List.mem_of_getElem? (i := 1862) (by decide +kernel)⟩
theorem lw_p92 : lw_okq (⟨"WakeVillageModel", "hopsBetween", "(II)I"⟩, 41) := ⟨⟨by decide +kernel, by decide +kernel⟩, List.mem_of_getElem? (i := 1406) (by decide +kernel), List.mem_of_getElem? (i := 1876) (by decide +kernel), List.mem_of_getElem? (i := 1877) (by decide +kernel)⟩
theorem lw_p93 : lw_okq (⟨"WakeVillageModel", "laysHops", "(I)V"⟩, 41) := ⟨⟨by decide +kernel, by decide +kernel⟩, List.mem_of_getElem? (i := 1406) (by decide +kernel), List.mem_of_getElem? (i := 1880) (by decide +kernel), List.mem_of_getElem? (i := 1881) (by decide +kernel)⟩
theorem lw_p94 : lw_okq (⟨"WakeVillageModel", "lowersHops", "()Z"⟩, 41) := ⟨⟨by decide +kernel, by decide +kernel⟩, List.mem_of_getElem? (i := 1406) (by decide +kernel), List.mem_of_getElem? (i := 1884) (by decide +kernel), List.mem_of_getElem? (i := 1885) (by decide +kernel)⟩
theorem lw_p95 : lw_okq (⟨"WakeVillageModel", "nextOf", "(II)I"⟩, 41) := ⟨⟨by decide +kernel, by decide +kernel⟩, List.mem_of_getElem? (i := 1406) (by decide +kernel), List.mem_of_getElem? (i := 1892) (by decide +kernel), List.mem_of_getElem? (i := 1893) (by decide +kernel)⟩
def lw_privs_6 : List (MethodName × Nat) := [(⟨"WakeVillageModel", "isAwakeIn", "(II)Z"⟩, 41), (⟨"WakeVillageModel", "isIts", "(II)Z"⟩, 41), (⟨"WakeVillageModel", "isWatched", "(II)Z"⟩, 41), (⟨"WakeVillageModel", "neighbours", "(I)I"⟩, 41), (⟨"WakeVillageModel", "daysOf", "(I)I"⟩, 41), (⟨"WakeVillageModel", "underWayAt", "(I)I"⟩, 41), (⟨"WakeVillageModel", "isUnderWayAt", "(II)Z"⟩, 41), (⟨"WakeVillageModel", "isMessage", "(I)Z"⟩, 41), (⟨"WakeVillageModel", "isDay", "(I)Z"⟩, 41), (⟨"WakeVillageModel", "awakeSet", "(I)I"⟩, 41), (⟨"WakeVillageModel", "meeting", "(II)I"⟩, 41), (⟨"WakeVillageModel", "lateness", "(II)I"⟩, 41), (⟨"WakeVillageModel", "hopsBetween", "(II)I"⟩, 41), (⟨"WakeVillageModel", "laysHops", "(I)V"⟩, 41), (⟨"WakeVillageModel", "lowersHops", "()Z"⟩, 41), (⟨"WakeVillageModel", "nextOf", "(II)I"⟩, 41)]
theorem lw_r6 : ∀ q ∈ lw_privs_6, lw_okq q := List.forall_mem_cons.mpr ⟨lw_p80, List.forall_mem_cons.mpr ⟨lw_p81, List.forall_mem_cons.mpr ⟨lw_p82, List.forall_mem_cons.mpr ⟨lw_p83, List.forall_mem_cons.mpr ⟨lw_p84, List.forall_mem_cons.mpr ⟨lw_p85, List.forall_mem_cons.mpr ⟨lw_p86, List.forall_mem_cons.mpr ⟨lw_p87, List.forall_mem_cons.mpr ⟨lw_p88, List.forall_mem_cons.mpr ⟨lw_p89, List.forall_mem_cons.mpr ⟨lw_p90, List.forall_mem_cons.mpr ⟨lw_p91, List.forall_mem_cons.mpr ⟨lw_p92, List.forall_mem_cons.mpr ⟨lw_p93, List.forall_mem_cons.mpr ⟨lw_p94, List.forall_mem_cons.mpr ⟨lw_p95, fun _ h => absurd h List.not_mem_nil⟩⟩⟩⟩⟩⟩⟩⟩⟩⟩⟩⟩⟩⟩⟩⟩
theorem lw_p96 : lw_okq (⟨"WakeVillageModel", "leaves", "()V"⟩, 41) := ⟨⟨by decide +kernel, by decide +kernel⟩, List.mem_of_getElem? (i := 1406) (by decide +kernel), List.mem_of_getElem? (i := 1907) (by decide +kernel), List.mem_of_getElem? (i := 1908) (by decide +kernel)⟩
theorem lw_p97 : lw_okq (⟨"WakeVillageModel", "there", "(I)I"⟩, 41) := ⟨⟨by decide +kernel, by decide +kernel⟩, List.mem_of_getElem? (i := 1406) (by decide +kernel), List.mem_of_getElem? (i := 1911) (by decide +kernel), List.mem_of_getElem? (i := 1912) (by decide +kernel)⟩
theorem lw_p98 : lw_okq (⟨"WakeVillageModel", "ticksOnce", "()I"⟩, 41) := ⟨⟨by decide +kernel, by decide +kernel⟩, List.mem_of_getElem? (i := 1406) (by decide +kernel), List.mem_of_getElem? (i := 1915) (by decide +kernel), List.mem_of_getElem? (i := 1916) (by decide +kernel)⟩
theorem lw_p99 : lw_okq (⟨"WakeVillageModel", "wakes", "()V"⟩, 41) := ⟨⟨by decide +kernel, by decide +kernel⟩, List.mem_of_getElem? (i := 1406) (by decide +kernel), List.mem_of_getElem? (i := 1919) (by decide +kernel), List.mem_of_getElem? (i := 1920) (by decide +kernel)⟩
theorem lw_p100 : lw_okq (⟨"WakeVillageModel", "uses", "(II)V"⟩, 41) := ⟨⟨by decide +kernel, by decide +kernel⟩, List.mem_of_getElem? (i := 1406) (by decide +kernel), List.mem_of_getElem? (i := 1926) (by decide +kernel), List.mem_of_getElem? (i := 1927) (by decide +kernel)⟩
theorem lw_p101 : lw_okq (⟨"WakeVillageModel", "looksAt", "(I)V"⟩, 41) := ⟨⟨by decide +kernel, by decide +kernel⟩, List.mem_of_getElem? (i := 1406) (by decide +kernel), List.mem_of_getElem? (i := 1930) (by decide +kernel), List.mem_of_getElem? (i := 1931) (by decide +kernel)⟩
theorem lw_p102 : lw_okq (⟨"WakeVillageModel", "meets", "(I)V"⟩, 41) := ⟨⟨by decide +kernel, by decide +kernel⟩, List.mem_of_getElem? (i := 1406) (by decide +kernel), List.mem_of_getElem? (i := 1934) (by decide +kernel), List.mem_of_getElem? (i := 1935) (by decide +kernel)⟩
theorem lw_p103 : lw_okq (⟨"WakeVillageModel", "misses", "(III)V"⟩, 41) := ⟨⟨by decide +kernel, by decide +kernel⟩, List.mem_of_getElem? (i := 1406) (by decide +kernel), List.mem_of_getElem? (i := 1938) (by decide +kernel), List.mem_of_getElem? (i := 1939) (by decide +kernel)⟩
theorem lw_p104 : lw_okq (⟨"WakeVillageModel", "passesAll", "(I)I"⟩, 41) := ⟨⟨by decide +kernel, by decide +kernel⟩, List.mem_of_getElem? (i := 1406) (by decide +kernel), List.mem_of_getElem? (i := 1942) (by decide +kernel), List.mem_of_getElem? (i := 1943) (by decide +kernel)⟩
theorem lw_p105 : lw_okq (⟨"WakeVillageModel", "passes", "(I)Z"⟩, 41) := ⟨⟨by decide +kernel, by decide +kernel⟩, List.mem_of_getElem? (i := 1406) (by decide +kernel), List.mem_of_getElem? (i := 1946) (by decide +kernel), List.mem_of_getElem? (i := 1947) (by decide +kernel)⟩
theorem lw_p106 : lw_okq (⟨"WakeVillageModel", "setsMessage", "(III)V"⟩, 41) := ⟨⟨by decide +kernel, by decide +kernel⟩, List.mem_of_getElem? (i := 1406) (by decide +kernel), List.mem_of_getElem? (i := 1950) (by decide +kernel), List.mem_of_getElem? (i := 1951) (by decide +kernel)⟩
theorem lw_p107 : lw_okq (⟨"WakeVillageModel", "loses", "()V"⟩, 41) := ⟨⟨by decide +kernel, by decide +kernel⟩, List.mem_of_getElem? (i := 1406) (by decide +kernel), List.mem_of_getElem? (i := 1954) (by decide +kernel), List.mem_of_getElem? (i := 1955) (by decide +kernel)⟩
theorem lw_p108 : lw_okq (⟨"WakeVillageModel", "comesBack", "(I)I"⟩, 41) := ⟨⟨by decide +kernel, by decide +kernel⟩, List.mem_of_getElem? (i := 1406) (by decide +kernel), List.mem_of_getElem? (i := 1958) (by decide +kernel), List.mem_of_getElem? (i := 1959) (by decide +kernel)⟩
theorem lw_p109 : lw_okq (⟨"WakeVillageModel", "byMessage", "(IIZ)I"⟩, 41) := ⟨⟨by decide +kernel, by decide +kernel⟩, List.mem_of_getElem? (i := 1406) (by decide +kernel), List.mem_of_getElem? (i := 1966) (by decide +kernel), List.mem_of_getElem? (i := 1967) (by decide +kernel)⟩
theorem lw_p110 : lw_okq (⟨"WakeVillageModel", "areIn", "(II)Z"⟩, 41) := ⟨⟨by decide +kernel, by decide +kernel⟩, List.mem_of_getElem? (i := 1406) (by decide +kernel), List.mem_of_getElem? (i := 1970) (by decide +kernel), List.mem_of_getElem? (i := 1971) (by decide +kernel)⟩
theorem lw_p111 : lw_okq (⟨"WakeVillageModel", "lays", "(IIIZ)I"⟩, 41) := ⟨⟨by decide +kernel, by decide +kernel⟩, List.mem_of_getElem? (i := 1406) (by decide +kernel), List.mem_of_getElem? (i := 1974) (by decide +kernel), List.mem_of_getElem? (i := 1975) (by decide +kernel)⟩
def lw_privs_7 : List (MethodName × Nat) := [(⟨"WakeVillageModel", "leaves", "()V"⟩, 41), (⟨"WakeVillageModel", "there", "(I)I"⟩, 41), (⟨"WakeVillageModel", "ticksOnce", "()I"⟩, 41), (⟨"WakeVillageModel", "wakes", "()V"⟩, 41), (⟨"WakeVillageModel", "uses", "(II)V"⟩, 41), (⟨"WakeVillageModel", "looksAt", "(I)V"⟩, 41), (⟨"WakeVillageModel", "meets", "(I)V"⟩, 41), (⟨"WakeVillageModel", "misses", "(III)V"⟩, 41), (⟨"WakeVillageModel", "passesAll", "(I)I"⟩, 41), (⟨"WakeVillageModel", "passes", "(I)Z"⟩, 41), (⟨"WakeVillageModel", "setsMessage", "(III)V"⟩, 41), (⟨"WakeVillageModel", "loses", "()V"⟩, 41), (⟨"WakeVillageModel", "comesBack", "(I)I"⟩, 41), (⟨"WakeVillageModel", "byMessage", "(IIZ)I"⟩, 41), (⟨"WakeVillageModel", "areIn", "(II)Z"⟩, 41), (⟨"WakeVillageModel", "lays", "(IIIZ)I"⟩, 41)]
theorem lw_r7 : ∀ q ∈ lw_privs_7, lw_okq q := List.forall_mem_cons.mpr ⟨lw_p96, List.forall_mem_cons.mpr ⟨lw_p97, List.forall_mem_cons.mpr ⟨lw_p98, List.forall_mem_cons.mpr ⟨lw_p99, List.forall_mem_cons.mpr ⟨lw_p100, List.forall_mem_cons.mpr ⟨lw_p101, List.forall_mem_cons.mpr ⟨lw_p102, List.forall_mem_cons.mpr ⟨lw_p103, List.forall_mem_cons.mpr ⟨lw_p104, List.forall_mem_cons.mpr ⟨lw_p105, List.forall_mem_cons.mpr ⟨lw_p106, List.forall_mem_cons.mpr ⟨lw_p107, List.forall_mem_cons.mpr ⟨lw_p108, List.forall_mem_cons.mpr ⟨lw_p109, List.forall_mem_cons.mpr ⟨lw_p110, List.forall_mem_cons.mpr ⟨lw_p111, fun _ h => absurd h List.not_mem_nil⟩⟩⟩⟩⟩⟩⟩⟩⟩⟩⟩⟩⟩⟩⟩⟩
theorem lw_p112 : lw_okq (⟨"WakeVillageModel", "ticksOn", "(I)I"⟩, 41) := ⟨⟨by decide +kernel, by decide +kernel⟩, List.mem_of_getElem? (i := 1406) (by decide +kernel), List.mem_of_getElem? (i := 1987) (by decide +kernel), List.mem_of_getElem? (i := 1988) (by decide +kernel)⟩
theorem lw_p113 : lw_okq (⟨"WakeVillageModel", "byShift", "(II)I"⟩, 41) := ⟨⟨by decide +kernel, by decide +kernel⟩, List.mem_of_getElem? (i := 1406) (by decide +kernel), List.mem_of_getElem? (i := 1999) (by decide +kernel), List.mem_of_getElem? (i := 2000) (by decide +kernel)⟩
theorem lw_p114 : lw_okq (⟨"WakeVillageModel", "latestMeeting", "(I)I"⟩, 41) := ⟨⟨by decide +kernel, by decide +kernel⟩, List.mem_of_getElem? (i := 1406) (by decide +kernel), List.mem_of_getElem? (i := 2003) (by decide +kernel), List.mem_of_getElem? (i := 2004) (by decide +kernel)⟩
theorem lw_p115 : lw_okq (⟨"WakeVillageModel", "byWatch", "(III)I"⟩, 41) := ⟨⟨by decide +kernel, by decide +kernel⟩, List.mem_of_getElem? (i := 1406) (by decide +kernel), List.mem_of_getElem? (i := 2011) (by decide +kernel), List.mem_of_getElem? (i := 2012) (by decide +kernel)⟩
theorem lw_p116 : lw_okq (⟨"WakeVillageModel", "watches", "(IIZ)V"⟩, 41) := ⟨⟨by decide +kernel, by decide +kernel⟩, List.mem_of_getElem? (i := 1406) (by decide +kernel), List.mem_of_getElem? (i := 2015) (by decide +kernel), List.mem_of_getElem? (i := 2016) (by decide +kernel)⟩
theorem lw_p117 : lw_okq (⟨"WakeVillageModel", "kept", "(I)I"⟩, 41) := ⟨⟨by decide +kernel, by decide +kernel⟩, List.mem_of_getElem? (i := 1406) (by decide +kernel), List.mem_of_getElem? (i := 2026) (by decide +kernel), List.mem_of_getElem? (i := 2027) (by decide +kernel)⟩
theorem lw_p118 : lw_okq (⟨"WakeVillageModel", "keeps", "()V"⟩, 41) := ⟨⟨by decide +kernel, by decide +kernel⟩, List.mem_of_getElem? (i := 1406) (by decide +kernel), List.mem_of_getElem? (i := 2030) (by decide +kernel), List.mem_of_getElem? (i := 2031) (by decide +kernel)⟩
theorem lw_p119 : lw_okq (⟨"WakeVillageModel", "maySend", "(II)Z"⟩, 41) := ⟨⟨by decide +kernel, by decide +kernel⟩, List.mem_of_getElem? (i := 1406) (by decide +kernel), List.mem_of_getElem? (i := 2042) (by decide +kernel), List.mem_of_getElem? (i := 2043) (by decide +kernel)⟩
theorem lw_p120 : lw_okq (⟨"WakeVillageModel", "goesAll", "(ZZZ)Z"⟩, 41) := ⟨⟨by decide +kernel, by decide +kernel⟩, List.mem_of_getElem? (i := 1406) (by decide +kernel), List.mem_of_getElem? (i := 2046) (by decide +kernel), List.mem_of_getElem? (i := 2047) (by decide +kernel)⟩
theorem lw_p121 : lw_okq (⟨"WakeVillageModel", "swapsCell", "(II)I"⟩, 41) := ⟨⟨by decide +kernel, by decide +kernel⟩, List.mem_of_getElem? (i := 1406) (by decide +kernel), List.mem_of_getElem? (i := 2054) (by decide +kernel), List.mem_of_getElem? (i := 2055) (by decide +kernel)⟩
theorem lw_p122 : lw_okq (⟨"WakeVillageModel", "charges", "(II)I"⟩, 41) := ⟨⟨by decide +kernel, by decide +kernel⟩, List.mem_of_getElem? (i := 1406) (by decide +kernel), List.mem_of_getElem? (i := 2070) (by decide +kernel), List.mem_of_getElem? (i := 2071) (by decide +kernel)⟩
theorem lw_p123 : lw_okq (⟨"WakeVillageModel", "command", "()V"⟩, 41) := ⟨⟨by decide +kernel, by decide +kernel⟩, List.mem_of_getElem? (i := 1406) (by decide +kernel), List.mem_of_getElem? (i := 2083) (by decide +kernel), List.mem_of_getElem? (i := 2084) (by decide +kernel)⟩
theorem lw_p124 : lw_okq (⟨"WakeVillageModel", "commandHere", "()I"⟩, 41) := ⟨⟨by decide +kernel, by decide +kernel⟩, List.mem_of_getElem? (i := 1406) (by decide +kernel), List.mem_of_getElem? (i := 2087) (by decide +kernel), List.mem_of_getElem? (i := 2088) (by decide +kernel)⟩
theorem lw_p125 : lw_okq (⟨"WakeVillageModel", "readsNumbers", "(II)V"⟩, 41) := ⟨⟨by decide +kernel, by decide +kernel⟩, List.mem_of_getElem? (i := 1406) (by decide +kernel), List.mem_of_getElem? (i := 2097) (by decide +kernel), List.mem_of_getElem? (i := 2098) (by decide +kernel)⟩
theorem lw_p126 : lw_okq (⟨"WakeVillageModel", "any", "()I"⟩, 41) := ⟨⟨by decide +kernel, by decide +kernel⟩, List.mem_of_getElem? (i := 1406) (by decide +kernel), List.mem_of_getElem? (i := 2101) (by decide +kernel), List.mem_of_getElem? (i := 2102) (by decide +kernel)⟩
theorem lw_p127 : lw_okq (⟨"WakeVillageModel", "closes", "()V"⟩, 41) := ⟨⟨by decide +kernel, by decide +kernel⟩, List.mem_of_getElem? (i := 1406) (by decide +kernel), List.mem_of_getElem? (i := 2105) (by decide +kernel), List.mem_of_getElem? (i := 2106) (by decide +kernel)⟩
def lw_privs_8 : List (MethodName × Nat) := [(⟨"WakeVillageModel", "ticksOn", "(I)I"⟩, 41), (⟨"WakeVillageModel", "byShift", "(II)I"⟩, 41), (⟨"WakeVillageModel", "latestMeeting", "(I)I"⟩, 41), (⟨"WakeVillageModel", "byWatch", "(III)I"⟩, 41), (⟨"WakeVillageModel", "watches", "(IIZ)V"⟩, 41), (⟨"WakeVillageModel", "kept", "(I)I"⟩, 41), (⟨"WakeVillageModel", "keeps", "()V"⟩, 41), (⟨"WakeVillageModel", "maySend", "(II)Z"⟩, 41), (⟨"WakeVillageModel", "goesAll", "(ZZZ)Z"⟩, 41), (⟨"WakeVillageModel", "swapsCell", "(II)I"⟩, 41), (⟨"WakeVillageModel", "charges", "(II)I"⟩, 41), (⟨"WakeVillageModel", "command", "()V"⟩, 41), (⟨"WakeVillageModel", "commandHere", "()I"⟩, 41), (⟨"WakeVillageModel", "readsNumbers", "(II)V"⟩, 41), (⟨"WakeVillageModel", "any", "()I"⟩, 41), (⟨"WakeVillageModel", "closes", "()V"⟩, 41)]
theorem lw_r8 : ∀ q ∈ lw_privs_8, lw_okq q := List.forall_mem_cons.mpr ⟨lw_p112, List.forall_mem_cons.mpr ⟨lw_p113, List.forall_mem_cons.mpr ⟨lw_p114, List.forall_mem_cons.mpr ⟨lw_p115, List.forall_mem_cons.mpr ⟨lw_p116, List.forall_mem_cons.mpr ⟨lw_p117, List.forall_mem_cons.mpr ⟨lw_p118, List.forall_mem_cons.mpr ⟨lw_p119, List.forall_mem_cons.mpr ⟨lw_p120, List.forall_mem_cons.mpr ⟨lw_p121, List.forall_mem_cons.mpr ⟨lw_p122, List.forall_mem_cons.mpr ⟨lw_p123, List.forall_mem_cons.mpr ⟨lw_p124, List.forall_mem_cons.mpr ⟨lw_p125, List.forall_mem_cons.mpr ⟨lw_p126, List.forall_mem_cons.mpr ⟨lw_p127, fun _ h => absurd h List.not_mem_nil⟩⟩⟩⟩⟩⟩⟩⟩⟩⟩⟩⟩⟩⟩⟩⟩
theorem lw_p128 : lw_okq (⟨"WakeVillageModel", "runs", "()I"⟩, 41) := ⟨⟨by decide +kernel, by decide +kernel⟩, List.mem_of_getElem? (i := 1406) (by decide +kernel), List.mem_of_getElem? (i := 2109) (by decide +kernel), List.mem_of_getElem? (i := 2110) (by decide +kernel)⟩
theorem lw_p129 : lw_okq (⟨"WakeVillageModel", "may", "(I)Z"⟩, 41) := ⟨⟨by decide +kernel, by decide +kernel⟩, List.mem_of_getElem? (i := 1406) (by decide +kernel), List.mem_of_getElem? (i := 2113) (by decide +kernel), List.mem_of_getElem? (i := 2114) (by decide +kernel)⟩
theorem lw_p130 : lw_okq (⟨"WakeVillageModel", "does", "(I)I"⟩, 41) := ⟨⟨by decide +kernel, by decide +kernel⟩, List.mem_of_getElem? (i := 1406) (by decide +kernel), List.mem_of_getElem? (i := 2117) (by decide +kernel), List.mem_of_getElem? (i := 2118) (by decide +kernel)⟩
theorem lw_p131 : lw_okq (⟨"WakeVillageModel", "tellNode", "(I)V"⟩, 41) := ⟨⟨by decide +kernel, by decide +kernel⟩, List.mem_of_getElem? (i := 1406) (by decide +kernel), List.mem_of_getElem? (i := 2125) (by decide +kernel), List.mem_of_getElem? (i := 2126) (by decide +kernel)⟩
theorem lw_p132 : lw_okq (⟨"WakeVillageModel", "tell", "(I)V"⟩, 41) := ⟨⟨by decide +kernel, by decide +kernel⟩, List.mem_of_getElem? (i := 1406) (by decide +kernel), List.mem_of_getElem? (i := 2129) (by decide +kernel), List.mem_of_getElem? (i := 2130) (by decide +kernel)⟩
theorem lw_p133 : lw_okq (⟨"WakeVillageModel", "tellNumber", "(I)V"⟩, 41) := ⟨⟨by decide +kernel, by decide +kernel⟩, List.mem_of_getElem? (i := 1406) (by decide +kernel), List.mem_of_getElem? (i := 2133) (by decide +kernel), List.mem_of_getElem? (i := 2134) (by decide +kernel)⟩
def lw_privs_9 : List (MethodName × Nat) := [(⟨"WakeVillageModel", "runs", "()I"⟩, 41), (⟨"WakeVillageModel", "may", "(I)Z"⟩, 41), (⟨"WakeVillageModel", "does", "(I)I"⟩, 41), (⟨"WakeVillageModel", "tellNode", "(I)V"⟩, 41), (⟨"WakeVillageModel", "tell", "(I)V"⟩, 41), (⟨"WakeVillageModel", "tellNumber", "(I)V"⟩, 41)]
theorem lw_r9 : ∀ q ∈ lw_privs_9, lw_okq q := List.forall_mem_cons.mpr ⟨lw_p128, List.forall_mem_cons.mpr ⟨lw_p129, List.forall_mem_cons.mpr ⟨lw_p130, List.forall_mem_cons.mpr ⟨lw_p131, List.forall_mem_cons.mpr ⟨lw_p132, List.forall_mem_cons.mpr ⟨lw_p133, fun _ h => absurd h List.not_mem_nil⟩⟩⟩⟩⟩⟩
def lw_privs : List (MethodName × Nat) := lw_privs_1 ++ (lw_privs_2 ++ (lw_privs_3 ++ (lw_privs_4 ++ (lw_privs_5 ++ (lw_privs_6 ++ (lw_privs_7 ++ (lw_privs_8 ++ (lw_privs_9))))))))
def lw_tbl : List Cond := k2_sels lw_privs ++ tables_1
theorem lw_privs_ok : ∀ q ∈ lw_privs, lw_okq q := by
  show ∀ q ∈ lw_privs_1 ++ (lw_privs_2 ++ (lw_privs_3 ++ (lw_privs_4 ++ (lw_privs_5 ++ (lw_privs_6 ++ (lw_privs_7 ++ (lw_privs_8 ++ (lw_privs_9)))))))), lw_okq q
  exact List.forall_mem_append.mpr ⟨lw_r1, List.forall_mem_append.mpr ⟨lw_r2, List.forall_mem_append.mpr ⟨lw_r3, List.forall_mem_append.mpr ⟨lw_r4, List.forall_mem_append.mpr ⟨lw_r5, List.forall_mem_append.mpr ⟨lw_r6, List.forall_mem_append.mpr ⟨lw_r7, List.forall_mem_append.mpr ⟨lw_r8, lw_r9⟩⟩⟩⟩⟩⟩⟩⟩
/-- the streams that the claim lets the run draw from -/
abbrev lw_cs : List Choice := [Jvm.Choice.named "NaN.bits"]
theorem lw_bits : nanBits ∈ lw_cs := by first | decide | exact List.mem_cons_self | simp [lw_cs, nanBits]
end
section
/-! ===== BEGIN words of one list among another's, by their places ===== -/
theorem goodIn_r {big : List Cond} (ws : List Cond) (ps : List Nat) (hp : ws = ps.filterMap (fun i => big[i]?)) (h : ws.all goodWord = true) : GoodIn big ws := by
  intro w hw
  have h1 := List.all_eq_true.mp h w hw
  rw [hp] at hw
  obtain ⟨i, -, hi⟩ := List.mem_filterMap.mp hw
  have hm : w ∈ big := by first | exact List.mem_of_getElem? hi | exact List.getElem?_mem hi
  exact ⟨hm, good_of_word h1⟩
theorem goodIn_app {big a b : List Cond} (ha : GoodIn big a) (hb : GoodIn big b) : GoodIn big (a ++ b) := fun w h => (List.mem_append.mp h).elim (ha w) (hb w)
theorem goodIn_ca {big a b : List Cond} {c : Cond} (ha : GoodIn big (c :: a)) (hb : GoodIn big b) : GoodIn big (c :: (a ++ b)) := fun w h => (List.mem_cons.mp h).elim (fun e => ha w (List.mem_cons.mpr (Or.inl e))) (fun h => (List.mem_append.mp h).elim (fun h => ha w (List.mem_cons.mpr (Or.inr h))) (hb w))
theorem goodIn_sub {big ws : List Cond} (hm : ∀ w ∈ ws, w ∈ big) (h : ws.all goodWord = true) : GoodIn big ws := fun w hw => ⟨hm w hw, good_of_word (List.all_eq_true.mp h w hw)⟩
/-! ===== END ===== -/

/-! ===== BEGIN exceptions that leave a method, and their catching by the caller (launches without stack traces) ===== -/
section VXA
/-! The laws vx_back, vx_callV, vx_callS, vx_callSW, vx_throw0, vx_throwS follow proofs of the library, with one case more: JvmDerived/Free/Laws.lean (Back.of_free), Shelf42/LK1.lean (callV, callS), Shelf/KitTraced.lean (throwNew0V, throwNewS). -/
/-- where a method has thrown q: the class by its name, the cell, what was written, the world -/
def vx_T (XC : String → State → State → Prop) (st : State) (q : Addr) (t : State) (mc ms : Nat) (free : Addr → Prop) : Prop :=
  ∃ (E : String) (ce : Cell) (L : List Loc), XC E st t ∧ t.heap[q]? = some ce ∧ ce.vm = .none ∧ st.vm.findClass E = some ce.cls ∧ st.WarmedH t.vm ∧ st.sameButNew ({ t with vm := st.vm } : State) L mc ms ∧ ∀ z ∈ L, free z.base
def vx_Q (Qc : Array Value → State → Outcome → State → Prop) (XC : String → State → State → Prop) (mc ms : Nat) (free : Addr → Prop) : Array Value → State → Outcome → State → Prop := fun a st o t =>
  (Qc a st o t ∧ ∃ L, FrameEnd st o t L mc ms ∧ ∀ q ∈ L, free q.base) ∨ ∃ q, o = .threw q ∧ vx_T XC st q t mc ms free
/-- a callee that returns or throws -/
def vx_Met (l : Launch) (y : MethodName) (ws : List Cond) (rm : Room) (Pc : Array Value → State → Prop) (Qc : Array Value → State → Outcome → State → Prop) (XC : String → State → State → Prop) (mc ms : Nat) (free : Addr → Prop) : Prop :=
  MetFree l y (headSpec ws rm) Pc (fun _ _ _ _ _ => True) (vx_Q Qc XC mc ms free)
def vx_Post (XC : String → State → State → Prop) (mc ms : Nat) (free : Addr → Prop) : Pt → Array Value → Addr → Pt → Prop := fun A a q B =>
  ∃ (g : JFrame) (mk : MethodId) (t : State) (L : List Loc) (E : String) (ce : Cell), B.U.heap = t.heap ∧ B.U.vm = t.vm ∧ XC E (A.U.calling g mk a) t ∧ t.heap[q]? = some ce ∧ ce.vm = .none ∧ A.U.vm.findClass E = some ce.cls ∧ B.locs = A.locs ++ L ∧ (∀ z ∈ L, free z.base) ∧ B.cells = A.cells + mc ∧ B.slots = A.slots + ms
def vx_Back (l : Launch) (R : Room) (p : Program) (e : Env) (below : List Frame) (s : State) (sargs : Array Value) (y : MethodName) (len W9 : Nat)
    (Pre : Pt → Array Value → Prop) (Post : Pt → Array Value → Option Value → Pt → Prop) (PostX : Pt → Array Value → Addr → Pt → Prop) : Prop :=
  ∀ (m : MethodId) (meth : Method) (c : Code) (A : Pt) (g : JFrame) (ig : Instr) (mk : MethodId) (a : Array Value),
    Stand p l e R s m sargs below meth c A.U A.locs A.cells A.slots → g.method = m → g.locals.size = c.maxLocals → decode c.code g.pc = .ok (ig, len) →
    2 * g.monitorRoom + (g.stack.map fun v => v.category).sum ≤ W9 → A.U.methodNamed? y = some mk → Pre A a →
    (∃ (v : Option Value) (B : Pt), Stand p l e R s m sargs below meth c B.U B.locs B.cells B.slots ∧ Post A a v B ∧
      Steps p.tables e below (doInvoke e (A.U.setTop g) [] mk a).1 (B.U.setTop { g with pc := g.pc + len, stack := v.toList ++ g.stack })) ∨
    (∃ (q : Addr) (B : Pt), Stand p l e R s m sargs below meth c B.U B.locs B.cells B.slots ∧ PostX A a q B ∧
      Steps p.tables e below (doInvoke e (A.U.setTop g) [] mk a).1 ((B.U.setTop g).pushFrame (.throwing q)))
section Payer
variable {l : Launch} {R : Room} {p : Program} {e : Env} {below : List Frame} {s : State} {sargs : Array Value} {y : MethodName} {len W9 : Nat}
theorem vx_back {ws : List Cond} {rm : Room} {Pc : Array Value → State → Prop} {Qc : Array Value → State → Outcome → State → Prop} {XC : String → State → State → Prop} {mc ms : Nat} {free : Addr → Prop} {bytes : ByteArray} {maxL : Nat} {ret : Option FieldType}
    (hM : vx_Met l y ws rm Pc Qc XC mc ms free) (hblind : FrameBlind Pc) (hrc : rm.cells = mc) (hrs : rm.slots = ms)
    (hframes : rm.frames + 1 ≤ R.frames) (hlocals : W9 + (maxL + 11) + rm.locals ≤ R.locals)
    (hws : ∀ w ∈ ws, ∀ a' U, s.WarmedH U.vm → w.before a' U = true) (hcode : Cond.code y bytes maxL ret ∈ ws) (hinit : ∀ a' U, s.WarmedH U.vm → (Cond.initialized y.cls).before a' U = true) :
    vx_Back l R p e below s sargs y len W9 (PreOf R mc ms Pc) (PostOf Qc mc ms free) (vx_Post XC mc ms free) := by
  intro m meth c A g ig mk a X hg hsize hdg hW hn hp
  have h1 : (headSpec ws rm).pre.before a A.U = true := atoms_intro fun w hw => hws w hw _ _ X.warmed
  have h2 : (Cond.code y bytes maxL ret).before a A.U = true := hws _ hcode _ _ X.warmed
  have h3 : (Cond.initialized y.cls).before a A.U = true := hinit _ _ X.warmed
  have h4 : A.cells + (headSpec ws rm).room.cells ≤ R.cells := by rw [show (headSpec ws rm).room.cells = mc from hrc]; exact hp.1
  have h5 : A.slots + (headSpec ws rm).room.slots ≤ R.slots := by rw [show (headSpec ws rm).room.slots = ms from hrs]; exact hp.2.1
  have hPc : Pc a (A.U.calling g mk a) := hblind _ _ _ _ hp.2.2
  obtain ⟨U, Ls, c0, s0⟩ := A
  dsimp only [Pt.U, Pt.locs, Pt.cells, Pt.slots] at h1 h2 h3 h4 h5 X hn hPc ⊢
  obtain ⟨methY, cY, hmY, hcY, -, hlY, -, -, -, -⟩ := Cond.code_spec hn h2
  obtain ⟨kY, hkY, -⟩ := className_of_methodNamed hn
  have hinitY : kY.init = .initialized := Cond.initialized_spec (findClass_of_methodNamed hn) hkY h3
  have h : At U g.method c below := by rw [hg]; exact X.here
  have hlocals9 : W9 + (maxL + 11) + (headSpec ws rm).room.locals ≤ R.locals := hlocals
  have happ : (headSpec ws rm).appliesLoose y e.platform (U.calling g mk a) = true :=
    Spec.appliesLoose_calling (g := g) h hdg hn hkY hinitY
      (X.room_calling (g := g) (R' := (headSpec ws rm).room) hsize hmY hcY hframes (by rw [hlY]; omega) h4 h5) h1
  obtain ⟨mid, hmid⟩ := h.above
  have hfr : (U.setTop g).frames = (.java g :: mid) ++ below := by rw [State.frames_setTop' g h.top, hmid]; rfl
  obtain ⟨o, s₂, hsteps, -, hend, hq⟩ := Steps.callFree hM p X.admits X.cas X.clock (acts := []) hfr happ hPc trivial
  have hq' : vx_Q Qc XC mc ms free a (U.calling g mk a) o s₂ := hq
  rw [State.frames_setTop' g h.top] at hend
  obtain ⟨g₀, hg0⟩ := Option.isSome_iff_exists.mp h.top
  obtain ⟨r, hr⟩ := State.topJava?_eq_some.mp hg0
  have hr' : (({ U with heap := s₂.heap, slotsUsed := s₂.slotsUsed } : State).setVm s₂.vm).frames = .java g₀ :: r := hr
  rcases hq' with ⟨hqc, L, hfe, hL⟩ | ⟨q, rfl, E, ce, L, hx, hce, hcv, hcl, hW₂, hsm, hL⟩
  · obtain ⟨⟨v, rfl⟩, hW₂, e2, q2, q3, q4, q5, q6⟩ := id hfe
    have e3 : s₂ = ({ (U.calling g mk a).setFrames s₂.frames with heap := s₂.heap, slotsUsed := s₂.slotsUsed } : State).setVm s₂.vm := by
      have : s₂ = ({ s₂ with vm := (U.calling g mk a).vm } : State).setVm s₂.vm := rfl
      rw [e2] at this
      exact this
    obtain ⟨c₂, i₂, len₂, hc₂, hd₂, hf₂⟩ := hend
    have hW' : U.WarmedH s₂.vm := hW₂
    have hcc : c₂ = c := by
      have h1 : s₂.code? g.method = U.code? g.method := by
        rw [State.code?_eq, State.code?_eq, hW'.alike.method?]
      exact Option.some.inj (hc₂.symm.trans (h1.trans h.code))
    subst hcc
    have hlen : len₂ = len := by rw [hdg] at hd₂; cases hd₂; rfl
    subst hlen
    have hs₂ : s₂ = (({ U with heap := s₂.heap, slotsUsed := s₂.slotsUsed } : State).setVm s₂.vm).setTop { g with pc := g.pc + len₂, stack := v.toList ++ g.stack } := by
      refine e3.trans ?_
      rw [hf₂, State.calling_eq h.top, State.setFrames_setFrames, State.setTop_of_frames _ hr', hr]
      rfl
    have hsame : U.sameButNew ({ U with heap := s₂.heap, slotsUsed := s₂.slotsUsed } : State) L mc ms := by
      refine ⟨?_, q2, q3, q4, q5, q6⟩
      obtain ⟨t, ht, -⟩ := State.frames_cons hr
      show ({ U with heap := s₂.heap, slotsUsed := s₂.slotsUsed } : State) = { U.setFrames U.frames with heap := s₂.heap, slotsUsed := s₂.slotsUsed }
      rw [State.setFrames_self ht]
    subst hg
    refine Or.inl ⟨v, ⟨(({ U with heap := s₂.heap, slotsUsed := s₂.slotsUsed } : State).setVm s₂.vm), Ls ++ L, c0 + mc, s0 + ms⟩,
      ⟨X.admits, X.cas, X.clock, X.frames, X.room, X.hears, X.method, X.code, (X.here.setHeapUsed s₂.heap s₂.slotsUsed).setVm hW'.alike, X.tail, State.WarmedH.trans X.warmed hW', X.limits, X.bytes, X.same.trans (hsame.setVm s.vm)⟩,
      ⟨g, mk, s₂, L, rfl, rfl, hqc, rfl, hL, rfl, rfl⟩, ?_⟩
    show Steps p.tables e below _ ((({ U with heap := s₂.heap, slotsUsed := s₂.slotsUsed } : State).setVm s₂.vm).setTop { g with pc := g.pc + len₂, stack := v.toList ++ g.stack })
    rw [← hs₂]
    exact hsteps
  · obtain ⟨e2, q2, q3, q4, q5, q6⟩ := id hsm
    have e3 : s₂ = ({ (U.calling g mk a).setFrames s₂.frames with heap := s₂.heap, slotsUsed := s₂.slotsUsed } : State).setVm s₂.vm := by
      have : s₂ = ({ s₂ with vm := (U.calling g mk a).vm } : State).setVm s₂.vm := rfl
      rw [e2] at this
      exact this
    have hf₂ : s₂.frames = .throwing q :: .java g :: U.frames.tail := hend
    have hW' : U.WarmedH s₂.vm := hW₂
    have hs₂ : s₂ = ((({ U with heap := s₂.heap, slotsUsed := s₂.slotsUsed } : State).setVm s₂.vm).setTop g).pushFrame (.throwing q) := by
      refine e3.trans ?_
      rw [hf₂, State.calling_eq h.top, State.setFrames_setFrames, State.pushFrame, State.frames_setTop _ hr', State.setTop_of_frames _ hr', State.setFrames_setFrames, hr]
      rfl
    have hsame : U.sameButNew ({ U with heap := s₂.heap, slotsUsed := s₂.slotsUsed } : State) L mc ms := by
      refine ⟨?_, q2, q3, q4, q5, q6⟩
      obtain ⟨t, ht, -⟩ := State.frames_cons hr
      show ({ U with heap := s₂.heap, slotsUsed := s₂.slotsUsed } : State) = { U.setFrames U.frames with heap := s₂.heap, slotsUsed := s₂.slotsUsed }
      rw [State.setFrames_self ht]
    subst hg
    refine Or.inr ⟨q, ⟨(({ U with heap := s₂.heap, slotsUsed := s₂.slotsUsed } : State).setVm s₂.vm), Ls ++ L, c0 + mc, s0 + ms⟩,
      ⟨X.admits, X.cas, X.clock, X.frames, X.room, X.hears, X.method, X.code, (X.here.setHeapUsed s₂.heap s₂.slotsUsed).setVm hW'.alike, X.tail, State.WarmedH.trans X.warmed hW', X.limits, X.bytes, X.same.trans (hsame.setVm s.vm)⟩,
      ⟨g, mk, s₂, L, E, ce, rfl, rfl, hx, hce, hcv, hcl, rfl, hL, rfl, rfl⟩, ?_⟩
    show Steps p.tables e below _ (((({ U with heap := s₂.heap, slotsUsed := s₂.slotsUsed } : State).setVm s₂.vm).setTop g).pushFrame (.throwing q))
    rw [← hs₂]
    exact hsteps
end Payer
section Calls
variable {p : Program} {l : Launch} {e : Env} {R : Room} {s : State} {m : MethodId} {args : Array Value} {below : List Frame} {meth : Method} {c : Code} {T : State} {locs : List Loc} {cells slots : Nat}
theorem vx_callV (X : Stand p l e R s m args below meth c T locs cells slots) (hexec : p.tables.exec = Jvm.exec) {own C : String} {index : Nat} {y : MethodName} {bytes : ByteArray} {maxL : Nat} {ret : Option FieldType}
    (hown : s.vm.findClass own = some m.cls) (hlink : (Cond.methodLink own index y).before args s = true) (hinst : (Cond.instanceMethod y).before args s = true) (hsel : (Cond.selects C y y).before args s = true)
    (hcode : (Cond.code y bytes maxL ret).before args s = true) (hy : y.cls ≠ "java/lang/invoke/MethodHandle" ∧ y.cls ≠ "java/lang/invoke/VarHandle")
    {W9 : Nat} {Pre : Pt → Array Value → Prop} {Post : Pt → Array Value → Option Value → Pt → Prop} {PostX : Pt → Array Value → Addr → Pt → Prop} (hK : vx_Back l R p e below s args y 3 W9 Pre Post PostX)
    {b : Addr} {cellB : Cell} (hcell : T.heap[b]? = some cellB) (hobj : cellB.vm.isStatics = false) (hcls : s.vm.findClass C = some cellB.cls)
    {g : JFrame} (hg : g.method = m) (hsize : g.locals.size = c.maxLocals) {argsL rest : List Value} (hlen : ∀ sig, parseMethodDescriptor y.desc = some sig → argsL.length = sig.parameters.length)
    (hstack : g.stack = argsL.reverse ++ .ref b :: rest) (hW : 2 * g.monitorRoom + (rest.map fun v => v.category).sum ≤ W9) (hdg : decode c.code g.pc = .ok (.invokevirtual index, 3))
    (hpre : ∀ vm₁, s.WarmedH vm₁ → Pre ⟨T.setVm vm₁, locs, cells, slots⟩ (Value.ref b :: argsL).toArray) :
    (∃ (v : Option Value) (vm₁ : Vm) (B : Pt), s.WarmedH vm₁ ∧ Stand p l e R s m args below meth c B.U B.locs B.cells B.slots ∧ Post ⟨T.setVm vm₁, locs, cells, slots⟩ (Value.ref b :: argsL).toArray v B ∧
      ∀ target, Steps p.tables e below (B.U.setTop { g with pc := g.pc + 3, stack := v.toList ++ rest }) target → Steps p.tables e below (T.setTop g) target) ∨
    (∃ (q : Addr) (vm₁ : Vm) (B : Pt), s.WarmedH vm₁ ∧ Stand p l e R s m args below meth c B.U B.locs B.cells B.slots ∧ PostX ⟨T.setVm vm₁, locs, cells, slots⟩ (Value.ref b :: argsL).toArray q B ∧
      Steps p.tables e below (T.setTop g) ((B.U.setTop { g with stack := rest }).pushFrame (.throwing q))) := by
  obtain ⟨mk, methM, hnamed, hmethM, hstM, habM⟩ := Cond.instanceMethod_spec hinst
  obtain ⟨methM', cM, hmethM', -, -, -, -, -, -, hsigM⟩ := Cond.code_spec hnamed hcode
  cases hmethM.symm.trans hmethM'
  obtain ⟨c2, r2, m2, q1, q2, q3, q4, kP, hkP, hkPi⟩ := Cond.selects_spec hsel
  cases hcls.symm.trans q1
  cases (State.methodFound?_of_named hnamed hy).symm.trans q2
  cases hnamed.symm.trans q3
  have hselP : selectMethod e.platform s.vm cellB.cls mk = .method mk := by rw [Launch.admits_selectMethod X.admits]; exact q4
  obtain ⟨vm₁, X₁, hstep₁⟩ := X.invokevirtual hexec hown hlink hnamed hmethM hstM hkP hkPi hy (a := b) (cell := cellB) hcell
    (fun z h => by rw [h] at hobj; cases hobj) hselP hmethM habM hkP hkPi (g := g) hg (argsL := argsL) (rest := rest) (hlen _ hsigM) hstack hdg
  rcases hK m meth c ⟨T.setVm vm₁, locs, cells, slots⟩ { g with stack := rest } (.invokevirtual index) mk (Value.ref b :: argsL).toArray X₁ hg hsize hdg hW (X₁.named hnamed) (hpre vm₁ X₁.warmed) with ⟨v, B, X', hpost, hsteps⟩ | ⟨q, B, X', hpost, hsteps⟩
  · exact Or.inl ⟨v, vm₁, B, X₁.warmed, X', hpost, fun target h => hstep₁ _ fun acts => by rw [doInvoke_state]; exact hsteps.trans h⟩
  · exact Or.inr ⟨q, vm₁, B, X₁.warmed, X', hpost, hstep₁ _ fun acts => by rw [doInvoke_state]; exact hsteps⟩
theorem vx_callS (X : Stand p l e R s m args below meth c T locs cells slots) (hexec : p.tables.exec = Jvm.exec) {own : String} {index : Nat} {y : MethodName} {bytes : ByteArray} {maxL : Nat} {ret : Option FieldType}
    (hown : s.vm.findClass own = some m.cls) (hlink : (Cond.methodLink own index y).before args s = true) (hstat : (Cond.static y).before args s = true) (hinit : (Cond.initialized y.cls).before args s = true)
    (hcode : (Cond.code y bytes maxL ret).before args s = true) (hy : y.cls ≠ "java/lang/invoke/MethodHandle" ∧ y.cls ≠ "java/lang/invoke/VarHandle")
    {W9 : Nat} {Pre : Pt → Array Value → Prop} {Post : Pt → Array Value → Option Value → Pt → Prop} {PostX : Pt → Array Value → Addr → Pt → Prop} (hK : vx_Back l R p e below s args y 3 W9 Pre Post PostX)
    {g : JFrame} (hg : g.method = m) (hsize : g.locals.size = c.maxLocals) {argsL rest : List Value} (hlen : ∀ sig, parseMethodDescriptor y.desc = some sig → argsL.length = sig.parameters.length)
    (hstack : g.stack = argsL.reverse ++ rest) (hW : 2 * g.monitorRoom + (rest.map fun v => v.category).sum ≤ W9) (hdg : decode c.code g.pc = .ok (.invokestatic index, 3))
    (hpre : ∀ vm₁, s.WarmedH vm₁ → Pre ⟨T.setVm vm₁, locs, cells, slots⟩ argsL.toArray) :
    (∃ (v : Option Value) (vm₁ : Vm) (B : Pt), s.WarmedH vm₁ ∧ Stand p l e R s m args below meth c B.U B.locs B.cells B.slots ∧ Post ⟨T.setVm vm₁, locs, cells, slots⟩ argsL.toArray v B ∧
      ∀ target, Steps p.tables e below (B.U.setTop { g with pc := g.pc + 3, stack := v.toList ++ rest }) target → Steps p.tables e below (T.setTop g) target) ∨
    (∃ (q : Addr) (vm₁ : Vm) (B : Pt), s.WarmedH vm₁ ∧ Stand p l e R s m args below meth c B.U B.locs B.cells B.slots ∧ PostX ⟨T.setVm vm₁, locs, cells, slots⟩ argsL.toArray q B ∧
      Steps p.tables e below (T.setTop g) ((B.U.setTop { g with stack := rest }).pushFrame (.throwing q))) := by
  obtain ⟨mk, hnamed⟩ := Cond.code_named hcode
  obtain ⟨methM, cM, hmethM, -, -, -, -, -, -, hsigM⟩ := Cond.code_spec hnamed hcode
  have hstatic : methM.isStatic = true := Cond.static_spec hnamed hmethM hstat
  obtain ⟨kP, hkP, -⟩ := className_of_methodNamed hnamed
  have hinitP : kP.init = .initialized := Cond.initialized_spec (findClass_of_methodNamed hnamed) hkP hinit
  obtain ⟨vm₁, X₁, hstep₁⟩ := X.invokestatic hexec hown hlink hnamed hmethM hstatic hkP hinitP hy (g := g) hg (argsL := argsL) (rest := rest) (hlen _ hsigM) hstack hdg
  rcases hK m meth c ⟨T.setVm vm₁, locs, cells, slots⟩ { g with stack := rest } (.invokestatic index) mk argsL.toArray X₁ hg hsize hdg hW (X₁.named hnamed) (hpre vm₁ X₁.warmed) with ⟨v, B, X', hpost, hsteps⟩ | ⟨q, B, X', hpost, hsteps⟩
  · exact Or.inl ⟨v, vm₁, B, X₁.warmed, X', hpost, fun target h => hstep₁ _ fun acts => by rw [doInvoke_state]; exact hsteps.trans h⟩
  · exact Or.inr ⟨q, vm₁, B, X₁.warmed, X', hpost, hstep₁ _ fun acts => by rw [doInvoke_state]; exact hsteps⟩
end Calls
theorem vx_cls {s : State} {T : State} {vm₁ : Vm} {E : String} {k : ClassId} (hW : s.WarmedH vm₁) (h : (T.setVm vm₁).vm.findClass E = some k) : s.vm.findClass E = some k := by
  have h1 : vm₁.findClass E = some k := h
  rw [hW.alike.findClass] at h1
  exact h1
/-- the method's frame g, with q thrown over it -/
def vx_W (p : Program) (l : Launch) (e : Env) (R : Room) (s : State) (m : MethodId) (args : Array Value) (below : List Frame) (meth : Method) (c : Code) (H : Heap) (locs : List Loc) (cells slots : Nat) (Q : State → Prop) (g : JFrame) (q : Addr) : Prop :=
  ∀ T : State, T.heap = H → Stand p l e R s m args below meth c T locs cells slots → ∃ t, Steps p.tables e below ((T.setTop g).pushFrame (.throwing q)) t ∧ Q t
def vx_Run (p : Program) (l : Launch) (e : Env) (R : Room) (s : State) (m : MethodId) (args : Array Value) (below : List Frame) (meth : Method) (c : Code) (H : Heap) (locs : List Loc) (cells slots mc ms : Nat) (g : JFrame) (rest : List Value) (Qa : State → Outcome → State → Prop) (XC : String → State → State → Prop) (free : Addr → Prop) : Prop :=
  ∀ T : State, T.heap = H → Stand p l e R s m args below meth c T locs cells slots →
    (∃ (v : Option Value) (st₀ t T' : State) (L : List Loc), st₀.heap = H ∧ Stand p l e R s m args below meth c T' (locs ++ L) (cells + mc) (slots + ms) ∧ (∀ q ∈ L, free q.base) ∧ T'.heap = t.heap ∧ T'.vm = t.vm ∧ Qa st₀ (.returned v) t ∧
      Goes p e below T g T' { g with pc := g.pc + 3, stack := v.toList ++ rest }) ∨
    (∃ (q : Addr) (st₀ t T' : State) (L : List Loc) (E : String) (ce : Cell), st₀.heap = H ∧ Stand p l e R s m args below meth c T' (locs ++ L) (cells + mc) (slots + ms) ∧ (∀ z ∈ L, free z.base) ∧ T'.heap = t.heap ∧ T'.vm = t.vm ∧ XC E st₀ t ∧ t.heap[q]? = some ce ∧ ce.vm = .none ∧ s.vm.findClass E = some ce.cls ∧
      Steps p.tables e below (T.setTop g) ((T'.setTop { g with stack := rest }).pushFrame (.throwing q)))
def vx_X {S : Type} (px : S → Prop) (B : String → S → State → Prop) (A : Nat → Prop) : String → State → State → Prop := fun E st t => ∃ u : S, px u ∧ B E u t ∧ va_F A st t
section Runs
variable {p : Program} {l : Launch} {e : Env} {R : Room} {s : State} {m : MethodId} {args : Array Value} {below : List Frame} {meth : Method} {c : Code} {H : Heap} {locs : List Loc} {cells slots : Nat}
variable {y : MethodName} {bytes cc : ByteArray} {maxL nL mc ms n index : Nat} {ret : Option FieldType} {ws : List Cond} {rm : Room} {Pc : Array Value → State → Prop} {Qc : Array Value → State → Outcome → State → Prop} {XC : String → State → State → Prop} {free : Addr → Prop} {Ts : List Cond} {own C : String} {b : Addr} {As rest : List Value} {g : JFrame}
theorem vx_callBack (cb : CallB R s args own index y bytes maxL ret ws rm mc ms n) (hM : vx_Met l y ws rm Pc Qc XC mc ms free) (hbl : FrameBlind Pc) : vx_Back l R p e below s args y 3 8 (PreOf R mc ms Pc) (PostOf Qc mc ms free) (vx_Post XC mc ms free) := by
  obtain ⟨hrc, hrs, hfr, hlo, hws, hcw, -, hini, -⟩ := cb
  exact vx_back (bytes := bytes) (maxL := maxL) (ret := ret) hM hbl hrc hrs hfr hlo hws hcw (fun a' U hW => word_at hW (Or.inl (by first | rfl | simp [Cond.onTables, Cond.keeps, Cond.steady])) hini)
theorem vx_runV (S : CallFix p m c cc nL s args Ts own) (hM : vx_Met l y ws rm Pc Qc XC mc ms free) (cw : CallW R s args own C index y bytes maxL ret ws rm mc ms n) (hp : PreV s H C b Pc As)
    (hg : g.method = m) (hn : As.length = n) (hsize : g.locals.size = nL) (hstack : g.stack = As.reverse ++ .ref b :: rest) (hW : 2 * g.monitorRoom + (rest.map fun v => v.category).sum ≤ 8) (hdg : decode cc g.pc = .ok (.invokevirtual index, 3)) (hf : cells + mc ≤ R.cells ∧ slots + ms ≤ R.slots) :
    vx_Run p l e R s m args below meth c H locs cells slots mc ms g rest (Qc (Value.ref b :: As).toArray) XC free := by
  have hK : vx_Back l R p e below s args y 3 8 (PreOf R mc ms Pc) (PostOf Qc mc ms free) (vx_Post XC mc ms free) := vx_callBack cw.1 hM hp.1
  obtain ⟨⟨-, -, -, -, -, -, hcode, -, hy, hlen, hl⟩, hin, hse⟩ := cw
  obtain ⟨hx, hb, hml, ho, -⟩ := S
  obtain ⟨-, ⟨cellB, hcB, hoB, hclB⟩, hPc⟩ := hp
  intro T hT X
  rcases vx_callV X hx (C := C) (bytes := bytes) (maxL := maxL) (ret := ret) ho hl hin hse hcode hy hK (by rw [hT]; exact hcB) hoB hclB hg (hsize.trans hml.symm) (argsL := As) (rest := rest) (fun sig h => hn.trans (hlen sig h)) hstack hW (by rw [hb]; exact hdg)
    (fun vm₁ hW₁ => ⟨hf.1, hf.2, hPc (T.setVm vm₁) hT hW₁⟩) with ⟨v, vm₁, ⟨U', l2, c2, s2⟩, hW₁, X', ⟨g', mk, t, L, e1, e2, hq, h1, hL, h2, h3⟩, st⟩ | ⟨q, vm₁, ⟨U', l2, c2, s2⟩, hW₁, X', ⟨g', mk, t, L, E, ce, e1, e2, hq, hce, hcv, hcl, h1, hL, h2, h3⟩, st⟩
  · dsimp only [Pt.U, Pt.locs, Pt.cells, Pt.slots] at X' e1 e2 h1 h2 h3 st
    subst h1; subst h2; subst h3
    exact Or.inl ⟨v, (T.setVm vm₁).calling g' mk (Value.ref b :: As).toArray, t, U', L, hT, X', hL, e1, e2, hq, st⟩
  · dsimp only [Pt.U, Pt.locs, Pt.cells, Pt.slots] at X' e1 e2 h1 h2 h3 st hcl
    subst h1; subst h2; subst h3
    exact Or.inr ⟨q, (T.setVm vm₁).calling g' mk (Value.ref b :: As).toArray, t, U', L, E, ce, hT, X', hL, e1, e2, hq, hce, hcv, vx_cls hW₁ hcl, st⟩
theorem vx_runS (S : CallFix p m c cc nL s args Ts own) (hM : vx_Met l y ws rm Pc Qc XC mc ms free) (cw : CallB R s args own index y bytes maxL ret ws rm mc ms n ∧ (Cond.static y).before args s = true) (hp : PreS s H Pc As)
    (hg : g.method = m) (hn : As.length = n) (hsize : g.locals.size = nL) (hstack : g.stack = As.reverse ++ rest) (hW : 2 * g.monitorRoom + (rest.map fun v => v.category).sum ≤ 8) (hdg : decode cc g.pc = .ok (.invokestatic index, 3)) (hf : cells + mc ≤ R.cells ∧ slots + ms ≤ R.slots) :
    vx_Run p l e R s m args below meth c H locs cells slots mc ms g rest (Qc As.toArray) XC free := by
  have hK : vx_Back l R p e below s args y 3 8 (PreOf R mc ms Pc) (PostOf Qc mc ms free) (vx_Post XC mc ms free) := vx_callBack cw.1 hM hp.1
  obtain ⟨⟨-, -, -, -, -, -, hcode, hini, hy, hlen, hl⟩, hstt⟩ := cw
  obtain ⟨hx, hb, hml, ho, -⟩ := S
  intro T hT X
  rcases vx_callS X hx (bytes := bytes) (maxL := maxL) (ret := ret) ho hl hstt hini hcode hy hK hg (hsize.trans hml.symm) (argsL := As) (rest := rest) (fun sig h => hn.trans (hlen sig h)) hstack hW (by rw [hb]; exact hdg)
    (fun vm₁ hW₁ => ⟨hf.1, hf.2, hp.2 (T.setVm vm₁) hT hW₁⟩) with ⟨v, vm₁, ⟨U', l2, c2, s2⟩, hW₁, X', ⟨g', mk, t, L, e1, e2, hq, h1, hL, h2, h3⟩, st⟩ | ⟨q, vm₁, ⟨U', l2, c2, s2⟩, hW₁, X', ⟨g', mk, t, L, E, ce, e1, e2, hq, hce, hcv, hcl, h1, hL, h2, h3⟩, st⟩
  · dsimp only [Pt.U, Pt.locs, Pt.cells, Pt.slots] at X' e1 e2 h1 h2 h3 st
    subst h1; subst h2; subst h3
    exact Or.inl ⟨v, (T.setVm vm₁).calling g' mk As.toArray, t, U', L, hT, X', hL, e1, e2, hq, st⟩
  · dsimp only [Pt.U, Pt.locs, Pt.cells, Pt.slots] at X' e1 e2 h1 h2 h3 st hcl
    subst h1; subst h2; subst h3
    exact Or.inr ⟨q, (T.setVm vm₁).calling g' mk As.toArray, t, U', L, E, ce, hT, X', hL, e1, e2, hq, hce, hcv, vx_cls hW₁ hcl, st⟩
end Runs
section Rows
variable {p : Program} {l : Launch} {e : Env} {R : Room} {s : State} {m : MethodId} {args : Array Value} {below : List Frame} {meth : Method} {c : Code} {H : Heap} {locs : List Loc} {cells slots : Nat} {Q : State → Prop}
variable {mc ms : Nat} {free : Addr → Prop} {A0 A1 : Nat → Prop} {H0 : Heap} {a : Array Value} {pc : Nat} {ls : Array Slot} {st0 rest : List Value}
theorem vx_keep {st₀ t T' : State} {L : List Loc} (h0 : st₀.heap = H) (e1 : T'.heap = t.heap) (hS : va_S A0 H0 H locs) (hA : ∀ q, q < H.size → A1 q → A0 q) (hf : ∀ q, free q → A0 q) (hL : ∀ q ∈ L, free q.base) (hF : va_F A1 st₀ t) :
    H.size ≤ T'.heap.size ∧ (∀ q : Nat, q < H.size → ¬ A1 q → T'.heap[q]? = H[q]?) ∧ va_S A0 H0 T'.heap (locs ++ L) := by
  obtain ⟨hz, hk⟩ := hF
  rw [h0] at hz hk
  exact ⟨by rw [e1]; exact hz, fun q h1 h2 => by rw [e1]; exact hk q h1 h2,
    ⟨Nat.le_trans hS.1 (by rw [e1]; exact hz), fun q h1 h2 => by rw [e1, hk q (Nat.lt_of_lt_of_le h1 hS.1) (fun z => h2 (hA q (Nat.lt_of_lt_of_le h1 hS.1) z))]; exact hS.2.1 q h1 h2, fun q hq => by
      rcases List.mem_append.mp hq with h | h
      · exact hS.2.2 q h
      · exact hf _ (hL q h)⟩⟩
theorem vx_calli {S SX : Type} {post : Int32 → S → Prop} {px : SX → Prop} {B : S → State → Prop} {BX : String → SX → State → Prop} {AX : Nat → Prop} (hr : vx_Run p l e R s m args below meth c H locs cells slots mc ms (F0 m pc ls st0) rest (va_Qi post B A1 a) (vx_X px BX AX) free) (hS : va_S A0 H0 H locs) (hA : ∀ q, q < H.size → A1 q → A0 q) (hf : ∀ q, free q → A0 q) (hAX : ∀ q, q < H.size → AX q → A0 q)
    (kx : ∀ (E : String) (ce : Cell) (q9 : Addr) (u : SX) (t : State) (H1 : Heap) (locs1 : List Loc), t.heap = H1 → s.vm.Alike t.vm → px u → BX E u t → H.size ≤ H1.size → (∀ q : Nat, q < H.size → ¬ AX q → H1[q]? = H[q]?) → va_S A0 H0 H1 locs1 → H1[q9]? = some ce → ce.vm = .none → s.vm.findClass E = some ce.cls → vx_W p l e R s m args below meth c H1 locs1 (cells + mc) (slots + ms) Q (F0 m pc ls rest) q9)
    (kk : ∀ (r : Int32) (u : S) (t : State) (H1 : Heap) (locs1 : List Loc), t.heap = H1 → s.vm.Alike t.vm → post r u → B u t → H.size ≤ H1.size → (∀ q : Nat, q < H.size → ¬ A1 q → H1[q]? = H[q]?) → va_S A0 H0 H1 locs1 → W p l e R s m args below meth c H1 locs1 (cells + mc) (slots + ms) Q (F0 m (pc + 3) ls (.int r :: rest))) : W p l e R s m args below meth c H locs cells slots Q (F0 m pc ls st0) := by
  intro T hT X
  rcases hr T hT X with ⟨v, st₀, t, T', L, h0, X', hL, e1, e2, ⟨⟨r, u, hv, hp, hb⟩, hF⟩, st⟩ | ⟨q, st₀, t, T', L, E, ce, h0, X', hL, e1, e2, ⟨u, hp, hb, hF⟩, hce, hcv, hcl, st⟩
  · cases hv
    obtain ⟨k1, k2, k3⟩ := vx_keep h0 e1 hS hA hf hL hF
    obtain ⟨t2, a1, b1⟩ := kk r u t T'.heap (locs ++ L) e1.symm (by rw [← e2]; exact X'.warmed.alike) hp hb k1 k2 k3 T' rfl X'
    exact ⟨t2, st t2 a1, b1⟩
  · obtain ⟨k1, k2, k3⟩ := vx_keep h0 e1 hS hAX hf hL hF
    obtain ⟨t2, a1, b1⟩ := kx E ce q u t T'.heap (locs ++ L) e1.symm (by rw [← e2]; exact X'.warmed.alike) hp hb k1 k2 k3 (by rw [e1]; exact hce) hcv hcl T' rfl X'
    exact ⟨t2, st.trans a1, b1⟩
theorem vx_calll {S SX : Type} {post : Int64 → S → Prop} {px : SX → Prop} {B : S → State → Prop} {BX : String → SX → State → Prop} {AX : Nat → Prop} (hr : vx_Run p l e R s m args below meth c H locs cells slots mc ms (F0 m pc ls st0) rest (va_Ql post B A1 a) (vx_X px BX AX) free) (hS : va_S A0 H0 H locs) (hA : ∀ q, q < H.size → A1 q → A0 q) (hf : ∀ q, free q → A0 q) (hAX : ∀ q, q < H.size → AX q → A0 q)
    (kx : ∀ (E : String) (ce : Cell) (q9 : Addr) (u : SX) (t : State) (H1 : Heap) (locs1 : List Loc), t.heap = H1 → s.vm.Alike t.vm → px u → BX E u t → H.size ≤ H1.size → (∀ q : Nat, q < H.size → ¬ AX q → H1[q]? = H[q]?) → va_S A0 H0 H1 locs1 → H1[q9]? = some ce → ce.vm = .none → s.vm.findClass E = some ce.cls → vx_W p l e R s m args below meth c H1 locs1 (cells + mc) (slots + ms) Q (F0 m pc ls rest) q9)
    (kk : ∀ (r : Int64) (u : S) (t : State) (H1 : Heap) (locs1 : List Loc), t.heap = H1 → s.vm.Alike t.vm → post r u → B u t → H.size ≤ H1.size → (∀ q : Nat, q < H.size → ¬ A1 q → H1[q]? = H[q]?) → va_S A0 H0 H1 locs1 → W p l e R s m args below meth c H1 locs1 (cells + mc) (slots + ms) Q (F0 m (pc + 3) ls (.long r :: rest))) : W p l e R s m args below meth c H locs cells slots Q (F0 m pc ls st0) := by
  intro T hT X
  rcases hr T hT X with ⟨v, st₀, t, T', L, h0, X', hL, e1, e2, ⟨⟨r, u, hv, hp, hb⟩, hF⟩, st⟩ | ⟨q, st₀, t, T', L, E, ce, h0, X', hL, e1, e2, ⟨u, hp, hb, hF⟩, hce, hcv, hcl, st⟩
  · cases hv
    obtain ⟨k1, k2, k3⟩ := vx_keep h0 e1 hS hA hf hL hF
    obtain ⟨t2, a1, b1⟩ := kk r u t T'.heap (locs ++ L) e1.symm (by rw [← e2]; exact X'.warmed.alike) hp hb k1 k2 k3 T' rfl X'
    exact ⟨t2, st t2 a1, b1⟩
  · obtain ⟨k1, k2, k3⟩ := vx_keep h0 e1 hS hAX hf hL hF
    obtain ⟨t2, a1, b1⟩ := kx E ce q u t T'.heap (locs ++ L) e1.symm (by rw [← e2]; exact X'.warmed.alike) hp hb k1 k2 k3 (by rw [e1]; exact hce) hcv hcl T' rfl X'
    exact ⟨t2, st.trans a1, b1⟩
theorem vx_callf {S SX : Type} {post : UInt32 → S → Prop} {px : SX → Prop} {B : S → State → Prop} {BX : String → SX → State → Prop} {AX : Nat → Prop} (hr : vx_Run p l e R s m args below meth c H locs cells slots mc ms (F0 m pc ls st0) rest (va_Qf post B A1 a) (vx_X px BX AX) free) (hS : va_S A0 H0 H locs) (hA : ∀ q, q < H.size → A1 q → A0 q) (hf : ∀ q, free q → A0 q) (hAX : ∀ q, q < H.size → AX q → A0 q)
    (kx : ∀ (E : String) (ce : Cell) (q9 : Addr) (u : SX) (t : State) (H1 : Heap) (locs1 : List Loc), t.heap = H1 → s.vm.Alike t.vm → px u → BX E u t → H.size ≤ H1.size → (∀ q : Nat, q < H.size → ¬ AX q → H1[q]? = H[q]?) → va_S A0 H0 H1 locs1 → H1[q9]? = some ce → ce.vm = .none → s.vm.findClass E = some ce.cls → vx_W p l e R s m args below meth c H1 locs1 (cells + mc) (slots + ms) Q (F0 m pc ls rest) q9)
    (kk : ∀ (r : UInt32) (u : S) (t : State) (H1 : Heap) (locs1 : List Loc), t.heap = H1 → s.vm.Alike t.vm → post r u → B u t → H.size ≤ H1.size → (∀ q : Nat, q < H.size → ¬ A1 q → H1[q]? = H[q]?) → va_S A0 H0 H1 locs1 → W p l e R s m args below meth c H1 locs1 (cells + mc) (slots + ms) Q (F0 m (pc + 3) ls (.float r :: rest))) : W p l e R s m args below meth c H locs cells slots Q (F0 m pc ls st0) := by
  intro T hT X
  rcases hr T hT X with ⟨v, st₀, t, T', L, h0, X', hL, e1, e2, ⟨⟨r, u, hv, hp, hb⟩, hF⟩, st⟩ | ⟨q, st₀, t, T', L, E, ce, h0, X', hL, e1, e2, ⟨u, hp, hb, hF⟩, hce, hcv, hcl, st⟩
  · cases hv
    obtain ⟨k1, k2, k3⟩ := vx_keep h0 e1 hS hA hf hL hF
    obtain ⟨t2, a1, b1⟩ := kk r u t T'.heap (locs ++ L) e1.symm (by rw [← e2]; exact X'.warmed.alike) hp hb k1 k2 k3 T' rfl X'
    exact ⟨t2, st t2 a1, b1⟩
  · obtain ⟨k1, k2, k3⟩ := vx_keep h0 e1 hS hAX hf hL hF
    obtain ⟨t2, a1, b1⟩ := kx E ce q u t T'.heap (locs ++ L) e1.symm (by rw [← e2]; exact X'.warmed.alike) hp hb k1 k2 k3 (by rw [e1]; exact hce) hcv hcl T' rfl X'
    exact ⟨t2, st.trans a1, b1⟩
theorem vx_calld {S SX : Type} {post : UInt64 → S → Prop} {px : SX → Prop} {B : S → State → Prop} {BX : String → SX → State → Prop} {AX : Nat → Prop} (hr : vx_Run p l e R s m args below meth c H locs cells slots mc ms (F0 m pc ls st0) rest (va_Qd post B A1 a) (vx_X px BX AX) free) (hS : va_S A0 H0 H locs) (hA : ∀ q, q < H.size → A1 q → A0 q) (hf : ∀ q, free q → A0 q) (hAX : ∀ q, q < H.size → AX q → A0 q)
    (kx : ∀ (E : String) (ce : Cell) (q9 : Addr) (u : SX) (t : State) (H1 : Heap) (locs1 : List Loc), t.heap = H1 → s.vm.Alike t.vm → px u → BX E u t → H.size ≤ H1.size → (∀ q : Nat, q < H.size → ¬ AX q → H1[q]? = H[q]?) → va_S A0 H0 H1 locs1 → H1[q9]? = some ce → ce.vm = .none → s.vm.findClass E = some ce.cls → vx_W p l e R s m args below meth c H1 locs1 (cells + mc) (slots + ms) Q (F0 m pc ls rest) q9)
    (kk : ∀ (r : UInt64) (u : S) (t : State) (H1 : Heap) (locs1 : List Loc), t.heap = H1 → s.vm.Alike t.vm → post r u → B u t → H.size ≤ H1.size → (∀ q : Nat, q < H.size → ¬ A1 q → H1[q]? = H[q]?) → va_S A0 H0 H1 locs1 → W p l e R s m args below meth c H1 locs1 (cells + mc) (slots + ms) Q (F0 m (pc + 3) ls (.double r :: rest))) : W p l e R s m args below meth c H locs cells slots Q (F0 m pc ls st0) := by
  intro T hT X
  rcases hr T hT X with ⟨v, st₀, t, T', L, h0, X', hL, e1, e2, ⟨⟨r, u, hv, hp, hb⟩, hF⟩, st⟩ | ⟨q, st₀, t, T', L, E, ce, h0, X', hL, e1, e2, ⟨u, hp, hb, hF⟩, hce, hcv, hcl, st⟩
  · cases hv
    obtain ⟨k1, k2, k3⟩ := vx_keep h0 e1 hS hA hf hL hF
    obtain ⟨t2, a1, b1⟩ := kk r u t T'.heap (locs ++ L) e1.symm (by rw [← e2]; exact X'.warmed.alike) hp hb k1 k2 k3 T' rfl X'
    exact ⟨t2, st t2 a1, b1⟩
  · obtain ⟨k1, k2, k3⟩ := vx_keep h0 e1 hS hAX hf hL hF
    obtain ⟨t2, a1, b1⟩ := kx E ce q u t T'.heap (locs ++ L) e1.symm (by rw [← e2]; exact X'.warmed.alike) hp hb k1 k2 k3 (by rw [e1]; exact hce) hcv hcl T' rfl X'
    exact ⟨t2, st.trans a1, b1⟩
theorem vx_callv {S SX : Type} {post : S → Prop} {px : SX → Prop} {B : S → State → Prop} {BX : String → SX → State → Prop} {AX : Nat → Prop} (hr : vx_Run p l e R s m args below meth c H locs cells slots mc ms (F0 m pc ls st0) rest (va_Qv post B A1 a) (vx_X px BX AX) free) (hS : va_S A0 H0 H locs) (hA : ∀ q, q < H.size → A1 q → A0 q) (hf : ∀ q, free q → A0 q) (hAX : ∀ q, q < H.size → AX q → A0 q)
    (kx : ∀ (E : String) (ce : Cell) (q9 : Addr) (u : SX) (t : State) (H1 : Heap) (locs1 : List Loc), t.heap = H1 → s.vm.Alike t.vm → px u → BX E u t → H.size ≤ H1.size → (∀ q : Nat, q < H.size → ¬ AX q → H1[q]? = H[q]?) → va_S A0 H0 H1 locs1 → H1[q9]? = some ce → ce.vm = .none → s.vm.findClass E = some ce.cls → vx_W p l e R s m args below meth c H1 locs1 (cells + mc) (slots + ms) Q (F0 m pc ls rest) q9)
    (kk : ∀ (u : S) (t : State) (H1 : Heap) (locs1 : List Loc), t.heap = H1 → s.vm.Alike t.vm → post u → B u t → H.size ≤ H1.size → (∀ q : Nat, q < H.size → ¬ A1 q → H1[q]? = H[q]?) → va_S A0 H0 H1 locs1 → W p l e R s m args below meth c H1 locs1 (cells + mc) (slots + ms) Q (F0 m (pc + 3) ls (rest))) : W p l e R s m args below meth c H locs cells slots Q (F0 m pc ls st0) := by
  intro T hT X
  rcases hr T hT X with ⟨v, st₀, t, T', L, h0, X', hL, e1, e2, ⟨⟨u, hv, hp, hb⟩, hF⟩, st⟩ | ⟨q, st₀, t, T', L, E, ce, h0, X', hL, e1, e2, ⟨u, hp, hb, hF⟩, hce, hcv, hcl, st⟩
  · cases hv
    obtain ⟨k1, k2, k3⟩ := vx_keep h0 e1 hS hA hf hL hF
    obtain ⟨t2, a1, b1⟩ := kk u t T'.heap (locs ++ L) e1.symm (by rw [← e2]; exact X'.warmed.alike) hp hb k1 k2 k3 T' rfl X'
    exact ⟨t2, st t2 a1, b1⟩
  · obtain ⟨k1, k2, k3⟩ := vx_keep h0 e1 hS hAX hf hL hF
    obtain ⟨t2, a1, b1⟩ := kx E ce q u t T'.heap (locs ++ L) e1.symm (by rw [← e2]; exact X'.warmed.alike) hp hb k1 k2 k3 (by rw [e1]; exact hce) hcv hcl T' rfl X'
    exact ⟨t2, st.trans a1, b1⟩
/-- caught by the row x of this method's table; the rows ahead don't take it -/
theorem vx_catch {own name : String} {E : String} {ce : Cell} {q : Addr} (hown : s.vm.findClass own = some m.cls) (pre : List ExceptionTableEntry) (x : ExceptionTableEntry) (suf : List ExceptionTableEntry) (hsplit : c.exceptionTable.toList = pre ++ x :: suf)
    (hpass : ∀ z ∈ pre, covers z pc = false ∨ (z.catchType ≠ 0 ∧ ∃ nm : String, (Cond.classLink own z.catchType nm).before args s = true ∧ va_Nc E nm s)) (hx : covers x pc = true) (h0 : x.catchType ≠ 0)
    (hlink : (Cond.classLink own x.catchType name).before args s = true) (hcast : (Cond.castable E name).before args s = true) (hcell : H[q]? = some ce) (hv : ce.vm = .none) (hcl : s.vm.findClass E = some ce.cls)
    (kk : W p l e R s m args below meth c H locs cells slots Q (F0 m x.handlerPc ls [.ref q])) : vx_W p l e R s m args below meth c H locs cells slots Q (F0 m pc ls rest) q := by
  intro T hT X
  have hpl : e.platform.magicAccessors = ({} : Platform).magicAccessors := by rw [X.admits.platform]
  obtain ⟨c3, c4, hc3, hc4, hasg⟩ := Cond.castable_spec hcast
  cases Option.some.inj (hc3.symm.trans hcl)
  obtain ⟨c5, hc5, hcl5⟩ := Cond.classLink_spec hown hlink e.platform hpl
  cases Option.some.inj (hc4.symm.trans hc5)
  obtain ⟨vm', X', st⟩ := X.thenCaughtThrough q (g := F0 m pc ls rest) rfl (Steps.refl _) (by rw [hT]; exact hcell) (by rw [hv]; rfl) (by obtain ⟨k9, h9, -⟩ := Vm.findClass_spec hcl; exact ⟨k9, h9⟩) pre x suf hsplit
    (fun z hz => by
      rcases hpass z hz with h | ⟨hz0, nm, hl1, hn1⟩
      · exact Or.inl h
      · obtain ⟨c6, hc6, hcl6⟩ := Cond.classLink_spec hown hl1 e.platform hpl
        obtain ⟨a8, b8, h1, h2, h3⟩ := hn1
        cases Option.some.inj (h1.symm.trans hcl)
        cases Option.some.inj (h2.symm.trans hc6)
        exact Or.inr ⟨hz0, _, hcl6, h3⟩) hx (Or.inr ⟨h0, c4, hcl5, hasg⟩)
  obtain ⟨t, a1, b1⟩ := kk (T.setVm vm') hT X'
  exact ⟨t, st.trans a1, b1⟩
end Rows
section Ends
variable {p : Program} {l : Launch} {e : Env} {R : Room} {s : State} {m : MethodId} {args : Array Value} {below : List Frame} {meth : Method} {c : Code} {H : Heap} {locs : List Loc} {cells slots : Nat} {Q : State → Prop}
variable {mc ms : Nat} {free : Addr → Prop} {A0 A1 : Nat → Prop} {H0 : Heap} {a : Array Value} {ls : Array Slot} {st0 rest : List Value}
variable {Qc : Array Value → State → Outcome → State → Prop} {XC : String → State → State → Prop}
/-- what a body that may throw owes at its end -/
def vx_MQ (below : List Frame) (Qc : Array Value → State → Outcome → State → Prop) (XC : String → State → State → Prop) (a : Array Value) (s : State) (mc ms : Nat) (free : Addr → Prop) : State → Prop := fun t =>
  ∃ o, t.status = .running ∧ Ended t below o ∧ vx_Q Qc XC mc ms free a s o t
theorem vx_ret {g : JFrame} {mc ms : Nat} (k : W p l e R s m args below meth c H locs cells slots (MQ below Qc args s mc ms free) g) : W p l e R s m args below meth c H locs cells slots (vx_MQ below Qc XC args s mc ms free) g := by
  intro T hT X
  obtain ⟨t, a1, o, b1, b2, b3, b4⟩ := k T hT X
  exact ⟨t, a1, o, b1, b2, Or.inl ⟨b3, b4⟩⟩
/-- not caught here: it goes on to the caller -/
theorem vx_widen {g : JFrame} {q : Addr} {k n : Nat} (h1 : cells ≤ k) (h2 : slots ≤ n) (kk : vx_W p l e R s m args below meth c H locs k n Q g q) : vx_W p l e R s m args below meth c H locs cells slots Q g q := fun T hT X => kk T hT (stand_widen X h1 h2)
theorem vx_out {pc : Nat} {E : String} {ce : Cell} {q : Addr} {mc ms : Nat} (hout : ∀ x ∈ c.exceptionTable.toList, covers x pc = false) (hlocks : meth.locks = false) (hcell : H[q]? = some ce) (hv : ce.vm = .none) (hcl : s.vm.findClass E = some ce.cls)
    (hx : ∀ t : State, t.heap = H → s.vm.Alike t.vm → XC E s t) (hf : ∀ z ∈ locs, free z.base) (hc : cells ≤ mc) (hs : slots ≤ ms) :
    vx_W p l e R s m args below meth c H locs cells slots (vx_MQ below Qc XC args s mc ms free) (F0 m pc ls rest) q := by
  intro T hT X
  obtain ⟨st1, hrun, hend, hW, hsm⟩ := X.leaveThrown q (g := F0 m pc ls rest) rfl rfl rfl hout hlocks
  have hcell9 : (T.setFrames (.throwing q :: below)).heap[q]? = some ce := by
    show T.heap[q]? = some ce
    rw [hT]; exact hcell
  exact ⟨_, st1, .threw q, hrun, hend, Or.inr ⟨q, rfl, E, ce, locs, hx _ hT hW.alike, hcell9, hv, hcl, hW, hsm.mono hc hs, hf⟩⟩
theorem vx_frame {U : State} {k n : Nat} (h : s.sameButNew ({ U with vm := s.vm } : State) locs k n) : s.heap.size ≤ U.heap.size ∧ ∀ q : Nat, q < s.heap.size → (∀ z ∈ locs, z.base ≠ q) → U.heap[q]? = s.heap[q]? := by
  obtain ⟨-, h2, -, -, -, h6⟩ := h
  refine ⟨h2, fun q hq hz => ?_⟩
  obtain ⟨c9, e1, e2, e3, e4⟩ := h6 q _ (Array.getElem?_eq_getElem hq)
  have hs : c9.slots = (s.heap[q]).slots := Array.ext_getElem? fun i => e4 i fun hm => hz _ hm rfl
  have h9 : c9 = s.heap[q] := by
    rw [hs] at e2
    exact e2
  have e5 : U.heap[q]? = some c9 := e1
  rw [e5, h9, Array.getElem?_eq_getElem hq]
/-- the words of a throw but the four that speak of the heap -/
def vx_no (w : Cond) : Bool := decide (w ≠ .isRef (.static Bundle.tN "UNASSIGNED_STACK" Bundle.steD)) && decide (w ≠ .isRef (.static Bundle.tN "SUPPRESSED_SENTINEL" Bundle.listD)) && decide (w ≠ .laysStatic Bundle.tN "UNASSIGNED_STACK" Bundle.steD) && decide (w ≠ .laysStatic Bundle.tN "SUPPRESSED_SENTINEL" Bundle.listD)
def vx_at0 (own : String) (ic : Nat) (X : String) (names : List String) : List Cond := (Bundle.ownAtoms0 own ic X names).filter vx_no
def vx_atS (own : String) (ic : Nat) (X : String) (names : List String) : List Cond := (Bundle.ownAtoms own ic X names).filter vx_no
/-- a word that the tables alone decide, or a good one -/
def vx_ot (w : Cond) : Bool := w.onTables || goodWord w
theorem vx_ot_at {args a' : Array Value} {s U : State} {w : Cond} (hW : s.WarmedH U.vm) (hvm : s.vm = U.vm) (hg : vx_ot w = true) (h : w.before args s = true) : w.before a' U = true := by
  simp only [vx_ot, Bool.or_eq_true] at hg
  rcases hg with hg | hg
  · exact va_tabs hg hvm h
  · exact word_at hW (good_of_word hg) h
/-- a list's words: the good ones out of the method's own list, the others by premises of their own -/
theorem vx_hat {args : Array Value} {s : State} {L B : List Cond} (h1 : ∀ w ∈ L.filter goodWord, w.before args s = true) (h2 : ∀ w ∈ L.filter (fun w => !goodWord w), w ∈ B) (h3 : ∀ w ∈ B, w.before args s = true) : ∀ w ∈ L, w.before args s = true := by
  intro w hw
  by_cases g : goodWord w = true
  · exact h1 w (List.mem_filter.mpr ⟨hw, g⟩)
  · refine h3 w (h2 w (List.mem_filter.mpr ⟨hw, ?_⟩))
    show (!goodWord w) = true
    cases hgw : goodWord w
    · rfl
    · exact absurd hgw g
theorem vx_c {args : Array Value} {s : State} {w : Cond} {B : List Cond} (h : w.before args s = true) (t : ∀ w ∈ B, w.before args s = true) : ∀ w' ∈ w :: B, w'.before args s = true := fun w' h' => (List.mem_cons.mp h').elim (fun e => by rw [e]; exact h) (t w')
theorem vx_n {args : Array Value} {s : State} : ∀ w ∈ ([] : List Cond), w.before args s = true := fun _ h => nomatch h
theorem vx_own {args : Array Value} {s : State} {L : List Cond} (h1 : ∀ w ∈ L.filter vx_no, w.before args s = true)
    (hU : (Cond.isRef (.static Bundle.tN "UNASSIGNED_STACK" Bundle.steD)).before args s = true) (hN : (Cond.isRef (.static Bundle.tN "SUPPRESSED_SENTINEL" Bundle.listD)).before args s = true)
    (lU : (Cond.laysStatic Bundle.tN "UNASSIGNED_STACK" Bundle.steD).before args s = true) (lN : (Cond.laysStatic Bundle.tN "SUPPRESSED_SENTINEL" Bundle.listD).before args s = true) : ∀ w ∈ L, w.before args s = true := by
  intro w hw
  by_cases e1 : w = .isRef (.static Bundle.tN "UNASSIGNED_STACK" Bundle.steD)
  · rw [e1]; exact hU
  · by_cases e2 : w = .isRef (.static Bundle.tN "SUPPRESSED_SENTINEL" Bundle.listD)
    · rw [e2]; exact hN
    · by_cases e3 : w = .laysStatic Bundle.tN "UNASSIGNED_STACK" Bundle.steD
      · rw [e3]; exact lU
      · by_cases e4 : w = .laysStatic Bundle.tN "SUPPRESSED_SENTINEL" Bundle.listD
        · rw [e4]; exact lN
        · exact h1 w (List.mem_filter.mpr ⟨hw, by unfold vx_no; rw [decide_eq_true e1, decide_eq_true e2, decide_eq_true e3, decide_eq_true e4]; rfl⟩)
/-- where a static field lies, its class's statics cell in H -/
def vx_L (C n d : String) (A : Nat → Prop) (U : State) (H : Heap) : Prop := ∃ (c : ClassId) (k : Class) (i : Nat) (f : Field) (a : Nat) (cell : Cell), U.vm.findClass C = some c ∧ U.fieldFound? C n d = some (c, k, i, f) ∧ f.isStatic = true ∧ k.statics = some a ∧ H[a]? = some cell ∧ cell.vm.isStatics = true ∧ cell.cls = c ∧ f.slot < cell.slots.size ∧ k.staticTypes[f.slot]? = some f.type ∧ ¬ A a
theorem vx_L.moved {C n d : String} {A : Nat → Prop} {u U : State} {H : Heap} (hvm : u.vm.Alike U.vm) (h : vx_L C n d A u H) : vx_L C n d A U H := by
  obtain ⟨c, k, i, f, a, cell, h1, h2, h3, h4, h5, h6, h7, h8, h9, h10⟩ := h
  obtain ⟨k', hi', he⟩ := State.fieldFound?_setVm hvm h2
  exact ⟨c, k', i, f, a, cell, by rw [hvm.findClass]; exact h1, hi', h3, by rw [he]; exact h4, h5, h6, h7, h8, by rw [he]; exact h9, h10⟩
theorem vx_L.kept {C n d : String} {A : Nat → Prop} {U : State} {H H1 : Heap} (h : vx_L C n d A U H) (hq : ∀ a : Nat, a < H.size → ¬ A a → H1[a]? = H[a]?) : vx_L C n d A U H1 := by
  obtain ⟨c, k, i, f, a, cell, h1, h2, h3, h4, h5, h6, h7, h8, h9, h10⟩ := h
  exact ⟨c, k, i, f, a, cell, h1, h2, h3, h4, by rw [hq a (Array.getElem?_eq_some_iff.mp h5).1 h10]; exact h5, h6, h7, h8, h9, h10⟩
theorem vx_L.narrow {C n d : String} {A B : Nat → Prop} {U : State} {H : Heap} (h : vx_L C n d A U H) (hAB : ∀ q, B q → A q) : vx_L C n d B U H := by
  obtain ⟨c, k, i, f, a, cell, h1, h2, h3, h4, h5, h6, h7, h8, h9, h10⟩ := h
  exact ⟨c, k, i, f, a, cell, h1, h2, h3, h4, h5, h6, h7, h8, h9, fun z => h10 (hAB _ z)⟩
theorem vx_L.word {C n d : String} {A : Nat → Prop} {s : State} {args : Array Value} (h : vx_L C n d A s s.heap) : (Cond.laysStatic C n d).before args s = true := by
  obtain ⟨c, k, i, f, a, cell, h1, h2, h3, h4, h5, h6, h7, h8, h9, -⟩ := h
  show (Cond.laysStatic C n d).holds args s none s [] = true
  exact Cond.laysStatic_of h1 h2 h3 h4 h5 h6 h7 h8 h9
/-- .. and what it holds: null or some reference -/
def vx_Zq (C n d : String) (A : Nat → Prop) (U : State) (H : Heap) : Prop := va_Zq C n d A U H ∧ vx_L C n d A U H
theorem vx_Zq.moved {C n d : String} {A : Nat → Prop} {u U : State} {H : Heap} (hvm : u.vm.Alike U.vm) (h : vx_Zq C n d A u H) : vx_Zq C n d A U H := ⟨va_Zq.moved hvm h.1, vx_L.moved hvm h.2⟩
theorem vx_Zq.kept {C n d : String} {A : Nat → Prop} {U : State} {H H1 : Heap} (h : vx_Zq C n d A U H) (hq : ∀ a : Nat, a < H.size → ¬ A a → H1[a]? = H[a]?) : vx_Zq C n d A U H1 := ⟨va_Zq.kept h.1 hq, vx_L.kept h.2 hq⟩
theorem vx_Zq.narrow {C n d : String} {A B : Nat → Prop} {U : State} {H : Heap} (h : vx_Zq C n d A U H) (hAB : ∀ q, B q → A q) : vx_Zq C n d B U H := ⟨va_Zq.narrow h.1 hAB, vx_L.narrow h.2 hAB⟩
theorem vx_Zqof {args : Array Value} {s : State} {C n d : String} {A : Nat → Prop} (hl : (Cond.laysStatic C n d).before args s = true) (hini : (Cond.initialized C).before args s = true) (h : (Cond.isRef (.static C n d)).before args s = true) (hA : ∀ a : Nat, a < s.heap.size → ¬ A a) : vx_Zq C n d A s s.heap := by
  refine ⟨va_Zqof hl hini h hA, ?_⟩
  obtain ⟨c, k, i, f, a, cell, h1, h2, h3, h4, h5, h6, h7, h8, h9⟩ := Cond.laysStatic_spec hl
  exact ⟨c, k, i, f, a, cell, h1, h2, h3, h4, h5, h6, h7, h8, h9, hA a (Array.getElem?_eq_some_iff.mp h5).1⟩
theorem vx_isRef {C n d : String} {v : Value} {A : Nat → Prop} {s : State} {args : Array Value} (h : va_Z C n d v A s s.heap) (hv : v.isRef = true) : (Cond.isRef (.static C n d)).before args s = true := by
  obtain ⟨cf, kf, fi, f, a, cell, h1, h2, h3, h4, h5, h6, h7, -⟩ := h
  have he : (Term.static C n d).eval args s none [] s = some v := by
    simp [Term.eval, State.fieldNamed?, h1, h2, h4, h5, h6, h7]
  simp only [Cond.before, Cond.holds, Cond.value, he]
  cases v <;> simp_all [Value.isRef]
theorem vx_isRefq {C n d : String} {A : Nat → Prop} {s : State} {args : Array Value} (h : va_Zq C n d A s s.heap) : (Cond.isRef (.static C n d)).before args s = true := by
  rcases h with h | ⟨t, h⟩
  · exact vx_isRef h rfl
  · exact vx_isRef h rfl
/-- the same frame, seen from here: as if the method were called anew in this heap -/
theorem vx_rebase {T : State} (X : Stand p l e R s m args below meth c T locs cells slots) {R' : Room} (hf : R'.frames ≤ R.frames) (hl : R'.locals ≤ R.locals) (hc : cells + R'.cells ≤ R.cells) (hs : slots + R'.slots ≤ R.slots) :
    Stand p l e R' ((T.setVm s.vm).setFrames (.invoking m args :: below)) m args below meth c T [] 0 0 := by
  have htop : (T.setVm s.vm).topJava?.isSome := X.here.top
  have hF : ((T.setVm s.vm).setFrames (.invoking m args :: below)).frames = .invoking m args :: below := State.frames_setFrames _ (State.cur_lt_of_top htop)
  obtain ⟨g₀, hg0⟩ := Option.isSome_iff_exists.mp htop
  obtain ⟨r, hr⟩ := State.topJava?_eq_some.mp hg0
  have hl9 : e.platform.stackLimits (T.setVm s.vm).me = e.platform.stackLimits s.me := X.limits
  have hb9 : (T.setVm s.vm).me.stackBytes = s.me.stackBytes := X.bytes
  refine ⟨X.admits, X.cas, X.clock, hF, ?_, X.hears, X.method, X.code, X.here, X.tail, X.warmed, ?_, ?_, ?_⟩
  · have h := X.room
    have hU : ((T.setVm s.vm).setFrames (.invoking m args :: below)).localsInUse = s.localsInUse := by
      rw [State.localsInUse_invoking hF (meth := meth) (c := c) X.method X.code, State.localsInUse_invoking X.frames X.method X.code]
    simp only [State.hasRoom, Bool.and_eq_true, decide_eq_true_eq] at h ⊢
    obtain ⟨⟨⟨⟨h1, h2, h3, h4, h5, h6⟩, h7⟩, h8⟩, h9⟩ := h
    rw [X.frames, List.length_cons] at h2 h3
    have q1 := X.heapSize
    have q2 := X.used
    simp only [hF, hU, List.length_cons, State.stackLimits_setFrames, State.stackBytes_setFrames, hl9, hb9]
    refine ⟨⟨⟨⟨by omega, by omega, by omega, by omega, by omega, h6⟩, ?_⟩, ?_⟩, X.book⟩
    · show T.heap.size + R'.cells ≤ e.platform.maxCells
      omega
    · show T.slotsUsed + R'.slots ≤ e.platform.maxSlots
      omega
  · rw [State.stackLimits_setFrames]; rfl
  · rw [State.stackBytes_setFrames]; rfl
  · refine ⟨?_, Nat.le_refl _, Nat.le_refl _, ?_, ?_, fun a c9 h9 => ⟨c9, h9, rfl, rfl, fun _ _ => rfl⟩⟩
    · obtain ⟨t, ht, -⟩ := State.frames_cons hr
      show T.setVm s.vm = { ((T.setVm s.vm).setFrames (.invoking m args :: below)).setFrames (T.setVm s.vm).frames with heap := T.heap, slotsUsed := T.slotsUsed }
      rw [State.setFrames_setFrames, State.setFrames_self ht]
      rfl
    · show T.slotsUsed = T.slotsUsed + ((T.heap.toList.drop T.heap.size).map (·.slots.size)).sum
      rw [List.drop_eq_nil_of_le (Nat.le_of_eq Array.length_toList)]
      rfl
    · show ((T.heap.toList.drop T.heap.size).map (·.slots.size)).sum ≤ 0
      rw [List.drop_eq_nil_of_le (Nat.le_of_eq Array.length_toList)]
      exact Nat.le_refl _
/-- 'throw new E()': new; dup; invokespecial; athrow -/
theorem vx_throw0 {cc : ByteArray} {pc : Nat} (hexec : p.tables.exec = Jvm.exec) (hb : c.code = cc) (hl : l.stackTraces = false) {own cls : String} {names : List String} {ik ic mc ms : Nat} {A : Nat → Prop}
    (hown : s.vm.findClass own = some m.cls) (hcls : Bundle.fit cls = true) (hnames : ∀ n ∈ names, Bundle.fit n = true)
    (hk : (Cond.classLink own ik cls).before args s = true) (hini : (Cond.initialized cls).before args s = true) (hat : ∀ w ∈ vx_at0 own ic cls names, w.before args s = true)
    (hgood : ∀ w ∈ Cond.classLink own ik cls :: Cond.initialized cls :: vx_at0 own ic cls names, vx_ot w = true)
    (hU : vx_Zq Bundle.tN "UNASSIGNED_STACK" Bundle.steD A s s.heap) (hN : vx_Zq Bundle.tN "SUPPRESSED_SENTINEL" Bundle.listD A s s.heap) (hS : va_S A s.heap H locs) (hsize : ls.size = c.maxLocals)
    (d0 : decode cc pc = .ok (.new ik, 3)) (d3 : decode cc (pc + 3) = .ok (.dup, 1)) (d4 : decode cc (pc + 4) = .ok (.invokespecial ic, 3)) (d7 : decode cc (pc + 7) = .ok (.athrow, 1))
    (hout : ∀ x ∈ c.exceptionTable.toList, covers x (pc + 7) = false)
    (hRframes : names.length + 3 < R.frames) (hRlocals : (rest.map fun v => v.category).sum + (13 * (names.length + 1) + 42) ≤ R.locals) (hRcells : cells + 1 ≤ R.cells) (hRslots : slots + 6 ≤ R.slots) (hlocks : meth.locks = false)
    (hx : ∀ t : State, s.vm.Alike t.vm → H.size ≤ t.heap.size → (∀ q : Nat, q < H.size → t.heap[q]? = H[q]?) → XC cls s t)
    (hf : ∀ z ∈ locs, free z.base) (hc : cells + 1 ≤ mc) (hs : slots + 6 ≤ ms) :
    W p l e R s m args below meth c H locs cells slots (vx_MQ below Qc XC args s mc ms free) (F0 m pc ls rest) := by
  intro T hT X
  have htr : e.platform.stackTraces = false := (show e.platform.stackTraces = l.stackTraces by rw [X.admits.platform]).trans hl
  have Y := vx_rebase X (R' := { frames := R.frames, locals := R.locals, cells := 1, slots := 6 }) (Nat.le_refl _) (Nat.le_refl _) hRcells hRslots
  obtain ⟨s', hA⟩ : ∃ z, z = (T.setVm s.vm).setFrames (.invoking m args :: below) := ⟨_, rfl⟩
  rw [← hA] at Y
  have hvm : s'.vm = s.vm := by rw [hA]; rfl
  have hhp : s'.heap = H := by rw [hA]; exact hT
  have hW0 : s.WarmedH s'.vm := by rw [hvm]; exact State.WarmedH.refl s
  have hat' : ∀ w ∈ vx_at0 own ic cls names, w.before args s' = true := fun w hw => vx_ot_at hW0 hvm.symm (hgood w (List.mem_cons_of_mem _ (List.mem_cons_of_mem _ hw))) (hat w hw)
  have hk' : (Cond.classLink own ik cls).before args s' = true := vx_ot_at hW0 hvm.symm (hgood _ List.mem_cons_self) hk
  have hini' : (Cond.initialized cls).before args s' = true := vx_ot_at hW0 hvm.symm (hgood _ (List.mem_cons_of_mem _ List.mem_cons_self)) hini
  have hU' : vx_Zq Bundle.tN "UNASSIGNED_STACK" Bundle.steD A s' s'.heap := by rw [hhp]; exact vx_Zq.moved hW0.alike (hU.kept hS.2.1)
  have hN' : vx_Zq Bundle.tN "SUPPRESSED_SENTINEL" Bundle.listD A s' s'.heap := by rw [hhp]; exact vx_Zq.moved hW0.alike (hN.kept hS.2.1)
  have h : ∀ w ∈ Bundle.ownAtoms0 own ic cls names, w.before args s' = true := vx_own hat' (vx_isRefq hU'.1) (vx_isRefq hN'.1) hU'.2.word hN'.2.word
  have hown' : s'.vm.findClass own = some m.cls := by rw [hvm]; exact hown
  have hins : (Cond.instantiable cls 6).before args s' = true := h _ (by simp [Bundle.ownAtoms0])
  obtain ⟨vm₁, cX, kX, hfX, hkX, -, -, X₁, st1⟩ := Y.newCold hexec (own := own) (C := cls) (index := ik) (n := 6) hown' hk' hins hini'
    (g := F0 m pc ls rest) rfl (by rw [hb]; exact d0) (Nat.le_refl _) (Nat.le_refl _)
  generalize hT1 : (T.setVm vm₁).pushCell { cls := cX, slots := kX.instanceTypes.map defaultValue, vm := .none } = T1 at X₁ st1
  have hcat : (Value.ref T.heap.size).category = 1 := rfl
  have hcellA : T1.heap[T.heap.size]? = some (freshCell cX kX) := by rw [← hT1]; exact State.heap_pushCell_size _ _
  have d3' : decode c.code (pc + 3) = .ok (.dup, 1) := by rw [hb]; exact d3
  obtain ⟨U, hsteps, hrun, hend, hW, hsame, ce, hce, hO⟩ := X₁.ctorThrow0 hexec htr (own := own) (cls := cls) (names := names) (ic := ic) hown' hcls hnames h (fun x hx => nomatch hx) hfX hkX hcellA (by rw [hhp, hT]; exact Nat.le_refl _)
    (g := { method := m, pc := pc + 4, locals := ls, stack := .ref T.heap.size :: .ref T.heap.size :: rest, locked := none }) rfl hsize rfl rfl (rest := rest) rfl
    (by rw [hb]; exact d4) (by rw [hb]; exact d7) hout hRframes (by simp only [List.map_cons, List.sum_cons, hcat]; omega) hlocks
  obtain ⟨f1, f2⟩ := vx_frame hsame
  rw [hhp] at f1 f2
  have hWs : s.WarmedH U.vm := State.WarmedH.trans hW0 hW
  have hcl : s.vm.findClass cls = some ce.cls := by
    have h9 := hO.cls
    rw [hvm] at h9
    exact h9
  have hall : s.sameButNew ({ U with vm := s.vm } : State) locs mc ms := by
    subst hA
    obtain ⟨e1, e2⟩ := hsame
    rw [State.setFrames_setFrames] at e1
    have h2 : (T.setVm s.vm).sameButNew ({ U with vm := s.vm } : State) [] (0 + 1) (0 + 6) := ⟨e1, e2⟩
    have h3 := X.same.trans h2
    rw [List.append_nil] at h3
    exact h3.mono hc hs
  refine ⟨U, ?_, .threw T.heap.size, hrun, hend, Or.inr ⟨T.heap.size, rfl, cls, ce, locs, hx U hWs.alike f1 (fun q hq => f2 q hq (fun z hz => nomatch hz)), hce, hO.vm, hcl, hWs, hall, hf⟩⟩
  refine st1 _ ?_
  show Steps p.tables e below (T1.setTop { method := m, pc := pc + 3, locals := ls, stack := .ref T.heap.size :: rest, locked := none }) _
  jvm_step X₁.here [X₁.here.top, hexec, d3', Value.category]
  exact hsteps
/-- 'throw new E("text")': new; dup; ldc; invokespecial; athrow -/
theorem vx_throwS {cc : ByteArray} {pc : Nat} (hexec : p.tables.exec = Jvm.exec) (hb : c.code = cc) (hl : l.stackTraces = false) {own cls text : String} {names : List String} {ik is ic mc ms sa : Nat} {A : Nat → Prop}
    (hown : s.vm.findClass own = some m.cls) (hcls : Bundle.fit cls = true) (hnames : ∀ n ∈ names, Bundle.fit n = true)
    (hk : (Cond.classLink own ik cls).before args s = true) (hini : (Cond.initialized cls).before args s = true) (hstr : vk_R own is text sa s) (hat : ∀ w ∈ vx_atS own ic cls names, w.before args s = true)
    (hgood : ∀ w ∈ Cond.classLink own ik cls :: Cond.initialized cls :: vx_atS own ic cls names, vx_ot w = true)
    (hU : vx_Zq Bundle.tN "UNASSIGNED_STACK" Bundle.steD A s s.heap) (hN : vx_Zq Bundle.tN "SUPPRESSED_SENTINEL" Bundle.listD A s s.heap) (hS : va_S A s.heap H locs) (hsize : ls.size = c.maxLocals)
    (d0 : decode cc pc = .ok (.new ik, 3)) (d3 : decode cc (pc + 3) = .ok (.dup, 1)) (d4 : decode cc (pc + 4) = .ok (.ldc is, 2)) (d6 : decode cc (pc + 6) = .ok (.invokespecial ic, 3)) (d9 : decode cc (pc + 9) = .ok (.athrow, 1))
    (hout : ∀ x ∈ c.exceptionTable.toList, covers x (pc + 9) = false)
    (hRframes : names.length + 3 < R.frames) (hRlocals : (rest.map fun v => v.category).sum + (13 * (names.length + 1) + 43) ≤ R.locals) (hRcells : cells + 1 ≤ R.cells) (hRslots : slots + 6 ≤ R.slots) (hlocks : meth.locks = false)
    (hx : ∀ t : State, s.vm.Alike t.vm → H.size ≤ t.heap.size → (∀ q : Nat, q < H.size → t.heap[q]? = H[q]?) → XC cls s t)
    (hf : ∀ z ∈ locs, free z.base) (hc : cells + 1 ≤ mc) (hs : slots + 6 ≤ ms) :
    W p l e R s m args below meth c H locs cells slots (vx_MQ below Qc XC args s mc ms free) (F0 m pc ls rest) := by
  intro T hT X
  have htr : e.platform.stackTraces = false := (show e.platform.stackTraces = l.stackTraces by rw [X.admits.platform]).trans hl
  have Y := vx_rebase X (R' := { frames := R.frames, locals := R.locals, cells := 1, slots := 6 }) (Nat.le_refl _) (Nat.le_refl _) hRcells hRslots
  obtain ⟨s', hA⟩ : ∃ z, z = (T.setVm s.vm).setFrames (.invoking m args :: below) := ⟨_, rfl⟩
  rw [← hA] at Y
  have hvm : s'.vm = s.vm := by rw [hA]; rfl
  have hhp : s'.heap = H := by rw [hA]; exact hT
  have hW0 : s.WarmedH s'.vm := by rw [hvm]; exact State.WarmedH.refl s
  have hat' : ∀ w ∈ vx_atS own ic cls names, w.before args s' = true := fun w hw => vx_ot_at hW0 hvm.symm (hgood w (List.mem_cons_of_mem _ (List.mem_cons_of_mem _ hw))) (hat w hw)
  have hk' : (Cond.classLink own ik cls).before args s' = true := vx_ot_at hW0 hvm.symm (hgood _ List.mem_cons_self) hk
  have hini' : (Cond.initialized cls).before args s' = true := vx_ot_at hW0 hvm.symm (hgood _ (List.mem_cons_of_mem _ List.mem_cons_self)) hini
  have hU' : vx_Zq Bundle.tN "UNASSIGNED_STACK" Bundle.steD A s' s'.heap := by rw [hhp]; exact vx_Zq.moved hW0.alike (hU.kept hS.2.1)
  have hN' : vx_Zq Bundle.tN "SUPPRESSED_SENTINEL" Bundle.listD A s' s'.heap := by rw [hhp]; exact vx_Zq.moved hW0.alike (hN.kept hS.2.1)
  have h : ∀ w ∈ Bundle.ownAtoms own ic cls names, w.before args s' = true := vx_own hat' (vx_isRefq hU'.1) (vx_isRefq hN'.1) hU'.2.word hN'.2.word
  have hown' : s'.vm.findClass own = some m.cls := by rw [hvm]; exact hown
  have hins : (Cond.instantiable cls 6).before args s' = true := h _ (by simp [Bundle.ownAtoms])
  obtain ⟨vm₁, cX, kX, hfX, hkX, -, -, X₁, st1⟩ := Y.newCold hexec (own := own) (C := cls) (index := ik) (n := 6) hown' hk' hins hini'
    (g := F0 m pc ls rest) rfl (by rw [hb]; exact d0) (Nat.le_refl _) (Nat.le_refl _)
  generalize hT1 : (T.setVm vm₁).pushCell { cls := cX, slots := kX.instanceTypes.map defaultValue, vm := .none } = T1 at X₁ st1
  have hcat : (Value.ref T.heap.size).category = 1 := rfl
  have hcellA : T1.heap[T.heap.size]? = some (freshCell cX kX) := by rw [← hT1]; exact State.heap_pushCell_size _ _
  have d3' : decode c.code (pc + 3) = .ok (.dup, 1) := by rw [hb]; exact d3
  have d4' : decode c.code (pc + 4) = .ok (.ldc is, 2) := by rw [hb]; exact d4
  have hstr' : vk_R own is text sa s' := vk_R.warm hW0 hstr
  obtain ⟨U, hsteps, hrun, hend, hW, hsame, ce, hce, hO⟩ := X₁.ctorThrowS hexec htr (own := own) (cls := cls) (names := names) (ic := ic) hown' hcls hnames h (fun x hx => nomatch hx) hfX hkX hcellA (by rw [hhp, hT]; exact Nat.le_refl _) (msg := .ref sa) rfl
    (g := { method := m, pc := pc + 6, locals := ls, stack := .ref sa :: .ref T.heap.size :: .ref T.heap.size :: rest, locked := none }) rfl hsize rfl rfl (rest := rest) rfl
    (by rw [hb]; exact d6) (by rw [hb]; exact d9) hout hRframes (by simp only [List.map_cons, List.sum_cons, hcat]; omega) hlocks
  obtain ⟨f1, f2⟩ := vx_frame hsame
  rw [hhp] at f1 f2
  have hWs : s.WarmedH U.vm := State.WarmedH.trans hW0 hW
  have hcl : s.vm.findClass cls = some ce.cls := by
    have h9 := hO.cls
    rw [hvm] at h9
    exact h9
  have hall : s.sameButNew ({ U with vm := s.vm } : State) locs mc ms := by
    subst hA
    obtain ⟨e1, e2⟩ := hsame
    rw [State.setFrames_setFrames] at e1
    have h2 : (T.setVm s.vm).sameButNew ({ U with vm := s.vm } : State) [] (0 + 1) (0 + 6) := ⟨e1, e2⟩
    have h3 := X.same.trans h2
    rw [List.append_nil] at h3
    exact h3.mono hc hs
  refine ⟨U, ?_, .threw T.heap.size, hrun, hend, Or.inr ⟨T.heap.size, rfl, cls, ce, locs, hx U hWs.alike f1 (fun q hq => f2 q hq (fun z hz => nomatch hz)), hce, hO.vm, hcl, hWs, hall, hf⟩⟩
  refine st1 _ ?_
  show Steps p.tables e below (T1.setTop { method := m, pc := pc + 3, locals := ls, stack := .ref T.heap.size :: rest, locked := none }) _
  jvm_step X₁.here [X₁.here.top, hexec, d3', Value.category]
  exact X₁.ldcString hexec (own := own) (text := text) (index := is) (a := sa) hown' hstr'.1 hstr'.2
    (g := { method := m, pc := pc + 4, locals := ls, stack := .ref T.heap.size :: .ref T.heap.size :: rest, locked := none }) rfl d4' _ hsteps
/-- 'throw new E("text")', the text by a wide index -/
theorem vx_throwSW {cc : ByteArray} {pc : Nat} (hexec : p.tables.exec = Jvm.exec) (hb : c.code = cc) (hl : l.stackTraces = false) {own cls text : String} {names : List String} {ik is ic mc ms sa : Nat} {A : Nat → Prop}
    (hown : s.vm.findClass own = some m.cls) (hcls : Bundle.fit cls = true) (hnames : ∀ n ∈ names, Bundle.fit n = true)
    (hk : (Cond.classLink own ik cls).before args s = true) (hini : (Cond.initialized cls).before args s = true) (hstr : vk_R own is text sa s) (hat : ∀ w ∈ vx_atS own ic cls names, w.before args s = true)
    (hgood : ∀ w ∈ Cond.classLink own ik cls :: Cond.initialized cls :: vx_atS own ic cls names, vx_ot w = true)
    (hU : vx_Zq Bundle.tN "UNASSIGNED_STACK" Bundle.steD A s s.heap) (hN : vx_Zq Bundle.tN "SUPPRESSED_SENTINEL" Bundle.listD A s s.heap) (hS : va_S A s.heap H locs) (hsize : ls.size = c.maxLocals)
    (d0 : decode cc pc = .ok (.new ik, 3)) (d3 : decode cc (pc + 3) = .ok (.dup, 1)) (d4 : decode cc (pc + 4) = .ok (.ldc_w is, 3)) (d7 : decode cc (pc + 7) = .ok (.invokespecial ic, 3)) (d10 : decode cc (pc + 10) = .ok (.athrow, 1))
    (hout : ∀ x ∈ c.exceptionTable.toList, covers x (pc + 10) = false)
    (hRframes : names.length + 3 < R.frames) (hRlocals : (rest.map fun v => v.category).sum + (13 * (names.length + 1) + 43) ≤ R.locals) (hRcells : cells + 1 ≤ R.cells) (hRslots : slots + 6 ≤ R.slots) (hlocks : meth.locks = false)
    (hx : ∀ t : State, s.vm.Alike t.vm → H.size ≤ t.heap.size → (∀ q : Nat, q < H.size → t.heap[q]? = H[q]?) → XC cls s t)
    (hf : ∀ z ∈ locs, free z.base) (hc : cells + 1 ≤ mc) (hs : slots + 6 ≤ ms) :
    W p l e R s m args below meth c H locs cells slots (vx_MQ below Qc XC args s mc ms free) (F0 m pc ls rest) := by
  intro T hT X
  have htr : e.platform.stackTraces = false := (show e.platform.stackTraces = l.stackTraces by rw [X.admits.platform]).trans hl
  have Y := vx_rebase X (R' := { frames := R.frames, locals := R.locals, cells := 1, slots := 6 }) (Nat.le_refl _) (Nat.le_refl _) hRcells hRslots
  obtain ⟨s', hA⟩ : ∃ z, z = (T.setVm s.vm).setFrames (.invoking m args :: below) := ⟨_, rfl⟩
  rw [← hA] at Y
  have hvm : s'.vm = s.vm := by rw [hA]; rfl
  have hhp : s'.heap = H := by rw [hA]; exact hT
  have hW0 : s.WarmedH s'.vm := by rw [hvm]; exact State.WarmedH.refl s
  have hat' : ∀ w ∈ vx_atS own ic cls names, w.before args s' = true := fun w hw => vx_ot_at hW0 hvm.symm (hgood w (List.mem_cons_of_mem _ (List.mem_cons_of_mem _ hw))) (hat w hw)
  have hk' : (Cond.classLink own ik cls).before args s' = true := vx_ot_at hW0 hvm.symm (hgood _ List.mem_cons_self) hk
  have hini' : (Cond.initialized cls).before args s' = true := vx_ot_at hW0 hvm.symm (hgood _ (List.mem_cons_of_mem _ List.mem_cons_self)) hini
  have hU' : vx_Zq Bundle.tN "UNASSIGNED_STACK" Bundle.steD A s' s'.heap := by rw [hhp]; exact vx_Zq.moved hW0.alike (hU.kept hS.2.1)
  have hN' : vx_Zq Bundle.tN "SUPPRESSED_SENTINEL" Bundle.listD A s' s'.heap := by rw [hhp]; exact vx_Zq.moved hW0.alike (hN.kept hS.2.1)
  have h : ∀ w ∈ Bundle.ownAtoms own ic cls names, w.before args s' = true := vx_own hat' (vx_isRefq hU'.1) (vx_isRefq hN'.1) hU'.2.word hN'.2.word
  have hown' : s'.vm.findClass own = some m.cls := by rw [hvm]; exact hown
  have hins : (Cond.instantiable cls 6).before args s' = true := h _ (by simp [Bundle.ownAtoms])
  obtain ⟨vm₁, cX, kX, hfX, hkX, -, -, X₁, st1⟩ := Y.newCold hexec (own := own) (C := cls) (index := ik) (n := 6) hown' hk' hins hini'
    (g := F0 m pc ls rest) rfl (by rw [hb]; exact d0) (Nat.le_refl _) (Nat.le_refl _)
  generalize hT1 : (T.setVm vm₁).pushCell { cls := cX, slots := kX.instanceTypes.map defaultValue, vm := .none } = T1 at X₁ st1
  have hcat : (Value.ref T.heap.size).category = 1 := rfl
  have hcellA : T1.heap[T.heap.size]? = some (freshCell cX kX) := by rw [← hT1]; exact State.heap_pushCell_size _ _
  have d3' : decode c.code (pc + 3) = .ok (.dup, 1) := by rw [hb]; exact d3
  have d4' : decode c.code (pc + 4) = .ok (.ldc_w is, 3) := by rw [hb]; exact d4
  have hstr' : vk_R own is text sa s' := vk_R.warm hW0 hstr
  obtain ⟨U, hsteps, hrun, hend, hW, hsame, ce, hce, hO⟩ := X₁.ctorThrowS hexec htr (own := own) (cls := cls) (names := names) (ic := ic) hown' hcls hnames h (fun x hx => nomatch hx) hfX hkX hcellA (by rw [hhp, hT]; exact Nat.le_refl _) (msg := .ref sa) rfl
    (g := { method := m, pc := pc + 7, locals := ls, stack := .ref sa :: .ref T.heap.size :: .ref T.heap.size :: rest, locked := none }) rfl hsize rfl rfl (rest := rest) rfl
    (by rw [hb]; exact d7) (by rw [hb]; exact d10) hout hRframes (by simp only [List.map_cons, List.sum_cons, hcat]; omega) hlocks
  obtain ⟨f1, f2⟩ := vx_frame hsame
  rw [hhp] at f1 f2
  have hWs : s.WarmedH U.vm := State.WarmedH.trans hW0 hW
  have hcl : s.vm.findClass cls = some ce.cls := by
    have h9 := hO.cls
    rw [hvm] at h9
    exact h9
  have hall : s.sameButNew ({ U with vm := s.vm } : State) locs mc ms := by
    subst hA
    obtain ⟨e1, e2⟩ := hsame
    rw [State.setFrames_setFrames] at e1
    have h2 : (T.setVm s.vm).sameButNew ({ U with vm := s.vm } : State) [] (0 + 1) (0 + 6) := ⟨e1, e2⟩
    have h3 := X.same.trans h2
    rw [List.append_nil] at h3
    exact h3.mono hc hs
  refine ⟨U, ?_, .threw T.heap.size, hrun, hend, Or.inr ⟨T.heap.size, rfl, cls, ce, locs, hx U hWs.alike f1 (fun q hq => f2 q hq (fun z hz => nomatch hz)), hce, hO.vm, hcl, hWs, hall, hf⟩⟩
  refine st1 _ ?_
  show Steps p.tables e below (T1.setTop { method := m, pc := pc + 3, locals := ls, stack := .ref T.heap.size :: rest, locked := none }) _
  jvm_step X₁.here [X₁.here.top, hexec, d3', Value.category]
  exact X₁.ldcStringW hexec (own := own) (text := text) (index := is) (a := sa) hown' hstr'.1 hstr'.2
    (g := { method := m, pc := pc + 4, locals := ls, stack := .ref T.heap.size :: .ref T.heap.size :: rest, locked := none }) rfl d4' _ hsteps
end Ends
section Bodies
variable {l : Launch}
theorem vx_ofW {y : MethodName} {ws ws' : List Cond} {rm : Room} {Pc : Array Value → State → Prop} {Qc : Array Value → State → Outcome → State → Prop} {XC : String → State → State → Prop} {mc ms : Nat} {free : Addr → Prop} {cc : ByteArray} {maxL : Nat} {ret : Option FieldType}
    (hy : plainName y.cls = true) (hw : ws = Cond.code y cc maxL ret :: ws')
    (body : ∀ p e s m args below meth c s₁, BodyLoose p l y (headSpec ws rm) cc maxL ret e s m args below meth c s₁ → c.maxLocals = maxL → (∀ x ∈ c.exceptionTable.toList, False) → Pc args s →
      W p l e (headSpec ws rm).room s m args below meth c s.heap [] 0 0 (vx_MQ below Qc XC args s mc ms free) (entryFrame m args maxL)) : vx_Met l y ws rm Pc Qc XC mc ms free := by
  refine MetFree.of_bodyS (code := cc) (maxLocals := maxL) (ret := ret) hy ?_ ?_
  · intro args s m h hn
    obtain ⟨meth, c, h1, h2, h3, h4, h5, h6, -, -⟩ := Cond.code_spec hn (atoms_spec (ws := ws) h _ (by rw [hw]; exact List.mem_cons_self))
    exact ⟨meth, c, h1, h2, h3, h4, h5, h6⟩
  · intro p e s m args below meth c s₁ B hml hP _
    have hh0 : s₁.heap = s.heap := by rw [B.state]; rfl
    have ht : ∀ x ∈ c.exceptionTable.toList, False := by
      obtain ⟨meth9, c9, h1, h2, -, -, -, -, h7, -⟩ := Cond.code_spec B.named (atoms_spec (ws := ws) B.pre _ (by rw [hw]; exact List.mem_cons_self))
      cases Option.some.inj (h1.symm.trans B.method)
      cases Option.some.inj (h2.symm.trans (Stand.of_body B).code)
      intro x hx
      rw [Array.isEmpty_iff.mp h7] at hx
      cases hx
    obtain ⟨t, a1, o, b1, b2, b3⟩ := body p e s m args below meth c s₁ B hml ht hP s₁ hh0 (Stand.of_body B)
    exact ⟨t, o, a1, b1, b2, b3⟩
/-- the table of a body with handlers -/
theorem vx_table {p : Program} {x y : MethodName} {S : Spec} {cc bytes : ByteArray} {maxL maxL' : Nat} {ret ret' : Option FieldType} {e : Env} {s s₁ : State} {m : MethodId} {args : Array Value} {below : List Frame} {meth : Method} {c : Code} {hh : List (Nat × Nat × Nat × Nat)}
    (B : BodyLoose p l y S cc maxL ret e s m args below meth c s₁) (h : (Cond.codeWith y bytes maxL' ret' hh).before args s = true) : c.exceptionTable.toList = tableOf hh := by
  obtain ⟨m9, meth9, c9, hn9, h1, h2, -, -, h6, -⟩ := Cond.codeWith_spec h
  cases Option.some.inj (hn9.symm.trans B.named)
  cases Option.some.inj (h1.symm.trans B.method)
  cases Option.some.inj (h2.symm.trans (Stand.of_body B).code)
  rw [← h6, table_eq]
end Bodies
end VXA
/-! ===== END ===== -/
/-! ===== BEGIN a static call of a method with an exception table ===== -/
section VXS
variable {p : Program} {l : Launch} {e : Env} {R : Room} {s : State} {m : MethodId} {args : Array Value} {below : List Frame} {meth : Method} {c : Code} {T : State} {H : Heap} {locs : List Loc} {cells slots : Nat}
abbrev vx_CSW (R : Room) (s : State) (args : Array Value) (own : String) (index : Nat) (y : MethodName) (bytes : ByteArray) (maxL : Nat) (ret : Option FieldType) (hh : List (Nat × Nat × Nat × Nat)) (ws : List Cond) (rm : Room) (mc ms n : Nat) : Prop :=
  (rm.cells = mc ∧ rm.slots = ms ∧ rm.frames + 1 ≤ R.frames ∧ 8 + (maxL + 11) + rm.locals ≤ R.locals ∧ (∀ w ∈ ws, ∀ (a' : Array Value) (U : State), s.WarmedH U.vm → w.before a' U = true) ∧ Cond.codeWith y bytes maxL ret hh ∈ ws) ∧
  (Cond.codeWith y bytes maxL ret hh).before args s = true ∧ (Cond.initialized y.cls).before args s = true ∧ (y.cls ≠ "java/lang/invoke/MethodHandle" ∧ y.cls ≠ "java/lang/invoke/VarHandle") ∧
  (∀ sig, parseMethodDescriptor y.desc = some sig → n = sig.parameters.length) ∧ (Cond.methodLink own index y).before args s = true ∧ (Cond.static y).before args s = true
theorem vx_cwSW {own : String} {index maxL mc ms : Nat} {y : MethodName} {bytes : ByteArray} {ret : Option FieldType} {hh : List (Nat × Nat × Nat × Nat)} {Ts ws ws' : List Cond} {rm : Room} (n : Nat) (ht : ∀ w ∈ Ts, w.before args s = true) (hT : GoodIn Ts (va_wsS own index y ws)) (hw : ws = Cond.codeWith y bytes maxL ret hh :: ws') (hrc : rm.cells = mc) (hrs : rm.slots = ms)
    (hd : y.cls ≠ "java/lang/invoke/MethodHandle" ∧ y.cls ≠ "java/lang/invoke/VarHandle" ∧ (parseMethodDescriptor y.desc).map (fun d => d.parameters.length) = some n) (hR : rm.frames + 1 ≤ R.frames ∧ 8 + (maxL + 11) + rm.locals ≤ R.locals) :
    vx_CSW R s args own index y bytes maxL ret hh ws rm mc ms n := by
  have ok : ∀ w ∈ va_wsS own index y ws, w.before args s = true := fun w h => ht w (hT w h).1
  have hG : GoodIn Ts ws := fun w h => hT w (by unfold va_wsS; exact List.mem_append_right _ h)
  have hc : Cond.codeWith y bytes maxL ret hh ∈ ws := by rw [hw]; exact List.mem_cons_self
  refine ⟨⟨hrc, hrs, hR.1, hR.2, pay_in ht hG, hc⟩, ht _ (hG _ hc).1, ok _ (by simp [va_wsS]), ⟨hd.1, hd.2.1⟩, fun sig h => ?_, ok _ (by simp [va_wsS]), ok _ (by simp [va_wsS])⟩
  have h2 := hd.2.2
  rw [h] at h2
  exact (Option.some.inj h2).symm
theorem vx_callSW (X : Stand p l e R s m args below meth c T locs cells slots) (hexec : p.tables.exec = Jvm.exec) {own : String} {index : Nat} {y : MethodName} {bytes : ByteArray} {maxL : Nat} {ret : Option FieldType} {hh : List (Nat × Nat × Nat × Nat)}
    (hown : s.vm.findClass own = some m.cls) (hlink : (Cond.methodLink own index y).before args s = true) (hstat : (Cond.static y).before args s = true) (hinit : (Cond.initialized y.cls).before args s = true)
    (hcode : (Cond.codeWith y bytes maxL ret hh).before args s = true) (hy : y.cls ≠ "java/lang/invoke/MethodHandle" ∧ y.cls ≠ "java/lang/invoke/VarHandle")
    {W9 : Nat} {Pre : Pt → Array Value → Prop} {Post : Pt → Array Value → Option Value → Pt → Prop} (hK : Back l R p e below s args y 3 W9 Pre Post)
    {g : JFrame} (hg : g.method = m) (hsize : g.locals.size = c.maxLocals) {argsL rest : List Value} (hlen : ∀ sig, parseMethodDescriptor y.desc = some sig → argsL.length = sig.parameters.length)
    (hstack : g.stack = argsL.reverse ++ rest) (hW : 2 * g.monitorRoom + (rest.map fun v => v.category).sum ≤ W9) (hdg : decode c.code g.pc = .ok (.invokestatic index, 3))
    (hpre : ∀ vm₁, s.WarmedH vm₁ → Pre ⟨T.setVm vm₁, locs, cells, slots⟩ argsL.toArray) :
    ∃ (v : Option Value) (vm₁ : Vm) (B : Pt), s.WarmedH vm₁ ∧ Stand p l e R s m args below meth c B.U B.locs B.cells B.slots ∧ Post ⟨T.setVm vm₁, locs, cells, slots⟩ argsL.toArray v B ∧
      ∀ target, Steps p.tables e below (B.U.setTop { g with pc := g.pc + 3, stack := v.toList ++ rest }) target → Steps p.tables e below (T.setTop g) target := by
  obtain ⟨mk, methM, cM, hnamed, hmethM, -, -, -, -, -, -, hsigM⟩ := Cond.codeWith_spec hcode
  have hstatic : methM.isStatic = true := Cond.static_spec hnamed hmethM hstat
  obtain ⟨kP, hkP, -⟩ := className_of_methodNamed hnamed
  have hinitP : kP.init = .initialized := Cond.initialized_spec (findClass_of_methodNamed hnamed) hkP hinit
  obtain ⟨vm₁, X₁, hstep₁⟩ := X.invokestatic hexec hown hlink hnamed hmethM hstatic hkP hinitP hy (g := g) hg (argsL := argsL) (rest := rest) (hlen _ hsigM) hstack hdg
  obtain ⟨v, B, X', hpost, hsteps⟩ := hK m meth c ⟨T.setVm vm₁, locs, cells, slots⟩ { g with stack := rest } (.invokestatic index) mk argsL.toArray X₁ hg hsize hdg hW (X₁.named hnamed) (hpre vm₁ X₁.warmed)
  exact ⟨v, vm₁, B, X₁.warmed, X', hpost, fun target h => hstep₁ _ fun acts => by rw [doInvoke_state]; exact hsteps.trans h⟩
theorem vx_runSW {y : MethodName} {bytes cc : ByteArray} {maxL nL mc ms n index : Nat} {ret : Option FieldType} {hh : List (Nat × Nat × Nat × Nat)} {ws : List Cond} {rm : Room} {Pc : Array Value → State → Prop} {Qc : Array Value → State → Outcome → State → Prop} {free : Addr → Prop} {Ts : List Cond} {own : String} {As rest : List Value} {g : JFrame}
    (S : CallFix p m c cc nL s args Ts own) (hM : Met l y ws rm Pc Qc mc ms free) (cw : vx_CSW R s args own index y bytes maxL ret hh ws rm mc ms n) (hp : PreS s H Pc As)
    (hg : g.method = m) (hn : As.length = n) (hsize : g.locals.size = nL) (hstack : g.stack = As.reverse ++ rest) (hW : 2 * g.monitorRoom + (rest.map fun v => v.category).sum ≤ 8) (hdg : decode cc g.pc = .ok (.invokestatic index, 3)) (hf : cells + mc ≤ R.cells ∧ slots + ms ≤ R.slots) :
    va_Run p l e R s m args below meth c H locs cells slots mc ms g rest (Qc As.toArray) (free) := by
  obtain ⟨⟨hrc, hrs, hfr, hlo, hws, hcw⟩, hcode, hini, hy, hlen, hl, hstt⟩ := cw
  have hK : Back l R p e below s args y 3 8 (PreOf R mc ms Pc) (PostOf Qc mc ms free) := va_backW (hh := hh) (bytes := bytes) (maxL := maxL) (ret := ret) hM hp.1 hrc hrs hfr hlo hws hcw (fun a' U hW => word_at hW (Or.inl (by first | rfl | simp [Cond.onTables, Cond.keeps, Cond.steady])) hini)
  obtain ⟨hx, hb, hml, ho, -⟩ := S
  intro T hT X
  obtain ⟨v, vm₁, ⟨U', l2, c2, s2⟩, hW₁, X', ⟨g', mk, t, L, e1, e2, hq, h1, hL, h2, h3⟩, st⟩ := vx_callSW X hx (hh := hh) (bytes := bytes) (maxL := maxL) (ret := ret) ho hl hstt hini hcode hy hK hg (hsize.trans hml.symm) (argsL := As) (rest := rest) (fun sig h => hn.trans (hlen sig h)) hstack hW (by rw [hb]; exact hdg)
    (fun vm₁ hW₁ => ⟨hf.1, hf.2, hp.2 (T.setVm vm₁) hT hW₁⟩)
  dsimp only [Pt.U, Pt.locs, Pt.cells, Pt.slots] at X' e1 e2 h1 h2 h3 st
  subst h1; subst h2; subst h3
  exact ⟨v, (T.setVm vm₁).calling g' mk As.toArray, t, U', L, hT, X', hL, e1, e2, hq, st⟩
/-- not caught here, past rows that name other classes: it goes on to the caller -/
theorem vx_outP {p : Program} {l : Launch} {e : Env} {R : Room} {s : State} {m : MethodId} {args : Array Value} {below : List Frame} {meth : Method} {c : Code} {H : Heap} {locs : List Loc} {cells slots : Nat} {free : Addr → Prop} {ls : Array Slot} {rest : List Value} {Qc : Array Value → State → Outcome → State → Prop} {XC : String → State → State → Prop}
    {pc : Nat} {own E : String} {ce : Cell} {q : Addr} {mc ms : Nat} (hown : s.vm.findClass own = some m.cls) (hlocks : meth.locks = false)
    (hpass : ∀ z ∈ c.exceptionTable.toList, covers z pc = false ∨ (z.catchType ≠ 0 ∧ ∃ nm : String, (Cond.classLink own z.catchType nm).before args s = true ∧ va_Nc E nm s)) (hcell : H[q]? = some ce) (hv : ce.vm = .none) (hcl : s.vm.findClass E = some ce.cls)
    (hx : ∀ t : State, t.heap = H → s.vm.Alike t.vm → XC E s t) (hf : ∀ z ∈ locs, free z.base) (hc : cells ≤ mc) (hs : slots ≤ ms) :
    vx_W p l e R s m args below meth c H locs cells slots (vx_MQ below Qc XC args s mc ms free) (F0 m pc ls rest) q := by
  intro T hT X
  have hpl : e.platform.magicAccessors = ({} : Platform).magicAccessors := by rw [X.admits.platform]
  obtain ⟨vm', hW', X', st⟩ := X.outThrough hlocks q (g := F0 m pc ls rest) rfl rfl rfl (cell := ce) (by rw [hT]; exact hcell) (by rw [hv]; rfl)
    (by obtain ⟨k9, h9, -⟩ := Vm.findClass_spec hcl; exact ⟨k9, h9⟩) (fun z hz => by
      rcases hpass z hz with h | ⟨hz0, nm, hl1, hn1⟩
      · exact Or.inl h
      · obtain ⟨c6, hc6, hcl6⟩ := Cond.classLink_spec hown hl1 e.platform hpl
        obtain ⟨a8, b8, h1, h2, h3⟩ := hn1
        cases Option.some.inj (h1.symm.trans hcl)
        cases Option.some.inj (h2.symm.trans hc6)
        exact Or.inr ⟨hz0, _, hcl6, h3⟩)
  obtain ⟨g₀, hfr⟩ := X'.frames_eq
  have hcell9 : ((T.setVm vm').setFrames (.throwing q :: below)).heap[q]? = some ce := by
    show T.heap[q]? = some ce
    rw [hT]; exact hcell
  have hend : Ended ((T.setVm vm').setFrames (.throwing q :: below)) below (.threw q) := State.frames_setFrames _ (State.cur_lt_of_frames hfr)
  refine ⟨(T.setVm vm').setFrames (.throwing q :: below), ?_, .threw q, X'.here.running, hend, Or.inr ⟨q, rfl, E, ce, locs, hx _ hT (X'.ends _).1.alike, hcell9, hv, hcl, (X'.ends _).1, (X'.ends _).2.mono hc hs, hf⟩⟩
  rw [X.pushThrowing_eq]
  exact st
/-- a thing of a world lies in the heap -/
theorem vx_lt {D : va_G} {cl : List vw_C} {ws : va_W} {H1 : Heap} (h : va_P D cl ws H1) {k : Nat} {q : Nat × va_E} (hk : ws[k]? = some q) : q.1 < H1.size := (h k q hk).lt
end VXS
/-! ===== END ===== -/
/-! ===== BEGIN methods with a table of their own: called by a name, returning or throwing ===== -/
section VXH
/-! vx_backW, vx_callVX, vx_callSX, vx_callVW, vx_runVW, vx_runVX, vx_runSX, vx_ofWH follow the same proofs as their sisters above (Free/Laws.lean, Shelf42/LK1.lean); vx_outP calls Shelf42/NT130.lean (outThrough). -/
section
variable {l : Launch} {R : Room} {p : Program} {e : Env} {below : List Frame} {s : State} {sargs : Array Value} {y : MethodName} {len W9 : Nat}
theorem vx_backW {ws : List Cond} {rm : Room} {Pc : Array Value → State → Prop} {Qc : Array Value → State → Outcome → State → Prop} {XC : String → State → State → Prop} {mc ms : Nat} {free : Addr → Prop} {bytes : ByteArray} {maxL : Nat} {ret : Option FieldType} {hh : List (Nat × Nat × Nat × Nat)}
    (hM : vx_Met l y ws rm Pc Qc XC mc ms free) (hblind : FrameBlind Pc) (hrc : rm.cells = mc) (hrs : rm.slots = ms)
    (hframes : rm.frames + 1 ≤ R.frames) (hlocals : W9 + (maxL + 11) + rm.locals ≤ R.locals)
    (hws : ∀ w ∈ ws, ∀ a' U, s.WarmedH U.vm → w.before a' U = true) (hcode : Cond.codeWith y bytes maxL ret hh ∈ ws) (hinit : ∀ a' U, s.WarmedH U.vm → (Cond.initialized y.cls).before a' U = true) :
    vx_Back l R p e below s sargs y len W9 (PreOf R mc ms Pc) (PostOf Qc mc ms free) (vx_Post XC mc ms free) := by
  intro m meth c A g ig mk a X hg hsize hdg hW hn hp
  have h1 : (headSpec ws rm).pre.before a A.U = true := atoms_intro fun w hw => hws w hw _ _ X.warmed
  have h2 : (Cond.codeWith y bytes maxL ret hh).before a A.U = true := hws _ hcode _ _ X.warmed
  have h3 : (Cond.initialized y.cls).before a A.U = true := hinit _ _ X.warmed
  have h4 : A.cells + (headSpec ws rm).room.cells ≤ R.cells := by rw [show (headSpec ws rm).room.cells = mc from hrc]; exact hp.1
  have h5 : A.slots + (headSpec ws rm).room.slots ≤ R.slots := by rw [show (headSpec ws rm).room.slots = ms from hrs]; exact hp.2.1
  have hPc : Pc a (A.U.calling g mk a) := hblind _ _ _ _ hp.2.2
  obtain ⟨U, Ls, c0, s0⟩ := A
  dsimp only [Pt.U, Pt.locs, Pt.cells, Pt.slots] at h1 h2 h3 h4 h5 X hn hPc ⊢
  obtain ⟨m9, methY, cY, hn9, hmY, hcY, -, hlY, -⟩ := Cond.codeWith_spec h2
  cases Option.some.inj (hn9.symm.trans hn)
  obtain ⟨kY, hkY, -⟩ := className_of_methodNamed hn
  have hinitY : kY.init = .initialized := Cond.initialized_spec (findClass_of_methodNamed hn) hkY h3
  have h : At U g.method c below := by rw [hg]; exact X.here
  have hlocals9 : W9 + (maxL + 11) + (headSpec ws rm).room.locals ≤ R.locals := hlocals
  have happ : (headSpec ws rm).appliesLoose y e.platform (U.calling g mk a) = true :=
    Spec.appliesLoose_calling (g := g) h hdg hn hkY hinitY
      (X.room_calling (g := g) (R' := (headSpec ws rm).room) hsize hmY hcY hframes (by rw [hlY]; omega) h4 h5) h1
  obtain ⟨mid, hmid⟩ := h.above
  have hfr : (U.setTop g).frames = (.java g :: mid) ++ below := by rw [State.frames_setTop' g h.top, hmid]; rfl
  obtain ⟨o, s₂, hsteps, -, hend, hq⟩ := Steps.callFree hM p X.admits X.cas X.clock (acts := []) hfr happ hPc trivial
  have hq' : vx_Q Qc XC mc ms free a (U.calling g mk a) o s₂ := hq
  rw [State.frames_setTop' g h.top] at hend
  obtain ⟨g₀, hg0⟩ := Option.isSome_iff_exists.mp h.top
  obtain ⟨r, hr⟩ := State.topJava?_eq_some.mp hg0
  have hr' : (({ U with heap := s₂.heap, slotsUsed := s₂.slotsUsed } : State).setVm s₂.vm).frames = .java g₀ :: r := hr
  rcases hq' with ⟨hqc, L, hfe, hL⟩ | ⟨q, rfl, E, ce, L, hx, hce, hcv, hcl, hW₂, hsm, hL⟩
  · obtain ⟨⟨v, rfl⟩, hW₂, e2, q2, q3, q4, q5, q6⟩ := id hfe
    have e3 : s₂ = ({ (U.calling g mk a).setFrames s₂.frames with heap := s₂.heap, slotsUsed := s₂.slotsUsed } : State).setVm s₂.vm := by
      have : s₂ = ({ s₂ with vm := (U.calling g mk a).vm } : State).setVm s₂.vm := rfl
      rw [e2] at this
      exact this
    obtain ⟨c₂, i₂, len₂, hc₂, hd₂, hf₂⟩ := hend
    have hW' : U.WarmedH s₂.vm := hW₂
    have hcc : c₂ = c := by
      have h1 : s₂.code? g.method = U.code? g.method := by
        rw [State.code?_eq, State.code?_eq, hW'.alike.method?]
      exact Option.some.inj (hc₂.symm.trans (h1.trans h.code))
    subst hcc
    have hlen : len₂ = len := by rw [hdg] at hd₂; cases hd₂; rfl
    subst hlen
    have hs₂ : s₂ = (({ U with heap := s₂.heap, slotsUsed := s₂.slotsUsed } : State).setVm s₂.vm).setTop { g with pc := g.pc + len₂, stack := v.toList ++ g.stack } := by
      refine e3.trans ?_
      rw [hf₂, State.calling_eq h.top, State.setFrames_setFrames, State.setTop_of_frames _ hr', hr]
      rfl
    have hsame : U.sameButNew ({ U with heap := s₂.heap, slotsUsed := s₂.slotsUsed } : State) L mc ms := by
      refine ⟨?_, q2, q3, q4, q5, q6⟩
      obtain ⟨t, ht, -⟩ := State.frames_cons hr
      show ({ U with heap := s₂.heap, slotsUsed := s₂.slotsUsed } : State) = { U.setFrames U.frames with heap := s₂.heap, slotsUsed := s₂.slotsUsed }
      rw [State.setFrames_self ht]
    subst hg
    refine Or.inl ⟨v, ⟨(({ U with heap := s₂.heap, slotsUsed := s₂.slotsUsed } : State).setVm s₂.vm), Ls ++ L, c0 + mc, s0 + ms⟩,
      ⟨X.admits, X.cas, X.clock, X.frames, X.room, X.hears, X.method, X.code, (X.here.setHeapUsed s₂.heap s₂.slotsUsed).setVm hW'.alike, X.tail, State.WarmedH.trans X.warmed hW', X.limits, X.bytes, X.same.trans (hsame.setVm s.vm)⟩,
      ⟨g, mk, s₂, L, rfl, rfl, hqc, rfl, hL, rfl, rfl⟩, ?_⟩
    show Steps p.tables e below _ ((({ U with heap := s₂.heap, slotsUsed := s₂.slotsUsed } : State).setVm s₂.vm).setTop { g with pc := g.pc + len₂, stack := v.toList ++ g.stack })
    rw [← hs₂]
    exact hsteps
  · obtain ⟨e2, q2, q3, q4, q5, q6⟩ := id hsm
    have e3 : s₂ = ({ (U.calling g mk a).setFrames s₂.frames with heap := s₂.heap, slotsUsed := s₂.slotsUsed } : State).setVm s₂.vm := by
      have : s₂ = ({ s₂ with vm := (U.calling g mk a).vm } : State).setVm s₂.vm := rfl
      rw [e2] at this
      exact this
    have hf₂ : s₂.frames = .throwing q :: .java g :: U.frames.tail := hend
    have hW' : U.WarmedH s₂.vm := hW₂
    have hs₂ : s₂ = ((({ U with heap := s₂.heap, slotsUsed := s₂.slotsUsed } : State).setVm s₂.vm).setTop g).pushFrame (.throwing q) := by
      refine e3.trans ?_
      rw [hf₂, State.calling_eq h.top, State.setFrames_setFrames, State.pushFrame, State.frames_setTop _ hr', State.setTop_of_frames _ hr', State.setFrames_setFrames, hr]
      rfl
    have hsame : U.sameButNew ({ U with heap := s₂.heap, slotsUsed := s₂.slotsUsed } : State) L mc ms := by
      refine ⟨?_, q2, q3, q4, q5, q6⟩
      obtain ⟨t, ht, -⟩ := State.frames_cons hr
      show ({ U with heap := s₂.heap, slotsUsed := s₂.slotsUsed } : State) = { U.setFrames U.frames with heap := s₂.heap, slotsUsed := s₂.slotsUsed }
      rw [State.setFrames_self ht]
    subst hg
    refine Or.inr ⟨q, ⟨(({ U with heap := s₂.heap, slotsUsed := s₂.slotsUsed } : State).setVm s₂.vm), Ls ++ L, c0 + mc, s0 + ms⟩,
      ⟨X.admits, X.cas, X.clock, X.frames, X.room, X.hears, X.method, X.code, (X.here.setHeapUsed s₂.heap s₂.slotsUsed).setVm hW'.alike, X.tail, State.WarmedH.trans X.warmed hW', X.limits, X.bytes, X.same.trans (hsame.setVm s.vm)⟩,
      ⟨g, mk, s₂, L, E, ce, rfl, rfl, hx, hce, hcv, hcl, rfl, hL, rfl, rfl⟩, ?_⟩
    show Steps p.tables e below _ (((({ U with heap := s₂.heap, slotsUsed := s₂.slotsUsed } : State).setVm s₂.vm).setTop g).pushFrame (.throwing q))
    rw [← hs₂]
    exact hsteps
end
variable {p : Program} {l : Launch} {e : Env} {R : Room} {s : State} {m : MethodId} {args : Array Value} {below : List Frame} {meth : Method} {c : Code} {T : State} {H : Heap} {locs : List Loc} {cells slots : Nat}
theorem vx_callVX (X : Stand p l e R s m args below meth c T locs cells slots) (hexec : p.tables.exec = Jvm.exec) {own C : String} {index : Nat} {y : MethodName} {bytes : ByteArray} {maxL : Nat} {ret : Option FieldType} {hh : List (Nat × Nat × Nat × Nat)}
    (hown : s.vm.findClass own = some m.cls) (hlink : (Cond.methodLink own index y).before args s = true) (hinst : (Cond.instanceMethod y).before args s = true) (hsel : (Cond.selects C y y).before args s = true)
    (hcode : (Cond.codeWith y bytes maxL ret hh).before args s = true) (hy : y.cls ≠ "java/lang/invoke/MethodHandle" ∧ y.cls ≠ "java/lang/invoke/VarHandle")
    {W9 : Nat} {Pre : Pt → Array Value → Prop} {Post : Pt → Array Value → Option Value → Pt → Prop} {PostX : Pt → Array Value → Addr → Pt → Prop} (hK : vx_Back l R p e below s args y 3 W9 Pre Post PostX)
    {b : Addr} {cellB : Cell} (hcell : T.heap[b]? = some cellB) (hobj : cellB.vm.isStatics = false) (hcls : s.vm.findClass C = some cellB.cls)
    {g : JFrame} (hg : g.method = m) (hsize : g.locals.size = c.maxLocals) {argsL rest : List Value} (hlen : ∀ sig, parseMethodDescriptor y.desc = some sig → argsL.length = sig.parameters.length)
    (hstack : g.stack = argsL.reverse ++ .ref b :: rest) (hW : 2 * g.monitorRoom + (rest.map fun v => v.category).sum ≤ W9) (hdg : decode c.code g.pc = .ok (.invokevirtual index, 3))
    (hpre : ∀ vm₁, s.WarmedH vm₁ → Pre ⟨T.setVm vm₁, locs, cells, slots⟩ (Value.ref b :: argsL).toArray) :
    (∃ (v : Option Value) (vm₁ : Vm) (B : Pt), s.WarmedH vm₁ ∧ Stand p l e R s m args below meth c B.U B.locs B.cells B.slots ∧ Post ⟨T.setVm vm₁, locs, cells, slots⟩ (Value.ref b :: argsL).toArray v B ∧
      ∀ target, Steps p.tables e below (B.U.setTop { g with pc := g.pc + 3, stack := v.toList ++ rest }) target → Steps p.tables e below (T.setTop g) target) ∨
    (∃ (q : Addr) (vm₁ : Vm) (B : Pt), s.WarmedH vm₁ ∧ Stand p l e R s m args below meth c B.U B.locs B.cells B.slots ∧ PostX ⟨T.setVm vm₁, locs, cells, slots⟩ (Value.ref b :: argsL).toArray q B ∧
      Steps p.tables e below (T.setTop g) ((B.U.setTop { g with stack := rest }).pushFrame (.throwing q))) := by
  obtain ⟨mk, methM, hnamed, hmethM, hstM, habM⟩ := Cond.instanceMethod_spec hinst
  obtain ⟨m8, methM', cM, hn8, hmethM', -, -, -, -, -, -, hsigM⟩ := Cond.codeWith_spec hcode
  cases Option.some.inj (hn8.symm.trans hnamed)
  cases hmethM.symm.trans hmethM'
  obtain ⟨c2, r2, m2, q1, q2, q3, q4, kP, hkP, hkPi⟩ := Cond.selects_spec hsel
  cases hcls.symm.trans q1
  cases (State.methodFound?_of_named hnamed hy).symm.trans q2
  cases hnamed.symm.trans q3
  have hselP : selectMethod e.platform s.vm cellB.cls mk = .method mk := by rw [Launch.admits_selectMethod X.admits]; exact q4
  obtain ⟨vm₁, X₁, hstep₁⟩ := X.invokevirtual hexec hown hlink hnamed hmethM hstM hkP hkPi hy (a := b) (cell := cellB) hcell
    (fun z h => by rw [h] at hobj; cases hobj) hselP hmethM habM hkP hkPi (g := g) hg (argsL := argsL) (rest := rest) (hlen _ hsigM) hstack hdg
  rcases hK m meth c ⟨T.setVm vm₁, locs, cells, slots⟩ { g with stack := rest } (.invokevirtual index) mk (Value.ref b :: argsL).toArray X₁ hg hsize hdg hW (X₁.named hnamed) (hpre vm₁ X₁.warmed) with ⟨v, B, X', hpost, hsteps⟩ | ⟨q, B, X', hpost, hsteps⟩
  · exact Or.inl ⟨v, vm₁, B, X₁.warmed, X', hpost, fun target h => hstep₁ _ fun acts => by rw [doInvoke_state]; exact hsteps.trans h⟩
  · exact Or.inr ⟨q, vm₁, B, X₁.warmed, X', hpost, hstep₁ _ fun acts => by rw [doInvoke_state]; exact hsteps⟩
theorem vx_callSX (X : Stand p l e R s m args below meth c T locs cells slots) (hexec : p.tables.exec = Jvm.exec) {own : String} {index : Nat} {y : MethodName} {bytes : ByteArray} {maxL : Nat} {ret : Option FieldType} {hh : List (Nat × Nat × Nat × Nat)}
    (hown : s.vm.findClass own = some m.cls) (hlink : (Cond.methodLink own index y).before args s = true) (hstat : (Cond.static y).before args s = true) (hinit : (Cond.initialized y.cls).before args s = true)
    (hcode : (Cond.codeWith y bytes maxL ret hh).before args s = true) (hy : y.cls ≠ "java/lang/invoke/MethodHandle" ∧ y.cls ≠ "java/lang/invoke/VarHandle")
    {W9 : Nat} {Pre : Pt → Array Value → Prop} {Post : Pt → Array Value → Option Value → Pt → Prop} {PostX : Pt → Array Value → Addr → Pt → Prop} (hK : vx_Back l R p e below s args y 3 W9 Pre Post PostX)
    {g : JFrame} (hg : g.method = m) (hsize : g.locals.size = c.maxLocals) {argsL rest : List Value} (hlen : ∀ sig, parseMethodDescriptor y.desc = some sig → argsL.length = sig.parameters.length)
    (hstack : g.stack = argsL.reverse ++ rest) (hW : 2 * g.monitorRoom + (rest.map fun v => v.category).sum ≤ W9) (hdg : decode c.code g.pc = .ok (.invokestatic index, 3))
    (hpre : ∀ vm₁, s.WarmedH vm₁ → Pre ⟨T.setVm vm₁, locs, cells, slots⟩ argsL.toArray) :
    (∃ (v : Option Value) (vm₁ : Vm) (B : Pt), s.WarmedH vm₁ ∧ Stand p l e R s m args below meth c B.U B.locs B.cells B.slots ∧ Post ⟨T.setVm vm₁, locs, cells, slots⟩ argsL.toArray v B ∧
      ∀ target, Steps p.tables e below (B.U.setTop { g with pc := g.pc + 3, stack := v.toList ++ rest }) target → Steps p.tables e below (T.setTop g) target) ∨
    (∃ (q : Addr) (vm₁ : Vm) (B : Pt), s.WarmedH vm₁ ∧ Stand p l e R s m args below meth c B.U B.locs B.cells B.slots ∧ PostX ⟨T.setVm vm₁, locs, cells, slots⟩ argsL.toArray q B ∧
      Steps p.tables e below (T.setTop g) ((B.U.setTop { g with stack := rest }).pushFrame (.throwing q))) := by
  obtain ⟨mk, methM, cM, hnamed, hmethM, -, -, -, -, -, -, hsigM⟩ := Cond.codeWith_spec hcode
  have hstatic : methM.isStatic = true := Cond.static_spec hnamed hmethM hstat
  obtain ⟨kP, hkP, -⟩ := className_of_methodNamed hnamed
  have hinitP : kP.init = .initialized := Cond.initialized_spec (findClass_of_methodNamed hnamed) hkP hinit
  obtain ⟨vm₁, X₁, hstep₁⟩ := X.invokestatic hexec hown hlink hnamed hmethM hstatic hkP hinitP hy (g := g) hg (argsL := argsL) (rest := rest) (hlen _ hsigM) hstack hdg
  rcases hK m meth c ⟨T.setVm vm₁, locs, cells, slots⟩ { g with stack := rest } (.invokestatic index) mk argsL.toArray X₁ hg hsize hdg hW (X₁.named hnamed) (hpre vm₁ X₁.warmed) with ⟨v, B, X', hpost, hsteps⟩ | ⟨q, B, X', hpost, hsteps⟩
  · exact Or.inl ⟨v, vm₁, B, X₁.warmed, X', hpost, fun target h => hstep₁ _ fun acts => by rw [doInvoke_state]; exact hsteps.trans h⟩
  · exact Or.inr ⟨q, vm₁, B, X₁.warmed, X', hpost, hstep₁ _ fun acts => by rw [doInvoke_state]; exact hsteps⟩
theorem vx_callVW (X : Stand p l e R s m args below meth c T locs cells slots) (hexec : p.tables.exec = Jvm.exec) {own C : String} {index : Nat} {y : MethodName} {bytes : ByteArray} {maxL : Nat} {ret : Option FieldType} {hh : List (Nat × Nat × Nat × Nat)}
    (hown : s.vm.findClass own = some m.cls) (hlink : (Cond.methodLink own index y).before args s = true) (hinst : (Cond.instanceMethod y).before args s = true) (hsel : (Cond.selects C y y).before args s = true)
    (hcode : (Cond.codeWith y bytes maxL ret hh).before args s = true) (hy : y.cls ≠ "java/lang/invoke/MethodHandle" ∧ y.cls ≠ "java/lang/invoke/VarHandle")
    {W9 : Nat} {Pre : Pt → Array Value → Prop} {Post : Pt → Array Value → Option Value → Pt → Prop} (hK : Back l R p e below s args y 3 W9 Pre Post)
    {b : Addr} {cellB : Cell} (hcell : T.heap[b]? = some cellB) (hobj : cellB.vm.isStatics = false) (hcls : s.vm.findClass C = some cellB.cls)
    {g : JFrame} (hg : g.method = m) (hsize : g.locals.size = c.maxLocals) {argsL rest : List Value} (hlen : ∀ sig, parseMethodDescriptor y.desc = some sig → argsL.length = sig.parameters.length)
    (hstack : g.stack = argsL.reverse ++ .ref b :: rest) (hW : 2 * g.monitorRoom + (rest.map fun v => v.category).sum ≤ W9) (hdg : decode c.code g.pc = .ok (.invokevirtual index, 3))
    (hpre : ∀ vm₁, s.WarmedH vm₁ → Pre ⟨T.setVm vm₁, locs, cells, slots⟩ (Value.ref b :: argsL).toArray) :
    ∃ (v : Option Value) (vm₁ : Vm) (B : Pt), s.WarmedH vm₁ ∧ Stand p l e R s m args below meth c B.U B.locs B.cells B.slots ∧ Post ⟨T.setVm vm₁, locs, cells, slots⟩ (Value.ref b :: argsL).toArray v B ∧
      ∀ target, Steps p.tables e below (B.U.setTop { g with pc := g.pc + 3, stack := v.toList ++ rest }) target → Steps p.tables e below (T.setTop g) target := by
  obtain ⟨mk, methM, hnamed, hmethM, hstM, habM⟩ := Cond.instanceMethod_spec hinst
  obtain ⟨m8, methM', cM, hn8, hmethM', -, -, -, -, -, -, hsigM⟩ := Cond.codeWith_spec hcode
  cases Option.some.inj (hn8.symm.trans hnamed)
  cases hmethM.symm.trans hmethM'
  obtain ⟨c2, r2, m2, q1, q2, q3, q4, kP, hkP, hkPi⟩ := Cond.selects_spec hsel
  cases hcls.symm.trans q1
  cases (State.methodFound?_of_named hnamed hy).symm.trans q2
  cases hnamed.symm.trans q3
  have hselP : selectMethod e.platform s.vm cellB.cls mk = .method mk := by rw [Launch.admits_selectMethod X.admits]; exact q4
  obtain ⟨vm₁, X₁, hstep₁⟩ := X.invokevirtual hexec hown hlink hnamed hmethM hstM hkP hkPi hy (a := b) (cell := cellB) hcell
    (fun z h => by rw [h] at hobj; cases hobj) hselP hmethM habM hkP hkPi (g := g) hg (argsL := argsL) (rest := rest) (hlen _ hsigM) hstack hdg
  obtain ⟨v, B, X', hpost, hsteps⟩ := hK m meth c ⟨T.setVm vm₁, locs, cells, slots⟩ { g with stack := rest } (.invokevirtual index) mk (Value.ref b :: argsL).toArray X₁ hg hsize hdg hW (X₁.named hnamed) (hpre vm₁ X₁.warmed)
  exact ⟨v, vm₁, B, X₁.warmed, X', hpost, fun target h => hstep₁ _ fun acts => by rw [doInvoke_state]; exact hsteps.trans h⟩
abbrev vx_CVW (R : Room) (s : State) (args : Array Value) (own C : String) (index : Nat) (y : MethodName) (bytes : ByteArray) (maxL : Nat) (ret : Option FieldType) (hh : List (Nat × Nat × Nat × Nat)) (ws : List Cond) (rm : Room) (mc ms n : Nat) : Prop :=
  (rm.cells = mc ∧ rm.slots = ms ∧ rm.frames + 1 ≤ R.frames ∧ 8 + (maxL + 11) + rm.locals ≤ R.locals ∧ (∀ w ∈ ws, ∀ (a' : Array Value) (U : State), s.WarmedH U.vm → w.before a' U = true) ∧ Cond.codeWith y bytes maxL ret hh ∈ ws) ∧
  (Cond.codeWith y bytes maxL ret hh).before args s = true ∧ (Cond.initialized y.cls).before args s = true ∧ (y.cls ≠ "java/lang/invoke/MethodHandle" ∧ y.cls ≠ "java/lang/invoke/VarHandle") ∧
  (∀ sig, parseMethodDescriptor y.desc = some sig → n = sig.parameters.length) ∧ (Cond.methodLink own index y).before args s = true ∧ (Cond.instanceMethod y).before args s = true ∧ (Cond.selects C y y).before args s = true
theorem vx_cwVW {own C : String} {index maxL mc ms : Nat} {y : MethodName} {bytes : ByteArray} {ret : Option FieldType} {hh : List (Nat × Nat × Nat × Nat)} {Ts ws ws' : List Cond} {rm : Room} (n : Nat) (ht : ∀ w ∈ Ts, w.before args s = true) (hT : GoodIn Ts (wsV own index C y ws)) (hw : ws = Cond.codeWith y bytes maxL ret hh :: ws') (hrc : rm.cells = mc) (hrs : rm.slots = ms)
    (hd : y.cls = C ∧ y.cls ≠ "java/lang/invoke/MethodHandle" ∧ y.cls ≠ "java/lang/invoke/VarHandle" ∧ (parseMethodDescriptor y.desc).map (fun d => d.parameters.length) = some n) (hR : rm.frames + 1 ≤ R.frames ∧ 8 + (maxL + 11) + rm.locals ≤ R.locals) :
    vx_CVW R s args own C index y bytes maxL ret hh ws rm mc ms n := by
  obtain ⟨hC, hd⟩ := hd
  subst hC
  have ok : ∀ w ∈ wsV own index y.cls y ws, w.before args s = true := fun w h => ht w (hT w h).1
  have hG : GoodIn Ts ws := fun w h => hT w (by unfold wsV; exact List.mem_append_right _ h)
  have hc : Cond.codeWith y bytes maxL ret hh ∈ ws := by rw [hw]; exact List.mem_cons_self
  refine ⟨⟨hrc, hrs, hR.1, hR.2, pay_in ht hG, hc⟩, ht _ (hG _ hc).1, ok _ (by simp [wsV]), ⟨hd.1, hd.2.1⟩, fun sig h => ?_, ok _ (by simp [wsV]), ok _ (by simp [wsV]), ok _ (by simp [wsV])⟩
  have h2 := hd.2.2
  rw [h] at h2
  exact (Option.some.inj h2).symm
theorem vx_runVW {y : MethodName} {bytes cc : ByteArray} {maxL nL mc ms n index : Nat} {ret : Option FieldType} {hh : List (Nat × Nat × Nat × Nat)} {ws : List Cond} {rm : Room} {Pc : Array Value → State → Prop} {Qc : Array Value → State → Outcome → State → Prop} {free : Addr → Prop} {Ts : List Cond} {own C : String} {b : Addr} {As rest : List Value} {g : JFrame}
    (S : CallFix p m c cc nL s args Ts own) (hM : Met l y ws rm Pc Qc mc ms free) (cw : vx_CVW R s args own C index y bytes maxL ret hh ws rm mc ms n) (hp : PreV s H C b Pc As)
    (hg : g.method = m) (hn : As.length = n) (hsize : g.locals.size = nL) (hstack : g.stack = As.reverse ++ .ref b :: rest) (hW : 2 * g.monitorRoom + (rest.map fun v => v.category).sum ≤ 8) (hdg : decode cc g.pc = .ok (.invokevirtual index, 3)) (hf : cells + mc ≤ R.cells ∧ slots + ms ≤ R.slots) :
    va_Run p l e R s m args below meth c H locs cells slots mc ms g rest (Qc (Value.ref b :: As).toArray) free := by
  obtain ⟨⟨hrc, hrs, hfr, hlo, hws, hcw⟩, hcode, hini, hy, hlen, hl, hin, hse⟩ := cw
  have hK : Back l R p e below s args y 3 8 (PreOf R mc ms Pc) (PostOf Qc mc ms free) := va_backW (hh := hh) (bytes := bytes) (maxL := maxL) (ret := ret) hM hp.1 hrc hrs hfr hlo hws hcw (fun a' U hW => word_at hW (Or.inl (by first | rfl | simp [Cond.onTables, Cond.keeps, Cond.steady])) hini)
  obtain ⟨hx, hb, hml, ho, -⟩ := S
  obtain ⟨-, ⟨cellB, hcB, hoB, hclB⟩, hPc⟩ := hp
  intro T hT X
  obtain ⟨v, vm₁, ⟨U', l2, c2, s2⟩, hW₁, X', ⟨g', mk, t, L, e1, e2, hq, h1, hL, h2, h3⟩, st⟩ := vx_callVW X hx (C := C) (hh := hh) (bytes := bytes) (maxL := maxL) (ret := ret) ho hl hin hse hcode hy hK (by rw [hT]; exact hcB) hoB hclB hg (hsize.trans hml.symm) (argsL := As) (rest := rest) (fun sig h => hn.trans (hlen sig h)) hstack hW (by rw [hb]; exact hdg)
    (fun vm₁ hW₁ => ⟨hf.1, hf.2, hPc (T.setVm vm₁) hT hW₁⟩)
  dsimp only [Pt.U, Pt.locs, Pt.cells, Pt.slots] at X' e1 e2 h1 h2 h3 st
  subst h1; subst h2; subst h3
  exact ⟨v, (T.setVm vm₁).calling g' mk (Value.ref b :: As).toArray, t, U', L, hT, X', hL, e1, e2, hq, st⟩
section
variable {y : MethodName} {bytes cc : ByteArray} {maxL nL mc ms n index : Nat} {ret : Option FieldType} {ws : List Cond} {rm : Room} {Pc : Array Value → State → Prop} {Qc : Array Value → State → Outcome → State → Prop} {XC : String → State → State → Prop} {free : Addr → Prop} {Ts : List Cond} {own C : String} {b : Addr} {As rest : List Value} {g : JFrame}
theorem vx_runVX {hh : List (Nat × Nat × Nat × Nat)} (S : CallFix p m c cc nL s args Ts own) (hM : vx_Met l y ws rm Pc Qc XC mc ms free) (cw : vx_CVW R s args own C index y bytes maxL ret hh ws rm mc ms n) (hp : PreV s H C b Pc As)
    (hg : g.method = m) (hn : As.length = n) (hsize : g.locals.size = nL) (hstack : g.stack = As.reverse ++ .ref b :: rest) (hW : 2 * g.monitorRoom + (rest.map fun v => v.category).sum ≤ 8) (hdg : decode cc g.pc = .ok (.invokevirtual index, 3)) (hf : cells + mc ≤ R.cells ∧ slots + ms ≤ R.slots) :
    vx_Run p l e R s m args below meth c H locs cells slots mc ms g rest (Qc (Value.ref b :: As).toArray) XC free := by
  obtain ⟨⟨hrc, hrs, hfr, hlo, hws, hcw⟩, hcode, hini, hy, hlen, hl, hin, hse⟩ := cw
  have hK : vx_Back l R p e below s args y 3 8 (PreOf R mc ms Pc) (PostOf Qc mc ms free) (vx_Post XC mc ms free) := vx_backW (hh := hh) (bytes := bytes) (maxL := maxL) (ret := ret) hM hp.1 hrc hrs hfr hlo hws hcw (fun a' U hW => word_at hW (Or.inl (by first | rfl | simp [Cond.onTables, Cond.keeps, Cond.steady])) hini)
  obtain ⟨hx, hb, hml, ho, -⟩ := S
  obtain ⟨-, ⟨cellB, hcB, hoB, hclB⟩, hPc⟩ := hp
  intro T hT X
  rcases vx_callVX X hx (C := C) (hh := hh) (bytes := bytes) (maxL := maxL) (ret := ret) ho hl hin hse hcode hy hK (by rw [hT]; exact hcB) hoB hclB hg (hsize.trans hml.symm) (argsL := As) (rest := rest) (fun sig h => hn.trans (hlen sig h)) hstack hW (by rw [hb]; exact hdg)
    (fun vm₁ hW₁ => ⟨hf.1, hf.2, hPc (T.setVm vm₁) hT hW₁⟩) with ⟨v, vm₁, ⟨U', l2, c2, s2⟩, hW₁, X', ⟨g', mk, t, L, e1, e2, hq, h1, hL, h2, h3⟩, st⟩ | ⟨q, vm₁, ⟨U', l2, c2, s2⟩, hW₁, X', ⟨g', mk, t, L, E, ce, e1, e2, hq, hce, hcv, hcl, h1, hL, h2, h3⟩, st⟩
  · dsimp only [Pt.U, Pt.locs, Pt.cells, Pt.slots] at X' e1 e2 h1 h2 h3 st
    subst h1; subst h2; subst h3
    exact Or.inl ⟨v, (T.setVm vm₁).calling g' mk (Value.ref b :: As).toArray, t, U', L, hT, X', hL, e1, e2, hq, st⟩
  · dsimp only [Pt.U, Pt.locs, Pt.cells, Pt.slots] at X' e1 e2 h1 h2 h3 st hcl
    subst h1; subst h2; subst h3
    exact Or.inr ⟨q, (T.setVm vm₁).calling g' mk (Value.ref b :: As).toArray, t, U', L, E, ce, hT, X', hL, e1, e2, hq, hce, hcv, vx_cls hW₁ hcl, st⟩
theorem vx_runSX {hh : List (Nat × Nat × Nat × Nat)} (S : CallFix p m c cc nL s args Ts own) (hM : vx_Met l y ws rm Pc Qc XC mc ms free) (cw : vx_CSW R s args own index y bytes maxL ret hh ws rm mc ms n) (hp : PreS s H Pc As)
    (hg : g.method = m) (hn : As.length = n) (hsize : g.locals.size = nL) (hstack : g.stack = As.reverse ++ rest) (hW : 2 * g.monitorRoom + (rest.map fun v => v.category).sum ≤ 8) (hdg : decode cc g.pc = .ok (.invokestatic index, 3)) (hf : cells + mc ≤ R.cells ∧ slots + ms ≤ R.slots) :
    vx_Run p l e R s m args below meth c H locs cells slots mc ms g rest (Qc As.toArray) XC free := by
  obtain ⟨⟨hrc, hrs, hfr, hlo, hws, hcw⟩, hcode, hini, hy, hlen, hl, hstt⟩ := cw
  have hK : vx_Back l R p e below s args y 3 8 (PreOf R mc ms Pc) (PostOf Qc mc ms free) (vx_Post XC mc ms free) := vx_backW (hh := hh) (bytes := bytes) (maxL := maxL) (ret := ret) hM hp.1 hrc hrs hfr hlo hws hcw (fun a' U hW => word_at hW (Or.inl (by first | rfl | simp [Cond.onTables, Cond.keeps, Cond.steady])) hini)
  obtain ⟨hx, hb, hml, ho, -⟩ := S
  intro T hT X
  rcases vx_callSX X hx (hh := hh) (bytes := bytes) (maxL := maxL) (ret := ret) ho hl hstt hini hcode hy hK hg (hsize.trans hml.symm) (argsL := As) (rest := rest) (fun sig h => hn.trans (hlen sig h)) hstack hW (by rw [hb]; exact hdg)
    (fun vm₁ hW₁ => ⟨hf.1, hf.2, hp.2 (T.setVm vm₁) hT hW₁⟩) with ⟨v, vm₁, ⟨U', l2, c2, s2⟩, hW₁, X', ⟨g', mk, t, L, e1, e2, hq, h1, hL, h2, h3⟩, st⟩ | ⟨q, vm₁, ⟨U', l2, c2, s2⟩, hW₁, X', ⟨g', mk, t, L, E, ce, e1, e2, hq, hce, hcv, hcl, h1, hL, h2, h3⟩, st⟩
  · dsimp only [Pt.U, Pt.locs, Pt.cells, Pt.slots] at X' e1 e2 h1 h2 h3 st
    subst h1; subst h2; subst h3
    exact Or.inl ⟨v, (T.setVm vm₁).calling g' mk As.toArray, t, U', L, hT, X', hL, e1, e2, hq, st⟩
  · dsimp only [Pt.U, Pt.locs, Pt.cells, Pt.slots] at X' e1 e2 h1 h2 h3 st hcl
    subst h1; subst h2; subst h3
    exact Or.inr ⟨q, (T.setVm vm₁).calling g' mk As.toArray, t, U', L, E, ce, hT, X', hL, e1, e2, hq, hce, hcv, vx_cls hW₁ hcl, st⟩
end
end VXH
theorem vx_ofWH {l : Launch} {y : MethodName} {ws ws' : List Cond} {rm : Room} {Pc : Array Value → State → Prop} {Qc : Array Value → State → Outcome → State → Prop} {XC : String → State → State → Prop} {mc ms : Nat} {free : Addr → Prop} {cc : ByteArray} {maxL : Nat} {ret : Option FieldType} {hh : List (Nat × Nat × Nat × Nat)}
    (hy : plainName y.cls = true) (hw : ws = Cond.codeWith y cc maxL ret hh :: ws')
    (body : ∀ p e s m args below meth c s₁, BodyLoose p l y (headSpec ws rm) cc maxL ret e s m args below meth c s₁ → c.maxLocals = maxL → Pc args s →
      W p l e (headSpec ws rm).room s m args below meth c s.heap [] 0 0 (vx_MQ below Qc XC args s mc ms free) (entryFrame m args maxL)) : vx_Met l y ws rm Pc Qc XC mc ms free := by
  refine MetFree.of_bodyS (code := cc) (maxLocals := maxL) (ret := ret) hy ?_ ?_
  · intro args s m h hn
    obtain ⟨m9, meth, c, hn9, h1, h2, h3, h4, -, h5, h6, -⟩ := Cond.codeWith_spec (atoms_spec (ws := ws) h _ (by rw [hw]; exact List.mem_cons_self))
    cases hn.symm.trans hn9
    exact ⟨meth, c, h1, h2, h3, h4, h5, h6⟩
  · intro p e s m args below meth c s₁ B hml hP _
    have hh0 : s₁.heap = s.heap := by rw [B.state]; rfl
    obtain ⟨t, a1, o, b1, b2, b3⟩ := body p e s m args below meth c s₁ B hml hP s₁ hh0 (Stand.of_body B)
    exact ⟨t, o, a1, b1, b2, b3⟩
/-! ===== END ===== -/
end
section
def RX0 : String := "WakeVillage$Command"
def TX0 : u_T := fun k => match k with
  | 0 => ("WakeVillage$Command", "kind", "I", false)
  | 1 => ("WakeVillage$Command", "number", "I", false)
  | 2 => ("WakeVillage$Command", "node", "I", false)
  | 3 => ("WakeVillage$Command", "other", "I", false)
  | 4 => ("WakeVillage$Command", "behind", "I", false)
  | 5 => ("WakeVillage$Command", "outer", "I", false)
  | _ => ("WakeVillage$Command", "left", "I", false)
def tyX0 : Nat → FieldType := fun k => match k with
  | 0 => .int
  | 1 => .int
  | 2 => .int
  | 3 => .int
  | 4 => .int
  | 5 => .int
  | _ => .int
abbrev cX0_init : ByteArray := prog_2_method_1_code
def yX0_init : MethodName := ⟨RX0, "<init>", "()V"⟩
def RX1 : String := "WakeVillage$Forecast"
def TX1 : u_T := fun k => match k with
  | _ => ("WakeVillage$Forecast", "trial", "LWakeVillage$Village;", true)
def tyX1 : Nat → FieldType := fun k => match k with
  | _ => .object "WakeVillage$Village"
abbrev cX1_init : ByteArray := prog_3_method_1_code
def yX1_init : MethodName := ⟨RX1, "<init>", "()V"⟩
abbrev cX1_ticksToArrival : ByteArray := prog_3_method_2_code
def yX1_ticksToArrival : MethodName := ⟨RX1, "ticksToArrival", "(LWakeVillage$Village;I)I"⟩
abbrev cX1_ticksIfSent : ByteArray := prog_3_method_3_code
def yX1_ticksIfSent : MethodName := ⟨RX1, "ticksIfSent", "(LWakeVillage$Village;IIZ)I"⟩
abbrev cX1_sendInThought : ByteArray := prog_3_method_4_code
def yX1_sendInThought : MethodName := ⟨RX1, "sendInThought", "(LWakeVillage$Village;IIZ)I"⟩
abbrev cX1_trialArrival : ByteArray := prog_3_method_5_code
def yX1_trialArrival : MethodName := ⟨RX1, "trialArrival", "(II)I"⟩
abbrev cX1_ticksToOut : ByteArray := prog_3_method_6_code
def yX1_ticksToOut : MethodName := ⟨RX1, "ticksToOut", "(LWakeVillage$Village;I)I"⟩
abbrev cX1_energyAfter : ByteArray := prog_3_method_7_code
def yX1_energyAfter : MethodName := ⟨RX1, "energyAfter", "(LWakeVillage$Village;II)I"⟩
abbrev cX1_ticksToShiftTaken : ByteArray := prog_3_method_8_code
def yX1_ticksToShiftTaken : MethodName := ⟨RX1, "ticksToShiftTaken", "(LWakeVillage$Village;)I"⟩
abbrev cX1_dayToWatch : ByteArray := prog_3_method_9_code
def yX1_dayToWatch : MethodName := ⟨RX1, "dayToWatch", "(LWakeVillage$Village;II)I"⟩
def RX2 : String := "WakeVillage$History"
def TX2 : u_T := fun k => match k with
  | 0 => ("WakeVillage$History", "kept", "[LWakeVillage$Village;", true)
  | 1 => ("WakeVillage$History", "slot", "I", false)
  | _ => ("WakeVillage$History", "many", "I", false)
def tyX2 : Nat → FieldType := fun k => match k with
  | 0 => .array (.object "WakeVillage$Village")
  | 1 => .int
  | _ => .int
abbrev cX2_init : ByteArray := prog_4_method_1_code
def yX2_init : MethodName := ⟨RX2, "<init>", "()V"⟩
abbrev cX2_forget : ByteArray := prog_4_method_2_code
def yX2_forget : MethodName := ⟨RX2, "forget", "()V"⟩
abbrev cX2_keep : ByteArray := prog_4_method_3_code
def yX2_keep : MethodName := ⟨RX2, "keep", "(LWakeVillage$Village;)V"⟩
abbrev cX2_takeBack : ByteArray := prog_4_method_4_code
def yX2_takeBack : MethodName := ⟨RX2, "takeBack", "(LWakeVillage$Village;)Z"⟩
def RX3 : String := "WakeVillage$Link"
def TX3 : u_T := fun k => match k with
  | 0 => ("WakeVillage$Link", "first", "I", false)
  | 1 => ("WakeVillage$Link", "second", "I", false)
  | 2 => ("WakeVillage$Link", "misses", "I", false)
  | 3 => ("WakeVillage$Link", "met", "I", false)
  | _ => ("WakeVillage$Link", "missed", "I", false)
def tyX3 : Nat → FieldType := fun k => match k with
  | 0 => .int
  | 1 => .int
  | 2 => .int
  | 3 => .int
  | _ => .int
abbrev cX3_init : ByteArray := prog_5_method_1_code
def yX3_init : MethodName := ⟨RX3, "<init>", "()V"⟩
abbrev cX3_copyFrom : ByteArray := prog_5_method_2_code
def yX3_copyFrom : MethodName := ⟨RX3, "copyFrom", "(LWakeVillage$Link;)V"⟩
abbrev cX3_figure : ByteArray := prog_5_method_3_code
def yX3_figure : MethodName := ⟨RX3, "figure", "(I)I"⟩
def RX4 : String := "WakeVillage$Message"
def TX4 : u_T := fun k => match k with
  | 0 => ("WakeVillage$Message", "from", "I", false)
  | 1 => ("WakeVillage$Message", "goal", "I", false)
  | 2 => ("WakeVillage$Message", "at", "I", false)
  | 3 => ("WakeVillage$Message", "state", "I", false)
  | 4 => ("WakeVillage$Message", "due", "I", false)
  | 5 => ("WakeVillage$Message", "thereAt", "I", false)
  | 6 => ("WakeVillage$Message", "passes", "I", false)
  | _ => ("WakeVillage$Message", "isUrgent", "Z", false)
def tyX4 : Nat → FieldType := fun k => match k with
  | 0 => .int
  | 1 => .int
  | 2 => .int
  | 3 => .int
  | 4 => .int
  | 5 => .int
  | 6 => .int
  | _ => .boolean
abbrev cX4_init : ByteArray := prog_6_method_1_code
def yX4_init : MethodName := ⟨RX4, "<init>", "()V"⟩
abbrev cX4_copyFrom : ByteArray := prog_6_method_2_code
def yX4_copyFrom : MethodName := ⟨RX4, "copyFrom", "(LWakeVillage$Message;)V"⟩
abbrev cX4_figure : ByteArray := prog_6_method_3_code
def yX4_figure : MethodName := ⟨RX4, "figure", "(I)I"⟩
def RX5 : String := "WakeVillage$Node"
def TX5 : u_T := fun k => match k with
  | 0 => ("WakeVillage$Node", "name", "J", false)
  | 1 => ("WakeVillage$Node", "watched", "J", false)
  | 2 => ("WakeVillage$Node", "born", "I", false)
  | 3 => ("WakeVillage$Node", "shift", "I", false)
  | 4 => ("WakeVillage$Node", "energy", "I", false)
  | 5 => ("WakeVillage$Node", "linked", "I", false)
  | 6 => ("WakeVillage$Node", "awakeTicks", "I", false)
  | 7 => ("WakeVillage$Node", "passed", "I", false)
  | 8 => ("WakeVillage$Node", "got", "I", false)
  | _ => ("WakeVillage$Node", "dayAtWaking", "I", false)
def tyX5 : Nat → FieldType := fun k => match k with
  | 0 => .long
  | 1 => .long
  | 2 => .int
  | 3 => .int
  | 4 => .int
  | 5 => .int
  | 6 => .int
  | 7 => .int
  | 8 => .int
  | _ => .int
abbrev cX5_init : ByteArray := prog_7_method_1_code
def yX5_init : MethodName := ⟨RX5, "<init>", "()V"⟩
abbrev cX5_copyFrom : ByteArray := prog_7_method_2_code
def yX5_copyFrom : MethodName := ⟨RX5, "copyFrom", "(LWakeVillage$Node;)V"⟩
def RX6 : String := "WakeVillage$Report"
def TX6 : u_T := fun k => match k with
  | 0 => ("WakeVillage$Report", "bytes", "[B", true)
  | _ => ("WakeVillage$Report", "length", "I", false)
def tyX6 : Nat → FieldType := fun k => match k with
  | 0 => .array .byte
  | _ => .int
abbrev cX6_init : ByteArray := prog_8_method_1_code
def yX6_init : MethodName := ⟨RX6, "<init>", "()V"⟩
abbrev cX6_byteAt : ByteArray := prog_8_method_2_code
def yX6_byteAt : MethodName := ⟨RX6, "byteAt", "(I)I"⟩
abbrev cX6_writeOf : ByteArray := prog_8_method_3_code
def yX6_writeOf : MethodName := ⟨RX6, "writeOf", "(LWakeVillage$Village;)I"⟩
abbrev cX6_writeNode : ByteArray := prog_8_method_4_code
def yX6_writeNode : MethodName := ⟨RX6, "writeNode", "(LWakeVillage$Village;I)V"⟩
abbrev cX6_writeName : ByteArray := prog_8_method_5_code
def yX6_writeName : MethodName := ⟨RX6, "writeName", "(J)V"⟩
abbrev cX6_putNumber : ByteArray := prog_8_method_6_code
def yX6_putNumber : MethodName := ⟨RX6, "putNumber", "(I)V"⟩
abbrev cX6_put : ByteArray := prog_8_method_7_code
def yX6_put : MethodName := ⟨RX6, "put", "(I)V"⟩
def RX7 : String := "WakeVillage$Script"
def TX7 : u_T := fun k => match k with
  | 0 => ("WakeVillage$Script", "commands", "[LWakeVillage$Command;", true)
  | 1 => ("WakeVillage$Script", "count", "I", false)
  | 2 => ("WakeVillage$Script", "done", "I", false)
  | 3 => ("WakeVillage$Script", "inside", "I", false)
  | _ => ("WakeVillage$Script", "depth", "I", false)
def tyX7 : Nat → FieldType := fun k => match k with
  | 0 => .array (.object "WakeVillage$Command")
  | 1 => .int
  | 2 => .int
  | 3 => .int
  | _ => .int
abbrev cX7_init : ByteArray := prog_9_method_1_code
def yX7_init : MethodName := ⟨RX7, "<init>", "()V"⟩
abbrev cX7_commandAt : ByteArray := prog_9_method_2_code
def yX7_commandAt : MethodName := ⟨RX7, "commandAt", "(I)LWakeVillage$Command;"⟩
abbrev cX7_readAll : ByteArray := prog_9_method_3_code
def yX7_readAll : MethodName := ⟨RX7, "readAll", "(LWakeVillage$Source;LWakeVillage$Village;)Z"⟩
abbrev cX7_kindOfWord : ByteArray := prog_9_method_4_code
def yX7_kindOfWord : MethodName := ⟨RX7, "kindOfWord", "(LWakeVillage$Source;)I"⟩
abbrev cX7_readCommand : ByteArray := prog_9_method_5_code
def yX7_readCommand : MethodName := ⟨RX7, "readCommand", "(LWakeVillage$Source;LWakeVillage$Village;)Z"⟩
abbrev cX7_openRepeat : ByteArray := prog_9_method_6_code
def yX7_openRepeat : MethodName := ⟨RX7, "openRepeat", "(LWakeVillage$Source;LWakeVillage$Command;)Z"⟩
abbrev cX7_closeRepeat : ByteArray := prog_9_method_7_code
def yX7_closeRepeat : MethodName := ⟨RX7, "closeRepeat", "(LWakeVillage$Source;)Z"⟩
abbrev cX7_readNames : ByteArray := prog_9_method_8_code
def yX7_readNames : MethodName := ⟨RX7, "readNames", "(LWakeVillage$Source;LWakeVillage$Village;LWakeVillage$Command;)Z"⟩
abbrev cX7_readNumber : ByteArray := prog_9_method_9_code
def yX7_readNumber : MethodName := ⟨RX7, "readNumber", "(LWakeVillage$Source;LWakeVillage$Command;)Z"⟩
abbrev cX7_runOn : ByteArray := prog_9_method_10_code
def yX7_runOn : MethodName := ⟨RX7, "runOn", "(LWakeVillage$Village;)I"⟩
abbrev cX7_endRound : ByteArray := prog_9_method_11_code
def yX7_endRound : MethodName := ⟨RX7, "endRound", "(I)I"⟩
abbrev cX7_perform : ByteArray := prog_9_method_12_code
def yX7_perform : MethodName := ⟨RX7, "perform", "(LWakeVillage$Command;LWakeVillage$Village;)Z"⟩
abbrev cX7_performSend : ByteArray := prog_9_method_13_code
def yX7_performSend : MethodName := ⟨RX7, "performSend", "(LWakeVillage$Command;LWakeVillage$Village;Z)Z"⟩
abbrev cX7_performShift : ByteArray := prog_9_method_14_code
def yX7_performShift : MethodName := ⟨RX7, "performShift", "(LWakeVillage$Command;LWakeVillage$Village;)Z"⟩
abbrev cX7_performWatch : ByteArray := prog_9_method_15_code
def yX7_performWatch : MethodName := ⟨RX7, "performWatch", "(LWakeVillage$Command;LWakeVillage$Village;)Z"⟩
abbrev cX7_performCharge : ByteArray := prog_9_method_16_code
def yX7_performCharge : MethodName := ⟨RX7, "performCharge", "(LWakeVillage$Command;LWakeVillage$Village;)Z"⟩
def RX8 : String := "WakeVillage$Source"
def TX8 : u_T := fun k => match k with
  | 0 => ("WakeVillage$Source", "bytes", "[B", true)
  | 1 => ("WakeVillage$Source", "length", "I", false)
  | 2 => ("WakeVillage$Source", "failure", "I", false)
  | 3 => ("WakeVillage$Source", "failedAt", "I", false)
  | 4 => ("WakeVillage$Source", "word", "J", false)
  | 5 => ("WakeVillage$Source", "taken", "I", false)
  | 6 => ("WakeVillage$Source", "kind", "I", false)
  | 7 => ("WakeVillage$Source", "number", "I", false)
  | 8 => ("WakeVillage$Source", "start", "I", false)
  | _ => ("WakeVillage$Source", "next", "I", false)
def tyX8 : Nat → FieldType := fun k => match k with
  | 0 => .array .byte
  | 1 => .int
  | 2 => .int
  | 3 => .int
  | 4 => .long
  | 5 => .int
  | 6 => .int
  | 7 => .int
  | 8 => .int
  | _ => .int
abbrev cX8_init : ByteArray := prog_10_method_1_code
def yX8_init : MethodName := ⟨RX8, "<init>", "()V"⟩
abbrev cX8_hasRoomForFeed : ByteArray := prog_10_method_2_code
def yX8_hasRoomForFeed : MethodName := ⟨RX8, "hasRoomForFeed", "()Z"⟩
abbrev cX8_append : ByteArray := prog_10_method_3_code
def yX8_append : MethodName := ⟨RX8, "append", "(I)V"⟩
abbrev cX8_letterOf : ByteArray := prog_10_method_4_code
def yX8_letterOf : MethodName := ⟨RX8, "letterOf", "(JI)I"⟩
abbrev cX8_begin : ByteArray := prog_10_method_5_code
def yX8_begin : MethodName := ⟨RX8, "begin", "()V"⟩
abbrev cX8_fail : ByteArray := prog_10_method_6_code
def yX8_fail : MethodName := ⟨RX8, "fail", "(I)Z"⟩
abbrev cX8_advance : ByteArray := prog_10_method_7_code
def yX8_advance : MethodName := ⟨RX8, "advance", "()V"⟩
abbrev cX8_byteAt : ByteArray := prog_10_method_8_code
def yX8_byteAt : MethodName := ⟨RX8, "byteAt", "(I)I"⟩
abbrev cX8_isLetter : ByteArray := prog_10_method_9_code
def yX8_isLetter : MethodName := ⟨RX8, "isLetter", "(I)Z"⟩
abbrev cX8_isDigit : ByteArray := prog_10_method_10_code
def yX8_isDigit : MethodName := ⟨RX8, "isDigit", "(I)Z"⟩
abbrev cX8_scanWord : ByteArray := prog_10_method_11_code
def yX8_scanWord : MethodName := ⟨RX8, "scanWord", "()V"⟩
abbrev cX8_scanNumber : ByteArray := prog_10_method_12_code
def yX8_scanNumber : MethodName := ⟨RX8, "scanNumber", "()V"⟩
abbrev cX8_isAtEnd : ByteArray := prog_10_method_13_code
def yX8_isAtEnd : MethodName := ⟨RX8, "isAtEnd", "()Z"⟩
abbrev cX8_isMark : ByteArray := prog_10_method_14_code
def yX8_isMark : MethodName := ⟨RX8, "isMark", "(I)Z"⟩
abbrev cX8_isWord : ByteArray := prog_10_method_15_code
def yX8_isWord : MethodName := ⟨RX8, "isWord", "(Ljava/lang/String;)Z"⟩
abbrev cX8_takeMark : ByteArray := prog_10_method_16_code
def yX8_takeMark : MethodName := ⟨RX8, "takeMark", "(I)Z"⟩
abbrev cX8_takeWord : ByteArray := prog_10_method_17_code
def yX8_takeWord : MethodName := ⟨RX8, "takeWord", "(Ljava/lang/String;)Z"⟩
abbrev cX8_takeNumber : ByteArray := prog_10_method_18_code
def yX8_takeNumber : MethodName := ⟨RX8, "takeNumber", "(II)Z"⟩
abbrev cX8_expectName : ByteArray := prog_10_method_19_code
def yX8_expectName : MethodName := ⟨RX8, "expectName", "()Z"⟩
abbrev cX8_expectNode : ByteArray := prog_10_method_20_code
def yX8_expectNode : MethodName := ⟨RX8, "expectNode", "(LWakeVillage$Village;)I"⟩
def RX9 : String := "WakeVillage$TextReader"
def TX9 : u_T := fun k => match k with
  | 0 => ("WakeVillage$TextReader", "isYearTold", "Z", false)
  | 1 => ("WakeVillage$TextReader", "areCostsTold", "Z", false)
  | _ => ("WakeVillage$TextReader", "isMissTold", "Z", false)
def tyX9 : Nat → FieldType := fun k => match k with
  | 0 => .boolean
  | 1 => .boolean
  | _ => .boolean
abbrev cX9_init : ByteArray := prog_11_method_1_code
def yX9_init : MethodName := ⟨RX9, "<init>", "()V"⟩
abbrev cX9_readAll : ByteArray := prog_11_method_2_code
def yX9_readAll : MethodName := ⟨RX9, "readAll", "(LWakeVillage$Source;LWakeVillage$Village;)Z"⟩
abbrev cX9_readStatement : ByteArray := prog_11_method_3_code
def yX9_readStatement : MethodName := ⟨RX9, "readStatement", "(LWakeVillage$Source;LWakeVillage$Village;)Z"⟩
abbrev cX9_readYear : ByteArray := prog_11_method_4_code
def yX9_readYear : MethodName := ⟨RX9, "readYear", "(LWakeVillage$Source;LWakeVillage$Village;)Z"⟩
abbrev cX9_readCosts : ByteArray := prog_11_method_5_code
def yX9_readCosts : MethodName := ⟨RX9, "readCosts", "(LWakeVillage$Source;LWakeVillage$Village;)Z"⟩
abbrev cX9_readMiss : ByteArray := prog_11_method_6_code
def yX9_readMiss : MethodName := ⟨RX9, "readMiss", "(LWakeVillage$Source;LWakeVillage$Village;)Z"⟩
abbrev cX9_readNode : ByteArray := prog_11_method_7_code
def yX9_readNode : MethodName := ⟨RX9, "readNode", "(LWakeVillage$Source;LWakeVillage$Village;)Z"⟩
abbrev cX9_readLink : ByteArray := prog_11_method_8_code
def yX9_readLink : MethodName := ⟨RX9, "readLink", "(LWakeVillage$Source;LWakeVillage$Village;)Z"⟩
def RX10 : String := "WakeVillage$Village"
def TX10 : u_T := fun k => match k with
  | 0 => ("WakeVillage$Village", "nodes", "[LWakeVillage$Node;", true)
  | 1 => ("WakeVillage$Village", "links", "[LWakeVillage$Link;", true)
  | 2 => ("WakeVillage$Village", "messages", "[LWakeVillage$Message;", true)
  | 3 => ("WakeVillage$Village", "nodeCount", "I", false)
  | 4 => ("WakeVillage$Village", "linkCount", "I", false)
  | 5 => ("WakeVillage$Village", "messageCount", "I", false)
  | 6 => ("WakeVillage$Village", "year", "I", false)
  | 7 => ("WakeVillage$Village", "costToWake", "I", false)
  | 8 => ("WakeVillage$Village", "costToPass", "I", false)
  | 9 => ("WakeVillage$Village", "costToCall", "I", false)
  | 10 => ("WakeVillage$Village", "mayMiss", "I", false)
  | 11 => ("WakeVillage$Village", "time", "I", false)
  | 12 => ("WakeVillage$Village", "shiftsTaken", "I", false)
  | 13 => ("WakeVillage$Village", "awake", "I", false)
  | 14 => ("WakeVillage$Village", "passedOne", "I", false)
  | _ => ("WakeVillage$Village", "gotOne", "I", false)
def tyX10 : Nat → FieldType := fun k => match k with
  | 0 => .array (.object "WakeVillage$Node")
  | 1 => .array (.object "WakeVillage$Link")
  | 2 => .array (.object "WakeVillage$Message")
  | 3 => .int
  | 4 => .int
  | 5 => .int
  | 6 => .int
  | 7 => .int
  | 8 => .int
  | 9 => .int
  | 10 => .int
  | 11 => .int
  | 12 => .int
  | 13 => .int
  | 14 => .int
  | _ => .int
abbrev cX10_init : ByteArray := prog_12_method_1_code
def yX10_init : MethodName := ⟨RX10, "<init>", "()V"⟩
abbrev cX10_makeEmpty : ByteArray := prog_12_method_2_code
def yX10_makeEmpty : MethodName := ⟨RX10, "makeEmpty", "()V"⟩
abbrev cX10_copyFrom : ByteArray := prog_12_method_3_code
def yX10_copyFrom : MethodName := ⟨RX10, "copyFrom", "(LWakeVillage$Village;)V"⟩
abbrev cX10_nodeAt : ByteArray := prog_12_method_4_code
def yX10_nodeAt : MethodName := ⟨RX10, "nodeAt", "(I)LWakeVillage$Node;"⟩
abbrev cX10_linkAt : ByteArray := prog_12_method_5_code
def yX10_linkAt : MethodName := ⟨RX10, "linkAt", "(I)LWakeVillage$Link;"⟩
abbrev cX10_messageAt : ByteArray := prog_12_method_6_code
def yX10_messageAt : MethodName := ⟨RX10, "messageAt", "(I)LWakeVillage$Message;"⟩
abbrev cX10_addNode : ByteArray := prog_12_method_7_code
def yX10_addNode : MethodName := ⟨RX10, "addNode", "(JIII)V"⟩
abbrev cX10_addLink : ByteArray := prog_12_method_8_code
def yX10_addLink : MethodName := ⟨RX10, "addLink", "(II)V"⟩
abbrev cX10_addMessage : ByteArray := prog_12_method_9_code
def yX10_addMessage : MethodName := ⟨RX10, "addMessage", "(IIIZ)I"⟩
abbrev cX10_foldDays : ByteArray := prog_12_method_10_code
def yX10_foldDays : MethodName := ⟨RX10, "foldDays", "()V"⟩
abbrev cX10_isTickCount : ByteArray := prog_12_method_11_code
def yX10_isTickCount : MethodName := ⟨RX10, "isTickCount", "(I)Z"⟩
abbrev cX10_isSending : ByteArray := prog_12_method_12_code
def yX10_isSending : MethodName := ⟨RX10, "isSending", "(III)Z"⟩
abbrev cX10_isCharge : ByteArray := prog_12_method_13_code
def yX10_isCharge : MethodName := ⟨RX10, "isCharge", "(I)Z"⟩
abbrev cX10_hasTimeFor : ByteArray := prog_12_method_14_code
def yX10_hasTimeFor : MethodName := ⟨RX10, "hasTimeFor", "(I)Z"⟩
abbrev cX10_canSend : ByteArray := prog_12_method_15_code
def yX10_canSend : MethodName := ⟨RX10, "canSend", "(II)Z"⟩
abbrev cX10_isDay : ByteArray := prog_12_method_16_code
def yX10_isDay : MethodName := ⟨RX10, "isDay", "(I)Z"⟩
abbrev cX10_turnWatch : ByteArray := prog_12_method_17_code
def yX10_turnWatch : MethodName := ⟨RX10, "turnWatch", "(II)V"⟩
abbrev cX10_addEnergy : ByteArray := prog_12_method_18_code
def yX10_addEnergy : MethodName := ⟨RX10, "addEnergy", "(II)I"⟩
abbrev cX10_numberOf : ByteArray := prog_12_method_19_code
def yX10_numberOf : MethodName := ⟨RX10, "numberOf", "(J)I"⟩
abbrev cX10_has : ByteArray := prog_12_method_20_code
def yX10_has : MethodName := ⟨RX10, "has", "(II)Z"⟩
abbrev cX10_hasDay : ByteArray := prog_12_method_21_code
def yX10_hasDay : MethodName := ⟨RX10, "hasDay", "(JI)Z"⟩
abbrev cX10_isOut : ByteArray := prog_12_method_22_code
def yX10_isOut : MethodName := ⟨RX10, "isOut", "(I)Z"⟩
abbrev cX10_isWatched : ByteArray := prog_12_method_23_code
def yX10_isWatched : MethodName := ⟨RX10, "isWatched", "(II)Z"⟩
abbrev cX10_dayOfYear : ByteArray := prog_12_method_24_code
def yX10_dayOfYear : MethodName := ⟨RX10, "dayOfYear", "(I)I"⟩
abbrev cX10_dayOf : ByteArray := prog_12_method_25_code
def yX10_dayOf : MethodName := ⟨RX10, "dayOf", "(I)I"⟩
abbrev cX10_isAwake : ByteArray := prog_12_method_26_code
def yX10_isAwake : MethodName := ⟨RX10, "isAwake", "(I)Z"⟩
abbrev cX10_tableOf : ByteArray := prog_12_method_27_code
def yX10_tableOf : MethodName := ⟨RX10, "tableOf", "(I)J"⟩
abbrev cX10_energySum : ByteArray := prog_12_method_28_code
def yX10_energySum : MethodName := ⟨RX10, "energySum", "()I"⟩
abbrev cX10_notOut : ByteArray := prog_12_method_29_code
def yX10_notOut : MethodName := ⟨RX10, "notOut", "()I"⟩
abbrev cX10_messagesInState : ByteArray := prog_12_method_30_code
def yX10_messagesInState : MethodName := ⟨RX10, "messagesInState", "(I)I"⟩
abbrev cX10_messagesInTime : ByteArray := prog_12_method_31_code
def yX10_messagesInTime : MethodName := ⟨RX10, "messagesInTime", "()I"⟩
abbrev cX10_isWaitingAt : ByteArray := prog_12_method_32_code
def yX10_isWaitingAt : MethodName := ⟨RX10, "isWaitingAt", "(II)Z"⟩
abbrev cX10_messagesWaitingAt : ByteArray := prog_12_method_33_code
def yX10_messagesWaitingAt : MethodName := ⟨RX10, "messagesWaitingAt", "(I)I"⟩
abbrev cX10_figure : ByteArray := prog_12_method_34_code
def yX10_figure : MethodName := ⟨RX10, "figure", "(I)I"⟩
abbrev cX10_nodeFigure : ByteArray := prog_12_method_35_code
def yX10_nodeFigure : MethodName := ⟨RX10, "nodeFigure", "(II)I"⟩
abbrev cX10_wakesAfter : ByteArray := prog_12_method_36_code
def yX10_wakesAfter : MethodName := ⟨RX10, "wakesAfter", "(III)Z"⟩
abbrev cX10_awakeAfter : ByteArray := prog_12_method_37_code
def yX10_awakeAfter : MethodName := ⟨RX10, "awakeAfter", "(I)I"⟩
abbrev cX10_meetingIn : ByteArray := prog_12_method_38_code
def yX10_meetingIn : MethodName := ⟨RX10, "meetingIn", "(III)I"⟩
abbrev cX10_lateness : ByteArray := prog_12_method_39_code
def yX10_lateness : MethodName := ⟨RX10, "lateness", "(III)I"⟩
abbrev cX10_latestMeetingLink : ByteArray := prog_12_method_40_code
def yX10_latestMeetingLink : MethodName := ⟨RX10, "latestMeetingLink", "()I"⟩
abbrev cX10_ticksToMostAwake : ByteArray := prog_12_method_41_code
def yX10_ticksToMostAwake : MethodName := ⟨RX10, "ticksToMostAwake", "()I"⟩
abbrev cX10_greatestLateness : ByteArray := prog_12_method_42_code
def yX10_greatestLateness : MethodName := ⟨RX10, "greatestLateness", "(II)I"⟩
abbrev cX10_shiftToMeetSoonest : ByteArray := prog_12_method_43_code
def yX10_shiftToMeetSoonest : MethodName := ⟨RX10, "shiftToMeetSoonest", "(I)I"⟩
abbrev cX10_grown : ByteArray := prog_12_method_44_code
def yX10_grown : MethodName := ⟨RX10, "grown", "(II)I"⟩
abbrev cX10_lowestOf : ByteArray := prog_12_method_45_code
def yX10_lowestOf : MethodName := ⟨RX10, "lowestOf", "(I)I"⟩
abbrev cX10_hopsBetween : ByteArray := prog_12_method_46_code
def yX10_hopsBetween : MethodName := ⟨RX10, "hopsBetween", "(II)I"⟩
abbrev cX10_nextTowards : ByteArray := prog_12_method_47_code
def yX10_nextTowards : MethodName := ⟨RX10, "nextTowards", "(III)I"⟩
abbrev cX10_greatestHops : ByteArray := prog_12_method_48_code
def yX10_greatestHops : MethodName := ⟨RX10, "greatestHops", "()I"⟩
abbrev cX10_passTicks : ByteArray := prog_12_method_49_code
def yX10_passTicks : MethodName := ⟨RX10, "passTicks", "(I)I"⟩
abbrev cX10_wakeNodes : ByteArray := prog_12_method_50_code
def yX10_wakeNodes : MethodName := ⟨RX10, "wakeNodes", "()V"⟩
abbrev cX10_meetOrMiss : ByteArray := prog_12_method_51_code
def yX10_meetOrMiss : MethodName := ⟨RX10, "meetOrMiss", "(LWakeVillage$Link;)V"⟩
abbrev cX10_miss : ByteArray := prog_12_method_52_code
def yX10_miss : MethodName := ⟨RX10, "miss", "(LWakeVillage$Link;)V"⟩
abbrev cX10_passMessages : ByteArray := prog_12_method_53_code
def yX10_passMessages : MethodName := ⟨RX10, "passMessages", "(Z)I"⟩
abbrev cX10_tryToPass : ByteArray := prog_12_method_54_code
def yX10_tryToPass : MethodName := ⟨RX10, "tryToPass", "(LWakeVillage$Message;)V"⟩
abbrev cX10_moveTo : ByteArray := prog_12_method_55_code
def yX10_moveTo : MethodName := ⟨RX10, "moveTo", "(LWakeVillage$Message;I)V"⟩
abbrev cX10_loseMessages : ByteArray := prog_12_method_56_code
def yX10_loseMessages : MethodName := ⟨RX10, "loseMessages", "()V"⟩
def RX11 : String := "WakeVillage"
def TX11 : u_T := fun k => match k with
  | 0 => ("WakeVillage", "source", "LWakeVillage$Source;", true)
  | 1 => ("WakeVillage", "reader", "LWakeVillage$TextReader;", true)
  | 2 => ("WakeVillage", "script", "LWakeVillage$Script;", true)
  | 3 => ("WakeVillage", "forecast", "LWakeVillage$Forecast;", true)
  | 4 => ("WakeVillage", "history", "LWakeVillage$History;", true)
  | 5 => ("WakeVillage", "latest", "LWakeVillage$Report;", true)
  | 6 => ("WakeVillage", "now", "LWakeVillage$Village;", true)
  | 7 => ("WakeVillage", "draft", "LWakeVillage$Village;", true)
  | 8 => ("WakeVillage", "saved", "LWakeVillage$Village;", true)
  | _ => ("WakeVillage", "isSaved", "Z", false)
def tyX11 : Nat → FieldType := fun k => match k with
  | 0 => .object "WakeVillage$Source"
  | 1 => .object "WakeVillage$TextReader"
  | 2 => .object "WakeVillage$Script"
  | 3 => .object "WakeVillage$Forecast"
  | 4 => .object "WakeVillage$History"
  | 5 => .object "WakeVillage$Report"
  | 6 => .object "WakeVillage$Village"
  | 7 => .object "WakeVillage$Village"
  | 8 => .object "WakeVillage$Village"
  | _ => .boolean
abbrev cX11_init : ByteArray := prog_1_method_1_code
def yX11_init : MethodName := ⟨RX11, "<init>", "()V"⟩
abbrev cX11_feed : ByteArray := prog_1_method_2_code
def yX11_feed : MethodName := ⟨RX11, "feed", "(IIIII)I"⟩
abbrev cX11_truncate : ByteArray := prog_1_method_3_code
def yX11_truncate : MethodName := ⟨RX11, "truncate", "(I)I"⟩
abbrev cX11_readText : ByteArray := prog_1_method_4_code
def yX11_readText : MethodName := ⟨RX11, "readText", "()I"⟩
abbrev cX11_runScript : ByteArray := prog_1_method_5_code
def yX11_runScript : MethodName := ⟨RX11, "runScript", "()I"⟩
abbrev cX11_errorCode : ByteArray := prog_1_method_6_code
def yX11_errorCode : MethodName := ⟨RX11, "errorCode", "()I"⟩
abbrev cX11_errorPosition : ByteArray := prog_1_method_7_code
def yX11_errorPosition : MethodName := ⟨RX11, "errorPosition", "()I"⟩
abbrev cX11_setting : ByteArray := prog_1_method_8_code
def yX11_setting : MethodName := ⟨RX11, "setting", "(I)I"⟩
abbrev cX11_node : ByteArray := prog_1_method_9_code
def yX11_node : MethodName := ⟨RX11, "node", "(II)I"⟩
abbrev cX11_link : ByteArray := prog_1_method_10_code
def yX11_link : MethodName := ⟨RX11, "link", "(II)I"⟩
abbrev cX11_message : ByteArray := prog_1_method_11_code
def yX11_message : MethodName := ⟨RX11, "message", "(II)I"⟩
abbrev cX11_letter : ByteArray := prog_1_method_12_code
def yX11_letter : MethodName := ⟨RX11, "letter", "(II)I"⟩
abbrev cX11_inTable : ByteArray := prog_1_method_13_code
def yX11_inTable : MethodName := ⟨RX11, "inTable", "(II)Z"⟩
abbrev cX11_duty : ByteArray := prog_1_method_14_code
def yX11_duty : MethodName := ⟨RX11, "duty", "(I)F"⟩
abbrev cX11_meanEnergy : ByteArray := prog_1_method_15_code
def yX11_meanEnergy : MethodName := ⟨RX11, "meanEnergy", "()D"⟩
abbrev cX11_awakeIn : ByteArray := prog_1_method_16_code
def yX11_awakeIn : MethodName := ⟨RX11, "awakeIn", "(I)I"⟩
abbrev cX11_meetsIn : ByteArray := prog_1_method_17_code
def yX11_meetsIn : MethodName := ⟨RX11, "meetsIn", "(II)I"⟩
abbrev cX11_worstLink : ByteArray := prog_1_method_18_code
def yX11_worstLink : MethodName := ⟨RX11, "worstLink", "()I"⟩
abbrev cX11_busiest : ByteArray := prog_1_method_19_code
def yX11_busiest : MethodName := ⟨RX11, "busiest", "()I"⟩
abbrev cX11_hops : ByteArray := prog_1_method_20_code
def yX11_hops : MethodName := ⟨RX11, "hops", "(II)I"⟩
abbrev cX11_nextNode : ByteArray := prog_1_method_21_code
def yX11_nextNode : MethodName := ⟨RX11, "nextNode", "(II)I"⟩
abbrev cX11_widest : ByteArray := prog_1_method_22_code
def yX11_widest : MethodName := ⟨RX11, "widest", "()I"⟩
abbrev cX11_arrives : ByteArray := prog_1_method_23_code
def yX11_arrives : MethodName := ⟨RX11, "arrives", "(I)I"⟩
abbrev cX11_wouldArrive : ByteArray := prog_1_method_24_code
def yX11_wouldArrive : MethodName := ⟨RX11, "wouldArrive", "(IIZ)I"⟩
abbrev cX11_outIn : ByteArray := prog_1_method_25_code
def yX11_outIn : MethodName := ⟨RX11, "outIn", "(I)I"⟩
abbrev cX11_energyIn : ByteArray := prog_1_method_26_code
def yX11_energyIn : MethodName := ⟨RX11, "energyIn", "(II)I"⟩
abbrev cX11_takesIn : ByteArray := prog_1_method_27_code
def yX11_takesIn : MethodName := ⟨RX11, "takesIn", "()I"⟩
abbrev cX11_bestShift : ByteArray := prog_1_method_28_code
def yX11_bestShift : MethodName := ⟨RX11, "bestShift", "(I)I"⟩
abbrev cX11_bestWatch : ByteArray := prog_1_method_29_code
def yX11_bestWatch : MethodName := ⟨RX11, "bestWatch", "(II)I"⟩
abbrev cX11_tick : ByteArray := prog_1_method_30_code
def yX11_tick : MethodName := ⟨RX11, "tick", "(I)I"⟩
abbrev cX11_send : ByteArray := prog_1_method_31_code
def yX11_send : MethodName := ⟨RX11, "send", "(IIIZ)I"⟩
abbrev cX11_setShift : ByteArray := prog_1_method_32_code
def yX11_setShift : MethodName := ⟨RX11, "setShift", "(II)I"⟩
abbrev cX11_watch : ByteArray := prog_1_method_33_code
def yX11_watch : MethodName := ⟨RX11, "watch", "(IIZ)Z"⟩
abbrev cX11_setBorn : ByteArray := prog_1_method_34_code
def yX11_setBorn : MethodName := ⟨RX11, "setBorn", "(II)I"⟩
abbrev cX11_charge : ByteArray := prog_1_method_35_code
def yX11_charge : MethodName := ⟨RX11, "charge", "(II)I"⟩
abbrev cX11_setMiss : ByteArray := prog_1_method_36_code
def yX11_setMiss : MethodName := ⟨RX11, "setMiss", "(I)I"⟩
abbrev cX11_report : ByteArray := prog_1_method_37_code
def yX11_report : MethodName := ⟨RX11, "report", "()I"⟩
abbrev cX11_reportByte : ByteArray := prog_1_method_38_code
def yX11_reportByte : MethodName := ⟨RX11, "reportByte", "(I)I"⟩
abbrev cX11_undo : ByteArray := prog_1_method_39_code
def yX11_undo : MethodName := ⟨RX11, "undo", "()I"⟩
abbrev cX11_save : ByteArray := prog_1_method_40_code
def yX11_save : MethodName := ⟨RX11, "save", "()I"⟩
abbrev cX11_restore : ByteArray := prog_1_method_41_code
def yX11_restore : MethodName := ⟨RX11, "restore", "()I"⟩
abbrev cX11_requireNode : ByteArray := prog_1_method_42_code
def yX11_requireNode : MethodName := ⟨RX11, "requireNode", "(I)V"⟩
abbrev cX11_requireMessage : ByteArray := prog_1_method_43_code
def yX11_requireMessage : MethodName := ⟨RX11, "requireMessage", "(I)V"⟩
abbrev cX11_requireDay : ByteArray := prog_1_method_44_code
def yX11_requireDay : MethodName := ⟨RX11, "requireDay", "(I)V"⟩
abbrev cX11_requireDifferent : ByteArray := prog_1_method_45_code
def yX11_requireDifferent : MethodName := ⟨RX11, "requireDifferent", "(II)V"⟩
def RX12 : String := "WakeVillageModel"
def TX12 : u_T := fun k => match k with
  | 0 => ("WakeVillageModel", "code", "I", false)
  | 1 => ("WakeVillageModel", "buffer", "[I", true)
  | 2 => ("WakeVillageModel", "filled", "I", false)
  | 3 => ("WakeVillageModel", "bytes", "I", false)
  | 4 => ("WakeVillageModel", "at", "I", false)
  | 5 => ("WakeVillageModel", "place0", "I", false)
  | 6 => ("WakeVillageModel", "sort", "I", false)
  | 7 => ("WakeVillageModel", "value0", "I", false)
  | 8 => ("WakeVillageModel", "error", "I", false)
  | 9 => ("WakeVillageModel", "errorPlace", "I", false)
  | 10 => ("WakeVillageModel", "toldError", "I", false)
  | 11 => ("WakeVillageModel", "toldPlace", "I", false)
  | 12 => ("WakeVillageModel", "word", "J", false)
  | 13 => ("WakeVillageModel", "s", "[I", true)
  | 14 => ("WakeVillageModel", "saved", "[I", true)
  | 15 => ("WakeVillageModel", "aside", "[I", true)
  | 16 => ("WakeVillageModel", "away", "[I", true)
  | 17 => ("WakeVillageModel", "past", "[I", true)
  | 18 => ("WakeVillageModel", "names", "[J", true)
  | 19 => ("WakeVillageModel", "savedNames", "[J", true)
  | 20 => ("WakeVillageModel", "asideNames", "[J", true)
  | 21 => ("WakeVillageModel", "undos", "I", false)
  | 22 => ("WakeVillageModel", "hasSaved", "Z", false)
  | 23 => ("WakeVillageModel", "onceTold", "I", false)
  | 24 => ("WakeVillageModel", "hopsTo", "[I", true)
  | 25 => ("WakeVillageModel", "days", "[I", true)
  | 26 => ("WakeVillageModel", "awake", "I", false)
  | 27 => ("WakeVillageModel", "passers", "I", false)
  | 28 => ("WakeVillageModel", "getters", "I", false)
  | 29 => ("WakeVillageModel", "script", "[I", true)
  | 30 => ("WakeVillageModel", "one", "[I", true)
  | 31 => ("WakeVillageModel", "two", "[I", true)
  | 32 => ("WakeVillageModel", "three", "[I", true)
  | 33 => ("WakeVillageModel", "begun", "[I", true)
  | 34 => ("WakeVillageModel", "laps", "[I", true)
  | 35 => ("WakeVillageModel", "scripted", "I", false)
  | 36 => ("WakeVillageModel", "wordsHad", "I", false)
  | 37 => ("WakeVillageModel", "opened", "I", false)
  | 38 => ("WakeVillageModel", "report", "[I", true)
  | 39 => ("WakeVillageModel", "reported", "I", false)
  | _ => ("WakeVillageModel", "hasReport", "Z", false)
def tyX12 : Nat → FieldType := fun k => match k with
  | 0 => .int
  | 1 => .array .int
  | 2 => .int
  | 3 => .int
  | 4 => .int
  | 5 => .int
  | 6 => .int
  | 7 => .int
  | 8 => .int
  | 9 => .int
  | 10 => .int
  | 11 => .int
  | 12 => .long
  | 13 => .array .int
  | 14 => .array .int
  | 15 => .array .int
  | 16 => .array .int
  | 17 => .array .int
  | 18 => .array .long
  | 19 => .array .long
  | 20 => .array .long
  | 21 => .int
  | 22 => .boolean
  | 23 => .int
  | 24 => .array .int
  | 25 => .array .int
  | 26 => .int
  | 27 => .int
  | 28 => .int
  | 29 => .array .int
  | 30 => .array .int
  | 31 => .array .int
  | 32 => .array .int
  | 33 => .array .int
  | 34 => .array .int
  | 35 => .int
  | 36 => .int
  | 37 => .int
  | 38 => .array .int
  | 39 => .int
  | _ => .boolean
abbrev cX12_init : ByteArray := prog_14_method_1_code
def yX12_init : MethodName := ⟨RX12, "<init>", "()V"⟩
abbrev cX12_thrown : ByteArray := prog_14_method_2_code
def yX12_thrown : MethodName := ⟨RX12, "thrown", "()I"⟩
abbrev cX12_isIn : ByteArray := prog_14_method_3_code
def yX12_isIn : MethodName := ⟨RX12, "isIn", "(JJJ)Z"⟩
abbrev cX12_truth : ByteArray := prog_14_method_4_code
def yX12_truth : MethodName := ⟨RX12, "truth", "(Z)I"⟩
abbrev cX12_has : ByteArray := prog_14_method_5_code
def yX12_has : MethodName := ⟨RX12, "has", "(II)Z"⟩
abbrev cX12_goes : ByteArray := prog_14_method_6_code
def yX12_goes : MethodName := ⟨RX12, "goes", "(Z)Z"⟩
abbrev cX12_goesBoth : ByteArray := prog_14_method_7_code
def yX12_goesBoth : MethodName := ⟨RX12, "goesBoth", "(ZZ)Z"⟩
abbrev cX12_feed : ByteArray := prog_14_method_8_code
def yX12_feed : MethodName := ⟨RX12, "feed", "(IIIII)I"⟩
abbrev cX12_four : ByteArray := prog_14_method_9_code
def yX12_four : MethodName := ⟨RX12, "four", "(I)V"⟩
abbrev cX12_truncate : ByteArray := prog_14_method_10_code
def yX12_truncate : MethodName := ⟨RX12, "truncate", "(I)I"⟩
abbrev cX12_here : ByteArray := prog_14_method_11_code
def yX12_here : MethodName := ⟨RX12, "here", "(I)I"⟩
abbrev cX12_isLetter : ByteArray := prog_14_method_12_code
def yX12_isLetter : MethodName := ⟨RX12, "isLetter", "(I)Z"⟩
abbrev cX12_isDigit : ByteArray := prog_14_method_13_code
def yX12_isDigit : MethodName := ⟨RX12, "isDigit", "(I)Z"⟩
abbrev cX12_goOn : ByteArray := prog_14_method_14_code
def yX12_goOn : MethodName := ⟨RX12, "goOn", "()V"⟩
abbrev cX12_wrong : ByteArray := prog_14_method_15_code
def yX12_wrong : MethodName := ⟨RX12, "wrong", "(I)V"⟩
abbrev cX12_isGood : ByteArray := prog_14_method_16_code
def yX12_isGood : MethodName := ⟨RX12, "isGood", "()Z"⟩
abbrev cX12_isWord : ByteArray := prog_14_method_17_code
def yX12_isWord : MethodName := ⟨RX12, "isWord", "(J)Z"⟩
abbrev cX12_isSign : ByteArray := prog_14_method_18_code
def yX12_isSign : MethodName := ⟨RX12, "isSign", "(I)Z"⟩
abbrev cX12_mustSign : ByteArray := prog_14_method_19_code
def yX12_mustSign : MethodName := ⟨RX12, "mustSign", "(I)V"⟩
abbrev cX12_mustWord : ByteArray := prog_14_method_20_code
def yX12_mustWord : MethodName := ⟨RX12, "mustWord", "(J)V"⟩
abbrev cX12_looks : ByteArray := prog_14_method_21_code
def yX12_looks : MethodName := ⟨RX12, "looks", "(II)I"⟩
abbrev cX12_number : ByteArray := prog_14_method_22_code
def yX12_number : MethodName := ⟨RX12, "number", "(II)I"⟩
abbrev cX12_beginsText : ByteArray := prog_14_method_23_code
def yX12_beginsText : MethodName := ⟨RX12, "beginsText", "()V"⟩
abbrev cX12_endsText : ByteArray := prog_14_method_24_code
def yX12_endsText : MethodName := ⟨RX12, "endsText", "()Z"⟩
abbrev cX12_errorCode : ByteArray := prog_14_method_25_code
def yX12_errorCode : MethodName := ⟨RX12, "errorCode", "()I"⟩
abbrev cX12_errorPosition : ByteArray := prog_14_method_26_code
def yX12_errorPosition : MethodName := ⟨RX12, "errorPosition", "()I"⟩
abbrev cX12_copiesRow : ByteArray := prog_14_method_27_code
def yX12_copiesRow : MethodName := ⟨RX12, "copiesRow", "([II[II)V"⟩
abbrev cX12_copiesNames : ByteArray := prog_14_method_28_code
def yX12_copiesNames : MethodName := ⟨RX12, "copiesNames", "([J[J)V"⟩
abbrev cX12_clears : ByteArray := prog_14_method_29_code
def yX12_clears : MethodName := ⟨RX12, "clears", "()V"⟩
abbrev cX12_laysAside : ByteArray := prog_14_method_30_code
def yX12_laysAside : MethodName := ⟨RX12, "laysAside", "()V"⟩
abbrev cX12_keeps : ByteArray := prog_14_method_31_code
def yX12_keeps : MethodName := ⟨RX12, "keeps", "()V"⟩
abbrev cX12_kept : ByteArray := prog_14_method_32_code
def yX12_kept : MethodName := ⟨RX12, "kept", "(I)I"⟩
abbrev cX12_undo : ByteArray := prog_14_method_33_code
def yX12_undo : MethodName := ⟨RX12, "undo", "()I"⟩
abbrev cX12_save : ByteArray := prog_14_method_34_code
def yX12_save : MethodName := ⟨RX12, "save", "()I"⟩
abbrev cX12_restore : ByteArray := prog_14_method_35_code
def yX12_restore : MethodName := ⟨RX12, "restore", "()I"⟩
abbrev cX12_nodeCell : ByteArray := prog_14_method_36_code
def yX12_nodeCell : MethodName := ⟨RX12, "nodeCell", "(II)I"⟩
abbrev cX12_ofNode : ByteArray := prog_14_method_37_code
def yX12_ofNode : MethodName := ⟨RX12, "ofNode", "(II)I"⟩
abbrev cX12_setsNode : ByteArray := prog_14_method_38_code
def yX12_setsNode : MethodName := ⟨RX12, "setsNode", "(III)V"⟩
abbrev cX12_ofLink : ByteArray := prog_14_method_39_code
def yX12_ofLink : MethodName := ⟨RX12, "ofLink", "(II)I"⟩
abbrev cX12_setsLink : ByteArray := prog_14_method_40_code
def yX12_setsLink : MethodName := ⟨RX12, "setsLink", "(III)V"⟩
abbrev cX12_ofMessage : ByteArray := prog_14_method_41_code
def yX12_ofMessage : MethodName := ⟨RX12, "ofMessage", "(II)I"⟩
abbrev cX12_setsMessage : ByteArray := prog_14_method_42_code
def yX12_setsMessage : MethodName := ⟨RX12, "setsMessage", "(III)V"⟩
abbrev cX12_mustBeWord : ByteArray := prog_14_method_43_code
def yX12_mustBeWord : MethodName := ⟨RX12, "mustBeWord", "()V"⟩
abbrev cX12_named : ByteArray := prog_14_method_44_code
def yX12_named : MethodName := ⟨RX12, "named", "()I"⟩
abbrev cX12_told : ByteArray := prog_14_method_45_code
def yX12_told : MethodName := ⟨RX12, "told", "()I"⟩
abbrev cX12_once : ByteArray := prog_14_method_46_code
def yX12_once : MethodName := ⟨RX12, "once", "(I)V"⟩
abbrev cX12_after : ByteArray := prog_14_method_47_code
def yX12_after : MethodName := ⟨RX12, "after", "(JII)I"⟩
abbrev cX12_readsNode : ByteArray := prog_14_method_48_code
def yX12_readsNode : MethodName := ⟨RX12, "readsNode", "()V"⟩
abbrev cX12_linkOf : ByteArray := prog_14_method_49_code
def yX12_linkOf : MethodName := ⟨RX12, "linkOf", "(II)I"⟩
abbrev cX12_readsLink : ByteArray := prog_14_method_50_code
def yX12_readsLink : MethodName := ⟨RX12, "readsLink", "()V"⟩
abbrev cX12_statement : ByteArray := prog_14_method_51_code
def yX12_statement : MethodName := ⟨RX12, "statement", "()V"⟩
abbrev cX12_readText : ByteArray := prog_14_method_52_code
def yX12_readText : MethodName := ⟨RX12, "readText", "()I"⟩
abbrev cX12_lesser : ByteArray := prog_14_method_53_code
def yX12_lesser : MethodName := ⟨RX12, "lesser", "(II)I"⟩
abbrev cX12_greater : ByteArray := prog_14_method_54_code
def yX12_greater : MethodName := ⟨RX12, "greater", "(II)I"⟩
abbrev cX12_isOut : ByteArray := prog_14_method_55_code
def yX12_isOut : MethodName := ⟨RX12, "isOut", "(I)Z"⟩
abbrev cX12_dayIn : ByteArray := prog_14_method_56_code
def yX12_dayIn : MethodName := ⟨RX12, "dayIn", "(II)I"⟩
abbrev cX12_dayOf : ByteArray := prog_14_method_57_code
def yX12_dayOf : MethodName := ⟨RX12, "dayOf", "(I)I"⟩
abbrev cX12_isWatched : ByteArray := prog_14_method_58_code
def yX12_isWatched : MethodName := ⟨RX12, "isWatched", "(II)Z"⟩
abbrev cX12_neighbours : ByteArray := prog_14_method_59_code
def yX12_neighbours : MethodName := ⟨RX12, "neighbours", "(I)I"⟩
abbrev cX12_isIts : ByteArray := prog_14_method_60_code
def yX12_isIts : MethodName := ⟨RX12, "isIts", "(II)Z"⟩
abbrev cX12_daysOf : ByteArray := prog_14_method_61_code
def yX12_daysOf : MethodName := ⟨RX12, "daysOf", "(I)I"⟩
abbrev cX12_isAwakeIn : ByteArray := prog_14_method_62_code
def yX12_isAwakeIn : MethodName := ⟨RX12, "isAwakeIn", "(II)Z"⟩
abbrev cX12_isAwakeNow : ByteArray := prog_14_method_63_code
def yX12_isAwakeNow : MethodName := ⟨RX12, "isAwakeNow", "(I)Z"⟩
abbrev cX12_awakeSet : ByteArray := prog_14_method_64_code
def yX12_awakeSet : MethodName := ⟨RX12, "awakeSet", "(I)I"⟩
abbrev cX12_bits : ByteArray := prog_14_method_65_code
def yX12_bits : MethodName := ⟨RX12, "bits", "(I)I"⟩
abbrev cX12_meeting : ByteArray := prog_14_method_66_code
def yX12_meeting : MethodName := ⟨RX12, "meeting", "(II)I"⟩
abbrev cX12_lowersHops : ByteArray := prog_14_method_67_code
def yX12_lowersHops : MethodName := ⟨RX12, "lowersHops", "()Z"⟩
abbrev cX12_laysHops : ByteArray := prog_14_method_68_code
def yX12_laysHops : MethodName := ⟨RX12, "laysHops", "(I)V"⟩
abbrev cX12_hopsBetween : ByteArray := prog_14_method_69_code
def yX12_hopsBetween : MethodName := ⟨RX12, "hopsBetween", "(II)I"⟩
abbrev cX12_nextOf : ByteArray := prog_14_method_70_code
def yX12_nextOf : MethodName := ⟨RX12, "nextOf", "(II)I"⟩
abbrev cX12_uses : ByteArray := prog_14_method_71_code
def yX12_uses : MethodName := ⟨RX12, "uses", "(II)V"⟩
abbrev cX12_wakes : ByteArray := prog_14_method_72_code
def yX12_wakes : MethodName := ⟨RX12, "wakes", "()V"⟩
abbrev cX12_meets : ByteArray := prog_14_method_73_code
def yX12_meets : MethodName := ⟨RX12, "meets", "(I)V"⟩
abbrev cX12_misses : ByteArray := prog_14_method_74_code
def yX12_misses : MethodName := ⟨RX12, "misses", "(III)V"⟩
abbrev cX12_looksAt : ByteArray := prog_14_method_75_code
def yX12_looksAt : MethodName := ⟨RX12, "looksAt", "(I)V"⟩
abbrev cX12_passes : ByteArray := prog_14_method_76_code
def yX12_passes : MethodName := ⟨RX12, "passes", "(I)Z"⟩
abbrev cX12_passesAll : ByteArray := prog_14_method_77_code
def yX12_passesAll : MethodName := ⟨RX12, "passesAll", "(I)I"⟩
abbrev cX12_loses : ByteArray := prog_14_method_78_code
def yX12_loses : MethodName := ⟨RX12, "loses", "()V"⟩
abbrev cX12_ticksOnce : ByteArray := prog_14_method_79_code
def yX12_ticksOnce : MethodName := ⟨RX12, "ticksOnce", "()I"⟩
abbrev cX12_ticksOn : ByteArray := prog_14_method_80_code
def yX12_ticksOn : MethodName := ⟨RX12, "ticksOn", "(I)I"⟩
abbrev cX12_isNode : ByteArray := prog_14_method_81_code
def yX12_isNode : MethodName := ⟨RX12, "isNode", "(I)Z"⟩
abbrev cX12_isDay : ByteArray := prog_14_method_82_code
def yX12_isDay : MethodName := ⟨RX12, "isDay", "(I)Z"⟩
abbrev cX12_inState : ByteArray := prog_14_method_83_code
def yX12_inState : MethodName := ⟨RX12, "inState", "(I)I"⟩
abbrev cX12_inTime : ByteArray := prog_14_method_84_code
def yX12_inTime : MethodName := ⟨RX12, "inTime", "()I"⟩
abbrev cX12_notOut : ByteArray := prog_14_method_85_code
def yX12_notOut : MethodName := ⟨RX12, "notOut", "()I"⟩
abbrev cX12_setting : ByteArray := prog_14_method_86_code
def yX12_setting : MethodName := ⟨RX12, "setting", "(I)I"⟩
abbrev cX12_isUnderWayAt : ByteArray := prog_14_method_87_code
def yX12_isUnderWayAt : MethodName := ⟨RX12, "isUnderWayAt", "(II)Z"⟩
abbrev cX12_underWayAt : ByteArray := prog_14_method_88_code
def yX12_underWayAt : MethodName := ⟨RX12, "underWayAt", "(I)I"⟩
abbrev cX12_node : ByteArray := prog_14_method_89_code
def yX12_node : MethodName := ⟨RX12, "node", "(II)I"⟩
abbrev cX12_link : ByteArray := prog_14_method_90_code
def yX12_link : MethodName := ⟨RX12, "link", "(II)I"⟩
abbrev cX12_isMessage : ByteArray := prog_14_method_91_code
def yX12_isMessage : MethodName := ⟨RX12, "isMessage", "(I)Z"⟩
abbrev cX12_message : ByteArray := prog_14_method_92_code
def yX12_message : MethodName := ⟨RX12, "message", "(II)I"⟩
abbrev cX12_lettersOf : ByteArray := prog_14_method_93_code
def yX12_lettersOf : MethodName := ⟨RX12, "lettersOf", "(J)I"⟩
abbrev cX12_letterOf : ByteArray := prog_14_method_94_code
def yX12_letterOf : MethodName := ⟨RX12, "letterOf", "(JI)I"⟩
abbrev cX12_letter : ByteArray := prog_14_method_95_code
def yX12_letter : MethodName := ⟨RX12, "letter", "(II)I"⟩
abbrev cX12_inTable : ByteArray := prog_14_method_96_code
def yX12_inTable : MethodName := ⟨RX12, "inTable", "(II)Z"⟩
abbrev cX12_duty : ByteArray := prog_14_method_97_code
def yX12_duty : MethodName := ⟨RX12, "duty", "(I)F"⟩
abbrev cX12_meanEnergy : ByteArray := prog_14_method_98_code
def yX12_meanEnergy : MethodName := ⟨RX12, "meanEnergy", "()D"⟩
abbrev cX12_awakeIn : ByteArray := prog_14_method_99_code
def yX12_awakeIn : MethodName := ⟨RX12, "awakeIn", "(I)I"⟩
abbrev cX12_meetsIn : ByteArray := prog_14_method_100_code
def yX12_meetsIn : MethodName := ⟨RX12, "meetsIn", "(II)I"⟩
abbrev cX12_lateness : ByteArray := prog_14_method_101_code
def yX12_lateness : MethodName := ⟨RX12, "lateness", "(II)I"⟩
abbrev cX12_worstLink : ByteArray := prog_14_method_102_code
def yX12_worstLink : MethodName := ⟨RX12, "worstLink", "()I"⟩
abbrev cX12_busiest : ByteArray := prog_14_method_103_code
def yX12_busiest : MethodName := ⟨RX12, "busiest", "()I"⟩
abbrev cX12_hops : ByteArray := prog_14_method_104_code
def yX12_hops : MethodName := ⟨RX12, "hops", "(II)I"⟩
abbrev cX12_nextNode : ByteArray := prog_14_method_105_code
def yX12_nextNode : MethodName := ⟨RX12, "nextNode", "(II)I"⟩
abbrev cX12_widest : ByteArray := prog_14_method_106_code
def yX12_widest : MethodName := ⟨RX12, "widest", "()I"⟩
abbrev cX12_leaves : ByteArray := prog_14_method_107_code
def yX12_leaves : MethodName := ⟨RX12, "leaves", "()V"⟩
abbrev cX12_comesBack : ByteArray := prog_14_method_108_code
def yX12_comesBack : MethodName := ⟨RX12, "comesBack", "(I)I"⟩
abbrev cX12_there : ByteArray := prog_14_method_109_code
def yX12_there : MethodName := ⟨RX12, "there", "(I)I"⟩
abbrev cX12_arrives : ByteArray := prog_14_method_110_code
def yX12_arrives : MethodName := ⟨RX12, "arrives", "(I)I"⟩
abbrev cX12_lays : ByteArray := prog_14_method_111_code
def yX12_lays : MethodName := ⟨RX12, "lays", "(IIIZ)I"⟩
abbrev cX12_areIn : ByteArray := prog_14_method_112_code
def yX12_areIn : MethodName := ⟨RX12, "areIn", "(II)Z"⟩
abbrev cX12_byMessage : ByteArray := prog_14_method_113_code
def yX12_byMessage : MethodName := ⟨RX12, "byMessage", "(IIZ)I"⟩
abbrev cX12_wouldArrive : ByteArray := prog_14_method_114_code
def yX12_wouldArrive : MethodName := ⟨RX12, "wouldArrive", "(IIZ)I"⟩
abbrev cX12_outIn : ByteArray := prog_14_method_115_code
def yX12_outIn : MethodName := ⟨RX12, "outIn", "(I)I"⟩
abbrev cX12_energyIn : ByteArray := prog_14_method_116_code
def yX12_energyIn : MethodName := ⟨RX12, "energyIn", "(II)I"⟩
abbrev cX12_takesIn : ByteArray := prog_14_method_117_code
def yX12_takesIn : MethodName := ⟨RX12, "takesIn", "()I"⟩
abbrev cX12_latestMeeting : ByteArray := prog_14_method_118_code
def yX12_latestMeeting : MethodName := ⟨RX12, "latestMeeting", "(I)I"⟩
abbrev cX12_byShift : ByteArray := prog_14_method_119_code
def yX12_byShift : MethodName := ⟨RX12, "byShift", "(II)I"⟩
abbrev cX12_bestShift : ByteArray := prog_14_method_120_code
def yX12_bestShift : MethodName := ⟨RX12, "bestShift", "(I)I"⟩
abbrev cX12_watches : ByteArray := prog_14_method_121_code
def yX12_watches : MethodName := ⟨RX12, "watches", "(IIZ)V"⟩
abbrev cX12_byWatch : ByteArray := prog_14_method_122_code
def yX12_byWatch : MethodName := ⟨RX12, "byWatch", "(III)I"⟩
abbrev cX12_bestWatch : ByteArray := prog_14_method_123_code
def yX12_bestWatch : MethodName := ⟨RX12, "bestWatch", "(II)I"⟩
abbrev cX12_goesAll : ByteArray := prog_14_method_124_code
def yX12_goesAll : MethodName := ⟨RX12, "goesAll", "(ZZZ)Z"⟩
abbrev cX12_areTicks : ByteArray := prog_14_method_125_code
def yX12_areTicks : MethodName := ⟨RX12, "areTicks", "(I)Z"⟩
abbrev cX12_isMany : ByteArray := prog_14_method_126_code
def yX12_isMany : MethodName := ⟨RX12, "isMany", "(I)Z"⟩
abbrev cX12_tick : ByteArray := prog_14_method_127_code
def yX12_tick : MethodName := ⟨RX12, "tick", "(I)I"⟩
abbrev cX12_maySend : ByteArray := prog_14_method_128_code
def yX12_maySend : MethodName := ⟨RX12, "maySend", "(II)Z"⟩
abbrev cX12_send : ByteArray := prog_14_method_129_code
def yX12_send : MethodName := ⟨RX12, "send", "(IIIZ)I"⟩
abbrev cX12_swapsCell : ByteArray := prog_14_method_130_code
def yX12_swapsCell : MethodName := ⟨RX12, "swapsCell", "(II)I"⟩
abbrev cX12_setShift : ByteArray := prog_14_method_131_code
def yX12_setShift : MethodName := ⟨RX12, "setShift", "(II)I"⟩
abbrev cX12_watch : ByteArray := prog_14_method_132_code
def yX12_watch : MethodName := ⟨RX12, "watch", "(IIZ)Z"⟩
abbrev cX12_setBorn : ByteArray := prog_14_method_133_code
def yX12_setBorn : MethodName := ⟨RX12, "setBorn", "(II)I"⟩
abbrev cX12_charges : ByteArray := prog_14_method_134_code
def yX12_charges : MethodName := ⟨RX12, "charges", "(II)I"⟩
abbrev cX12_charge : ByteArray := prog_14_method_135_code
def yX12_charge : MethodName := ⟨RX12, "charge", "(II)I"⟩
abbrev cX12_setMiss : ByteArray := prog_14_method_136_code
def yX12_setMiss : MethodName := ⟨RX12, "setMiss", "(I)I"⟩
abbrev cX12_commandHere : ByteArray := prog_14_method_137_code
def yX12_commandHere : MethodName := ⟨RX12, "commandHere", "()I"⟩
abbrev cX12_any : ByteArray := prog_14_method_138_code
def yX12_any : MethodName := ⟨RX12, "any", "()I"⟩
abbrev cX12_readsNumbers : ByteArray := prog_14_method_139_code
def yX12_readsNumbers : MethodName := ⟨RX12, "readsNumbers", "(II)V"⟩
abbrev cX12_command : ByteArray := prog_14_method_140_code
def yX12_command : MethodName := ⟨RX12, "command", "()V"⟩
abbrev cX12_closes : ByteArray := prog_14_method_141_code
def yX12_closes : MethodName := ⟨RX12, "closes", "()V"⟩
abbrev cX12_may : ByteArray := prog_14_method_142_code
def yX12_may : MethodName := ⟨RX12, "may", "(I)Z"⟩
abbrev cX12_does : ByteArray := prog_14_method_143_code
def yX12_does : MethodName := ⟨RX12, "does", "(I)I"⟩
abbrev cX12_runScript : ByteArray := prog_14_method_144_code
def yX12_runScript : MethodName := ⟨RX12, "runScript", "()I"⟩
abbrev cX12_runs : ByteArray := prog_14_method_145_code
def yX12_runs : MethodName := ⟨RX12, "runs", "()I"⟩
abbrev cX12_tell : ByteArray := prog_14_method_146_code
def yX12_tell : MethodName := ⟨RX12, "tell", "(I)V"⟩
abbrev cX12_tellNumber : ByteArray := prog_14_method_147_code
def yX12_tellNumber : MethodName := ⟨RX12, "tellNumber", "(I)V"⟩
abbrev cX12_tellNode : ByteArray := prog_14_method_148_code
def yX12_tellNode : MethodName := ⟨RX12, "tellNode", "(I)V"⟩
abbrev cX12_report : ByteArray := prog_14_method_149_code
def yX12_report : MethodName := ⟨RX12, "report", "()I"⟩
abbrev cX12_reportByte : ByteArray := prog_14_method_150_code
def yX12_reportByte : MethodName := ⟨RX12, "reportByte", "(I)I"⟩
def RJ6 : String := "java/lang/Integer"
def TJ6 : u_T := fun k => match k with
  | _ => ("", "", "", false)
def tyJ6 : Nat → FieldType := fun k => match k with
  | _ => .int
abbrev cJ6_bitCount_0f7a4 : ByteArray := prog_19_method_49_code
def yJ6_bitCount_0f7a4 : MethodName := ⟨RJ6, "bitCount", "(I)I"⟩
def RJ13 : String := "java/lang/Long"
def TJ13 : u_T := fun k => match k with
  | _ => ("", "", "", false)
def tyJ13 : Nat → FieldType := fun k => match k with
  | _ => .int
abbrev cJ13_bitCount_95d88 : ByteArray := prog_20_method_50_code
def yJ13_bitCount_95d88 : MethodName := ⟨RJ13, "bitCount", "(J)I"⟩
def RJ9 : String := "java/lang/Math"
def TJ9 : u_T := fun k => match k with
  | _ => ("", "", "", false)
def tyJ9 : Nat → FieldType := fun k => match k with
  | _ => .int
abbrev cJ9_max_7cf53 : ByteArray := prog_21_method_65_code
def yJ9_max_7cf53 : MethodName := ⟨RJ9, "max", "(II)I"⟩
abbrev cJ9_min_7cf53 : ByteArray := prog_21_method_69_code
def yJ9_min_7cf53 : MethodName := ⟨RJ9, "min", "(II)I"⟩
def RJ0 : String := "java/lang/String"
def TJ0 : u_T := fun k => match k with
  | _ => ("", "", "", false)
def tyJ0 : Nat → FieldType := fun k => match k with
  | _ => .int
abbrev cJ0_length_8abf5 : ByteArray := prog_23_method_54_code
def yJ0_length_8abf5 : MethodName := ⟨RJ0, "length", "()I"⟩
abbrev cJ0_charAt_5068e : ByteArray := prog_23_method_56_code
def yJ0_charAt_5068e : MethodName := ⟨RJ0, "charAt", "(I)C"⟩
abbrev cJ0_coder_7d493 : ByteArray := prog_23_method_152_code
def yJ0_coder_7d493 : MethodName := ⟨RJ0, "coder", "()B"⟩
abbrev cJ0_isLatin1_aae02 : ByteArray := prog_23_method_154_code
def yJ0_isLatin1_aae02 : MethodName := ⟨RJ0, "isLatin1", "()Z"⟩
abbrev cJ0_checkIndex_df160 : ByteArray := prog_23_method_155_code
def yJ0_checkIndex_df160 : MethodName := ⟨RJ0, "checkIndex", "(II)V"⟩
def RJ1 : String := "java/lang/StringLatin1"
def TJ1 : u_T := fun k => match k with
  | _ => ("", "", "", false)
def tyJ1 : Nat → FieldType := fun k => match k with
  | _ => .int
abbrev cJ1_charAt_3b067 : ByteArray := prog_24_method_2_code
def yJ1_charAt_3b067 : MethodName := ⟨RJ1, "charAt", "([BI)C"⟩
def RJ2 : String := "java/lang/StringUTF16"
def TJ2 : u_T := fun k => match k with
  | _ => ("", "", "", false)
def tyJ2 : Nat → FieldType := fun k => match k with
  | _ => .int
abbrev cJ2_getChar_3b067 : ByteArray := prog_25_method_5_code
def yJ2_getChar_3b067 : MethodName := ⟨RJ2, "getChar", "([BI)C"⟩
abbrev cJ2_length_9d52b : ByteArray := prog_25_method_6_code
def yJ2_length_9d52b : MethodName := ⟨RJ2, "length", "([B)I"⟩
abbrev cJ2_charAt_3b067 : ByteArray := prog_25_method_83_code
def yJ2_charAt_3b067 : MethodName := ⟨RJ2, "charAt", "([BI)C"⟩
abbrev cJ2_checkIndex_2214a : ByteArray := prog_25_method_91_code
def yJ2_checkIndex_2214a : MethodName := ⟨RJ2, "checkIndex", "(I[B)V"⟩
def RJ3 : String := "jdk/internal/util/Preconditions"
def TJ3 : u_T := fun k => match k with
  | _ => ("", "", "", false)
def tyJ3 : Nat → FieldType := fun k => match k with
  | _ => .int
abbrev cJ3_checkIndex_8e157 : ByteArray := prog_27_method_11_code
def yJ3_checkIndex_8e157 : MethodName := ⟨RJ3, "checkIndex", "(IILjava/util/function/BiFunction;)I"⟩
def RL : String := "WakeVillageLaw"
abbrev cL_feed : ByteArray := method_3_code
def yL_feed : MethodName := ⟨RL, "feed", "(LWakeVillage;IIIII[J)I"⟩
abbrev cL_truncate : ByteArray := method_4_code
def yL_truncate : MethodName := ⟨RL, "truncate", "(LWakeVillage;I[J)I"⟩
abbrev cL_readText : ByteArray := method_5_code
def yL_readText : MethodName := ⟨RL, "readText", "(LWakeVillage;[J)I"⟩
abbrev cL_runScript : ByteArray := method_6_code
def yL_runScript : MethodName := ⟨RL, "runScript", "(LWakeVillage;[J)I"⟩
abbrev cL_setting : ByteArray := method_7_code
def yL_setting : MethodName := ⟨RL, "setting", "(LWakeVillage;I[J)I"⟩
abbrev cL_node : ByteArray := method_8_code
def yL_node : MethodName := ⟨RL, "node", "(LWakeVillage;II[J)I"⟩
abbrev cL_link : ByteArray := method_9_code
def yL_link : MethodName := ⟨RL, "link", "(LWakeVillage;II[J)I"⟩
abbrev cL_message : ByteArray := method_10_code
def yL_message : MethodName := ⟨RL, "message", "(LWakeVillage;II[J)I"⟩
abbrev cL_letter : ByteArray := method_11_code
def yL_letter : MethodName := ⟨RL, "letter", "(LWakeVillage;II[J)I"⟩
abbrev cL_inTable : ByteArray := method_12_code
def yL_inTable : MethodName := ⟨RL, "inTable", "(LWakeVillage;II[J)I"⟩
abbrev cL_duty : ByteArray := method_13_code
def yL_duty : MethodName := ⟨RL, "duty", "(LWakeVillage;I[D)I"⟩
abbrev cL_awakeIn : ByteArray := method_14_code
def yL_awakeIn : MethodName := ⟨RL, "awakeIn", "(LWakeVillage;I[J)I"⟩
abbrev cL_meetsIn : ByteArray := method_15_code
def yL_meetsIn : MethodName := ⟨RL, "meetsIn", "(LWakeVillage;II[J)I"⟩
abbrev cL_hops : ByteArray := method_16_code
def yL_hops : MethodName := ⟨RL, "hops", "(LWakeVillage;II[J)I"⟩
abbrev cL_nextNode : ByteArray := method_17_code
def yL_nextNode : MethodName := ⟨RL, "nextNode", "(LWakeVillage;II[J)I"⟩
abbrev cL_arrives : ByteArray := method_18_code
def yL_arrives : MethodName := ⟨RL, "arrives", "(LWakeVillage;I[J)I"⟩
abbrev cL_wouldArrive : ByteArray := method_19_code
def yL_wouldArrive : MethodName := ⟨RL, "wouldArrive", "(LWakeVillage;IIZ[J)I"⟩
abbrev cL_outIn : ByteArray := method_20_code
def yL_outIn : MethodName := ⟨RL, "outIn", "(LWakeVillage;I[J)I"⟩
abbrev cL_energyIn : ByteArray := method_21_code
def yL_energyIn : MethodName := ⟨RL, "energyIn", "(LWakeVillage;II[J)I"⟩
abbrev cL_bestShift : ByteArray := method_22_code
def yL_bestShift : MethodName := ⟨RL, "bestShift", "(LWakeVillage;I[J)I"⟩
abbrev cL_bestWatch : ByteArray := method_23_code
def yL_bestWatch : MethodName := ⟨RL, "bestWatch", "(LWakeVillage;II[J)I"⟩
abbrev cL_tick : ByteArray := method_24_code
def yL_tick : MethodName := ⟨RL, "tick", "(LWakeVillage;I[J)I"⟩
abbrev cL_send : ByteArray := method_25_code
def yL_send : MethodName := ⟨RL, "send", "(LWakeVillage;IIIZ[J)I"⟩
abbrev cL_setShift : ByteArray := method_26_code
def yL_setShift : MethodName := ⟨RL, "setShift", "(LWakeVillage;II[J)I"⟩
abbrev cL_watch : ByteArray := method_27_code
def yL_watch : MethodName := ⟨RL, "watch", "(LWakeVillage;IIZ[J)I"⟩
abbrev cL_setBorn : ByteArray := method_28_code
def yL_setBorn : MethodName := ⟨RL, "setBorn", "(LWakeVillage;II[J)I"⟩
abbrev cL_charge : ByteArray := method_29_code
def yL_charge : MethodName := ⟨RL, "charge", "(LWakeVillage;II[J)I"⟩
abbrev cL_setMiss : ByteArray := method_30_code
def yL_setMiss : MethodName := ⟨RL, "setMiss", "(LWakeVillage;I[J)I"⟩
abbrev cL_reportByte : ByteArray := method_31_code
def yL_reportByte : MethodName := ⟨RL, "reportByte", "(LWakeVillage;I[J)I"⟩
abbrev cL_restore : ByteArray := method_32_code
def yL_restore : MethodName := ⟨RL, "restore", "(LWakeVillage;[J)I"⟩
abbrev cL_law : ByteArray := code
def yL_law : MethodName := ⟨RL, "law", "([I)Z"⟩
abbrev vwCl : List vw_C := [(RX0, TX0, 7), (RX1, TX1, 1), (RX2, TX2, 3), (RX3, TX3, 5), (RX4, TX4, 8), (RX5, TX5, 10), (RX6, TX6, 2), (RX7, TX7, 5), (RX8, TX8, 10), (RX9, TX9, 3), (RX10, TX10, 16), (RX11, TX11, 10), (RX12, TX12, 41)]
abbrev q_wX0 : List Cond := u_ws RX0 TX0 7
theorem q_nX0 : ∀ a, a < 7 → ∀ b, b < 7 → a ≠ b → (TX0 a).2.1 ≠ (TX0 b).2.1 := by decide +kernel
theorem q_yX0 : ∀ k, k < 7 → parseFieldDescriptor (TX0 k).2.2.1 = some (tyX0 k) := by decide +kernel
abbrev q_wX1 : List Cond := u_ws RX1 TX1 1
theorem q_nX1 : ∀ a, a < 1 → ∀ b, b < 1 → a ≠ b → (TX1 a).2.1 ≠ (TX1 b).2.1 := by decide +kernel
theorem q_yX1 : ∀ k, k < 1 → parseFieldDescriptor (TX1 k).2.2.1 = some (tyX1 k) := by decide +kernel
abbrev q_wX2 : List Cond := u_ws RX2 TX2 3
theorem q_nX2 : ∀ a, a < 3 → ∀ b, b < 3 → a ≠ b → (TX2 a).2.1 ≠ (TX2 b).2.1 := by decide +kernel
theorem q_yX2 : ∀ k, k < 3 → parseFieldDescriptor (TX2 k).2.2.1 = some (tyX2 k) := by decide +kernel
abbrev q_wX3 : List Cond := u_ws RX3 TX3 5
theorem q_nX3 : ∀ a, a < 5 → ∀ b, b < 5 → a ≠ b → (TX3 a).2.1 ≠ (TX3 b).2.1 := by decide +kernel
theorem q_yX3 : ∀ k, k < 5 → parseFieldDescriptor (TX3 k).2.2.1 = some (tyX3 k) := by decide +kernel
abbrev q_wX4 : List Cond := u_ws RX4 TX4 8
theorem q_nX4 : ∀ a, a < 8 → ∀ b, b < 8 → a ≠ b → (TX4 a).2.1 ≠ (TX4 b).2.1 := by decide +kernel
theorem q_yX4 : ∀ k, k < 8 → parseFieldDescriptor (TX4 k).2.2.1 = some (tyX4 k) := by decide +kernel
abbrev q_wX5 : List Cond := u_ws RX5 TX5 10
theorem q_nX5 : ∀ a, a < 10 → ∀ b, b < 10 → a ≠ b → (TX5 a).2.1 ≠ (TX5 b).2.1 := by decide +kernel
theorem q_yX5 : ∀ k, k < 10 → parseFieldDescriptor (TX5 k).2.2.1 = some (tyX5 k) := by decide +kernel
abbrev q_wX6 : List Cond := u_ws RX6 TX6 2
theorem q_nX6 : ∀ a, a < 2 → ∀ b, b < 2 → a ≠ b → (TX6 a).2.1 ≠ (TX6 b).2.1 := by decide +kernel
theorem q_yX6 : ∀ k, k < 2 → parseFieldDescriptor (TX6 k).2.2.1 = some (tyX6 k) := by decide +kernel
abbrev q_wX7 : List Cond := u_ws RX7 TX7 5
theorem q_nX7 : ∀ a, a < 5 → ∀ b, b < 5 → a ≠ b → (TX7 a).2.1 ≠ (TX7 b).2.1 := by decide +kernel
theorem q_yX7 : ∀ k, k < 5 → parseFieldDescriptor (TX7 k).2.2.1 = some (tyX7 k) := by decide +kernel
abbrev q_wX8 : List Cond := u_ws RX8 TX8 10
theorem q_nX8 : ∀ a, a < 10 → ∀ b, b < 10 → a ≠ b → (TX8 a).2.1 ≠ (TX8 b).2.1 := by decide +kernel
theorem q_yX8 : ∀ k, k < 10 → parseFieldDescriptor (TX8 k).2.2.1 = some (tyX8 k) := by decide +kernel
abbrev q_wX9 : List Cond := u_ws RX9 TX9 3
theorem q_nX9 : ∀ a, a < 3 → ∀ b, b < 3 → a ≠ b → (TX9 a).2.1 ≠ (TX9 b).2.1 := by decide +kernel
theorem q_yX9 : ∀ k, k < 3 → parseFieldDescriptor (TX9 k).2.2.1 = some (tyX9 k) := by decide +kernel
abbrev q_wX10 : List Cond := u_ws RX10 TX10 16
theorem q_nX10 : ∀ a, a < 16 → ∀ b, b < 16 → a ≠ b → (TX10 a).2.1 ≠ (TX10 b).2.1 := by decide +kernel
theorem q_yX10 : ∀ k, k < 16 → parseFieldDescriptor (TX10 k).2.2.1 = some (tyX10 k) := by decide +kernel
abbrev q_wX11 : List Cond := u_ws RX11 TX11 10
theorem q_nX11 : ∀ a, a < 10 → ∀ b, b < 10 → a ≠ b → (TX11 a).2.1 ≠ (TX11 b).2.1 := by decide +kernel
theorem q_yX11 : ∀ k, k < 10 → parseFieldDescriptor (TX11 k).2.2.1 = some (tyX11 k) := by decide +kernel
abbrev q_wX12 : List Cond := u_ws RX12 TX12 41
theorem q_nX12 : ∀ a, a < 41 → ∀ b, b < 41 → a ≠ b → (TX12 a).2.1 ≠ (TX12 b).2.1 := by decide +kernel
theorem q_yX12 : ∀ k, k < 41 → parseFieldDescriptor (TX12 k).2.2.1 = some (tyX12 k) := by decide +kernel
end
section
/-! base: ints by Int; one world of all cells; a contract's form; rows in these words -/
def q_i (z : Int) : Int32 := Int32.ofInt z
abbrev q_R (z : Int) : Prop := -2147483648 ≤ z ∧ z ≤ 2147483647
theorem q_toInt {z : Int} (h : q_R z) : (q_i z).toInt = z := Int32.toInt_ofInt_of_le (by omega) (by omega)
theorem q_of (x : Int32) : q_i x.toInt = x := Int32.ofInt_toInt x
theorem q_rng (x : Int32) : q_R x.toInt := ⟨by have := x.le_toInt; omega, by have := x.toInt_lt; omega⟩
theorem q_add (a b : Int) : q_i a + q_i b = q_i (a + b) := (Int32.ofInt_add a b).symm
theorem q_sub (a b : Int) : q_i a - q_i b = q_i (a - b) := (Int32.ofInt_sub a b).symm
theorem q_mul (a b : Int) : q_i a * q_i b = q_i (a * b) := (Int32.ofInt_mul a b).symm
theorem q_lt {a b : Int} (ha : q_R a) (hb : q_R b) : q_i a < q_i b ↔ a < b := by rw [Int32.lt_iff_toInt_lt, q_toInt ha, q_toInt hb]
theorem q_le {a b : Int} (ha : q_R a) (hb : q_R b) : q_i a ≤ q_i b ↔ a ≤ b := by rw [Int32.le_iff_toInt_le, q_toInt ha, q_toInt hb]
theorem q_eq {a b : Int} (ha : q_R a) (hb : q_R b) : q_i a = q_i b ↔ a = b := by rw [← Int32.toInt_inj, q_toInt ha, q_toInt hb]
theorem q_0 : (0 : Int32) = q_i 0 := rfl
theorem q_nat {z : Int} (h : q_R z) : (q_i z).toNatClampNeg = z.toNat := Int32.toNatClampNeg_ofInt_of_le (by omega) (by omega)
theorem q_in {z : Int} {n : Nat} (h0 : 0 ≤ z) (h1 : z < n) (hn : n ≤ 2147483647) : vp_in (q_i z) n := by
  have hr : q_R z := ⟨by omega, by omega⟩
  intro h
  rcases h with h | h
  · rw [q_0, q_lt hr ⟨by decide, by decide⟩] at h
    omega
  · rw [q_nat hr] at h
    omega
/-! the world -/
abbrev q_G : Type := va_G × (Nat → ClassId)
def q_tys (g : q_G) : List (ClassId × FieldType) := [(g.2 0, .byte), (g.2 1, .int), (g.2 2, .long), (g.2 3, .double), (g.2 4, .object "WakeVillage$Command"), (g.2 5, .object "WakeVillage$Link"), (g.2 6, .object "WakeVillage$Message"), (g.2 7, .object "WakeVillage$Node"), (g.2 8, .object "WakeVillage$Village")]
def q_U (g : q_G) (L : List Nat) (f : Nat → va_E) (U : State) : Prop := va_P g.1 vwCl (va_pl L f) U.heap ∧ va_K g.1 vwCl (q_tys g) U
def q_W (g : q_G) (L : List Nat) (A : Nat → Prop) (f : Nat → va_E) (s : State) (H : Heap) (locs : List Loc) : Prop := va_P g.1 vwCl (va_pl L f) H ∧ va_D A (va_pl L f) ∧ va_K g.1 vwCl (q_tys g) s ∧ va_S A s.heap H locs
/-- what a cell holds at a place -/
def q_vE : va_E → Nat → Value
  | .inr o, i => o.2.getD i .null
  | .inl (_, _, .inl h), i => .int (h i)
  | .inl (_, _, .inr (.inl h)), i => .long (h i)
  | .inl (_, _, .inr (.inr (.inl h))), i => .float (h i)
  | .inl (_, _, .inr (.inr (.inr (.inl h)))), i => .double (h i)
  | .inl (_, _, .inr (.inr (.inr (.inr h)))), i => va_rf (h i)
def q_v (f : Nat → va_E) (a i : Nat) : Value := q_vE (f a) i
def q_iv : Value → Int
  | .int x => x.toInt
  | _ => 0
def q_rv : Value → Nat
  | .ref a => a
  | _ => 0
def q_lv : Value → Int64
  | .long x => x
  | _ => 0
def q_z (f : Nat → va_E) (a i : Nat) : Int := q_iv (q_v f a i)
def q_r (f : Nat → va_E) (a i : Nat) : Nat := q_rv (q_v f a i)
def q_j (f : Nat → va_E) (a i : Nat) : Int64 := q_lv (q_v f a i)
/-- kinds of what a place may hold: (0, lo, hi) an int within; (1, ..) a long; (2, k, _) a thing of kind k; (3, ..) a double -/
abbrev q_T : Type := Nat × Int × Int
def q_ok (K : Nat → Nat) (L : List Nat) (t : q_T) (v : Value) : Prop :=
  match t with
  | (0, lo, hi) => ∃ x : Int32, v = .int x ∧ lo ≤ x.toInt ∧ x.toInt ≤ hi
  | (1, _, _) => ∃ x : Int64, v = .long x
  | (2, k, _) => ∃ a : Nat, v = .ref a ∧ a ∈ L ∧ K a = k.toNat
  | _ => ∃ x : UInt64, v = .double x
/-- an array's row, by the number of its type in q_tys -/
def q_Ar (t : Nat) (h : (Nat → Int32) ⊕ (Nat → Int64) ⊕ (Nat → UInt32) ⊕ (Nat → UInt64) ⊕ (Nat → Option Nat)) : Prop :=
  match t with
  | 0 => ∃ x, h = .inl x
  | 1 => ∃ x, h = .inl x
  | 2 => ∃ x, h = .inr (.inl x)
  | 3 => ∃ x, h = .inr (.inr (.inr (.inl x)))
  | _ => ∃ x, h = .inr (.inr (.inr (.inr x)))
/-- what the places of an object of class k hold -/
def q_ft : Nat → List q_T := fun k => match k with
  | 0 => [(0, (-2147483648), 2147483647), (0, (-2147483648), 2147483647), (0, (-2147483648), 2147483647), (0, (-2147483648), 2147483647), (0, (-2147483648), 2147483647), (0, (-2147483648), 2147483647), (0, (-2147483648), 2147483647)]
  | 1 => [(2, 10, 0)]
  | 2 => [(2, 24, 0), (0, (-2147483648), 2147483647), (0, (-2147483648), 2147483647)]
  | 3 => [(0, (-2147483648), 2147483647), (0, (-2147483648), 2147483647), (0, (-2147483648), 2147483647), (0, (-2147483648), 2147483647), (0, (-2147483648), 2147483647)]
  | 4 => [(0, (-2147483648), 2147483647), (0, (-2147483648), 2147483647), (0, (-2147483648), 2147483647), (0, (-2147483648), 2147483647), (0, (-2147483648), 2147483647), (0, (-2147483648), 2147483647), (0, (-2147483648), 2147483647), (0, 0, 1)]
  | 5 => [(1, 0, 0), (1, 0, 0), (0, (-2147483648), 2147483647), (0, (-2147483648), 2147483647), (0, (-2147483648), 2147483647), (0, (-2147483648), 2147483647), (0, (-2147483648), 2147483647), (0, (-2147483648), 2147483647), (0, (-2147483648), 2147483647), (0, (-2147483648), 2147483647)]
  | 6 => [(2, 26, 0), (0, (-2147483648), 2147483647)]
  | 7 => [(2, 25, 0), (0, (-2147483648), 2147483647), (0, (-2147483648), 2147483647), (0, (-2147483648), 2147483647), (0, (-2147483648), 2147483647)]
  | 8 => [(2, 20, 0), (0, (-2147483648), 2147483647), (0, (-2147483648), 2147483647), (0, (-2147483648), 2147483647), (1, 0, 0), (0, (-2147483648), 2147483647), (0, (-2147483648), 2147483647), (0, (-2147483648), 2147483647), (0, (-2147483648), 2147483647), (0, (-2147483648), 2147483647)]
  | 9 => [(0, 0, 1), (0, 0, 1), (0, 0, 1)]
  | 10 => [(2, 21, 0), (2, 22, 0), (2, 23, 0), (0, (-2147483648), 2147483647), (0, (-2147483648), 2147483647), (0, (-2147483648), 2147483647), (0, 4, 60), (0, (-2147483648), 2147483647), (0, (-2147483648), 2147483647), (0, (-2147483648), 2147483647), (0, (-2147483648), 2147483647), (0, (-2147483648), 2147483647), (0, (-2147483648), 2147483647), (0, (-2147483648), 2147483647), (0, (-2147483648), 2147483647), (0, (-2147483648), 2147483647)]
  | 11 => [(2, 8, 0), (2, 9, 0), (2, 7, 0), (2, 1, 0), (2, 2, 0), (2, 6, 0), (2, 10, 0), (2, 10, 0), (2, 10, 0), (0, 0, 1)]
  | 12 => [(0, (-2147483648), 2147483647), (2, 30, 0), (0, 0, 600), (0, (-2147483648), 2147483647), (0, (-2147483648), 2147483647), (0, (-2147483648), 2147483647), (0, (-2147483648), 2147483647), (0, (-2147483648), 2147483647), (0, (-2147483648), 2147483647), (0, (-2147483648), 2147483647), (0, (-2147483648), 2147483647), (0, (-2147483648), 2147483647), (1, 0, 0), (2, 31, 0), (2, 32, 0), (2, 33, 0), (2, 34, 0), (2, 35, 0), (2, 36, 0), (2, 37, 0), (2, 38, 0), (0, 0, 6), (0, 0, 1), (0, (-2147483648), 2147483647), (2, 39, 0), (2, 40, 0), (0, (-2147483648), 2147483647), (0, (-2147483648), 2147483647), (0, (-2147483648), 2147483647), (2, 41, 0), (2, 42, 0), (2, 43, 0), (2, 44, 0), (2, 45, 0), (2, 46, 0), (0, (-2147483648), 2147483647), (0, (-2147483648), 2147483647), (0, (-2147483648), 2147483647), (2, 47, 0), (0, (-2147483648), 2147483647), (0, 0, 1)]
  | _ => []
/-- an array's type by its number in q_tys, its length -/
def q_at : Nat → Nat × Nat := fun k => match k with
  | 20 => (0, 600)
  | 21 => (7, 10)
  | 22 => (5, 16)
  | 23 => (6, 61)
  | 24 => (8, 6)
  | 25 => (4, 30)
  | 26 => (0, 600)
  | 30 => (1, 600)
  | 31 => (1, 658)
  | 32 => (1, 658)
  | 33 => (1, 658)
  | 34 => (1, 658)
  | 35 => (1, 3948)
  | 36 => (2, 10)
  | 37 => (2, 10)
  | 38 => (2, 10)
  | 39 => (1, 10)
  | 40 => (1, 10)
  | 41 => (1, 60)
  | 42 => (1, 60)
  | 43 => (1, 60)
  | 44 => (1, 60)
  | 45 => (1, 2)
  | 46 => (1, 2)
  | 47 => (1, 480)
  | 48 => (2, 1)
  | 49 => (3, 1)
  | _ => (0, 0)
def q_row : List q_T := [(0, 0, 10), (0, 0, 16), (0, 4, 60), (0, 0, 20000), (0, 0, 61), (0, 0, 99), (0, 0, 99), (0, 0, 99), (0, 1, 9), (0, (-2147483648), 2147483647)]
def q_rn : List q_T := [(0, 0, 59), (0, 0, 59), (0, 0, 9999), (0, (-2147483648), 2147483647), (0, (-2147483648), 2147483647), (0, (-2147483648), 2147483647), (0, (-2147483648), 2147483647), (0, (-2147483648), 2147483647)]
def q_rl : List q_T := [(0, 0, 9), (0, 0, 9), (0, (-2147483648), 2147483647), (0, (-2147483648), 2147483647), (0, (-2147483648), 2147483647)]
def q_rm : List q_T := [(0, 0, 9), (0, 0, 9), (0, 0, 9), (0, 0, 2), (0, (-2147483648), 2147483647), (0, 0, 1), (0, (-2147483648), 2147483647), (0, (-2147483648), 2147483647)]
/-- what a place of the reference's row holds -/
def q_er (i : Nat) : q_T := if i < 10 then q_row.getD i (0, 0, 0) else if i < 90 then q_rn.getD ((i - 10) % 8) (0, 0, 0) else if i < 170 then q_rl.getD ((i - 90) % 5) (0, 0, 0) else q_rm.getD ((i - 170) % 8) (0, 0, 0)
def q_et : Nat → Nat → q_T := fun k i => match k with
  | 20 => (0, (-128), 127)
  | 21 => (2, 5, 0)
  | 22 => (2, 3, 0)
  | 23 => (2, 4, 0)
  | 24 => (2, 10, 0)
  | 25 => (2, 0, 0)
  | 26 => (0, (-128), 127)
  | 30 => (0, 0, 255)
  | 31 => q_er i
  | 32 => q_er i
  | 33 => q_er i
  | 34 => q_er i
  | 35 => q_er (i % 658)
  | 36 => (1, 0, 0)
  | 37 => (1, 0, 0)
  | 38 => (1, 0, 0)
  | 39 => (0, 0, 1000)
  | 40 => (0, 0, 59)
  | 41 => (0, 0, 7)
  | 42 => (0, (-2147483648), 2147483647)
  | 43 => (0, (-2147483648), 2147483647)
  | 44 => (0, (-2147483648), 2147483647)
  | 45 => (0, (-2147483648), 2147483647)
  | 46 => (0, (-2147483648), 2147483647)
  | 47 => (0, (-2147483648), 2147483647)
  | 48 => (1, 0, 0)
  | 49 => (3, 0, 0)
  | _ => (0, 0, 0)
/-- a cell of kind k: below 20 an object of class k, above an array -/
def q_Sh (g : q_G) (k : Nat) (e : va_E) (ok : q_T → Value → Prop) : Prop :=
  if k < 20 then ∃ fs : List Value, e = .inr (k, fs) ∧ fs.length = (q_ft k).length ∧ ∀ (i : Nat) (t : q_T), (q_ft k)[i]? = some t → ok t (fs.getD i .null)
  else ∃ h, e = .inl (g.2 (q_at k).1, (q_at k).2, h) ∧ q_Ar (q_at k).1 h ∧ ∀ i : Nat, i < (q_at k).2 → ok (q_et k i) (q_vE e i)
def q_Ty (g : q_G) (K : Nat → Nat) (L : List Nat) (f : Nat → va_E) : Prop := ∀ a ∈ L, q_Sh g (K a) (f a) (q_ok K L)
/-- which places a method may write: (kind, from, to) -/
abbrev q_Ws : Type := List (Nat × Nat × Nat)
def q_inW (w : q_Ws) (k i : Nat) : Bool := w.any (fun q => q.1 == k && decide (q.2.1 ≤ i) && decide (i ≤ q.2.2))
def q_wsub (w w' : q_Ws) : Bool := w.all (fun q => w'.any (fun r => q.1 == r.1 && decide (r.2.1 ≤ q.2.1) && decide (q.2.2 ≤ r.2.2)))
def q_Fr (w : q_Ws) (K : Nat → Nat) (L : List Nat) (f f1 : Nat → va_E) : Prop := ∀ a ∈ L, ∀ i : Nat, q_inW w (K a) i = false → q_v f1 a i = q_v f a i
theorem q_Fr.rf {w : q_Ws} {K : Nat → Nat} {L : List Nat} {f : Nat → va_E} : q_Fr w K L f f := fun _ _ _ _ => rfl
theorem q_Fr.tr {w : q_Ws} {K : Nat → Nat} {L : List Nat} {f f1 f2 : Nat → va_E} (h : q_Fr w K L f f1) (h2 : q_Fr w K L f1 f2) : q_Fr w K L f f2 := fun a ha i hi => (h2 a ha i hi).trans (h a ha i hi)
theorem q_wsub_in {w w' : q_Ws} (h : q_wsub w w' = true) {k i : Nat} (hi : q_inW w' k i = false) : q_inW w k i = false := by
  cases hw : q_inW w k i with
  | false => rfl
  | true =>
    rw [q_inW, List.any_eq_true] at hw
    obtain ⟨q, hq, h1⟩ := hw
    have h2 := List.all_eq_true.mp h q hq
    rw [List.any_eq_true] at h2
    obtain ⟨r, hr, h3⟩ := h2
    simp only [Bool.and_eq_true, beq_iff_eq, decide_eq_true_eq] at h1 h3
    have h4 : q_inW w' k i = true := by
      rw [q_inW, List.any_eq_true]
      refine ⟨r, hr, ?_⟩
      simp only [Bool.and_eq_true, beq_iff_eq, decide_eq_true_eq]
      omega
    rw [hi] at h4
    cases h4
theorem q_Fr.mono {w w' : q_Ws} {K : Nat → Nat} {L : List Nat} {f f1 : Nat → va_E} (h : q_Fr w K L f f1) (hs : q_wsub w w' = true) : q_Fr w' K L f f1 := fun a ha i hi => h a ha i (q_wsub_in hs hi)
theorem q_Fr.z {w : q_Ws} {K : Nat → Nat} {L : List Nat} {f f1 : Nat → va_E} (h : q_Fr w K L f f1) {a i : Nat} (ha : a ∈ L) (hi : q_inW w (K a) i = false) : q_z f1 a i = q_z f a i := congrArg q_iv (h a ha i hi)
theorem q_Fr.r {w : q_Ws} {K : Nat → Nat} {L : List Nat} {f f1 : Nat → va_E} (h : q_Fr w K L f f1) {a i : Nat} (ha : a ∈ L) (hi : q_inW w (K a) i = false) : q_r f1 a i = q_r f a i := congrArg q_rv (h a ha i hi)
/-- a place written -/
def q_setE : va_E → Nat → Value → va_E
  | .inr o, i, v => .inr (o.1, o.2.set i v)
  | .inl (c, n, .inl h), i, .int x => .inl (c, n, .inl (upd h i x))
  | .inl (c, n, .inr (.inl h)), i, .long x => .inl (c, n, .inr (.inl (vp_updL h i x)))
  | .inl (c, n, .inr (.inr (.inr (.inl h)))), i, .double x => .inl (c, n, .inr (.inr (.inr (.inl (vf_upd h i x)))))
  | .inl (c, n, .inr (.inr (.inr (.inr h)))), i, .ref x => .inl (c, n, .inr (.inr (.inr (.inr (va_up h i (some x))))))
  | e, _, _ => e
def q_set (f : Nat → va_E) (a i : Nat) (v : Value) : Nat → va_E := va_up f a (q_setE (f a) i v)
theorem q_set_ne {f : Nat → va_E} {a i b j : Nat} {v : Value} (h : b ≠ a ∨ j ≠ i) : q_v (q_set f a i v) b j = q_v f b j := by
  by_cases hb : b = a
  · subst hb
    have hj : j ≠ i := h.resolve_left (fun q => q rfl)
    simp only [q_v, q_set, va_up_self]
    generalize f b = e
    obtain ⟨c, n, h | h | h | h | h⟩ | ⟨o, fs⟩ := e
    · cases v <;> simp [q_setE, q_vE, upd, hj]
    · cases v <;> simp [q_setE, q_vE, vp_updL, hj]
    · cases v <;> simp [q_setE, q_vE]
    · cases v <;> simp [q_setE, q_vE, vf_upd, hj]
    · cases v <;> simp [q_setE, q_vE, va_up, hj]
    · simp only [q_setE, q_vE, List.getD_eq_getElem?_getD]
      rw [List.getElem?_set_ne (Ne.symm hj)]
  · simp only [q_v, q_set, va_up_ne _ _ hb]
theorem q_setz {f : Nat → va_E} {a i b j : Nat} {v : Value} (h : b ≠ a ∨ j ≠ i) : q_z (q_set f a i v) b j = q_z f b j := congrArg q_iv (q_set_ne h)
theorem q_setr {f : Nat → va_E} {a i b j : Nat} {v : Value} (h : b ≠ a ∨ j ≠ i) : q_r (q_set f a i v) b j = q_r f b j := congrArg q_rv (q_set_ne h)
/-- the value of an object's place once written -/
theorem q_set_eq {f : Nat → va_E} {a i k : Nat} {fs : List Value} {v : Value} (h : f a = .inr (k, fs)) (hi : i < fs.length) : q_v (q_set f a i v) a i = v := by
  simp only [q_v, q_set, va_up_self, h, q_setE, q_vE, List.getD_eq_getElem?_getD]
  rw [List.getElem?_set_self hi]
  rfl
theorem q_ty_obj {g : q_G} {K : Nat → Nat} {L : List Nat} {f : Nat → va_E} (hT : q_Ty g K L f) {a k : Nat} (ha : a ∈ L) (hk : K a = k) (hc : k < 20) : ∃ fs : List Value, f a = .inr (k, fs) ∧ fs.length = (q_ft k).length ∧ ∀ (i : Nat) (t : q_T), (q_ft k)[i]? = some t → q_ok K L t (fs.getD i .null) := by
  have h := hT a ha
  rw [hk] at h
  unfold q_Sh at h
  rw [if_pos hc] at h
  exact h
theorem q_ty_arr {g : q_G} {K : Nat → Nat} {L : List Nat} {f : Nat → va_E} (hT : q_Ty g K L f) {a k : Nat} (ha : a ∈ L) (hk : K a = k) (hc : ¬ k < 20) : ∃ h, f a = .inl (g.2 (q_at k).1, (q_at k).2, h) ∧ q_Ar (q_at k).1 h ∧ ∀ i : Nat, i < (q_at k).2 → q_ok K L (q_et k i) (q_v f a i) := by
  have h := hT a ha
  rw [hk] at h
  unfold q_Sh at h
  rw [if_neg hc] at h
  exact h
theorem q_getD {l : List Value} {i : Nat} (h : i < l.length) : l[i]? = some (l.getD i .null) := by
  rw [List.getD_eq_getElem?_getD]
  rw [List.getElem?_eq_getElem h]
  rfl
theorem q_fi {g : q_G} {K : Nat → Nat} {L : List Nat} {f : Nat → va_E} (hT : q_Ty g K L f) {a k j : Nat} {lo hi : Int} (ha : a ∈ L) (hk : K a = k) (hc : k < 20) (hj : (q_ft k)[j]? = some (0, lo, hi)) : ∃ fs : List Value, f a = .inr (k, fs) ∧ fs.length = (q_ft k).length ∧ fs[j]? = some (.int (q_i (q_z f a j))) ∧ lo ≤ q_z f a j ∧ q_z f a j ≤ hi := by
  obtain ⟨fs, h1, h2, h3⟩ := q_ty_obj hT ha hk hc
  obtain ⟨x, h4, h5, h6⟩ := h3 j _ hj
  have hl : j < fs.length := by rw [h2]; exact (List.getElem?_eq_some_iff.mp hj).1
  have hz : q_z f a j = x.toInt := by simp only [q_z, q_v, h1, q_vE, h4, q_iv]
  refine ⟨fs, h1, h2, ?_, by rw [hz]; exact h5, by rw [hz]; exact h6⟩
  rw [q_getD hl, h4, hz, q_of]
theorem q_fr {g : q_G} {K : Nat → Nat} {L : List Nat} {f : Nat → va_E} (hT : q_Ty g K L f) {a k j : Nat} {k2 hi : Int} (ha : a ∈ L) (hk : K a = k) (hc : k < 20) (hj : (q_ft k)[j]? = some (2, k2, hi)) : ∃ fs : List Value, f a = .inr (k, fs) ∧ fs.length = (q_ft k).length ∧ fs[j]? = some (.ref (q_r f a j)) ∧ q_r f a j ∈ L ∧ K (q_r f a j) = k2.toNat := by
  obtain ⟨fs, h1, h2, h3⟩ := q_ty_obj hT ha hk hc
  obtain ⟨x, h4, h5, h6⟩ := h3 j _ hj
  have hl : j < fs.length := by rw [h2]; exact (List.getElem?_eq_some_iff.mp hj).1
  have hz : q_r f a j = x := by simp only [q_r, q_v, h1, q_vE, h4, q_rv]
  refine ⟨fs, h1, h2, ?_, by rw [hz]; exact h5, by rw [hz]; exact h6⟩
  rw [q_getD hl, h4, hz]
theorem q_fl {g : q_G} {K : Nat → Nat} {L : List Nat} {f : Nat → va_E} (hT : q_Ty g K L f) {a k j : Nat} {lo hi : Int} (ha : a ∈ L) (hk : K a = k) (hc : k < 20) (hj : (q_ft k)[j]? = some (1, lo, hi)) : ∃ fs : List Value, f a = .inr (k, fs) ∧ fs.length = (q_ft k).length ∧ fs[j]? = some (.long (q_j f a j)) := by
  obtain ⟨fs, h1, h2, h3⟩ := q_ty_obj hT ha hk hc
  obtain ⟨x, h4⟩ := h3 j _ hj
  have hl : j < fs.length := by rw [h2]; exact (List.getElem?_eq_some_iff.mp hj).1
  have hz : q_j f a j = x := by simp only [q_j, q_v, h1, q_vE, h4, q_lv]
  refine ⟨fs, h1, h2, ?_⟩
  rw [q_getD hl, h4, hz]
/-- writing what fits keeps the kinds -/
theorem q_ty_set {g : q_G} {K : Nat → Nat} {L : List Nat} {f : Nat → va_E} (hT : q_Ty g K L f) {a k i : Nat} {t : q_T} {v : Value} (hk : K a = k) (hc : k < 20) (hi : (q_ft k)[i]? = some t) (hv : q_ok K L t v) : q_Ty g K L (q_set f a i v) := by
  intro b hb
  by_cases hba : b = a
  · subst hba
    obtain ⟨fs, h1, h2, h3⟩ := q_ty_obj hT hb hk hc
    rw [hk]
    unfold q_Sh
    rw [if_pos hc]
    refine ⟨fs.set i v, by simp only [q_set, va_up_self, h1, q_setE], by rw [List.length_set]; exact h2, fun j u hj => ?_⟩
    by_cases hji : j = i
    · subst hji
      have hl : j < fs.length := by rw [h2]; exact (List.getElem?_eq_some_iff.mp hj).1
      rw [List.getD_eq_getElem?_getD, List.getElem?_set_self hl]
      cases hi.symm.trans hj
      exact hv
    · rw [List.getD_eq_getElem?_getD, List.getElem?_set_ne (Ne.symm hji), ← List.getD_eq_getElem?_getD]
      exact h3 j u hj
  · have h := hT b hb
    simp only [q_set, va_up_ne _ _ hba]
    exact h
theorem q_ty_seta {g : q_G} {K : Nat → Nat} {L : List Nat} {f : Nat → va_E} (hT : q_Ty g K L f) {a k i : Nat} {x : Int32} (hk : K a = k) (hc : ¬ k < 20) (hz : (q_at k).1 = 0 ∨ (q_at k).1 = 1) (hi : q_ok K L (q_et k i) (.int x)) : q_Ty g K L (q_set f a i (.int x)) := by
  intro b hb
  by_cases hba : b = a
  · subst hba
    obtain ⟨h, h1, h2, h3⟩ := q_ty_arr hT hb hk hc
    rw [hk]
    unfold q_Sh
    rw [if_neg hc]
    have h4 : ∃ y, h = .inl y := by rcases hz with q | q <;> rw [q] at h2 <;> exact h2
    obtain ⟨y, rfl⟩ := h4
    refine ⟨.inl (upd y i x), by simp only [q_set, va_up_self, h1, q_setE], by rcases hz with q | q <;> rw [q] <;> exact ⟨_, rfl⟩, fun j hj => ?_⟩
    by_cases hji : j = i
    · subst hji
      have e : q_vE (q_set f b j (.int x) b) j = .int x := by simp only [q_set, va_up_self, h1, q_setE, q_vE, upd, if_true]
      rw [e]
      exact hi
    · have e := q_set_ne (f := f) (a := b) (i := i) (b := b) (j := j) (v := .int x) (Or.inr hji)
      have e2 : q_vE (q_set f b i (.int x) b) j = q_v f b j := e
      rw [e2]
      exact h3 j hj
  · have h := hT b hb
    simp only [q_set, va_up_ne _ _ hba]
    exact h
/-- all that a body knows of the cells -/
def q_B (g : q_G) (K : Nat → Nat) (L : List Nat) (A : Nat → Prop) (w : q_Ws) (f0 f : Nat → va_E) (s : State) (H : Heap) (locs : List Loc) : Prop := q_W g L A f s H locs ∧ q_Ty g K L f ∧ q_Fr w K L f0 f
def q_al : List Cond := lw_tbl.filter goodWord
theorem q_ali (i : Nat) {w : Cond} (h : lw_tbl[i]? = some w) (hg : goodWord w = true) : w ∈ q_al := List.mem_filter.mpr ⟨List.mem_of_getElem? h, hg⟩
theorem q_good {c0 : Cond} {ws : List Cond} (h : ∀ w ∈ ws, w ∈ q_al) : GoodIn (c0 :: q_al) ws := fun w hw => ⟨List.mem_cons_of_mem _ (h w hw), good_of_word (List.mem_filter.mp (h w hw)).2⟩
theorem q_goodA {ws : List Cond} (h : ∀ w ∈ ws, w ∈ q_al) : GoodIn q_al ws := fun w hw => ⟨h w hw, good_of_word (List.mem_filter.mp (h w hw)).2⟩
theorem q_cons {a : Cond} {l : List Cond} (h : a ∈ q_al) (t : ∀ w ∈ l, w ∈ q_al) : ∀ w ∈ a :: l, w ∈ q_al := fun w hw => (List.mem_cons.mp hw).elim (fun e => e ▸ h) (t w)
theorem q_nil : ∀ w ∈ ([] : List Cond), w ∈ q_al := fun _ h => nomatch h
theorem q_self : ∀ w ∈ q_al, w ∈ q_al := fun _ h => h
section QP
variable {p : Program} {l : Launch} {e : Env} {R : Room} {s : State} {m : MethodId} {args : Array Value} {below : List Frame} {meth : Method} {c : Code} {H : Heap} {locs : List Loc} {cells slots : Nat} {Q : State → Prop}
variable {cc : ByteArray} {pc nL : Nat} {ls : Array Slot} {rest : List Value} {own : String}
/-! pure rows -/
theorem q_iadd (cx : CallFix p m c cc nL s args q_al own) {x y : Int} (hdg : decode cc pc = .ok (.iadd, 1)) (k : W p l e R s m args below meth c H locs cells slots Q (F0 m (pc + 1) ls (.int (q_i (x + y)) :: rest))) : W p l e R s m args below meth c H locs cells slots Q (F0 m pc ls (.int (q_i y) :: .int (q_i x) :: rest)) := lv_iadd cx.1 cx.2.1 hdg (by rw [q_add]; exact k)
theorem q_isub (cx : CallFix p m c cc nL s args q_al own) {x y : Int} (hdg : decode cc pc = .ok (.isub, 1)) (k : W p l e R s m args below meth c H locs cells slots Q (F0 m (pc + 1) ls (.int (q_i (x - y)) :: rest))) : W p l e R s m args below meth c H locs cells slots Q (F0 m pc ls (.int (q_i y) :: .int (q_i x) :: rest)) := lv_isub cx.1 cx.2.1 hdg (by rw [q_sub]; exact k)
theorem q_imul (cx : CallFix p m c cc nL s args q_al own) {x y : Int} (hdg : decode cc pc = .ok (.imul, 1)) (k : W p l e R s m args below meth c H locs cells slots Q (F0 m (pc + 1) ls (.int (q_i (x * y)) :: rest))) : W p l e R s m args below meth c H locs cells slots Q (F0 m pc ls (.int (q_i y) :: .int (q_i x) :: rest)) := lv_imul cx.1 cx.2.1 hdg (by rw [q_mul]; exact k)
/-- a number that nothing is known of gets a name -/
theorem q_any {x : Int32} (k : ∀ z : Int, q_R z → x = q_i z → W p l e R s m args below meth c H locs cells slots Q (F0 m pc ls (.int (q_i z) :: rest))) : W p l e R s m args below meth c H locs cells slots Q (F0 m pc ls (.int x :: rest)) := by
  have h := k x.toInt (q_rng x) (q_of x).symm
  rw [q_of] at h
  exact h
theorem q_iconst (cx : CallFix p m c cc nL s args q_al own) {n : Int} (hdg : decode cc pc = .ok (.iconst n, 1)) (k : W p l e R s m args below meth c H locs cells slots Q (F0 m (pc + 1) ls (.int (q_i n) :: rest))) : W p l e R s m args below meth c H locs cells slots Q (F0 m pc ls rest) := lv_iconst cx.1 cx.2.1 hdg rfl k
theorem q_bipush (cx : CallFix p m c cc nL s args q_al own) {n : Int} (hdg : decode cc pc = .ok (.bipush n, 2)) (hn : (Int8.ofInt n).toInt32 = q_i n) (k : W p l e R s m args below meth c H locs cells slots Q (F0 m (pc + 2) ls (.int (q_i n) :: rest))) : W p l e R s m args below meth c H locs cells slots Q (F0 m pc ls rest) := lv_bipush cx.1 cx.2.1 hdg hn k
theorem q_sipush (cx : CallFix p m c cc nL s args q_al own) {n : Int} (hdg : decode cc pc = .ok (.sipush n, 3)) (hn : (Int16.ofInt n).toInt32 = q_i n) (k : W p l e R s m args below meth c H locs cells slots Q (F0 m (pc + 3) ls (.int (q_i n) :: rest))) : W p l e R s m args below meth c H locs cells slots Q (F0 m pc ls rest) := lv_sipush cx.1 cx.2.1 hdg hn k
theorem q_ild_n (cx : CallFix p m c cc nL s args q_al own) {k : Fin 4} {i : Nat} {x : Int32} (hdg : decode cc pc = .ok (.iload_n k, 1)) (hi : (k : Nat) = i) (hl : ls[i]? = some (.val (.int x))) (kk : W p l e R s m args below meth c H locs cells slots Q (F0 m (pc + 1) ls (.int x :: rest))) : W p l e R s m args below meth c H locs cells slots Q (F0 m pc ls rest) := lv_iload_n cx.1 cx.2.1 hdg hi hl kk
theorem q_ald_n (cx : CallFix p m c cc nL s args q_al own) {k : Fin 4} {i : Nat} {x : Addr} (hdg : decode cc pc = .ok (.aload_n k, 1)) (hi : (k : Nat) = i) (hl : ls[i]? = some (.val (.ref x))) (kk : W p l e R s m args below meth c H locs cells slots Q (F0 m (pc + 1) ls (.ref x :: rest))) : W p l e R s m args below meth c H locs cells slots Q (F0 m pc ls rest) := lv_aload_n cx.1 cx.2.1 hdg hi hl kk
theorem q_lld_n (cx : CallFix p m c cc nL s args q_al own) {k : Fin 4} {i : Nat} {x : Int64} (hdg : decode cc pc = .ok (.lload_n k, 1)) (hi : (k : Nat) = i) (hl : ls[i]? = some (.val (.long x))) (kk : W p l e R s m args below meth c H locs cells slots Q (F0 m (pc + 1) ls (.long x :: rest))) : W p l e R s m args below meth c H locs cells slots Q (F0 m pc ls rest) := lv_lload_n cx.1 cx.2.1 hdg hi hl kk
theorem q_iinc (cx : CallFix p m c cc nL s args q_al own) {i k : Nat} {n x : Int} {lv lv' : List (Nat × Value)} (hdg : decode cc pc = .ok (.iinc i n, 3)) (h : lv_has ls nL lv) (hk : lv[k]? = some (i, .int (q_i x))) (hn : i < nL) (hl : (i, Value.int (q_i (x + n))) :: lv.filter (fun q => !(q.1 == i) && !(q.1 + 1 == i && q.2.category == 2)) = lv')
    (kk : ∀ ls' : Array Slot, lv_has ls' nL lv' → W p l e R s m args below meth c H locs cells slots Q (F0 m (pc + 3) ls' rest)) : W p l e R s m args below meth c H locs cells slots Q (F0 m pc ls rest) := lv_iinc (v := q_i (x + n)) cx.1 cx.2.1 hdg h hk (q_add x n) hn hl kk
theorem q_ifeq (cx : CallFix p m c cc nL s args q_al own) {x : Int} {off : Int} {tgt : Nat} (hx : q_R x) (hdg : decode cc pc = .ok (.ifCond .eq off, 3)) (ht : (pc : Int) + off = (tgt : Int)) (kt : x = 0 → W p l e R s m args below meth c H locs cells slots Q (F0 m tgt ls rest)) (kf : ¬ x = 0 → W p l e R s m args below meth c H locs cells slots Q (F0 m (pc + 3) ls rest)) : W p l e R s m args below meth c H locs cells slots Q (F0 m pc ls (.int (q_i x) :: rest)) :=
  lv_if_eq cx.1 cx.2.1 hdg ht (fun h => kt ((q_eq hx ⟨by decide, by decide⟩).mp h)) (fun h => kf (fun z => h ((q_eq hx ⟨by decide, by decide⟩).mpr z)))
theorem q_ifne (cx : CallFix p m c cc nL s args q_al own) {x : Int} {off : Int} {tgt : Nat} (hx : q_R x) (hdg : decode cc pc = .ok (.ifCond .ne off, 3)) (ht : (pc : Int) + off = (tgt : Int)) (kt : ¬ x = 0 → W p l e R s m args below meth c H locs cells slots Q (F0 m tgt ls rest)) (kf : x = 0 → W p l e R s m args below meth c H locs cells slots Q (F0 m (pc + 3) ls rest)) : W p l e R s m args below meth c H locs cells slots Q (F0 m pc ls (.int (q_i x) :: rest)) :=
  lv_if_ne cx.1 cx.2.1 hdg ht (fun h => kt (fun z => h ((q_eq hx ⟨by decide, by decide⟩).mpr z))) (fun h => kf ((q_eq hx ⟨by decide, by decide⟩).mp h))
theorem q_iflt (cx : CallFix p m c cc nL s args q_al own) {x : Int} {off : Int} {tgt : Nat} (hx : q_R x) (hdg : decode cc pc = .ok (.ifCond .lt off, 3)) (ht : (pc : Int) + off = (tgt : Int)) (kt : x < 0 → W p l e R s m args below meth c H locs cells slots Q (F0 m tgt ls rest)) (kf : 0 ≤ x → W p l e R s m args below meth c H locs cells slots Q (F0 m (pc + 3) ls rest)) : W p l e R s m args below meth c H locs cells slots Q (F0 m pc ls (.int (q_i x) :: rest)) :=
  lv_if_lt cx.1 cx.2.1 hdg ht (fun h => kt ((q_lt hx ⟨by decide, by decide⟩).mp h)) (fun h => kf (Int.not_lt.mp (fun z => h ((q_lt hx ⟨by decide, by decide⟩).mpr z))))
theorem q_ifge (cx : CallFix p m c cc nL s args q_al own) {x : Int} {off : Int} {tgt : Nat} (hx : q_R x) (hdg : decode cc pc = .ok (.ifCond .ge off, 3)) (ht : (pc : Int) + off = (tgt : Int)) (kt : 0 ≤ x → W p l e R s m args below meth c H locs cells slots Q (F0 m tgt ls rest)) (kf : x < 0 → W p l e R s m args below meth c H locs cells slots Q (F0 m (pc + 3) ls rest)) : W p l e R s m args below meth c H locs cells slots Q (F0 m pc ls (.int (q_i x) :: rest)) :=
  lv_if_ge cx.1 cx.2.1 hdg ht (fun h => kt ((q_le ⟨by decide, by decide⟩ hx).mp h)) (fun h => kf (Int.not_le.mp (fun z => h ((q_le ⟨by decide, by decide⟩ hx).mpr z))))
theorem q_ifgt (cx : CallFix p m c cc nL s args q_al own) {x : Int} {off : Int} {tgt : Nat} (hx : q_R x) (hdg : decode cc pc = .ok (.ifCond .gt off, 3)) (ht : (pc : Int) + off = (tgt : Int)) (kt : 0 < x → W p l e R s m args below meth c H locs cells slots Q (F0 m tgt ls rest)) (kf : x ≤ 0 → W p l e R s m args below meth c H locs cells slots Q (F0 m (pc + 3) ls rest)) : W p l e R s m args below meth c H locs cells slots Q (F0 m pc ls (.int (q_i x) :: rest)) :=
  lv_if_gt cx.1 cx.2.1 hdg ht (fun h => kt ((q_lt ⟨by decide, by decide⟩ hx).mp h)) (fun h => kf (Int.not_lt.mp (fun z => h ((q_lt ⟨by decide, by decide⟩ hx).mpr z))))
theorem q_ifle (cx : CallFix p m c cc nL s args q_al own) {x : Int} {off : Int} {tgt : Nat} (hx : q_R x) (hdg : decode cc pc = .ok (.ifCond .le off, 3)) (ht : (pc : Int) + off = (tgt : Int)) (kt : x ≤ 0 → W p l e R s m args below meth c H locs cells slots Q (F0 m tgt ls rest)) (kf : 0 < x → W p l e R s m args below meth c H locs cells slots Q (F0 m (pc + 3) ls rest)) : W p l e R s m args below meth c H locs cells slots Q (F0 m pc ls (.int (q_i x) :: rest)) :=
  lv_if_le cx.1 cx.2.1 hdg ht (fun h => kt ((q_le hx ⟨by decide, by decide⟩).mp h)) (fun h => kf (Int.not_le.mp (fun z => h ((q_le hx ⟨by decide, by decide⟩).mpr z))))
theorem q_iceq (cx : CallFix p m c cc nL s args q_al own) {x y : Int} {off : Int} {tgt : Nat} (hx : q_R x) (hy : q_R y) (hdg : decode cc pc = .ok (.if_icmp .eq off, 3)) (ht : (pc : Int) + off = (tgt : Int)) (kt : x = y → W p l e R s m args below meth c H locs cells slots Q (F0 m tgt ls rest)) (kf : ¬ x = y → W p l e R s m args below meth c H locs cells slots Q (F0 m (pc + 3) ls rest)) : W p l e R s m args below meth c H locs cells slots Q (F0 m pc ls (.int (q_i y) :: .int (q_i x) :: rest)) :=
  lv_icmp_eq cx.1 cx.2.1 hdg ht (fun h => kt ((q_eq hx hy).mp h)) (fun h => kf (fun z => h ((q_eq hx hy).mpr z)))
theorem q_icne (cx : CallFix p m c cc nL s args q_al own) {x y : Int} {off : Int} {tgt : Nat} (hx : q_R x) (hy : q_R y) (hdg : decode cc pc = .ok (.if_icmp .ne off, 3)) (ht : (pc : Int) + off = (tgt : Int)) (kt : ¬ x = y → W p l e R s m args below meth c H locs cells slots Q (F0 m tgt ls rest)) (kf : x = y → W p l e R s m args below meth c H locs cells slots Q (F0 m (pc + 3) ls rest)) : W p l e R s m args below meth c H locs cells slots Q (F0 m pc ls (.int (q_i y) :: .int (q_i x) :: rest)) :=
  lv_icmp_ne cx.1 cx.2.1 hdg ht (fun h => kt (fun z => h ((q_eq hx hy).mpr z))) (fun h => kf ((q_eq hx hy).mp h))
theorem q_iclt (cx : CallFix p m c cc nL s args q_al own) {x y : Int} {off : Int} {tgt : Nat} (hx : q_R x) (hy : q_R y) (hdg : decode cc pc = .ok (.if_icmp .lt off, 3)) (ht : (pc : Int) + off = (tgt : Int)) (kt : x < y → W p l e R s m args below meth c H locs cells slots Q (F0 m tgt ls rest)) (kf : y ≤ x → W p l e R s m args below meth c H locs cells slots Q (F0 m (pc + 3) ls rest)) : W p l e R s m args below meth c H locs cells slots Q (F0 m pc ls (.int (q_i y) :: .int (q_i x) :: rest)) :=
  lv_icmp_lt cx.1 cx.2.1 hdg ht (fun h => kt ((q_lt hx hy).mp h)) (fun h => kf (Int.not_lt.mp (fun z => h ((q_lt hx hy).mpr z))))
theorem q_icge (cx : CallFix p m c cc nL s args q_al own) {x y : Int} {off : Int} {tgt : Nat} (hx : q_R x) (hy : q_R y) (hdg : decode cc pc = .ok (.if_icmp .ge off, 3)) (ht : (pc : Int) + off = (tgt : Int)) (kt : y ≤ x → W p l e R s m args below meth c H locs cells slots Q (F0 m tgt ls rest)) (kf : x < y → W p l e R s m args below meth c H locs cells slots Q (F0 m (pc + 3) ls rest)) : W p l e R s m args below meth c H locs cells slots Q (F0 m pc ls (.int (q_i y) :: .int (q_i x) :: rest)) :=
  lv_icmp_ge cx.1 cx.2.1 hdg ht (fun h => kt ((q_le hy hx).mp h)) (fun h => kf (Int.not_le.mp (fun z => h ((q_le hy hx).mpr z))))
theorem q_icgt (cx : CallFix p m c cc nL s args q_al own) {x y : Int} {off : Int} {tgt : Nat} (hx : q_R x) (hy : q_R y) (hdg : decode cc pc = .ok (.if_icmp .gt off, 3)) (ht : (pc : Int) + off = (tgt : Int)) (kt : y < x → W p l e R s m args below meth c H locs cells slots Q (F0 m tgt ls rest)) (kf : x ≤ y → W p l e R s m args below meth c H locs cells slots Q (F0 m (pc + 3) ls rest)) : W p l e R s m args below meth c H locs cells slots Q (F0 m pc ls (.int (q_i y) :: .int (q_i x) :: rest)) :=
  lv_icmp_gt cx.1 cx.2.1 hdg ht (fun h => kt ((q_lt hy hx).mp h)) (fun h => kf (Int.not_lt.mp (fun z => h ((q_lt hy hx).mpr z))))
theorem q_icle (cx : CallFix p m c cc nL s args q_al own) {x y : Int} {off : Int} {tgt : Nat} (hx : q_R x) (hy : q_R y) (hdg : decode cc pc = .ok (.if_icmp .le off, 3)) (ht : (pc : Int) + off = (tgt : Int)) (kt : x ≤ y → W p l e R s m args below meth c H locs cells slots Q (F0 m tgt ls rest)) (kf : y < x → W p l e R s m args below meth c H locs cells slots Q (F0 m (pc + 3) ls rest)) : W p l e R s m args below meth c H locs cells slots Q (F0 m pc ls (.int (q_i y) :: .int (q_i x) :: rest)) :=
  lv_icmp_le cx.1 cx.2.1 hdg ht (fun h => kt ((q_le hx hy).mp h)) (fun h => kf (Int.not_le.mp (fun z => h ((q_le hx hy).mpr z))))
end QP
end
section
/-! rows over the world -/
theorem q_plget {L : List Nat} {f : Nat → va_E} {a : Nat} (h : a ∈ L) : ∃ k : Nat, (va_pl L f)[k]? = some (a, f a) := va_pl_get (X := []) h
theorem q_plset {A : Nat → Prop} {L : List Nat} {f : Nat → va_E} {a k : Nat} {e : va_E} (hD : va_D A (va_pl L f)) (h : a ∈ L) (hk : (va_pl L f)[k]? = some (a, f a)) : (va_pl L f).set k (a, e) = va_pl L (va_up f a e) := va_pl_set (X := []) hD h hk
theorem q_Fr_set {w : q_Ws} {K : Nat → Nat} {L : List Nat} {f0 f : Nat → va_E} {a i : Nat} {v : Value} (h : q_Fr w K L f0 f) (hi : q_inW w (K a) i = true) : q_Fr w K L f0 (q_set f a i v) := by
  intro b hb j hj
  refine (q_set_ne ?_).trans (h b hb j hj)
  by_cases q : b = a
  · subst q
    right
    intro q2
    subst q2
    rw [hi] at hj
    cases hj
  · exact Or.inl q
section QH
variable {p : Program} {l : Launch} {e : Env} {R : Room} {s : State} {m : MethodId} {args : Array Value} {below : List Frame} {meth : Method} {c : Code} {H : Heap} {locs : List Loc} {cells slots : Nat} {Q : State → Prop}
variable {cc : ByteArray} {pc nL : Nat} {ls : Array Slot} {rest : List Value} {own C ref : String} {T : u_T} {N index a k j : Nat}
variable {g : q_G} {K : Nat → Nat} {L : List Nat} {A : Nat → Prop} {w : q_Ws} {f0 f : Nat → va_E}
theorem q_getv (cx : CallFix p m c cc nL s args q_al own) (hB : q_B g K L A w f0 f s H locs) (ha : a ∈ L) {fs : List Value} (hf : f a = .inr (k, fs)) (hcl : vwCl[k]? = some (C, T, N)) (hin : ∀ w ∈ u_ws C T N, w ∈ q_al) (hjN : j < N) (hlink : Cond.fieldLink own index (T j).1 (T j).2.1 (T j).2.2.1 ∈ q_al) {v : Value} (hv : fs[j]? = some v) (hdg : decode cc pc = .ok (.getfield index, 3))
    (kk : W p l e R s m args below meth c H locs cells slots Q (F0 m (pc + 3) ls (v :: rest))) : W p l e R s m args below meth c H locs cells slots Q (F0 m pc ls (.ref a :: rest)) := by
  obtain ⟨⟨hP, hD, hK, hS⟩, -, -⟩ := hB
  obtain ⟨q0, hq⟩ := q_plget (f := f) ha
  rw [hf] at hq
  exact va_get cx.1 cx.2.1 cx.2.2.2.2 hin cx.2.2.2.1 hK hP q0 hq hcl j hjN (cx.2.2.2.2 _ hlink) (fun _ h => h) hv hdg kk
theorem q_geti {lo hi x : Int} (cx : CallFix p m c cc nL s args q_al own) (hB : q_B g K L A w f0 f s H locs) (ha : a ∈ L) (hk : K a = k) (h20 : k < 20) (hj : (q_ft k)[j]? = some (0, lo, hi)) (hcl : vwCl[k]? = some (C, T, N)) (hin : ∀ w ∈ u_ws C T N, w ∈ q_al) (hjN : j < N) (hlink : Cond.fieldLink own index (T j).1 (T j).2.1 (T j).2.2.1 ∈ q_al) (hv : q_z f a j = x) (hdg : decode cc pc = .ok (.getfield index, 3))
    (kk : lo ≤ x → x ≤ hi → W p l e R s m args below meth c H locs cells slots Q (F0 m (pc + 3) ls (.int (q_i x) :: rest))) : W p l e R s m args below meth c H locs cells slots Q (F0 m pc ls (.ref a :: rest)) := by
  obtain ⟨fs, h1, h2, h3, h4, h5⟩ := q_fi hB.2.1 ha hk h20 hj
  rw [hv] at h3 h4 h5
  exact q_getv cx hB ha h1 hcl hin hjN hlink h3 hdg (kk h4 h5)
theorem q_getr {k2 hi : Int} {b : Nat} (cx : CallFix p m c cc nL s args q_al own) (hB : q_B g K L A w f0 f s H locs) (ha : a ∈ L) (hk : K a = k) (h20 : k < 20) (hj : (q_ft k)[j]? = some (2, k2, hi)) (hcl : vwCl[k]? = some (C, T, N)) (hin : ∀ w ∈ u_ws C T N, w ∈ q_al) (hjN : j < N) (hlink : Cond.fieldLink own index (T j).1 (T j).2.1 (T j).2.2.1 ∈ q_al) (hv : q_r f a j = b) (hdg : decode cc pc = .ok (.getfield index, 3))
    (kk : b ∈ L → K b = k2.toNat → W p l e R s m args below meth c H locs cells slots Q (F0 m (pc + 3) ls (.ref b :: rest))) : W p l e R s m args below meth c H locs cells slots Q (F0 m pc ls (.ref a :: rest)) := by
  obtain ⟨fs, h1, h2, h3, h4, h5⟩ := q_fr hB.2.1 ha hk h20 hj
  rw [hv] at h3 h4 h5
  exact q_getv cx hB ha h1 hcl hin hjN hlink h3 hdg (kk h4 h5)
theorem q_getl {lo hi : Int} {x : Int64} (cx : CallFix p m c cc nL s args q_al own) (hB : q_B g K L A w f0 f s H locs) (ha : a ∈ L) (hk : K a = k) (h20 : k < 20) (hj : (q_ft k)[j]? = some (1, lo, hi)) (hcl : vwCl[k]? = some (C, T, N)) (hin : ∀ w ∈ u_ws C T N, w ∈ q_al) (hjN : j < N) (hlink : Cond.fieldLink own index (T j).1 (T j).2.1 (T j).2.2.1 ∈ q_al) (hv : q_j f a j = x) (hdg : decode cc pc = .ok (.getfield index, 3))
    (kk : W p l e R s m args below meth c H locs cells slots Q (F0 m (pc + 3) ls (.long x :: rest))) : W p l e R s m args below meth c H locs cells slots Q (F0 m pc ls (.ref a :: rest)) := by
  obtain ⟨fs, h1, h2, h3⟩ := q_fl hB.2.1 ha hk h20 hj
  rw [hv] at h3
  exact q_getv cx hB ha h1 hcl hin hjN hlink h3 hdg kk
theorem q_putv (cx : CallFix p m c cc nL s args q_al own) (hB : q_B g K L A w f0 f s H locs) (ha : a ∈ L) (hk : K a = k) (h20 : k < 20) {t : q_T} (hj : (q_ft k)[j]? = some t) (hcl : vwCl[k]? = some (C, T, N)) (hin : ∀ w ∈ u_ws C T N, w ∈ q_al) (ty0 : Nat → FieldType) (hty : ∀ k, k < N → parseFieldDescriptor (T k).2.2.1 = some (ty0 k)) (hnm : ∀ a, a < N → ∀ b, b < N → a ≠ b → (T a).2.1 ≠ (T b).2.1) (hjN : j < N) (hfin : (T j).2.2.2 = false) (hlink : Cond.fieldLink own index (T j).1 (T j).2.1 (T j).2.2.1 ∈ q_al) {v : Value} (hn : narrow (ty0 j) v = v) (hfit : fits (ty0 j) v = true) (hok : q_ok K L t v) (hw : q_inW w k j = true) (hdg : decode cc pc = .ok (.putfield index, 3))
    (kk : ∀ (H1 : Heap) (locs1 : List Loc) (f1 : Nat → va_E), f1 = q_set f a j v → q_v f1 a j = v → q_B g K L A w f0 f1 s H1 locs1 → W p l e R s m args below meth c H1 locs1 cells slots Q (F0 m (pc + 3) ls rest)) : W p l e R s m args below meth c H locs cells slots Q (F0 m pc ls (v :: .ref a :: rest)) := by
  obtain ⟨⟨hP, hD, hK, hS⟩, hT, hF⟩ := hB
  obtain ⟨fs, h1, h2, -⟩ := q_ty_obj hT ha hk h20
  have hl : j < fs.length := by rw [h2]; exact (List.getElem?_eq_some_iff.mp hj).1
  obtain ⟨q0, hq⟩ := q_plget (f := f) ha
  have hq2 := hq
  rw [h1] at hq2
  refine va_put cx.1 cx.2.1 cx.2.2.2.2 hin ty0 hty hnm cx.2.2.2.1 hK hP hD hS q0 hq2 hcl j hjN (cx.2.2.2.2 _ hlink) (fun _ h => h) hfin (hty j hjN) hn hfit hl hdg (fun H1 locs1 hP1 hD1 hS1 => ?_)
  have e : q_set f a j v = va_up f a (.inr (k, fs.set j v)) := by simp only [q_set, h1, q_setE]
  rw [q_plset hD ha hq, ← e] at hP1 hD1
  exact kk H1 locs1 _ rfl (q_set_eq h1 hl) ⟨⟨hP1, hD1, hK, hS1⟩, q_ty_set hT hk h20 hj hok, q_Fr_set hF (by rw [hk]; exact hw)⟩
theorem q_puti {lo hi x : Int} (cx : CallFix p m c cc nL s args q_al own) (hB : q_B g K L A w f0 f s H locs) (ha : a ∈ L) (hk : K a = k) (h20 : k < 20) (hj : (q_ft k)[j]? = some (0, lo, hi)) (hcl : vwCl[k]? = some (C, T, N)) (hin : ∀ w ∈ u_ws C T N, w ∈ q_al) (ty0 : Nat → FieldType) (hty : ∀ k, k < N → parseFieldDescriptor (T k).2.2.1 = some (ty0 k)) (hnm : ∀ a, a < N → ∀ b, b < N → a ≠ b → (T a).2.1 ≠ (T b).2.1) (hjN : j < N) (hfin : (T j).2.2.2 = false) (hlink : Cond.fieldLink own index (T j).1 (T j).2.1 (T j).2.2.1 ∈ q_al) (hn : narrow (ty0 j) (.int (q_i x)) = .int (q_i x)) (hfit : fits (ty0 j) (.int (q_i x)) = true) (hr : q_R x) (h1 : lo ≤ x) (h2 : x ≤ hi) (hw : q_inW w k j = true) (hdg : decode cc pc = .ok (.putfield index, 3))
    (kk : ∀ (H1 : Heap) (locs1 : List Loc) (f1 : Nat → va_E), f1 = q_set f a j (.int (q_i x)) → q_z f1 a j = x → q_B g K L A w f0 f1 s H1 locs1 → W p l e R s m args below meth c H1 locs1 cells slots Q (F0 m (pc + 3) ls rest)) : W p l e R s m args below meth c H locs cells slots Q (F0 m pc ls (.int (q_i x) :: .ref a :: rest)) :=
  q_putv cx hB ha hk h20 hj hcl hin ty0 hty hnm hjN hfin hlink hn hfit ⟨_, rfl, by rw [q_toInt hr]; exact h1, by rw [q_toInt hr]; exact h2⟩ hw hdg (fun H1 locs1 f1 e1 e2 hB1 => kk H1 locs1 f1 e1 (by rw [q_z, e2]; exact q_toInt hr) hB1)
theorem q_putr {k2 hi : Int} {b : Nat} (cx : CallFix p m c cc nL s args q_al own) (hB : q_B g K L A w f0 f s H locs) (ha : a ∈ L) (hk : K a = k) (h20 : k < 20) (hj : (q_ft k)[j]? = some (2, k2, hi)) (hcl : vwCl[k]? = some (C, T, N)) (hin : ∀ w ∈ u_ws C T N, w ∈ q_al) (ty0 : Nat → FieldType) (hty : ∀ k, k < N → parseFieldDescriptor (T k).2.2.1 = some (ty0 k)) (hnm : ∀ a, a < N → ∀ b, b < N → a ≠ b → (T a).2.1 ≠ (T b).2.1) (hjN : j < N) (hfin : (T j).2.2.2 = false) (hlink : Cond.fieldLink own index (T j).1 (T j).2.1 (T j).2.2.1 ∈ q_al) (hn : narrow (ty0 j) (.ref b) = .ref b) (hfit : fits (ty0 j) (.ref b) = true) (h1 : b ∈ L) (h2 : K b = k2.toNat) (hw : q_inW w k j = true) (hdg : decode cc pc = .ok (.putfield index, 3))
    (kk : ∀ (H1 : Heap) (locs1 : List Loc) (f1 : Nat → va_E), f1 = q_set f a j (.ref b) → q_r f1 a j = b → q_B g K L A w f0 f1 s H1 locs1 → W p l e R s m args below meth c H1 locs1 cells slots Q (F0 m (pc + 3) ls rest)) : W p l e R s m args below meth c H locs cells slots Q (F0 m pc ls (.ref b :: .ref a :: rest)) :=
  q_putv cx hB ha hk h20 hj hcl hin ty0 hty hnm hjN hfin hlink hn hfit ⟨_, rfl, h1, h2⟩ hw hdg (fun H1 locs1 f1 e1 e2 hB1 => kk H1 locs1 f1 e1 (by rw [q_r, e2]; rfl) hB1)
theorem q_putl {lo hi : Int} {x : Int64} (cx : CallFix p m c cc nL s args q_al own) (hB : q_B g K L A w f0 f s H locs) (ha : a ∈ L) (hk : K a = k) (h20 : k < 20) (hj : (q_ft k)[j]? = some (1, lo, hi)) (hcl : vwCl[k]? = some (C, T, N)) (hin : ∀ w ∈ u_ws C T N, w ∈ q_al) (ty0 : Nat → FieldType) (hty : ∀ k, k < N → parseFieldDescriptor (T k).2.2.1 = some (ty0 k)) (hnm : ∀ a, a < N → ∀ b, b < N → a ≠ b → (T a).2.1 ≠ (T b).2.1) (hjN : j < N) (hfin : (T j).2.2.2 = false) (hlink : Cond.fieldLink own index (T j).1 (T j).2.1 (T j).2.2.1 ∈ q_al) (hn : narrow (ty0 j) (.long x) = .long x) (hfit : fits (ty0 j) (.long x) = true) (hw : q_inW w k j = true) (hdg : decode cc pc = .ok (.putfield index, 3))
    (kk : ∀ (H1 : Heap) (locs1 : List Loc) (f1 : Nat → va_E), f1 = q_set f a j (.long x) → q_j f1 a j = x → q_B g K L A w f0 f1 s H1 locs1 → W p l e R s m args below meth c H1 locs1 cells slots Q (F0 m (pc + 3) ls rest)) : W p l e R s m args below meth c H locs cells slots Q (F0 m pc ls (.long x :: .ref a :: rest)) :=
  q_putv cx hB ha hk h20 hj hcl hin ty0 hty hnm hjN hfin hlink hn hfit ⟨_, rfl⟩ hw hdg (fun H1 locs1 f1 e1 e2 hB1 => kk H1 locs1 f1 e1 (by rw [q_j, e2]; rfl) hB1)
/-! arrays -/
theorem q_alen {n : Nat} (cx : CallFix p m c cc nL s args q_al own) (hB : q_B g K L A w f0 f s H locs) (ha : a ∈ L) (hk : K a = k) (h20 : ¬ k < 20) (hn : (q_at k).2 = n) (t0 : Nat) (ht0 : (q_at k).1 = t0) {ty : FieldType} (htt : (q_tys g)[t0]? = some (g.2 t0, ty)) (hdg : decode cc pc = .ok (.arraylength, 1))
    (kk : W p l e R s m args below meth c H locs cells slots Q (F0 m (pc + 1) ls (.int (q_i n) :: rest))) : W p l e R s m args below meth c H locs cells slots Q (F0 m pc ls (.ref a :: rest)) := by
  obtain ⟨⟨hP, hD, hK, hS⟩, hT, -⟩ := hB
  obtain ⟨h, h1, -, -⟩ := q_ty_arr hT ha hk h20
  obtain ⟨q0, hq⟩ := q_plget (f := f) ha
  rw [h1, hn, ht0] at hq
  exact va_alen cx.1 cx.2.1 hK hP q0 t0 hq htt (show Int32.ofNat n = q_i n from Int32.ofInt_eq_ofNat.symm) hdg kk
/-- an array of references read -/
theorem q_aald {k2 hi i : Int} {n : Nat} {b : Nat} {Ce : String} (cx : CallFix p m c cc nL s args q_al own) (hB : q_B g K L A w f0 f s H locs) (ha : a ∈ L) (hk : K a = k) (h20 : ¬ k < 20) (hn : (q_at k).2 = n) (t0 : Nat) (ht0 : (q_at k).1 = t0) (h4 : 4 ≤ t0) (htt : (q_tys g)[t0]? = some (g.2 t0, .object Ce)) (hi0 : 0 ≤ i) (hi1 : i < n) (hnn : n ≤ 2147483647) (he : q_et k i.toNat = (2, k2, hi)) (hv : q_r f a i.toNat = b) (hdg : decode cc pc = .ok (.aaload, 1))
    (kk : b ∈ L → K b = k2.toNat → W p l e R s m args below meth c H locs cells slots Q (F0 m (pc + 1) ls (.ref b :: rest))) : W p l e R s m args below meth c H locs cells slots Q (F0 m pc ls (.int (q_i i) :: .ref a :: rest)) := by
  obtain ⟨⟨hP, hD, hK, hS⟩, hT, -⟩ := hB
  obtain ⟨h, h1, h2, h3⟩ := q_ty_arr hT ha hk h20
  have hx : ∃ x, h = .inr (.inr (.inr (.inr x))) := by
    rw [ht0] at h2
    match t0, h4, h2 with
    | t + 4, _, h2 => exact h2
  obtain ⟨x, rfl⟩ := hx
  have hr : q_R i := ⟨by omega, by omega⟩
  have h5 := h3 i.toNat (by rw [hn]; omega)
  rw [he] at h5
  obtain ⟨y, h6, h7, h8⟩ := h5
  have e1 : va_rf (x i.toNat) = .ref y := by
    have : q_v f a i.toNat = va_rf (x i.toNat) := by simp only [q_v, h1, q_vE]
    rw [← this]; exact h6
  have e2 : q_r f a i.toNat = y := by simp only [q_r, h6, q_rv]
  rw [hv] at e2
  subst e2
  obtain ⟨q0, hq⟩ := q_plget (f := f) ha
  rw [h1, hn, ht0] at hq
  refine va_aldq cx.1 cx.2.1 hK hP q0 t0 hq htt (q_in hi0 hi1 hnn) hdg ?_
  rw [q_nat hr, e1]
  exact kk h7 h8
theorem q_iald {lo hi i x : Int} {n : Nat} (cx : CallFix p m c cc nL s args q_al own) (hB : q_B g K L A w f0 f s H locs) (ha : a ∈ L) (hk : K a = k) (h20 : ¬ k < 20) (hn : (q_at k).2 = n) (ht0 : (q_at k).1 = 1) (hi0 : 0 ≤ i) (hi1 : i < n) (hnn : n ≤ 2147483647) (he : q_et k i.toNat = (0, lo, hi)) (hv : q_z f a i.toNat = x) (hdg : decode cc pc = .ok (.iaload, 1))
    (kk : lo ≤ x → x ≤ hi → W p l e R s m args below meth c H locs cells slots Q (F0 m (pc + 1) ls (.int (q_i x) :: rest))) : W p l e R s m args below meth c H locs cells slots Q (F0 m pc ls (.int (q_i i) :: .ref a :: rest)) := by
  obtain ⟨⟨hP, hD, hK, hS⟩, hT, -⟩ := hB
  obtain ⟨h, h1, h2, h3⟩ := q_ty_arr hT ha hk h20
  rw [ht0] at h2
  obtain ⟨y, rfl⟩ := h2
  have hr : q_R i := ⟨by omega, by omega⟩
  have h5 := h3 i.toNat (by rw [hn]; omega)
  rw [he] at h5
  obtain ⟨z, h6, h7, h8⟩ := h5
  have e0 : q_v f a i.toNat = .int (y i.toNat) := by simp only [q_v, h1, q_vE]
  have e1 : y i.toNat = z := by
    rw [e0] at h6
    cases h6
    rfl
  have e2 : q_z f a i.toNat = z.toInt := by simp only [q_z, h6, q_iv]
  rw [hv] at e2
  obtain ⟨q0, hq⟩ := q_plget (f := f) ha
  rw [h1, hn, ht0] at hq
  refine va_iald cx.1 cx.2.1 hK hP q0 1 hq rfl (q_in hi0 hi1 hnn) hdg ?_
  rw [q_nat hr, e1, ← q_of z, ← e2]
  exact kk (by rw [e2]; exact h7) (by rw [e2]; exact h8)
theorem q_bald {lo hi i x : Int} {n : Nat} (cx : CallFix p m c cc nL s args q_al own) (hB : q_B g K L A w f0 f s H locs) (ha : a ∈ L) (hk : K a = k) (h20 : ¬ k < 20) (hn : (q_at k).2 = n) (ht0 : (q_at k).1 = 0) (hi0 : 0 ≤ i) (hi1 : i < n) (hnn : n ≤ 2147483647) (he : q_et k i.toNat = (0, lo, hi)) (hv : q_z f a i.toNat = x) (hdg : decode cc pc = .ok (.baload, 1))
    (kk : lo ≤ x → x ≤ hi → W p l e R s m args below meth c H locs cells slots Q (F0 m (pc + 1) ls (.int (q_i x) :: rest))) : W p l e R s m args below meth c H locs cells slots Q (F0 m pc ls (.int (q_i i) :: .ref a :: rest)) := by
  obtain ⟨⟨hP, hD, hK, hS⟩, hT, -⟩ := hB
  obtain ⟨h, h1, h2, h3⟩ := q_ty_arr hT ha hk h20
  rw [ht0] at h2
  obtain ⟨y, rfl⟩ := h2
  have hr : q_R i := ⟨by omega, by omega⟩
  have h5 := h3 i.toNat (by rw [hn]; omega)
  rw [he] at h5
  obtain ⟨z, h6, h7, h8⟩ := h5
  have e0 : q_v f a i.toNat = .int (y i.toNat) := by simp only [q_v, h1, q_vE]
  have e1 : y i.toNat = z := by
    rw [e0] at h6
    cases h6
    rfl
  have e2 : q_z f a i.toNat = z.toInt := by simp only [q_z, h6, q_iv]
  rw [hv] at e2
  obtain ⟨q0, hq⟩ := q_plget (f := f) ha
  rw [h1, hn, ht0] at hq
  refine va_bald cx.1 cx.2.1 hK hP q0 0 hq rfl (q_in hi0 hi1 hnn) hdg ?_
  rw [q_nat hr, e1, ← q_of z, ← e2]
  exact kk (by rw [e2]; exact h7) (by rw [e2]; exact h8)
theorem q_iast {lo hi i x : Int} {n : Nat} (cx : CallFix p m c cc nL s args q_al own) (hB : q_B g K L A w f0 f s H locs) (ha : a ∈ L) (hk : K a = k) (h20 : ¬ k < 20) (hn : (q_at k).2 = n) (ht0 : (q_at k).1 = 1) (hi0 : 0 ≤ i) (hi1 : i < n) (hnn : n ≤ 2147483647) (he : q_et k i.toNat = (0, lo, hi)) (hr : q_R x) (hx1 : lo ≤ x) (hx2 : x ≤ hi) (hw : q_inW w k i.toNat = true) (hdg : decode cc pc = .ok (.iastore, 1))
    (kk : ∀ (H1 : Heap) (locs1 : List Loc) (f1 : Nat → va_E), f1 = q_set f a i.toNat (.int (q_i x)) → q_z f1 a i.toNat = x → q_B g K L A w f0 f1 s H1 locs1 → W p l e R s m args below meth c H1 locs1 cells slots Q (F0 m (pc + 1) ls rest)) : W p l e R s m args below meth c H locs cells slots Q (F0 m pc ls (.int (q_i x) :: .int (q_i i) :: .ref a :: rest)) := by
  obtain ⟨⟨hP, hD, hK, hS⟩, hT, hF⟩ := hB
  obtain ⟨h, h1, h2, h3⟩ := q_ty_arr hT ha hk h20
  rw [ht0] at h2
  obtain ⟨y, rfl⟩ := h2
  have hri : q_R i := ⟨by omega, by omega⟩
  obtain ⟨q0, hq⟩ := q_plget (f := f) ha
  have hq2 := hq
  rw [h1, hn, ht0] at hq2
  refine va_iast cx.1 cx.2.1 hK hP hD hS q0 1 hq2 rfl (q_in hi0 hi1 hnn) hdg (fun H1 locs1 hP1 hD1 hS1 => ?_)
  rw [q_nat hri] at hP1 hD1
  have e : q_set f a i.toNat (.int (q_i x)) = va_up f a (.inl (g.2 1, n, .inl (upd y i.toNat (q_i x)))) := by simp only [q_set, h1, q_setE, hn, ht0]
  rw [q_plset hD ha hq, ← e] at hP1 hD1
  refine kk H1 locs1 _ rfl ?_ ⟨⟨hP1, hD1, hK, hS1⟩, q_ty_seta hT hk h20 (Or.inr ht0) (by rw [he]; exact ⟨_, rfl, by rw [q_toInt hr]; exact hx1, by rw [q_toInt hr]; exact hx2⟩), q_Fr_set hF (by rw [hk]; exact hw)⟩
  rw [e]
  simp only [q_z, q_v, va_up_self, q_vE, upd, if_true, q_iv]
  exact q_toInt hr
end QH
/-! contracts -/
def q_Q (g : q_G) (K : Nat → Nat) (L : List Nat) (w : q_Ws) (f : Nat → va_E) (Po : Option Value → (Nat → va_E) → Prop) : Array Value → State → Outcome → State → Prop := fun _ st o t => (∃ (r : Option Value) (f1 : Nat → va_E), o = .returned r ∧ Po r f1 ∧ q_Ty g K L f1 ∧ q_Fr w K L f f1 ∧ q_U g L f1 t) ∧ va_F (fun q => q ∈ L) st t
def q_Ct (l : Launch) (g : q_G) (K : Nat → Nat) (L : List Nat) (y : MethodName) (cc : ByteArray) (mL : Nat) (ret : Option FieldType) (fr lo : Nat) (As : List Value) (f : Nat → va_E) (w : q_Ws) (Po : Option Value → (Nat → va_E) → Prop) : Prop :=
  Met l y (.code y cc mL ret :: q_al) { frames := fr, cells := 0, slots := 0, locals := lo } (va_Pc As (q_U g L f)) (q_Q g K L w f Po) 0 0 (fun q => q ∈ L)
def q_Pi (P : Int → (Nat → va_E) → Prop) : Option Value → (Nat → va_E) → Prop := fun r f => ∃ z : Int, r = some (.int (q_i z)) ∧ q_R z ∧ P z f
def q_Pv (P : (Nat → va_E) → Prop) : Option Value → (Nat → va_E) → Prop := fun r f => r = none ∧ P f
def q_Pr (P : Nat → (Nat → va_E) → Prop) : Option Value → (Nat → va_E) → Prop := fun r f => ∃ a : Nat, r = some (.ref a) ∧ P a f
def q_Pl (P : Int64 → (Nat → va_E) → Prop) : Option Value → (Nat → va_E) → Prop := fun r f => ∃ x : Int64, r = some (.long x) ∧ P x f
theorem q_nodup_D {L : List Nat} {f : Nat → va_E} {A : Nat → Prop} (h : L.Nodup) (hA : ∀ a ∈ L, A a) : va_D A (va_pl L f) := by
  have key : ∀ (k : Nat) (q : Nat × va_E), (va_pl L f)[k]? = some q → L[k]? = some q.1 := by
    intro k q hk
    simp only [va_pl, List.getElem?_map] at hk
    cases hb : L[k]? with
    | none => rw [hb] at hk; cases hk
    | some b =>
      rw [hb] at hk
      cases hk
      rfl
  refine ⟨fun i j x y hi hj hxy => ?_, fun k q hk => hA _ (List.mem_of_getElem? (key k q hk))⟩
  have h1 := key i x hi
  have h2 := key j y hj
  rw [hxy] at h1
  have hli := (List.getElem?_eq_some_iff.mp h1).1
  exact (List.getElem?_inj hli h).mp (h1.trans h2.symm)
theorem q_ofb {l : Launch} {g : q_G} {K : Nat → Nat} {L : List Nat} {y : MethodName} {cc : ByteArray} {mL : Nat} {ret : Option FieldType} {fr lo : Nat} {As : List Value} {f : Nat → va_E} {w : q_Ws} {Po : Option Value → (Nat → va_E) → Prop}
    (hy : plainName y.cls = true) (hN : L.Nodup) (hT : q_Ty g K L f) (hlen : (lg_sl As).length ≤ mL)
    (body : ∀ (p : Program) (e : Env) (s : State) (m : MethodId) (below : List Frame) (meth : Method) (c : Code) (ls : Array Slot), CallFix p m c cc mL s As.toArray q_al y.cls → meth.sig.returnType = ret → meth.locks = false → q_B g K L (fun q => q ∈ L) w f f s s.heap [] → lv_has ls mL (lv_args 0 As) →
      W p l e { frames := fr, cells := 0, slots := 0, locals := lo } s m As.toArray below meth c s.heap [] 0 0 (MQ below (q_Q g K L w f Po) As.toArray s 0 0 (fun q => q ∈ L)) (F0 m 0 ls [])) : q_Ct l g K L y cc mL ret fr lo As f w Po := by
  refine Met.ofW (cc := cc) (maxL := mL) (ret := ret) hy rfl ?_
  intro p e s m args below meth c s₁ B hml hv
  obtain ⟨rfl, hP, hK⟩ := hv
  have hts := atoms_spec (ws := Cond.code y cc mL ret :: q_al) B.pre
  have hl := lv_entry As (n := mL) hlen
  rw [lg_entry_eq]
  exact body p e s m below meth c _ ⟨B.exec, B.bytes, hml, findClass_of_methodNamed B.named, fun w hw => hts w (List.mem_cons_of_mem _ hw)⟩ B.returns B.notSynchronized
    ⟨⟨hP, q_nodup_D hN (fun a ha => ha), hK, va_S.rf⟩, hT, q_Fr.rf⟩ hl
section QE
variable {p : Program} {l : Launch} {e : Env} {R : Room} {s : State} {m : MethodId} {args : Array Value} {below : List Frame} {meth : Method} {c : Code} {H : Heap} {locs : List Loc} {cells slots : Nat} {Q : State → Prop}
variable {cc : ByteArray} {pc nL : Nat} {ls : Array Slot} {rest : List Value} {own : String}
variable {g : q_G} {K : Nat → Nat} {L : List Nat} {A : Nat → Prop} {w : q_Ws} {f0 f : Nat → va_E} {Po : Option Value → (Nat → va_E) → Prop}
theorem q_end (hB : q_B g K L (fun q => q ∈ L) w f0 f s H locs) {r : Option Value} (hp : Po r f) : ∀ t : State, t.heap = H → s.WarmedH t.vm → q_Q g K L w f0 Po args s (.returned r) t := by
  obtain ⟨⟨hP, hD, hK, hS⟩, hT, hF⟩ := hB
  exact fun t ht hW => ⟨⟨r, f, rfl, hp, hT, hF, by rw [q_U, ht]; exact ⟨hP, va_K.moved hW.alike hK⟩⟩, hS.F ht⟩
theorem q_iret {x : Int} (cx : CallFix p m c cc nL s args q_al own) (hr : meth.sig.returnType = some .int) (hl : meth.locks = false) (hB : q_B g K L (fun q => q ∈ L) w f0 f s H locs) (hdg : decode cc pc = .ok (.ireturn, 1)) {P : Int → (Nat → va_E) → Prop} (hx : q_R x) (hp : P x f) :
    W p l e R s m args below meth c H locs cells slots (MQ below (q_Q g K L w f0 (q_Pi P)) args s cells slots (fun q => q ∈ L)) (F0 m pc ls [.int (q_i x)]) :=
  W.iret cx.1 cx.2.1 hr (q_end hB ⟨x, rfl, hx, hp⟩) hB.1.2.2.2.2.2 hdg hl
theorem q_narz {x : Int} (h0 : 0 ≤ x) (h1 : x ≤ 1) : narrow .boolean (.int (q_i x)) = .int (q_i x) := by
  rcases (show x = 0 ∨ x = 1 by omega) with h | h <;> subst h <;> rfl
theorem q_zret {x : Int} (cx : CallFix p m c cc nL s args q_al own) (hr : meth.sig.returnType = some .boolean) (hl : meth.locks = false) (hB : q_B g K L (fun q => q ∈ L) w f0 f s H locs) (hdg : decode cc pc = .ok (.ireturn, 1)) {P : Int → (Nat → va_E) → Prop} (h0 : 0 ≤ x) (h1 : x ≤ 1) (hp : P x f) :
    W p l e R s m args below meth c H locs cells slots (MQ below (q_Q g K L w f0 (q_Pi P)) args s cells slots (fun q => q ∈ L)) (F0 m pc ls [.int (q_i x)]) :=
  W.zret cx.1 cx.2.1 hr (q_narz h0 h1) (q_end hB ⟨x, rfl, ⟨by omega, by omega⟩, hp⟩) hB.1.2.2.2.2.2 hdg hl
theorem q_vret (cx : CallFix p m c cc nL s args q_al own) (hr : meth.sig.returnType = none) (hl : meth.locks = false) (hB : q_B g K L (fun q => q ∈ L) w f0 f s H locs) (hdg : decode cc pc = .ok (.return_, 1)) {P : (Nat → va_E) → Prop} (hp : P f) :
    W p l e R s m args below meth c H locs cells slots (MQ below (q_Q g K L w f0 (q_Pv P)) args s cells slots (fun q => q ∈ L)) (F0 m pc ls []) :=
  W.vret cx.1 cx.2.1 hr (q_end hB ⟨rfl, hp⟩) hB.1.2.2.2.2.2 hdg hl
theorem q_aret {b : Nat} {rt : FieldType} (cx : CallFix p m c cc nL s args q_al own) (hr : meth.sig.returnType = some rt) (hrt : (∃ n, rt = .object n) ∨ ∃ t, rt = .array t) (hl : meth.locks = false) (hB : q_B g K L (fun q => q ∈ L) w f0 f s H locs) (hdg : decode cc pc = .ok (.areturn, 1)) {P : Nat → (Nat → va_E) → Prop} (hp : P b f) :
    W p l e R s m args below meth c H locs cells slots (MQ below (q_Q g K L w f0 (q_Pr P)) args s cells slots (fun q => q ∈ L)) (F0 m pc ls [.ref b]) :=
  W.aret cx.1 cx.2.1 hr hrt (Or.inr ⟨b, rfl⟩) (q_end hB ⟨b, rfl, hp⟩) hB.1.2.2.2.2.2 hdg hl
theorem q_lret {x : Int64} (cx : CallFix p m c cc nL s args q_al own) (hr : meth.sig.returnType = some .long) (hl : meth.locks = false) (hB : q_B g K L (fun q => q ∈ L) w f0 f s H locs) (hdg : decode cc pc = .ok (.lreturn, 1)) {P : Int64 → (Nat → va_E) → Prop} (hp : P x f) :
    W p l e R s m args below meth c H locs cells slots (MQ below (q_Q g K L w f0 (q_Pl P)) args s cells slots (fun q => q ∈ L)) (F0 m pc ls [.long x]) :=
  W.lret cx.1 cx.2.1 hr (q_end hB ⟨x, rfl, hp⟩) hB.1.2.2.2.2.2 hdg hl
/-! calls -/
theorem q_back {Qa : State → Outcome → State → Prop} {rest st0 : List Value} (hS : va_S A s.heap H locs) (hLA : ∀ q, q ∈ L → A q)
    (hr : va_Run p l e R s m args below meth c H locs cells slots 0 0 (F0 m pc ls st0) rest Qa (fun q => q ∈ L))
    (kk : ∀ (v : Option Value) (st₀ t : State) (locs1 : List Loc), st₀.heap = H → s.vm.Alike t.vm → Qa st₀ (.returned v) t → (∀ q ∈ locs1, A q.base) → W p l e R s m args below meth c t.heap locs1 cells slots Q (F0 m (pc + 3) ls (v.toList ++ rest))) : W p l e R s m args below meth c H locs cells slots Q (F0 m pc ls st0) := by
  intro T hT X
  obtain ⟨v, st₀, t, T', L', h0, X', hL, e1, e2, hq, st⟩ := hr T hT X
  obtain ⟨t2, a1, b1⟩ := kk v st₀ t (locs ++ L') h0 (by rw [← e2]; exact X'.warmed.alike) hq (fun q hq => by
      rcases List.mem_append.mp hq with h | h
      · exact hS.2.2 q h
      · exact hLA _ (hL q h)) T' e1 X'
  exact ⟨t2, st t2 a1, b1⟩
theorem q_blind {As : List Value} : FrameBlind (va_Pc As (q_U g L f)) := fun a U gf mk h => ⟨h.1, h.2.1, va_K.moved (u := U) (U := U.calling gf mk a) (Vm.Alike.refl U.vm) h.2.2⟩
theorem q_after {w' : q_Ws} {st t : State} {v : Option Value} {locs1 : List Loc} {a : Array Value} (hB : q_B g K L A w f0 f s H locs) (hLA : ∀ q, q ∈ L → A q) (hsub : q_wsub w' w = true) (hN : L.Nodup) (h0 : st.heap = H) (hvm : s.vm.Alike t.vm) (hl : ∀ q ∈ locs1, A q.base) (hq : q_Q g K L w' f Po a st (.returned v) t) :
    ∃ f1, Po v f1 ∧ q_Fr w' K L f f1 ∧ q_B g K L A w f0 f1 s t.heap locs1 := by
  obtain ⟨⟨r, f1, hr, hp, hT1, hF1, hP1, hK1⟩, hz, hk⟩ := hq
  cases hr
  obtain ⟨⟨hP, hD, hK, hS⟩, hT, hF⟩ := hB
  rw [h0] at hz hk
  refine ⟨f1, hp, hF1, ⟨hP1, q_nodup_D hN hLA, hK, Nat.le_trans hS.1 hz, fun q h1 h2 => ?_, hl⟩, hT1, hF.tr (hF1.mono hsub)⟩
  rw [hk q (Nat.lt_of_lt_of_le h1 hS.1) (fun h => h2 (hLA q h))]
  exact hS.2.1 q h1 h2
theorem q_callV {y : MethodName} {bytes : ByteArray} {maxL fr lo n index : Nat} {ret : Option FieldType} {C : String} {b k : Nat} {T : u_T} {N : Nat} {As st0 : List Value} {w' : q_Ws}
    (cx : CallFix p m c cc nL s args q_al own) (hB : q_B g K L A w f0 f s H locs) (hLA : ∀ q, q ∈ L → A q) (hN : L.Nodup) (hb : b ∈ L) (hk : K b = k) (h20 : k < 20) (hcl : vwCl[k]? = some (C, T, N))
    (hM : q_Ct l g K L y bytes maxL ret fr lo (.ref b :: As) f w' Po) (hwd : ∀ w ∈ wsV own index C y (.code y bytes maxL ret :: q_al), w ∈ q_al)
    (hd : y.cls = C ∧ y.cls ≠ "java/lang/invoke/MethodHandle" ∧ y.cls ≠ "java/lang/invoke/VarHandle" ∧ (parseMethodDescriptor y.desc).map (fun d => d.parameters.length) = some n)
    (hR : (fr + 1 ≤ R.frames ∧ 8 + (maxL + 11) + lo ≤ R.locals) ∧ cells ≤ R.cells ∧ slots ≤ R.slots) (hsub : q_wsub w' w = true) (hn : As.length = n) (hls : ls.size = nL) (hst : st0 = As.reverse ++ .ref b :: rest) (hcat : (rest.map fun v => v.category).sum ≤ 8) (hdg : decode cc pc = .ok (.invokevirtual index, 3))
    (kk : ∀ (v : Option Value) (H1 : Heap) (locs1 : List Loc) (f1 : Nat → va_E), Po v f1 → q_Fr w' K L f f1 → q_B g K L A w f0 f1 s H1 locs1 → W p l e R s m args below meth c H1 locs1 cells slots Q (F0 m (pc + 3) ls (v.toList ++ rest))) : W p l e R s m args below meth c H locs cells slots Q (F0 m pc ls st0) := by
  obtain ⟨fs, h1, -, -⟩ := q_ty_obj hB.2.1 hb hk h20
  obtain ⟨q0, hq⟩ := q_plget (f := f) hb
  rw [h1] at hq
  refine q_back hB.1.2.2.2 hLA (va_runV (As := As) (rest := rest) cx hM (cwV n cx.2.2.2.2 (q_goodA hwd) rfl rfl rfl hd hR.1) ⟨q_blind, va_recv hB.1.2.2.1 hB.1.1 hcl hq, fun U hU hW => ⟨rfl, by rw [hU]; exact hB.1.1, va_K.moved hW.alike hB.1.2.2.1⟩⟩ rfl hn hls hst (lv_room hcat) hdg ⟨hR.2.1, hR.2.2⟩) (fun v st₀ t locs1 e0 evm hq hl1 => ?_)
  obtain ⟨f1, p1, p2, p3⟩ := q_after hB hLA hsub hN e0 evm hl1 hq
  exact kk v t.heap locs1 f1 p1 p2 p3
theorem q_callS {y : MethodName} {bytes : ByteArray} {maxL fr lo n index : Nat} {ret : Option FieldType} {As st0 : List Value} {w' : q_Ws}
    (cx : CallFix p m c cc nL s args q_al own) (hB : q_B g K L A w f0 f s H locs) (hLA : ∀ q, q ∈ L → A q) (hN : L.Nodup)
    (hM : q_Ct l g K L y bytes maxL ret fr lo As f w' Po) (hwd : ∀ w ∈ va_wsS own index y (.code y bytes maxL ret :: q_al), w ∈ q_al)
    (hd : y.cls ≠ "java/lang/invoke/MethodHandle" ∧ y.cls ≠ "java/lang/invoke/VarHandle" ∧ (parseMethodDescriptor y.desc).map (fun d => d.parameters.length) = some n)
    (hR : (fr + 1 ≤ R.frames ∧ 8 + (maxL + 11) + lo ≤ R.locals) ∧ cells ≤ R.cells ∧ slots ≤ R.slots) (hsub : q_wsub w' w = true) (hn : As.length = n) (hls : ls.size = nL) (hst : st0 = As.reverse ++ rest) (hcat : (rest.map fun v => v.category).sum ≤ 8) (hdg : decode cc pc = .ok (.invokestatic index, 3))
    (kk : ∀ (v : Option Value) (H1 : Heap) (locs1 : List Loc) (f1 : Nat → va_E), Po v f1 → q_Fr w' K L f f1 → q_B g K L A w f0 f1 s H1 locs1 → W p l e R s m args below meth c H1 locs1 cells slots Q (F0 m (pc + 3) ls (v.toList ++ rest))) : W p l e R s m args below meth c H locs cells slots Q (F0 m pc ls st0) := by
  refine q_back hB.1.2.2.2 hLA (va_runS (As := As) (rest := rest) cx hM (va_cwS n cx.2.2.2.2 (q_goodA hwd) rfl rfl rfl hd hR.1) ⟨q_blind, fun U hU hW => ⟨rfl, by rw [hU]; exact hB.1.1, va_K.moved hW.alike hB.1.2.2.1⟩⟩ rfl hn hls hst (lv_room hcat) hdg ⟨hR.2.1, hR.2.2⟩) (fun v st₀ t locs1 e0 evm hq hl1 => ?_)
  obtain ⟨f1, p1, p2, p3⟩ := q_after hB hLA hsub hN e0 evm hl1 hq
  exact kk v t.heap locs1 f1 p1 p2 p3
end QE
end
section
/-! further pure rows; calls by what they answer -/
def q_l (z : Int) : Int64 := Int64.ofInt z
theorem q_lInt {z : Int} (h : q_R z) : (q_l z).toInt = z := Int64.toInt_ofInt_of_le (by omega) (by omega)
theorem q_i2lz {z : Int} (h : q_R z) : (q_i z).toInt64 = q_l z := by
  apply Int64.toInt_inj.mp
  rw [Int32.toInt_toInt64, q_toInt h, q_lInt h]
theorem q_l2iz {z : Int} : (q_l z).toInt32 = q_i z := by
  unfold q_l q_i
  exact Int64.toInt32_ofInt ..
theorem q_and {x : Int32} {m : Int} (k : Nat) (hk : k ≤ 31) (hm : (q_i m).toBitVec.toNat = 2 ^ k - 1) : ∃ z : Int, x &&& q_i m = q_i z ∧ 0 ≤ z ∧ z ≤ (2 ^ k - 1 : Nat) := by
  obtain ⟨j, h1, h2⟩ := pk_andE x k hm
  refine ⟨(j : Int), by rw [h2]; exact Int32.ofInt_eq_ofNat.symm, by omega, by omega⟩
theorem q_divz {x y : Int} (hx : q_R x) (hy : q_R y) : q_i x / q_i y = q_i (x.tdiv y) := (Int32.ofInt_tdiv hx.1 hx.2 hy.1 hy.2).symm
theorem q_tmod {x y : Int} : x - x.tdiv y * y = x.tmod y := by
  have h := Int.mul_tdiv_add_tmod x y
  have h2 : x.tdiv y * y = y * x.tdiv y := Int.mul_comm _ _
  omega
section QP3
variable {p : Program} {l : Launch} {e : Env} {R : Room} {s : State} {m : MethodId} {args : Array Value} {below : List Frame} {meth : Method} {c : Code} {H : Heap} {locs : List Loc} {cells slots : Nat} {Q : State → Prop}
variable {cc : ByteArray} {pc nL : Nat} {ls : Array Slot} {rest : List Value} {own : String}
theorem q_iand (cx : CallFix p m c cc nL s args q_al own) {x y : Int32} (hdg : decode cc pc = .ok (.iand, 1)) (k : ∀ z : Int, q_R z → x &&& y = q_i z → W p l e R s m args below meth c H locs cells slots Q (F0 m (pc + 1) ls (.int (q_i z) :: rest))) : W p l e R s m args below meth c H locs cells slots Q (F0 m pc ls (.int y :: .int x :: rest)) := lv_iand cx.1 cx.2.1 hdg (q_any k)
theorem q_iandm (cx : CallFix p m c cc nL s args q_al own) {x : Int32} {mm : Int} (n : Nat) (hn : n ≤ 31) (hm : (q_i mm).toBitVec.toNat = 2 ^ n - 1) (hdg : decode cc pc = .ok (.iand, 1)) (k : ∀ z : Int, 0 ≤ z → z ≤ (2 ^ n - 1 : Nat) → x &&& q_i mm = q_i z → W p l e R s m args below meth c H locs cells slots Q (F0 m (pc + 1) ls (.int (q_i z) :: rest))) : W p l e R s m args below meth c H locs cells slots Q (F0 m pc ls (.int (q_i mm) :: .int x :: rest)) := by
  obtain ⟨z, h1, h2, h3⟩ := q_and (x := x) n hn hm
  exact lv_iand cx.1 cx.2.1 hdg (by rw [h1]; exact k z h2 h3 h1)
theorem q_ior (cx : CallFix p m c cc nL s args q_al own) {x y : Int32} (hdg : decode cc pc = .ok (.ior, 1)) (k : ∀ z : Int, q_R z → x ||| y = q_i z → W p l e R s m args below meth c H locs cells slots Q (F0 m (pc + 1) ls (.int (q_i z) :: rest))) : W p l e R s m args below meth c H locs cells slots Q (F0 m pc ls (.int y :: .int x :: rest)) := lv_ior cx.1 cx.2.1 hdg (q_any k)
theorem q_ixor (cx : CallFix p m c cc nL s args q_al own) {x y : Int32} (hdg : decode cc pc = .ok (.ixor, 1)) (k : ∀ z : Int, q_R z → x ^^^ y = q_i z → W p l e R s m args below meth c H locs cells slots Q (F0 m (pc + 1) ls (.int (q_i z) :: rest))) : W p l e R s m args below meth c H locs cells slots Q (F0 m pc ls (.int y :: .int x :: rest)) := lv_ixor cx.1 cx.2.1 hdg (q_any k)
theorem q_ishl (cx : CallFix p m c cc nL s args q_al own) {x y : Int32} (hdg : decode cc pc = .ok (.ishl, 1)) (k : ∀ z : Int, q_R z → x <<< (y &&& 31) = q_i z → W p l e R s m args below meth c H locs cells slots Q (F0 m (pc + 1) ls (.int (q_i z) :: rest))) : W p l e R s m args below meth c H locs cells slots Q (F0 m pc ls (.int y :: .int x :: rest)) := lv_ishl cx.1 cx.2.1 hdg (q_any k)
theorem q_ishr (cx : CallFix p m c cc nL s args q_al own) {x y : Int32} (hdg : decode cc pc = .ok (.ishr, 1)) (k : ∀ z : Int, q_R z → x >>> (y &&& 31) = q_i z → W p l e R s m args below meth c H locs cells slots Q (F0 m (pc + 1) ls (.int (q_i z) :: rest))) : W p l e R s m args below meth c H locs cells slots Q (F0 m pc ls (.int y :: .int x :: rest)) := lv_ishr cx.1 cx.2.1 hdg (q_any k)
theorem q_idiv (cx : CallFix p m c cc nL s args q_al own) {x y : Int} (hx : q_R x) (hy : q_R y) (h0 : ¬ y = 0) (hdg : decode cc pc = .ok (.idiv, 1)) (k : W p l e R s m args below meth c H locs cells slots Q (F0 m (pc + 1) ls (.int (q_i (x.tdiv y)) :: rest))) : W p l e R s m args below meth c H locs cells slots Q (F0 m pc ls (.int (q_i y) :: .int (q_i x) :: rest)) :=
  lv_idiv cx.1 cx.2.1 hdg (fun h => h0 ((q_eq hy ⟨by decide, by decide⟩).mp h)) (by rw [q_divz hx hy]; exact k)
theorem q_irem (cx : CallFix p m c cc nL s args q_al own) {x y : Int} (hx : q_R x) (hy : q_R y) (h0 : 0 < y) (hdg : decode cc pc = .ok (.irem, 1)) (k : ∀ z : Int, z = x.tmod y → -y < z → z < y → (0 ≤ x → 0 ≤ z ∧ z ≤ x) → W p l e R s m args below meth c H locs cells slots Q (F0 m (pc + 1) ls (.int (q_i z) :: rest))) : W p l e R s m args below meth c H locs cells slots Q (F0 m pc ls (.int (q_i y) :: .int (q_i x) :: rest)) := by
  refine lv_irem cx.1 cx.2.1 hdg (fun h => (by omega : ¬ y = 0) ((q_eq hy ⟨by decide, by decide⟩).mp h)) ?_
  rw [q_divz hx hy, q_mul, q_sub, q_tmod]
  have h1 := Int.tmod_lt_of_pos x h0
  have h2 := Int.lt_tmod_of_pos x h0
  exact k _ rfl h2 h1 (fun hx0 => ⟨Int.tmod_nonneg _ hx0, by
    have h3 := Int.mul_tdiv_add_tmod x y
    have h4 := Int.mul_nonneg (Int.le_of_lt h0) (Int.tdiv_nonneg hx0 (Int.le_of_lt h0))
    omega⟩)
theorem q_i2l (cx : CallFix p m c cc nL s args q_al own) {x : Int} (hx : q_R x) (hdg : decode cc pc = .ok (.i2l, 1)) (k : W p l e R s m args below meth c H locs cells slots Q (F0 m (pc + 1) ls (.long (q_l x) :: rest))) : W p l e R s m args below meth c H locs cells slots Q (F0 m pc ls (.int (q_i x) :: rest)) := lv_i2l cx.1 cx.2.1 hdg (q_i2lz hx) k
theorem q_lconst (cx : CallFix p m c cc nL s args q_al own) {n : Fin 2} {z : Int} (hz : Int64.ofNat (n : Nat) = q_l z) (hdg : decode cc pc = .ok (.lconst n, 1)) (k : W p l e R s m args below meth c H locs cells slots Q (F0 m (pc + 1) ls (.long (q_l z) :: rest))) : W p l e R s m args below meth c H locs cells slots Q (F0 m pc ls rest) := lv_lconst cx.1 cx.2.1 hdg hz k
theorem q_l2i (cx : CallFix p m c cc nL s args q_al own) {x : Int64} (hdg : decode cc pc = .ok (.l2i, 1)) (k : ∀ z : Int, q_R z → x.toInt32 = q_i z → W p l e R s m args below meth c H locs cells slots Q (F0 m (pc + 1) ls (.int (q_i z) :: rest))) : W p l e R s m args below meth c H locs cells slots Q (F0 m pc ls (.long x :: rest)) := lv_l2i cx.1 cx.2.1 hdg rfl (q_any k)
theorem q_i2b (cx : CallFix p m c cc nL s args q_al own) {x : Int32} (hdg : decode cc pc = .ok (.i2b, 1)) (k : ∀ z : Int, -128 ≤ z → z ≤ 127 → x.toInt8.toInt32 = q_i z → W p l e R s m args below meth c H locs cells slots Q (F0 m (pc + 1) ls (.int (q_i z) :: rest))) : W p l e R s m args below meth c H locs cells slots Q (F0 m pc ls (.int x :: rest)) := by
  have h := k x.toInt8.toInt (by have := x.toInt8.le_toInt; omega) (by have := x.toInt8.toInt_lt; omega) (by unfold q_i; rw [Int32.ofInt_int8ToInt])
  refine lv_i2b cx.1 cx.2.1 hdg (v := q_i x.toInt8.toInt) (by unfold q_i; rw [Int32.ofInt_int8ToInt]) h
theorem q_lcmp (cx : CallFix p m c cc nL s args q_al own) {x y : Int64} (hdg : decode cc pc = .ok (.lcmp, 1)) (k : ∀ z : Int, -1 ≤ z → z ≤ 1 → (z = -1 ↔ x.toInt < y.toInt) → (z = 0 ↔ x = y) → (z = 1 ↔ y.toInt < x.toInt) → W p l e R s m args below meth c H locs cells slots Q (F0 m (pc + 1) ls (.int (q_i z) :: rest))) : W p l e R s m args below meth c H locs cells slots Q (F0 m pc ls (.long y :: .long x :: rest)) := by
  refine W.lcmp cx.1 cx.2.1 hdg ?_
  by_cases h1 : y < x
  · have e : lg_cmp x y = q_i 1 := by simp only [lg_cmp, h1, if_true]; rfl
    have h2 := Int64.lt_iff_toInt_lt.mp h1
    rw [e]
    exact k 1 (by omega) (by omega) ⟨fun h => by omega, fun h => by omega⟩ ⟨fun h => by omega, fun h => by rw [h] at h2; omega⟩ ⟨fun _ => h2, fun _ => rfl⟩
  · have h2 : x.toInt ≤ y.toInt := Int.not_lt.mp (fun h => h1 (Int64.lt_iff_toInt_lt.mpr h))
    by_cases h3 : x = y
    · have e : lg_cmp x y = q_i 0 := by simp only [lg_cmp, h1, if_false, h3]; first | rfl | simp [q_i]
      rw [e]
      exact k 0 (by omega) (by omega) ⟨fun h => by omega, fun h => by rw [h3] at h; omega⟩ ⟨fun _ => h3, fun _ => rfl⟩ ⟨fun h => by omega, fun h => by omega⟩
    · have e : lg_cmp x y = q_i (-1) := by simp only [lg_cmp, h1, if_false, h3]; first | rfl | simp [q_i]
      have h4 : ¬ x.toInt = y.toInt := fun h => h3 (Int64.toInt_inj.mp h)
      rw [e]
      exact k (-1) (by omega) (by omega) ⟨fun _ => by omega, fun _ => rfl⟩ ⟨fun h => by omega, fun h => absurd h h3⟩ ⟨fun h => by omega, fun h => by omega⟩
end QP3
section QC3
variable {p : Program} {l : Launch} {e : Env} {R : Room} {s : State} {m : MethodId} {args : Array Value} {below : List Frame} {meth : Method} {c : Code} {H : Heap} {locs : List Loc} {cells slots : Nat} {Q : State → Prop}
variable {cc : ByteArray} {pc nL : Nat} {ls : Array Slot} {rest : List Value} {own : String}
variable {g : q_G} {K : Nat → Nat} {L : List Nat} {A : Nat → Prop} {w : q_Ws} {f0 f : Nat → va_E}
variable {y : MethodName} {bytes : ByteArray} {maxL fr lo n index : Nat} {ret : Option FieldType} {C : String} {b k : Nat} {T : u_T} {N : Nat} {As st0 : List Value} {w' : q_Ws}
theorem q_cVi {P : Int → (Nat → va_E) → Prop}
    (cx : CallFix p m c cc nL s args q_al own) (hB : q_B g K L A w f0 f s H locs) (hLA : ∀ q, q ∈ L → A q) (hN : L.Nodup) (hb : b ∈ L) (hk : K b = k) (h20 : k < 20) (hcl : vwCl[k]? = some (C, T, N))
    (hM : q_Ct l g K L y bytes maxL ret fr lo (.ref b :: As) f w' (q_Pi P)) (hwd : ∀ w ∈ wsV own index C y (.code y bytes maxL ret :: q_al), w ∈ q_al)
    (hd : y.cls = C ∧ y.cls ≠ "java/lang/invoke/MethodHandle" ∧ y.cls ≠ "java/lang/invoke/VarHandle" ∧ (parseMethodDescriptor y.desc).map (fun d => d.parameters.length) = some n)
    (hR : (fr + 1 ≤ R.frames ∧ 8 + (maxL + 11) + lo ≤ R.locals) ∧ cells ≤ R.cells ∧ slots ≤ R.slots) (hsub : q_wsub w' w = true) (hn : As.length = n) (hls : ls.size = nL) (hst : st0 = As.reverse ++ .ref b :: rest) (hcat : (rest.map fun v => v.category).sum ≤ 8) (hdg : decode cc pc = .ok (.invokevirtual index, 3))
    (kk : ∀ (z : Int) (H1 : Heap) (locs1 : List Loc) (f1 : Nat → va_E), q_R z → P z f1 → q_Fr w' K L f f1 → q_B g K L A w f0 f1 s H1 locs1 → W p l e R s m args below meth c H1 locs1 cells slots Q (F0 m (pc + 3) ls (.int (q_i z) :: rest))) : W p l e R s m args below meth c H locs cells slots Q (F0 m pc ls st0) :=
  q_callV cx hB hLA hN hb hk h20 hcl hM hwd hd hR hsub hn hls hst hcat hdg (fun v H1 locs1 f1 hp hF hB1 => by obtain ⟨z, rfl, hz, hp⟩ := hp; exact kk z H1 locs1 f1 hz hp hF hB1)
theorem q_cSi {P : Int → (Nat → va_E) → Prop}
    (cx : CallFix p m c cc nL s args q_al own) (hB : q_B g K L A w f0 f s H locs) (hLA : ∀ q, q ∈ L → A q) (hN : L.Nodup)
    (hM : q_Ct l g K L y bytes maxL ret fr lo As f w' (q_Pi P)) (hwd : ∀ w ∈ va_wsS own index y (.code y bytes maxL ret :: q_al), w ∈ q_al)
    (hd : y.cls ≠ "java/lang/invoke/MethodHandle" ∧ y.cls ≠ "java/lang/invoke/VarHandle" ∧ (parseMethodDescriptor y.desc).map (fun d => d.parameters.length) = some n)
    (hR : (fr + 1 ≤ R.frames ∧ 8 + (maxL + 11) + lo ≤ R.locals) ∧ cells ≤ R.cells ∧ slots ≤ R.slots) (hsub : q_wsub w' w = true) (hn : As.length = n) (hls : ls.size = nL) (hst : st0 = As.reverse ++ rest) (hcat : (rest.map fun v => v.category).sum ≤ 8) (hdg : decode cc pc = .ok (.invokestatic index, 3))
    (kk : ∀ (z : Int) (H1 : Heap) (locs1 : List Loc) (f1 : Nat → va_E), q_R z → P z f1 → q_Fr w' K L f f1 → q_B g K L A w f0 f1 s H1 locs1 → W p l e R s m args below meth c H1 locs1 cells slots Q (F0 m (pc + 3) ls (.int (q_i z) :: rest))) : W p l e R s m args below meth c H locs cells slots Q (F0 m pc ls st0) :=
  q_callS cx hB hLA hN hM hwd hd hR hsub hn hls hst hcat hdg (fun v H1 locs1 f1 hp hF hB1 => by obtain ⟨z, rfl, hz, hp⟩ := hp; exact kk z H1 locs1 f1 hz hp hF hB1)
theorem q_cVv {P : (Nat → va_E) → Prop}
    (cx : CallFix p m c cc nL s args q_al own) (hB : q_B g K L A w f0 f s H locs) (hLA : ∀ q, q ∈ L → A q) (hN : L.Nodup) (hb : b ∈ L) (hk : K b = k) (h20 : k < 20) (hcl : vwCl[k]? = some (C, T, N))
    (hM : q_Ct l g K L y bytes maxL ret fr lo (.ref b :: As) f w' (q_Pv P)) (hwd : ∀ w ∈ wsV own index C y (.code y bytes maxL ret :: q_al), w ∈ q_al)
    (hd : y.cls = C ∧ y.cls ≠ "java/lang/invoke/MethodHandle" ∧ y.cls ≠ "java/lang/invoke/VarHandle" ∧ (parseMethodDescriptor y.desc).map (fun d => d.parameters.length) = some n)
    (hR : (fr + 1 ≤ R.frames ∧ 8 + (maxL + 11) + lo ≤ R.locals) ∧ cells ≤ R.cells ∧ slots ≤ R.slots) (hsub : q_wsub w' w = true) (hn : As.length = n) (hls : ls.size = nL) (hst : st0 = As.reverse ++ .ref b :: rest) (hcat : (rest.map fun v => v.category).sum ≤ 8) (hdg : decode cc pc = .ok (.invokevirtual index, 3))
    (kk : ∀ (H1 : Heap) (locs1 : List Loc) (f1 : Nat → va_E), P f1 → q_Fr w' K L f f1 → q_B g K L A w f0 f1 s H1 locs1 → W p l e R s m args below meth c H1 locs1 cells slots Q (F0 m (pc + 3) ls (rest))) : W p l e R s m args below meth c H locs cells slots Q (F0 m pc ls st0) :=
  q_callV cx hB hLA hN hb hk h20 hcl hM hwd hd hR hsub hn hls hst hcat hdg (fun v H1 locs1 f1 hp hF hB1 => by obtain ⟨rfl, hp⟩ := hp; exact kk H1 locs1 f1 hp hF hB1)
theorem q_cSv {P : (Nat → va_E) → Prop}
    (cx : CallFix p m c cc nL s args q_al own) (hB : q_B g K L A w f0 f s H locs) (hLA : ∀ q, q ∈ L → A q) (hN : L.Nodup)
    (hM : q_Ct l g K L y bytes maxL ret fr lo As f w' (q_Pv P)) (hwd : ∀ w ∈ va_wsS own index y (.code y bytes maxL ret :: q_al), w ∈ q_al)
    (hd : y.cls ≠ "java/lang/invoke/MethodHandle" ∧ y.cls ≠ "java/lang/invoke/VarHandle" ∧ (parseMethodDescriptor y.desc).map (fun d => d.parameters.length) = some n)
    (hR : (fr + 1 ≤ R.frames ∧ 8 + (maxL + 11) + lo ≤ R.locals) ∧ cells ≤ R.cells ∧ slots ≤ R.slots) (hsub : q_wsub w' w = true) (hn : As.length = n) (hls : ls.size = nL) (hst : st0 = As.reverse ++ rest) (hcat : (rest.map fun v => v.category).sum ≤ 8) (hdg : decode cc pc = .ok (.invokestatic index, 3))
    (kk : ∀ (H1 : Heap) (locs1 : List Loc) (f1 : Nat → va_E), P f1 → q_Fr w' K L f f1 → q_B g K L A w f0 f1 s H1 locs1 → W p l e R s m args below meth c H1 locs1 cells slots Q (F0 m (pc + 3) ls (rest))) : W p l e R s m args below meth c H locs cells slots Q (F0 m pc ls st0) :=
  q_callS cx hB hLA hN hM hwd hd hR hsub hn hls hst hcat hdg (fun v H1 locs1 f1 hp hF hB1 => by obtain ⟨rfl, hp⟩ := hp; exact kk H1 locs1 f1 hp hF hB1)
theorem q_cVr {P : Nat → (Nat → va_E) → Prop}
    (cx : CallFix p m c cc nL s args q_al own) (hB : q_B g K L A w f0 f s H locs) (hLA : ∀ q, q ∈ L → A q) (hN : L.Nodup) (hb : b ∈ L) (hk : K b = k) (h20 : k < 20) (hcl : vwCl[k]? = some (C, T, N))
    (hM : q_Ct l g K L y bytes maxL ret fr lo (.ref b :: As) f w' (q_Pr P)) (hwd : ∀ w ∈ wsV own index C y (.code y bytes maxL ret :: q_al), w ∈ q_al)
    (hd : y.cls = C ∧ y.cls ≠ "java/lang/invoke/MethodHandle" ∧ y.cls ≠ "java/lang/invoke/VarHandle" ∧ (parseMethodDescriptor y.desc).map (fun d => d.parameters.length) = some n)
    (hR : (fr + 1 ≤ R.frames ∧ 8 + (maxL + 11) + lo ≤ R.locals) ∧ cells ≤ R.cells ∧ slots ≤ R.slots) (hsub : q_wsub w' w = true) (hn : As.length = n) (hls : ls.size = nL) (hst : st0 = As.reverse ++ .ref b :: rest) (hcat : (rest.map fun v => v.category).sum ≤ 8) (hdg : decode cc pc = .ok (.invokevirtual index, 3))
    (kk : ∀ (z : Nat) (H1 : Heap) (locs1 : List Loc) (f1 : Nat → va_E), P z f1 → q_Fr w' K L f f1 → q_B g K L A w f0 f1 s H1 locs1 → W p l e R s m args below meth c H1 locs1 cells slots Q (F0 m (pc + 3) ls (.ref z :: rest))) : W p l e R s m args below meth c H locs cells slots Q (F0 m pc ls st0) :=
  q_callV cx hB hLA hN hb hk h20 hcl hM hwd hd hR hsub hn hls hst hcat hdg (fun v H1 locs1 f1 hp hF hB1 => by obtain ⟨z, rfl, hp⟩ := hp; exact kk z H1 locs1 f1 hp hF hB1)
theorem q_cSr {P : Nat → (Nat → va_E) → Prop}
    (cx : CallFix p m c cc nL s args q_al own) (hB : q_B g K L A w f0 f s H locs) (hLA : ∀ q, q ∈ L → A q) (hN : L.Nodup)
    (hM : q_Ct l g K L y bytes maxL ret fr lo As f w' (q_Pr P)) (hwd : ∀ w ∈ va_wsS own index y (.code y bytes maxL ret :: q_al), w ∈ q_al)
    (hd : y.cls ≠ "java/lang/invoke/MethodHandle" ∧ y.cls ≠ "java/lang/invoke/VarHandle" ∧ (parseMethodDescriptor y.desc).map (fun d => d.parameters.length) = some n)
    (hR : (fr + 1 ≤ R.frames ∧ 8 + (maxL + 11) + lo ≤ R.locals) ∧ cells ≤ R.cells ∧ slots ≤ R.slots) (hsub : q_wsub w' w = true) (hn : As.length = n) (hls : ls.size = nL) (hst : st0 = As.reverse ++ rest) (hcat : (rest.map fun v => v.category).sum ≤ 8) (hdg : decode cc pc = .ok (.invokestatic index, 3))
    (kk : ∀ (z : Nat) (H1 : Heap) (locs1 : List Loc) (f1 : Nat → va_E), P z f1 → q_Fr w' K L f f1 → q_B g K L A w f0 f1 s H1 locs1 → W p l e R s m args below meth c H1 locs1 cells slots Q (F0 m (pc + 3) ls (.ref z :: rest))) : W p l e R s m args below meth c H locs cells slots Q (F0 m pc ls st0) :=
  q_callS cx hB hLA hN hM hwd hd hR hsub hn hls hst hcat hdg (fun v H1 locs1 f1 hp hF hB1 => by obtain ⟨z, rfl, hp⟩ := hp; exact kk z H1 locs1 f1 hp hF hB1)
theorem q_cVl {P : Int64 → (Nat → va_E) → Prop}
    (cx : CallFix p m c cc nL s args q_al own) (hB : q_B g K L A w f0 f s H locs) (hLA : ∀ q, q ∈ L → A q) (hN : L.Nodup) (hb : b ∈ L) (hk : K b = k) (h20 : k < 20) (hcl : vwCl[k]? = some (C, T, N))
    (hM : q_Ct l g K L y bytes maxL ret fr lo (.ref b :: As) f w' (q_Pl P)) (hwd : ∀ w ∈ wsV own index C y (.code y bytes maxL ret :: q_al), w ∈ q_al)
    (hd : y.cls = C ∧ y.cls ≠ "java/lang/invoke/MethodHandle" ∧ y.cls ≠ "java/lang/invoke/VarHandle" ∧ (parseMethodDescriptor y.desc).map (fun d => d.parameters.length) = some n)
    (hR : (fr + 1 ≤ R.frames ∧ 8 + (maxL + 11) + lo ≤ R.locals) ∧ cells ≤ R.cells ∧ slots ≤ R.slots) (hsub : q_wsub w' w = true) (hn : As.length = n) (hls : ls.size = nL) (hst : st0 = As.reverse ++ .ref b :: rest) (hcat : (rest.map fun v => v.category).sum ≤ 8) (hdg : decode cc pc = .ok (.invokevirtual index, 3))
    (kk : ∀ (z : Int64) (H1 : Heap) (locs1 : List Loc) (f1 : Nat → va_E), P z f1 → q_Fr w' K L f f1 → q_B g K L A w f0 f1 s H1 locs1 → W p l e R s m args below meth c H1 locs1 cells slots Q (F0 m (pc + 3) ls (.long z :: rest))) : W p l e R s m args below meth c H locs cells slots Q (F0 m pc ls st0) :=
  q_callV cx hB hLA hN hb hk h20 hcl hM hwd hd hR hsub hn hls hst hcat hdg (fun v H1 locs1 f1 hp hF hB1 => by obtain ⟨z, rfl, hp⟩ := hp; exact kk z H1 locs1 f1 hp hF hB1)
theorem q_cSl {P : Int64 → (Nat → va_E) → Prop}
    (cx : CallFix p m c cc nL s args q_al own) (hB : q_B g K L A w f0 f s H locs) (hLA : ∀ q, q ∈ L → A q) (hN : L.Nodup)
    (hM : q_Ct l g K L y bytes maxL ret fr lo As f w' (q_Pl P)) (hwd : ∀ w ∈ va_wsS own index y (.code y bytes maxL ret :: q_al), w ∈ q_al)
    (hd : y.cls ≠ "java/lang/invoke/MethodHandle" ∧ y.cls ≠ "java/lang/invoke/VarHandle" ∧ (parseMethodDescriptor y.desc).map (fun d => d.parameters.length) = some n)
    (hR : (fr + 1 ≤ R.frames ∧ 8 + (maxL + 11) + lo ≤ R.locals) ∧ cells ≤ R.cells ∧ slots ≤ R.slots) (hsub : q_wsub w' w = true) (hn : As.length = n) (hls : ls.size = nL) (hst : st0 = As.reverse ++ rest) (hcat : (rest.map fun v => v.category).sum ≤ 8) (hdg : decode cc pc = .ok (.invokestatic index, 3))
    (kk : ∀ (z : Int64) (H1 : Heap) (locs1 : List Loc) (f1 : Nat → va_E), P z f1 → q_Fr w' K L f f1 → q_B g K L A w f0 f1 s H1 locs1 → W p l e R s m args below meth c H1 locs1 cells slots Q (F0 m (pc + 3) ls (.long z :: rest))) : W p l e R s m args below meth c H locs cells slots Q (F0 m pc ls st0) :=
  q_callS cx hB hLA hN hM hwd hd hR hsub hn hls hst hcat hdg (fun v H1 locs1 f1 hp hF hB1 => by obtain ⟨z, rfl, hp⟩ := hp; exact kk z H1 locs1 f1 hp hF hB1)
end QC3
/-! methods that throw; their callers; those who catch -/
def q_xn : List String := ["java/lang/RuntimeException", "java/lang/Exception"]
def q_cd : Cond → Bool
  | .castable .. => true
  | .declares _ => true
  | _ => false
def q_xa (ic : Nat) (X : String) : List Cond := vx_atS RX11 ic X q_xn
def q_xb (ic : Nat) (X : String) : List Cond := (q_xa ic X).filter (fun w => !goodWord w)
def q_xw : List Cond := q_xb 72 "java/lang/IllegalStateException" ++ (q_xb 87 "java/lang/IllegalArgumentException" ++ q_xb 145 "java/lang/IndexOutOfBoundsException")
theorem q_xw_cd : q_xw.all q_cd = true := by decide +kernel
def q_xs : List (Nat × String) := [(70, "the buffer is full"), (85, "no such length"), (92, "the text has an error"), (105, "the script has an error"), (120, "no such setting"), (132, "no such number of a node"), (143, "no such link"), (146, "no such number of a link"), (158, "no such number of a message"), (205, "ticks are out of range"), (273, "the time would be too late"), (282, "the same node, or within is out of range"), (288, "a node is out, or too many messages"), (306, "the charge is out of range"), (311, "the misses are out of range"), (320, "no such byte"), (336, "nothing was saved"), (338, "no such node"), (343, "no such message"), (348, "the year has no such day"), (350, "both nodes are the same")]
def q_xnc : List (String × String) := [("java/lang/IllegalArgumentException", "java/lang/IndexOutOfBoundsException"), ("java/lang/IllegalStateException", "java/lang/IndexOutOfBoundsException"), ("java/lang/IllegalStateException", "java/lang/IllegalArgumentException")]
/-- what a throw wants of the world -/
def q_X (A : Nat → Prop) (U : State) : Prop := vx_Zq Bundle.tN "UNASSIGNED_STACK" Bundle.steD A U U.heap ∧ vx_Zq Bundle.tN "SUPPRESSED_SENTINEL" Bundle.listD A U U.heap ∧ (∀ t ∈ q_xs, ∃ a, vk_R RX11 t.1 t.2 a U) ∧ (∀ w ∈ q_xw, va_Nw w U) ∧ ∀ t ∈ q_xnc, va_Nc t.1 t.2 U
theorem q_cd_warm {w : Cond} {s U : State} (hw : q_cd w = true) (hW : s.WarmedH U.vm) (h : va_Nw w s) : va_Nw w U := by
  cases w <;> first | exact va_Nw.warmC hW h | exact va_Nw.warmD hW h | (simp [q_cd] at hw)
theorem q_X.to {A : Nat → Prop} {s U : State} (hW : s.WarmedH U.vm) (hk : ∀ a : Nat, a < s.heap.size → ¬ A a → U.heap[a]? = s.heap[a]?) (h : q_X A s) : q_X A U := by
  obtain ⟨h1, h2, h3, h4, h5⟩ := h
  refine ⟨vx_Zq.moved hW.alike (h1.kept hk), vx_Zq.moved hW.alike (h2.kept hk), fun t ht => ?_, fun w hw => q_cd_warm (List.all_eq_true.mp q_xw_cd w hw) hW (h4 w hw), fun t ht => (h5 t ht).moved hW.alike⟩
  obtain ⟨a, ha⟩ := h3 t ht
  exact ⟨a, ha.warm hW⟩
theorem q_X.narrow {A B : Nat → Prop} {U : State} (h : q_X A U) (hAB : ∀ q, B q → A q) : q_X B U := ⟨h.1.narrow hAB, h.2.1.narrow hAB, h.2.2.1, h.2.2.2.1, h.2.2.2.2⟩
def q_XC (g : q_G) (K : Nat → Nat) (L : List Nat) (w : q_Ws) (f : Nat → va_E) (Ex : String → (Nat → va_E) → Prop) : String → State → State → Prop := fun E st t => (∃ f1 : Nat → va_E, Ex E f1 ∧ q_Ty g K L f1 ∧ q_Fr w K L f f1 ∧ q_U g L f1 t) ∧ va_F (fun q => q ∈ L) st t
def q_Xt (l : Launch) (g : q_G) (K : Nat → Nat) (L : List Nat) (y : MethodName) (cc : ByteArray) (mL : Nat) (ret : Option FieldType) (fr lo mc ms : Nat) (As : List Value) (f : Nat → va_E) (w : q_Ws) (Po : Option Value → (Nat → va_E) → Prop) (Ex : String → (Nat → va_E) → Prop) : Prop :=
  vx_Met l y (.code y cc mL ret :: q_al) { frames := fr, cells := mc, slots := ms, locals := lo } (va_Pc As (fun U => q_U g L f U ∧ q_X (fun q => q ∈ L) U)) (q_Q g K L w f Po) (q_XC g K L w f Ex) mc ms (fun q => q ∈ L)
def q_Wt (l : Launch) (g : q_G) (K : Nat → Nat) (L : List Nat) (y : MethodName) (cc : ByteArray) (mL : Nat) (ret : Option FieldType) (hh : List (Nat × Nat × Nat × Nat)) (fr lo mc ms : Nat) (As : List Value) (f : Nat → va_E) (w : q_Ws) (Po : Option Value → (Nat → va_E) → Prop) : Prop :=
  Met l y (.codeWith y cc mL ret hh :: q_al) { frames := fr, cells := mc, slots := ms, locals := lo } (va_Pc As (fun U => q_U g L f U ∧ q_X (fun q => q ∈ L) U)) (q_Q g K L w f Po) mc ms (fun q => q ∈ L)
theorem q_blindX {g : q_G} {L : List Nat} {f : Nat → va_E} {As : List Value} : FrameBlind (va_Pc As (fun U => q_U g L f U ∧ q_X (fun q => q ∈ L) U)) := fun a U gf mk h =>
  ⟨h.1, ⟨h.2.1.1, va_K.moved (u := U) (U := U.calling gf mk a) (Vm.Alike.refl U.vm) h.2.1.2⟩, q_X.to (s := U) (U := U.calling gf mk a) (State.WarmedH.refl U) (fun _ _ _ => rfl) h.2.2⟩
theorem q_xofb {l : Launch} {g : q_G} {K : Nat → Nat} {L : List Nat} {y : MethodName} {cc : ByteArray} {mL : Nat} {ret : Option FieldType} {fr lo mc ms : Nat} {As : List Value} {f : Nat → va_E} {w : q_Ws} {Po : Option Value → (Nat → va_E) → Prop} {Ex : String → (Nat → va_E) → Prop}
    (hy : plainName y.cls = true) (hN : L.Nodup) (hT : q_Ty g K L f) (hlen : (lg_sl As).length ≤ mL)
    (body : ∀ (p : Program) (e : Env) (s : State) (m : MethodId) (below : List Frame) (meth : Method) (c : Code) (ls : Array Slot), CallFix p m c cc mL s As.toArray q_al y.cls → meth.sig.returnType = ret → meth.locks = false → (∀ x ∈ c.exceptionTable.toList, False) → q_X (fun q => q ∈ L) s → q_B g K L (fun q => q ∈ L) w f f s s.heap [] → lv_has ls mL (lv_args 0 As) →
      W p l e { frames := fr, cells := mc, slots := ms, locals := lo } s m As.toArray below meth c s.heap [] 0 0 (vx_MQ below (q_Q g K L w f Po) (q_XC g K L w f Ex) As.toArray s mc ms (fun q => q ∈ L)) (F0 m 0 ls [])) : q_Xt l g K L y cc mL ret fr lo mc ms As f w Po Ex := by
  refine vx_ofW (cc := cc) (maxL := mL) (ret := ret) hy rfl ?_
  intro p e s m args below meth c s₁ B hml htab hv
  obtain ⟨rfl, ⟨hP, hK⟩, hX⟩ := hv
  have hts := atoms_spec (ws := Cond.code y cc mL ret :: q_al) B.pre
  have hl := lv_entry As (n := mL) hlen
  rw [lg_entry_eq]
  exact body p e s m below meth c _ ⟨B.exec, B.bytes, hml, findClass_of_methodNamed B.named, fun w hw => hts w (List.mem_cons_of_mem _ hw)⟩ B.returns B.notSynchronized htab hX
    ⟨⟨hP, q_nodup_D hN (fun a ha => ha), hK, va_S.rf⟩, hT, q_Fr.rf⟩ hl
theorem q_wofb {l : Launch} {g : q_G} {K : Nat → Nat} {L : List Nat} {y : MethodName} {cc : ByteArray} {mL : Nat} {ret : Option FieldType} {hh : List (Nat × Nat × Nat × Nat)} {fr lo mc ms : Nat} {As : List Value} {f : Nat → va_E} {w : q_Ws} {Po : Option Value → (Nat → va_E) → Prop}
    (hy : plainName y.cls = true) (hN : L.Nodup) (hT : q_Ty g K L f) (hlen : (lg_sl As).length ≤ mL)
    (body : ∀ (p : Program) (e : Env) (s : State) (m : MethodId) (below : List Frame) (meth : Method) (c : Code) (ls : Array Slot), CallFix p m c cc mL s As.toArray q_al y.cls → meth.sig.returnType = ret → meth.locks = false → c.exceptionTable.toList = tableOf hh → q_X (fun q => q ∈ L) s → q_B g K L (fun q => q ∈ L) w f f s s.heap [] → lv_has ls mL (lv_args 0 As) →
      W p l e { frames := fr, cells := mc, slots := ms, locals := lo } s m As.toArray below meth c s.heap [] 0 0 (MQ below (q_Q g K L w f Po) As.toArray s mc ms (fun q => q ∈ L)) (F0 m 0 ls [])) : q_Wt l g K L y cc mL ret hh fr lo mc ms As f w Po := by
  unfold q_Wt Met
  refine MetFree.of_bodyS (code := cc) (maxLocals := mL) (ret := ret) hy ?_ ?_
  · intro args s m h hn
    obtain ⟨m9, meth, c, hn9, h1, h2, h3, h4, -, h5, h6, -⟩ := Cond.codeWith_spec (atoms_spec (ws := Cond.codeWith y cc mL ret hh :: q_al) h _ List.mem_cons_self)
    cases hn.symm.trans hn9
    exact ⟨meth, c, h1, h2, h3, h4, h5, h6⟩
  · intro p e s m args below meth c s₁ B hml hv _
    have hh0 : s₁.heap = s.heap := by rw [B.state]; rfl
    obtain ⟨rfl, ⟨hP, hK⟩, hX⟩ := hv
    have hts := atoms_spec (ws := Cond.codeWith y cc mL ret hh :: q_al) B.pre
    have htab := vx_table (x := y) B (hts _ List.mem_cons_self)
    have hl := lv_entry As (n := mL) hlen
    have k := body p e s m below meth c _ ⟨B.exec, B.bytes, hml, findClass_of_methodNamed B.named, fun w hw => hts w (List.mem_cons_of_mem _ hw)⟩ B.returns B.notSynchronized htab hX
      ⟨⟨hP, q_nodup_D hN (fun a ha => ha), hK, va_S.rf⟩, hT, q_Fr.rf⟩ hl
    rw [← lg_entry_eq] at k
    obtain ⟨t, a1, o, b1, b2, b3⟩ := k s₁ hh0 (Stand.of_body B)
    exact ⟨t, o, a1, b1, b2, ⟨b3.1, b3.2⟩⟩
section QX
variable {p : Program} {l : Launch} {e : Env} {R : Room} {s : State} {m : MethodId} {args : Array Value} {below : List Frame} {meth : Method} {c : Code} {H : Heap} {locs : List Loc} {cells slots : Nat} {Q : State → Prop}
variable {cc : ByteArray} {pc nL : Nat} {ls : Array Slot} {rest : List Value} {own : String}
variable {g : q_G} {K : Nat → Nat} {L : List Nat} {A : Nat → Prop} {w : q_Ws} {f0 f : Nat → va_E} {Po : Option Value → (Nat → va_E) → Prop} {Ex Ex1 : String → (Nat → va_E) → Prop}
/-- the end by an exception E, seen from the state t -/
theorem q_xend {E : String} (hB : q_B g K L (fun q => q ∈ L) w f0 f s H locs) (hp : Ex E f) {t : State} (hvm : s.vm.Alike t.vm) (hz : H.size ≤ t.heap.size) (hk : ∀ q : Nat, q < H.size → t.heap[q]? = H[q]?) : q_XC g K L w f0 Ex E s t := by
  obtain ⟨⟨hP, hD, hK, hS⟩, hT, hF⟩ := hB
  refine ⟨⟨f, hp, hT, hF, hP.kept (fun k q hq => hk q.1 (hP k q hq).lt), va_K.moved hvm hK⟩, Nat.le_trans hS.1 hz, fun q h1 h2 => ?_⟩
  rw [hk q (Nat.lt_of_lt_of_le h1 hS.1)]
  exact hS.2.1 q h1 h2
theorem q_throw {cls text : String} {ik is ic mc ms : Nat} (hfl : l.stackTraces = false) (cx : CallFix p m c cc nL s args q_al RX11) (hlk : meth.locks = false) (htab : ∀ x ∈ c.exceptionTable.toList, False) (hX : q_X (fun q => q ∈ L) s) (hB : q_B g K L (fun q => q ∈ L) w f0 f s H locs) (hls : ls.size = nL)
    (hcls : Bundle.fit cls = true) (hk : Cond.classLink RX11 ik cls ∈ q_al) (hini : Cond.initialized cls ∈ q_al) (hstr : (is, text) ∈ q_xs) (hat : ∀ w ∈ (q_xa ic cls).filter goodWord, w ∈ q_al) (hat2 : ∀ w ∈ q_xb ic cls, w ∈ q_xw) (hot : (Cond.classLink RX11 ik cls :: Cond.initialized cls :: q_xa ic cls).all vx_ot = true)
    (d0 : decode cc pc = .ok (.new ik, 3)) (d3 : decode cc (pc + 3) = .ok (.dup, 1)) (d4 : (decode cc (pc + 4) = .ok (.ldc is, 2) ∧ decode cc (pc + 6) = .ok (.invokespecial ic, 3) ∧ decode cc (pc + 9) = .ok (.athrow, 1)) ∨ (decode cc (pc + 4) = .ok (.ldc_w is, 3) ∧ decode cc (pc + 7) = .ok (.invokespecial ic, 3) ∧ decode cc (pc + 10) = .ok (.athrow, 1)))
    (hR : 5 < R.frames ∧ (rest.map fun v => v.category).sum + 82 ≤ R.locals ∧ cells + 1 ≤ R.cells ∧ slots + 6 ≤ R.slots) (hm : cells + 1 ≤ mc ∧ slots + 6 ≤ ms) (hp : Ex cls f) :
    W p l e R s m args below meth c H locs cells slots (vx_MQ below (q_Q g K L w f0 Po) (q_XC g K L w f0 Ex) args s mc ms (fun q => q ∈ L)) (F0 m pc ls rest) := by
  obtain ⟨sa, hsa⟩ := hX.2.2.1 _ hstr
  have hts := cx.2.2.2.2
  have hat9 : ∀ w ∈ vx_atS RX11 ic cls q_xn, w.before args s = true := vx_hat (B := q_xw) (fun w hw => hts w (hat w hw)) hat2 (fun w hw => va_Nw.use (by
    have := List.all_eq_true.mp q_xw_cd w hw
    cases w <;> first | rfl | (simp [q_cd] at this)) (hX.2.2.2.1 w hw))
  have hS := hB.1.2.2.2
  have hx : ∀ t : State, s.vm.Alike t.vm → H.size ≤ t.heap.size → (∀ q : Nat, q < H.size → t.heap[q]? = H[q]?) → q_XC g K L w f0 Ex cls s t := fun t h1 h2 h3 => q_xend hB hp h1 h2 h3
  have hn : ∀ n ∈ q_xn, Bundle.fit n = true := by decide +kernel
  rcases d4 with ⟨d4, d6, d9⟩ | ⟨d4, d7, d10⟩
  · exact vx_throwS (names := q_xn) cx.1 cx.2.1 hfl cx.2.2.2.1 hcls hn (hts _ hk) (hts _ hini) hsa hat9 (fun w hw => List.all_eq_true.mp hot w hw) hX.1 hX.2.1 hS (hls.trans cx.2.2.1.symm) d0 d3 d4 d6 d9 (fun x hx => (htab x hx).elim) hR.1 hR.2.1 hR.2.2.1 hR.2.2.2 hlk hx hS.2.2 hm.1 hm.2
  · exact vx_throwSW (names := q_xn) cx.1 cx.2.1 hfl cx.2.2.2.1 hcls hn (hts _ hk) (hts _ hini) hsa hat9 (fun w hw => List.all_eq_true.mp hot w hw) hX.1 hX.2.1 hS (hls.trans cx.2.2.1.symm) d0 d3 d4 d7 d10 (fun x hx => (htab x hx).elim) hR.1 hR.2.1 hR.2.2.1 hR.2.2.2 hlk hx hS.2.2 hm.1 hm.2
theorem q_xafter {w' : q_Ws} {E : String} {st t : State} {locs1 : List Loc} (hB : q_B g K L A w f0 f s H locs) (hLA : ∀ q, q ∈ L → A q) (hsub : q_wsub w' w = true) (hN : L.Nodup) (h0 : st.heap = H) (hl : ∀ q ∈ locs1, A q.base) (hq : q_XC g K L w' f Ex E st t) :
    ∃ f1, Ex E f1 ∧ q_Fr w' K L f f1 ∧ q_B g K L A w f0 f1 s t.heap locs1 := by
  obtain ⟨⟨f1, hp, hT1, hF1, hP1, hK1⟩, hz, hk⟩ := hq
  obtain ⟨⟨hP, hD, hK, hS⟩, hT, hF⟩ := hB
  rw [h0] at hz hk
  refine ⟨f1, hp, hF1, ⟨hP1, q_nodup_D hN hLA, hK, Nat.le_trans hS.1 hz, fun q h1 h2 => ?_, hl⟩, hT1, hF.tr (hF1.mono hsub)⟩
  rw [hk q (Nat.lt_of_lt_of_le h1 hS.1) (fun h => h2 (hLA q h))]
  exact hS.2.1 q h1 h2
/-- a call of a method that returns or throws -/
theorem q_cXV {y : MethodName} {bytes : ByteArray} {maxL fr lo mc ms n index : Nat} {ret : Option FieldType} {C : String} {b k : Nat} {T : u_T} {N : Nat} {As st0 : List Value} {w' : q_Ws}
    (cx : CallFix p m c cc nL s args q_al own) (hX : q_X (fun q => q ∈ L) s) (hB : q_B g K L A w f0 f s H locs) (hLA : ∀ q, q ∈ L → A q) (hXA : ∀ q, A q → q < s.heap.size → q ∈ L) (hN : L.Nodup) (hb : b ∈ L) (hk : K b = k) (h20 : k < 20) (hcl : vwCl[k]? = some (C, T, N))
    (hM : q_Xt l g K L y bytes maxL ret fr lo mc ms (.ref b :: As) f w' Po Ex) (hwd : ∀ w ∈ wsV own index C y (.code y bytes maxL ret :: q_al), w ∈ q_al)
    (hd : y.cls = C ∧ y.cls ≠ "java/lang/invoke/MethodHandle" ∧ y.cls ≠ "java/lang/invoke/VarHandle" ∧ (parseMethodDescriptor y.desc).map (fun d => d.parameters.length) = some n)
    (hR : (fr + 1 ≤ R.frames ∧ 8 + (maxL + 11) + lo ≤ R.locals) ∧ cells + mc ≤ R.cells ∧ slots + ms ≤ R.slots) (hsub : q_wsub w' w = true) (hn : As.length = n) (hls : ls.size = nL) (hst : st0 = As.reverse ++ .ref b :: rest) (hcat : (rest.map fun v => v.category).sum ≤ 8) (hdg : decode cc pc = .ok (.invokevirtual index, 3))
    (kx : ∀ (E : String) (ce : Cell) (q9 : Addr) (H1 : Heap) (locs1 : List Loc) (f1 : Nat → va_E), Ex E f1 → q_Fr w' K L f f1 → q_B g K L A w f0 f1 s H1 locs1 → H1[q9]? = some ce → ce.vm = .none → s.vm.findClass E = some ce.cls → vx_W p l e R s m args below meth c H1 locs1 (cells + mc) (slots + ms) Q (F0 m pc ls rest) q9)
    (kk : ∀ (v : Option Value) (H1 : Heap) (locs1 : List Loc) (f1 : Nat → va_E), Po v f1 → q_Fr w' K L f f1 → q_B g K L A w f0 f1 s H1 locs1 → W p l e R s m args below meth c H1 locs1 (cells + mc) (slots + ms) Q (F0 m (pc + 3) ls (v.toList ++ rest))) : W p l e R s m args below meth c H locs cells slots Q (F0 m pc ls st0) := by
  obtain ⟨fs, h1, -, -⟩ := q_ty_obj hB.2.1 hb hk h20
  obtain ⟨q0, hq⟩ := q_plget (f := f) hb
  rw [h1] at hq
  have hS := hB.1.2.2.2
  have hr := vx_runV (e := e) (below := below) (meth := meth) (As := As) (rest := rest) (R := R) (cells := cells) (slots := slots) (locs := locs) (g := F0 m pc ls st0) cx hM (cwV n cx.2.2.2.2 (q_goodA hwd) rfl rfl rfl hd hR.1) ⟨q_blindX, va_recv hB.1.2.2.1 hB.1.1 hcl hq, fun U hU hW => ⟨rfl, ⟨by rw [hU]; exact hB.1.1, va_K.moved hW.alike hB.1.2.2.1⟩, hX.to hW (fun a h1 h2 => by rw [hU]; exact hS.2.1 a h1 (fun h => h2 (hXA a h h1)))⟩⟩ rfl hn hls hst (lv_room hcat) hdg ⟨hR.2.1, hR.2.2⟩
  intro T9 hT9 X9
  rcases hr T9 hT9 X9 with ⟨v, st₀, t, T', L', h0, X', hL, e1, e2, hq9, st⟩ | ⟨q9, st₀, t, T', L', E, ce, h0, X', hL, e1, e2, hxc, hce, hcv, hcl9, st⟩
  · obtain ⟨f1, p1, p2, p3⟩ := q_after hB hLA hsub hN h0 (by rw [← e2]; exact X'.warmed.alike) (locs1 := locs ++ L') (fun q hq => by
      rcases List.mem_append.mp hq with h | h
      · exact hS.2.2 q h
      · exact hLA _ (hL q h)) hq9
    obtain ⟨t2, a1, b1⟩ := kk v t.heap (locs ++ L') f1 p1 p2 p3 T' e1 X'
    exact ⟨t2, st t2 a1, b1⟩
  · obtain ⟨f1, p1, p2, p3⟩ := q_xafter hB hLA hsub hN h0 (locs1 := locs ++ L') (fun q hq => by
      rcases List.mem_append.mp hq with h | h
      · exact hS.2.2 q h
      · exact hLA _ (hL q h)) hxc
    obtain ⟨t2, a1, b1⟩ := kx E ce q9 t.heap (locs ++ L') f1 p1 p2 p3 hce hcv hcl9 T' e1 X'
    exact ⟨t2, st.trans a1, b1⟩
/-- a thrown exception goes on to the caller -/
theorem q_xout {E : String} {ce : Cell} {q9 : Addr} {mc ms : Nat} (hlk : meth.locks = false) (htab : ∀ x ∈ c.exceptionTable.toList, False) (hB : q_B g K L (fun q => q ∈ L) w f0 f s H locs) (hcell : H[q9]? = some ce) (hv : ce.vm = .none) (hcl : s.vm.findClass E = some ce.cls) (hm : cells ≤ mc ∧ slots ≤ ms) (hp : Ex E f) :
    vx_W p l e R s m args below meth c H locs cells slots (vx_MQ below (q_Q g K L w f0 Po) (q_XC g K L w f0 Ex) args s mc ms (fun q => q ∈ L)) (F0 m pc ls rest) q9 :=
  vx_out (fun x hx => (htab x hx).elim) hlk hcell hv hcl (fun t ht hvm => q_xend hB hp hvm (by rw [ht]; exact Nat.le_refl _) (fun q _ => by rw [ht])) hB.1.2.2.2.2.2 hm.1 hm.2
/-- a static call of one who catches -/
theorem q_cWS {y : MethodName} {bytes : ByteArray} {maxL fr lo mc ms n index : Nat} {ret : Option FieldType} {hh : List (Nat × Nat × Nat × Nat)} {As st0 : List Value} {w' : q_Ws}
    (cx : CallFix p m c cc nL s args q_al own) (hX : q_X (fun q => q ∈ L) s) (hB : q_B g K L A w f0 f s H locs) (hLA : ∀ q, q ∈ L → A q) (hXA : ∀ q, A q → q < s.heap.size → q ∈ L) (hN : L.Nodup)
    (hM : q_Wt l g K L y bytes maxL ret hh fr lo mc ms As f w' Po) (hwd : ∀ w ∈ va_wsS own index y (.codeWith y bytes maxL ret hh :: q_al), w ∈ q_al)
    (hd : y.cls ≠ "java/lang/invoke/MethodHandle" ∧ y.cls ≠ "java/lang/invoke/VarHandle" ∧ (parseMethodDescriptor y.desc).map (fun d => d.parameters.length) = some n)
    (hR : (fr + 1 ≤ R.frames ∧ 8 + (maxL + 11) + lo ≤ R.locals) ∧ cells + mc ≤ R.cells ∧ slots + ms ≤ R.slots) (hsub : q_wsub w' w = true) (hn : As.length = n) (hls : ls.size = nL) (hst : st0 = As.reverse ++ rest) (hcat : (rest.map fun v => v.category).sum ≤ 8) (hdg : decode cc pc = .ok (.invokestatic index, 3))
    (kk : ∀ (v : Option Value) (H1 : Heap) (locs1 : List Loc) (f1 : Nat → va_E), Po v f1 → q_Fr w' K L f f1 → q_B g K L A w f0 f1 s H1 locs1 → W p l e R s m args below meth c H1 locs1 (cells + mc) (slots + ms) Q (F0 m (pc + 3) ls (v.toList ++ rest))) : W p l e R s m args below meth c H locs cells slots Q (F0 m pc ls st0) := by
  have hS := hB.1.2.2.2
  have hr := vx_runSW (e := e) (below := below) (meth := meth) (As := As) (rest := rest) (R := R) (cells := cells) (slots := slots) (locs := locs) (g := F0 m pc ls st0) cx hM (vx_cwSW n cx.2.2.2.2 (q_goodA hwd) rfl rfl rfl hd hR.1) ⟨q_blindX, fun U hU hW => ⟨rfl, ⟨by rw [hU]; exact hB.1.1, va_K.moved hW.alike hB.1.2.2.1⟩, hX.to hW (fun a h1 h2 => by rw [hU]; exact hS.2.1 a h1 (fun h => h2 (hXA a h h1)))⟩⟩ rfl hn hls hst (lv_room hcat) hdg ⟨hR.2.1, hR.2.2⟩
  intro T9 hT9 X9
  obtain ⟨v, st₀, t, T', L', h0, X', hL, e1, e2, hq9, st⟩ := hr T9 hT9 X9
  obtain ⟨f1, p1, p2, p3⟩ := q_after hB hLA hsub hN h0 (by rw [← e2]; exact X'.warmed.alike) (locs1 := locs ++ L') (fun q hq => by
      rcases List.mem_append.mp hq with h | h
      · exact hS.2.2 q h
      · exact hLA _ (hL q h)) hq9
  obtain ⟨t2, a1, b1⟩ := kk v t.heap (locs ++ L') f1 p1 p2 p3 T' e1 X'
  exact ⟨t2, st t2 a1, b1⟩
end QX
end
section
theorem q_h421 : Cond.fieldLink RX10 13 (TX10 0).1 (TX10 0).2.1 (TX10 0).2.2.1 ∈ q_al := q_ali 421 (by decide +kernel) (by decide +kernel)
theorem q_h454 : Cond.laysFinal RX10 (TX10 0).1 (TX10 0).2.1 (TX10 0).2.2.1 ∈ q_al := q_ali 454 (by decide +kernel) (by decide +kernel)
theorem q_h456 : Cond.laysFinal RX10 (TX10 1).1 (TX10 1).2.1 (TX10 1).2.2.1 ∈ q_al := q_ali 456 (by decide +kernel) (by decide +kernel)
theorem q_h458 : Cond.laysFinal RX10 (TX10 2).1 (TX10 2).2.1 (TX10 2).2.2.1 ∈ q_al := q_ali 458 (by decide +kernel) (by decide +kernel)
theorem q_h460 : Cond.lays RX10 (TX10 3).1 (TX10 3).2.1 (TX10 3).2.2.1 ∈ q_al := q_ali 460 (by decide +kernel) (by decide +kernel)
theorem q_h462 : Cond.lays RX10 (TX10 4).1 (TX10 4).2.1 (TX10 4).2.2.1 ∈ q_al := q_ali 462 (by decide +kernel) (by decide +kernel)
theorem q_h464 : Cond.lays RX10 (TX10 5).1 (TX10 5).2.1 (TX10 5).2.2.1 ∈ q_al := q_ali 464 (by decide +kernel) (by decide +kernel)
theorem q_h466 : Cond.lays RX10 (TX10 6).1 (TX10 6).2.1 (TX10 6).2.2.1 ∈ q_al := q_ali 466 (by decide +kernel) (by decide +kernel)
theorem q_h468 : Cond.lays RX10 (TX10 7).1 (TX10 7).2.1 (TX10 7).2.2.1 ∈ q_al := q_ali 468 (by decide +kernel) (by decide +kernel)
theorem q_h470 : Cond.lays RX10 (TX10 8).1 (TX10 8).2.1 (TX10 8).2.2.1 ∈ q_al := q_ali 470 (by decide +kernel) (by decide +kernel)
theorem q_h472 : Cond.lays RX10 (TX10 9).1 (TX10 9).2.1 (TX10 9).2.2.1 ∈ q_al := q_ali 472 (by decide +kernel) (by decide +kernel)
theorem q_h474 : Cond.lays RX10 (TX10 10).1 (TX10 10).2.1 (TX10 10).2.2.1 ∈ q_al := q_ali 474 (by decide +kernel) (by decide +kernel)
theorem q_h476 : Cond.lays RX10 (TX10 11).1 (TX10 11).2.1 (TX10 11).2.2.1 ∈ q_al := q_ali 476 (by decide +kernel) (by decide +kernel)
theorem q_h478 : Cond.lays RX10 (TX10 12).1 (TX10 12).2.1 (TX10 12).2.2.1 ∈ q_al := q_ali 478 (by decide +kernel) (by decide +kernel)
theorem q_h480 : Cond.lays RX10 (TX10 13).1 (TX10 13).2.1 (TX10 13).2.2.1 ∈ q_al := q_ali 480 (by decide +kernel) (by decide +kernel)
theorem q_h482 : Cond.lays RX10 (TX10 14).1 (TX10 14).2.1 (TX10 14).2.2.1 ∈ q_al := q_ali 482 (by decide +kernel) (by decide +kernel)
theorem q_h484 : Cond.lays RX10 (TX10 15).1 (TX10 15).2.1 (TX10 15).2.2.1 ∈ q_al := q_ali 484 (by decide +kernel) (by decide +kernel)
theorem q_inX10 : ∀ w ∈ u_ws RX10 TX10 16, w ∈ q_al := q_cons q_h454 (q_cons q_h456 (q_cons q_h458 (q_cons q_h460 (q_cons q_h462 (q_cons q_h464 (q_cons q_h466 (q_cons q_h468 (q_cons q_h470 (q_cons q_h472 (q_cons q_h474 (q_cons q_h476 (q_cons q_h478 (q_cons q_h480 (q_cons q_h482 (q_cons q_h484 (q_nil))))))))))))))))
theorem q_h422 : Cond.fieldLink RX10 19 (TX10 1).1 (TX10 1).2.1 (TX10 1).2.2.1 ∈ q_al := q_ali 422 (by decide +kernel) (by decide +kernel)
theorem q_h423 : Cond.fieldLink RX10 25 (TX10 2).1 (TX10 2).2.1 (TX10 2).2.2.1 ∈ q_al := q_ali 423 (by decide +kernel) (by decide +kernel)
theorem q_h574 : Cond.methodLink RX10 66 yX10_nodeAt ∈ q_al := q_ali 574 (by decide +kernel) (by decide +kernel)
theorem q_h577 : Cond.code yX10_nodeAt cX10_nodeAt 2 (some (.object "WakeVillage$Node")) ∈ q_al := q_ali 577 (by decide +kernel) (by decide +kernel)
theorem q_h141 : Cond.initialized RX10 ∈ q_al := q_ali 141 (by decide +kernel) (by decide +kernel)
theorem q_h575 : Cond.instanceMethod yX10_nodeAt ∈ q_al := q_ali 575 (by decide +kernel) (by decide +kernel)
theorem q_h576 : Cond.selects RX10 yX10_nodeAt yX10_nodeAt ∈ q_al := q_ali 576 (by decide +kernel) (by decide +kernel)
theorem q_h319 : Cond.fieldLink RX10 101 (TX5 4).1 (TX5 4).2.1 (TX5 4).2.2.1 ∈ q_al := q_ali 319 (by decide +kernel) (by decide +kernel)
theorem q_h330 : Cond.lays RX5 (TX5 0).1 (TX5 0).2.1 (TX5 0).2.2.1 ∈ q_al := q_ali 330 (by decide +kernel) (by decide +kernel)
theorem q_h332 : Cond.lays RX5 (TX5 1).1 (TX5 1).2.1 (TX5 1).2.2.1 ∈ q_al := q_ali 332 (by decide +kernel) (by decide +kernel)
theorem q_h334 : Cond.lays RX5 (TX5 2).1 (TX5 2).2.1 (TX5 2).2.2.1 ∈ q_al := q_ali 334 (by decide +kernel) (by decide +kernel)
theorem q_h336 : Cond.lays RX5 (TX5 3).1 (TX5 3).2.1 (TX5 3).2.2.1 ∈ q_al := q_ali 336 (by decide +kernel) (by decide +kernel)
theorem q_h338 : Cond.lays RX5 (TX5 4).1 (TX5 4).2.1 (TX5 4).2.2.1 ∈ q_al := q_ali 338 (by decide +kernel) (by decide +kernel)
theorem q_h340 : Cond.lays RX5 (TX5 5).1 (TX5 5).2.1 (TX5 5).2.2.1 ∈ q_al := q_ali 340 (by decide +kernel) (by decide +kernel)
theorem q_h342 : Cond.lays RX5 (TX5 6).1 (TX5 6).2.1 (TX5 6).2.2.1 ∈ q_al := q_ali 342 (by decide +kernel) (by decide +kernel)
theorem q_h344 : Cond.lays RX5 (TX5 7).1 (TX5 7).2.1 (TX5 7).2.2.1 ∈ q_al := q_ali 344 (by decide +kernel) (by decide +kernel)
theorem q_h346 : Cond.lays RX5 (TX5 8).1 (TX5 8).2.1 (TX5 8).2.2.1 ∈ q_al := q_ali 346 (by decide +kernel) (by decide +kernel)
theorem q_h348 : Cond.lays RX5 (TX5 9).1 (TX5 9).2.1 (TX5 9).2.2.1 ∈ q_al := q_ali 348 (by decide +kernel) (by decide +kernel)
theorem q_inX5 : ∀ w ∈ u_ws RX5 TX5 10, w ∈ q_al := q_cons q_h330 (q_cons q_h332 (q_cons q_h334 (q_cons q_h336 (q_cons q_h338 (q_cons q_h340 (q_cons q_h342 (q_cons q_h344 (q_cons q_h346 (q_cons q_h348 (q_nil))))))))))
theorem q_h434 : Cond.fieldLink RX10 45 (TX10 6).1 (TX10 6).2.1 (TX10 6).2.2.1 ∈ q_al := q_ali 434 (by decide +kernel) (by decide +kernel)
theorem q_h447 : Cond.fieldLink RX10 60 (TX10 11).1 (TX10 11).2.1 (TX10 11).2.2.1 ∈ q_al := q_ali 447 (by decide +kernel) (by decide +kernel)
theorem q_h313 : Cond.fieldLink RX10 98 (TX5 3).1 (TX5 3).2.1 (TX5 3).2.2.1 ∈ q_al := q_ali 313 (by decide +kernel) (by decide +kernel)
theorem q_h613 : Cond.methodLink RX10 156 yX10_dayOfYear ∈ q_al := q_ali 613 (by decide +kernel) (by decide +kernel)
theorem q_h616 : Cond.code yX10_dayOfYear cX10_dayOfYear 2 (some .int) ∈ q_al := q_ali 616 (by decide +kernel) (by decide +kernel)
theorem q_h614 : Cond.instanceMethod yX10_dayOfYear ∈ q_al := q_ali 614 (by decide +kernel) (by decide +kernel)
theorem q_h615 : Cond.selects RX10 yX10_dayOfYear yX10_dayOfYear ∈ q_al := q_ali 615 (by decide +kernel) (by decide +kernel)
theorem q_h308 : Cond.fieldLink RX10 92 (TX5 1).1 (TX5 1).2.1 (TX5 1).2.2.1 ∈ q_al := q_ali 308 (by decide +kernel) (by decide +kernel)
theorem q_h310 : Cond.fieldLink RX10 95 (TX5 2).1 (TX5 2).2.1 (TX5 2).2.2.1 ∈ q_al := q_ali 310 (by decide +kernel) (by decide +kernel)
theorem q_h424 : Cond.fieldLink RX10 35 (TX10 3).1 (TX10 3).2.1 (TX10 3).2.2.1 ∈ q_al := q_ali 424 (by decide +kernel) (by decide +kernel)
theorem q_h321 : Cond.fieldLink RX10 104 (TX5 5).1 (TX5 5).2.1 (TX5 5).2.2.1 ∈ q_al := q_ali 321 (by decide +kernel) (by decide +kernel)
theorem q_h610 : Cond.methodLink RX10 181 yX10_has ∈ q_al := q_ali 610 (by decide +kernel) (by decide +kernel)
theorem q_h612 : Cond.code yX10_has cX10_has 2 (some .boolean) ∈ q_al := q_ali 612 (by decide +kernel) (by decide +kernel)
theorem q_h611 : Cond.static yX10_has ∈ q_al := q_ali 611 (by decide +kernel) (by decide +kernel)
theorem q_h602 : Cond.methodLink RX10 160 yX10_isOut ∈ q_al := q_ali 602 (by decide +kernel) (by decide +kernel)
theorem q_h605 : Cond.code yX10_isOut cX10_isOut 2 (some .boolean) ∈ q_al := q_ali 605 (by decide +kernel) (by decide +kernel)
theorem q_h603 : Cond.instanceMethod yX10_isOut ∈ q_al := q_ali 603 (by decide +kernel) (by decide +kernel)
theorem q_h604 : Cond.selects RX10 yX10_isOut yX10_isOut ∈ q_al := q_ali 604 (by decide +kernel) (by decide +kernel)
theorem q_h606 : Cond.methodLink RX10 174 yX10_tableOf ∈ q_al := q_ali 606 (by decide +kernel) (by decide +kernel)
theorem q_h609 : Cond.code yX10_tableOf cX10_tableOf 6 (some .long) ∈ q_al := q_ali 609 (by decide +kernel) (by decide +kernel)
theorem q_h607 : Cond.instanceMethod yX10_tableOf ∈ q_al := q_ali 607 (by decide +kernel) (by decide +kernel)
theorem q_h608 : Cond.selects RX10 yX10_tableOf yX10_tableOf ∈ q_al := q_ali 608 (by decide +kernel) (by decide +kernel)
theorem q_h697 : Cond.methodLink RX10 178 yX10_dayOf ∈ q_al := q_ali 697 (by decide +kernel) (by decide +kernel)
theorem q_h700 : Cond.code yX10_dayOf cX10_dayOf 2 (some .int) ∈ q_al := q_ali 700 (by decide +kernel) (by decide +kernel)
theorem q_h698 : Cond.instanceMethod yX10_dayOf ∈ q_al := q_ali 698 (by decide +kernel) (by decide +kernel)
theorem q_h699 : Cond.selects RX10 yX10_dayOf yX10_dayOf ∈ q_al := q_ali 699 (by decide +kernel) (by decide +kernel)
theorem q_h617 : Cond.methodLink RX10 170 yX10_hasDay ∈ q_al := q_ali 617 (by decide +kernel) (by decide +kernel)
theorem q_h619 : Cond.code yX10_hasDay cX10_hasDay 3 (some .boolean) ∈ q_al := q_ali 619 (by decide +kernel) (by decide +kernel)
theorem q_h618 : Cond.static yX10_hasDay ∈ q_al := q_ali 618 (by decide +kernel) (by decide +kernel)
end
section
section QR
variable {p : Program} {l : Launch} {e : Env} {R : Room} {s : State} {m : MethodId} {args : Array Value} {below : List Frame} {meth : Method} {c : Code} {H : Heap} {locs : List Loc} {cells slots : Nat} {Q : State → Prop}
variable {cc : ByteArray} {pc nL : Nat} {ls : Array Slot} {rest : List Value} {g : q_G} {K : Nat → Nat} {L : List Nat} {A : Nat → Prop} {w : q_Ws} {f0 f : Nat → va_E} {a : Nat}
theorem q_gX10_13 {b : Nat} (cx : CallFix p m c cc nL s args q_al RX10) (hB : q_B g K L A w f0 f s H locs) (ha : a ∈ L) (hk : K a = 10) (hv : q_r f a 0 = b) (hdg : decode cc pc = .ok (.getfield 13, 3)) (kk : b ∈ L → K b = 21 → W p l e R s m args below meth c H locs cells slots Q (F0 m (pc + 3) ls (.ref b :: rest))) : W p l e R s m args below meth c H locs cells slots Q (F0 m pc ls (.ref a :: rest)) := q_getr (k2 := 21) cx hB ha hk (by decide) rfl rfl q_inX10 (by decide) q_h421 hv hdg kk
theorem q_gX10_19 {b : Nat} (cx : CallFix p m c cc nL s args q_al RX10) (hB : q_B g K L A w f0 f s H locs) (ha : a ∈ L) (hk : K a = 10) (hv : q_r f a 1 = b) (hdg : decode cc pc = .ok (.getfield 19, 3)) (kk : b ∈ L → K b = 22 → W p l e R s m args below meth c H locs cells slots Q (F0 m (pc + 3) ls (.ref b :: rest))) : W p l e R s m args below meth c H locs cells slots Q (F0 m pc ls (.ref a :: rest)) := q_getr (k2 := 22) cx hB ha hk (by decide) rfl rfl q_inX10 (by decide) q_h422 hv hdg kk
theorem q_gX10_25 {b : Nat} (cx : CallFix p m c cc nL s args q_al RX10) (hB : q_B g K L A w f0 f s H locs) (ha : a ∈ L) (hk : K a = 10) (hv : q_r f a 2 = b) (hdg : decode cc pc = .ok (.getfield 25, 3)) (kk : b ∈ L → K b = 23 → W p l e R s m args below meth c H locs cells slots Q (F0 m (pc + 3) ls (.ref b :: rest))) : W p l e R s m args below meth c H locs cells slots Q (F0 m pc ls (.ref a :: rest)) := q_getr (k2 := 23) cx hB ha hk (by decide) rfl rfl q_inX10 (by decide) q_h423 hv hdg kk
theorem q_cX10_66 : ∀ w ∈ wsV RX10 66 RX10 yX10_nodeAt (.code yX10_nodeAt cX10_nodeAt 2 (some (.object "WakeVillage$Node")) :: q_al), w ∈ q_al := q_cons q_h574 (q_cons q_h575 (q_cons q_h576 (q_cons q_h141 (q_cons q_h577 q_self))))
theorem q_dX10_nodeAt : yX10_nodeAt.cls = RX10 ∧ yX10_nodeAt.cls ≠ "java/lang/invoke/MethodHandle" ∧ yX10_nodeAt.cls ≠ "java/lang/invoke/VarHandle" ∧ (parseMethodDescriptor yX10_nodeAt.desc).map (fun d => d.parameters.length) = some 1 := by decide +kernel
theorem q_gX10_101 {x : Int} (cx : CallFix p m c cc nL s args q_al RX10) (hB : q_B g K L A w f0 f s H locs) (ha : a ∈ L) (hk : K a = 5) (hv : q_z f a 4 = x) (hdg : decode cc pc = .ok (.getfield 101, 3)) (kk : (-2147483648) ≤ x → x ≤ 2147483647 → W p l e R s m args below meth c H locs cells slots Q (F0 m (pc + 3) ls (.int (q_i x) :: rest))) : W p l e R s m args below meth c H locs cells slots Q (F0 m pc ls (.ref a :: rest)) := q_geti cx hB ha hk (by decide) rfl rfl q_inX5 (by decide) q_h319 hv hdg kk
theorem q_gX10_45 {x : Int} (cx : CallFix p m c cc nL s args q_al RX10) (hB : q_B g K L A w f0 f s H locs) (ha : a ∈ L) (hk : K a = 10) (hv : q_z f a 6 = x) (hdg : decode cc pc = .ok (.getfield 45, 3)) (kk : 4 ≤ x → x ≤ 60 → W p l e R s m args below meth c H locs cells slots Q (F0 m (pc + 3) ls (.int (q_i x) :: rest))) : W p l e R s m args below meth c H locs cells slots Q (F0 m pc ls (.ref a :: rest)) := q_geti cx hB ha hk (by decide) rfl rfl q_inX10 (by decide) q_h434 hv hdg kk
theorem q_gX10_60 {x : Int} (cx : CallFix p m c cc nL s args q_al RX10) (hB : q_B g K L A w f0 f s H locs) (ha : a ∈ L) (hk : K a = 10) (hv : q_z f a 11 = x) (hdg : decode cc pc = .ok (.getfield 60, 3)) (kk : (-2147483648) ≤ x → x ≤ 2147483647 → W p l e R s m args below meth c H locs cells slots Q (F0 m (pc + 3) ls (.int (q_i x) :: rest))) : W p l e R s m args below meth c H locs cells slots Q (F0 m pc ls (.ref a :: rest)) := q_geti cx hB ha hk (by decide) rfl rfl q_inX10 (by decide) q_h447 hv hdg kk
theorem q_gX10_98 {x : Int} (cx : CallFix p m c cc nL s args q_al RX10) (hB : q_B g K L A w f0 f s H locs) (ha : a ∈ L) (hk : K a = 5) (hv : q_z f a 3 = x) (hdg : decode cc pc = .ok (.getfield 98, 3)) (kk : (-2147483648) ≤ x → x ≤ 2147483647 → W p l e R s m args below meth c H locs cells slots Q (F0 m (pc + 3) ls (.int (q_i x) :: rest))) : W p l e R s m args below meth c H locs cells slots Q (F0 m pc ls (.ref a :: rest)) := q_geti cx hB ha hk (by decide) rfl rfl q_inX5 (by decide) q_h313 hv hdg kk
theorem q_cX10_156 : ∀ w ∈ wsV RX10 156 RX10 yX10_dayOfYear (.code yX10_dayOfYear cX10_dayOfYear 2 (some .int) :: q_al), w ∈ q_al := q_cons q_h613 (q_cons q_h614 (q_cons q_h615 (q_cons q_h141 (q_cons q_h616 q_self))))
theorem q_dX10_dayOfYear : yX10_dayOfYear.cls = RX10 ∧ yX10_dayOfYear.cls ≠ "java/lang/invoke/MethodHandle" ∧ yX10_dayOfYear.cls ≠ "java/lang/invoke/VarHandle" ∧ (parseMethodDescriptor yX10_dayOfYear.desc).map (fun d => d.parameters.length) = some 1 := by decide +kernel
theorem q_gX10_92 {x : Int64} (cx : CallFix p m c cc nL s args q_al RX10) (hB : q_B g K L A w f0 f s H locs) (ha : a ∈ L) (hk : K a = 5) (hv : q_j f a 1 = x) (hdg : decode cc pc = .ok (.getfield 92, 3)) (kk : W p l e R s m args below meth c H locs cells slots Q (F0 m (pc + 3) ls (.long x :: rest))) : W p l e R s m args below meth c H locs cells slots Q (F0 m pc ls (.ref a :: rest)) := q_getl cx hB ha hk (by decide) rfl rfl q_inX5 (by decide) q_h308 hv hdg kk
theorem q_gX10_95 {x : Int} (cx : CallFix p m c cc nL s args q_al RX10) (hB : q_B g K L A w f0 f s H locs) (ha : a ∈ L) (hk : K a = 5) (hv : q_z f a 2 = x) (hdg : decode cc pc = .ok (.getfield 95, 3)) (kk : (-2147483648) ≤ x → x ≤ 2147483647 → W p l e R s m args below meth c H locs cells slots Q (F0 m (pc + 3) ls (.int (q_i x) :: rest))) : W p l e R s m args below meth c H locs cells slots Q (F0 m pc ls (.ref a :: rest)) := q_geti cx hB ha hk (by decide) rfl rfl q_inX5 (by decide) q_h310 hv hdg kk
theorem q_gX10_35 {x : Int} (cx : CallFix p m c cc nL s args q_al RX10) (hB : q_B g K L A w f0 f s H locs) (ha : a ∈ L) (hk : K a = 10) (hv : q_z f a 3 = x) (hdg : decode cc pc = .ok (.getfield 35, 3)) (kk : (-2147483648) ≤ x → x ≤ 2147483647 → W p l e R s m args below meth c H locs cells slots Q (F0 m (pc + 3) ls (.int (q_i x) :: rest))) : W p l e R s m args below meth c H locs cells slots Q (F0 m pc ls (.ref a :: rest)) := q_geti cx hB ha hk (by decide) rfl rfl q_inX10 (by decide) q_h424 hv hdg kk
theorem q_gX10_104 {x : Int} (cx : CallFix p m c cc nL s args q_al RX10) (hB : q_B g K L A w f0 f s H locs) (ha : a ∈ L) (hk : K a = 5) (hv : q_z f a 5 = x) (hdg : decode cc pc = .ok (.getfield 104, 3)) (kk : (-2147483648) ≤ x → x ≤ 2147483647 → W p l e R s m args below meth c H locs cells slots Q (F0 m (pc + 3) ls (.int (q_i x) :: rest))) : W p l e R s m args below meth c H locs cells slots Q (F0 m pc ls (.ref a :: rest)) := q_geti cx hB ha hk (by decide) rfl rfl q_inX5 (by decide) q_h321 hv hdg kk
theorem q_cX10_181 : ∀ w ∈ va_wsS RX10 181 yX10_has (.code yX10_has cX10_has 2 (some .boolean) :: q_al), w ∈ q_al := q_cons q_h610 (q_cons q_h611 (q_cons q_h141 (q_cons q_h612 q_self)))
theorem q_dX10_has : yX10_has.cls ≠ "java/lang/invoke/MethodHandle" ∧ yX10_has.cls ≠ "java/lang/invoke/VarHandle" ∧ (parseMethodDescriptor yX10_has.desc).map (fun d => d.parameters.length) = some 2 := by decide +kernel
theorem q_cX10_160 : ∀ w ∈ wsV RX10 160 RX10 yX10_isOut (.code yX10_isOut cX10_isOut 2 (some .boolean) :: q_al), w ∈ q_al := q_cons q_h602 (q_cons q_h603 (q_cons q_h604 (q_cons q_h141 (q_cons q_h605 q_self))))
theorem q_dX10_isOut : yX10_isOut.cls = RX10 ∧ yX10_isOut.cls ≠ "java/lang/invoke/MethodHandle" ∧ yX10_isOut.cls ≠ "java/lang/invoke/VarHandle" ∧ (parseMethodDescriptor yX10_isOut.desc).map (fun d => d.parameters.length) = some 1 := by decide +kernel
theorem q_cX10_174 : ∀ w ∈ wsV RX10 174 RX10 yX10_tableOf (.code yX10_tableOf cX10_tableOf 6 (some .long) :: q_al), w ∈ q_al := q_cons q_h606 (q_cons q_h607 (q_cons q_h608 (q_cons q_h141 (q_cons q_h609 q_self))))
theorem q_dX10_tableOf : yX10_tableOf.cls = RX10 ∧ yX10_tableOf.cls ≠ "java/lang/invoke/MethodHandle" ∧ yX10_tableOf.cls ≠ "java/lang/invoke/VarHandle" ∧ (parseMethodDescriptor yX10_tableOf.desc).map (fun d => d.parameters.length) = some 1 := by decide +kernel
theorem q_cX10_178 : ∀ w ∈ wsV RX10 178 RX10 yX10_dayOf (.code yX10_dayOf cX10_dayOf 2 (some .int) :: q_al), w ∈ q_al := q_cons q_h697 (q_cons q_h698 (q_cons q_h699 (q_cons q_h141 (q_cons q_h700 q_self))))
theorem q_dX10_dayOf : yX10_dayOf.cls = RX10 ∧ yX10_dayOf.cls ≠ "java/lang/invoke/MethodHandle" ∧ yX10_dayOf.cls ≠ "java/lang/invoke/VarHandle" ∧ (parseMethodDescriptor yX10_dayOf.desc).map (fun d => d.parameters.length) = some 1 := by decide +kernel
theorem q_cX10_170 : ∀ w ∈ va_wsS RX10 170 yX10_hasDay (.code yX10_hasDay cX10_hasDay 3 (some .boolean) :: q_al), w ∈ q_al := q_cons q_h617 (q_cons q_h618 (q_cons q_h141 (q_cons q_h619 q_self)))
theorem q_dX10_hasDay : yX10_hasDay.cls ≠ "java/lang/invoke/MethodHandle" ∧ yX10_hasDay.cls ≠ "java/lang/invoke/VarHandle" ∧ (parseMethodDescriptor yX10_hasDay.desc).map (fun d => d.parameters.length) = some 2 := by decide +kernel
end QR
theorem dX10_nodeAt_0 : decode cX10_nodeAt 0 = .ok (.aload_n 0, 1) := by decide +kernel
theorem dX10_nodeAt_1 : decode cX10_nodeAt 1 = .ok (.getfield 13, 3) := by decide +kernel
theorem dX10_nodeAt_4 : decode cX10_nodeAt 4 = .ok (.iload_n 1, 1) := by decide +kernel
theorem dX10_nodeAt_5 : decode cX10_nodeAt 5 = .ok (.ifCond .lt 16, 3) := by decide +kernel
theorem dX10_nodeAt_21 : decode cX10_nodeAt 21 = .ok (.iconst 0, 1) := by decide +kernel
theorem dX10_nodeAt_22 : decode cX10_nodeAt 22 = .ok (.aaload, 1) := by decide +kernel
theorem dX10_nodeAt_23 : decode cX10_nodeAt 23 = .ok (.areturn, 1) := by decide +kernel
theorem dX10_nodeAt_8 : decode cX10_nodeAt 8 = .ok (.iload_n 1, 1) := by decide +kernel
theorem dX10_nodeAt_9 : decode cX10_nodeAt 9 = .ok (.aload_n 0, 1) := by decide +kernel
theorem dX10_nodeAt_10 : decode cX10_nodeAt 10 = .ok (.getfield 13, 3) := by decide +kernel
theorem dX10_nodeAt_13 : decode cX10_nodeAt 13 = .ok (.arraylength, 1) := by decide +kernel
theorem dX10_nodeAt_14 : decode cX10_nodeAt 14 = .ok (.if_icmp .ge 7, 3) := by decide +kernel
theorem dX10_nodeAt_17 : decode cX10_nodeAt 17 = .ok (.iload_n 1, 1) := by decide +kernel
theorem dX10_nodeAt_18 : decode cX10_nodeAt 18 = .ok (.goto 4, 3) := by decide +kernel
theorem dX10_linkAt_0 : decode cX10_linkAt 0 = .ok (.aload_n 0, 1) := by decide +kernel
theorem dX10_linkAt_1 : decode cX10_linkAt 1 = .ok (.getfield 19, 3) := by decide +kernel
theorem dX10_linkAt_4 : decode cX10_linkAt 4 = .ok (.iload_n 1, 1) := by decide +kernel
theorem dX10_linkAt_5 : decode cX10_linkAt 5 = .ok (.ifCond .lt 16, 3) := by decide +kernel
theorem dX10_linkAt_21 : decode cX10_linkAt 21 = .ok (.iconst 0, 1) := by decide +kernel
theorem dX10_linkAt_22 : decode cX10_linkAt 22 = .ok (.aaload, 1) := by decide +kernel
theorem dX10_linkAt_23 : decode cX10_linkAt 23 = .ok (.areturn, 1) := by decide +kernel
theorem dX10_linkAt_8 : decode cX10_linkAt 8 = .ok (.iload_n 1, 1) := by decide +kernel
theorem dX10_linkAt_9 : decode cX10_linkAt 9 = .ok (.aload_n 0, 1) := by decide +kernel
theorem dX10_linkAt_10 : decode cX10_linkAt 10 = .ok (.getfield 19, 3) := by decide +kernel
theorem dX10_linkAt_13 : decode cX10_linkAt 13 = .ok (.arraylength, 1) := by decide +kernel
theorem dX10_linkAt_14 : decode cX10_linkAt 14 = .ok (.if_icmp .ge 7, 3) := by decide +kernel
theorem dX10_linkAt_17 : decode cX10_linkAt 17 = .ok (.iload_n 1, 1) := by decide +kernel
theorem dX10_linkAt_18 : decode cX10_linkAt 18 = .ok (.goto 4, 3) := by decide +kernel
theorem dX10_messageAt_0 : decode cX10_messageAt 0 = .ok (.aload_n 0, 1) := by decide +kernel
theorem dX10_messageAt_1 : decode cX10_messageAt 1 = .ok (.getfield 25, 3) := by decide +kernel
theorem dX10_messageAt_4 : decode cX10_messageAt 4 = .ok (.iload_n 1, 1) := by decide +kernel
theorem dX10_messageAt_5 : decode cX10_messageAt 5 = .ok (.ifCond .lt 16, 3) := by decide +kernel
theorem dX10_messageAt_21 : decode cX10_messageAt 21 = .ok (.iconst 0, 1) := by decide +kernel
theorem dX10_messageAt_22 : decode cX10_messageAt 22 = .ok (.aaload, 1) := by decide +kernel
theorem dX10_messageAt_23 : decode cX10_messageAt 23 = .ok (.areturn, 1) := by decide +kernel
theorem dX10_messageAt_8 : decode cX10_messageAt 8 = .ok (.iload_n 1, 1) := by decide +kernel
theorem dX10_messageAt_9 : decode cX10_messageAt 9 = .ok (.aload_n 0, 1) := by decide +kernel
theorem dX10_messageAt_10 : decode cX10_messageAt 10 = .ok (.getfield 25, 3) := by decide +kernel
theorem dX10_messageAt_13 : decode cX10_messageAt 13 = .ok (.arraylength, 1) := by decide +kernel
theorem dX10_messageAt_14 : decode cX10_messageAt 14 = .ok (.if_icmp .ge 7, 3) := by decide +kernel
theorem dX10_messageAt_17 : decode cX10_messageAt 17 = .ok (.iload_n 1, 1) := by decide +kernel
theorem dX10_messageAt_18 : decode cX10_messageAt 18 = .ok (.goto 4, 3) := by decide +kernel
theorem dX10_has_0 : decode cX10_has 0 = .ok (.iload_n 0, 1) := by decide +kernel
theorem dX10_has_1 : decode cX10_has 1 = .ok (.iload_n 1, 1) := by decide +kernel
theorem dX10_has_2 : decode cX10_has 2 = .ok (.ishr, 1) := by decide +kernel
theorem dX10_has_3 : decode cX10_has 3 = .ok (.iconst 1, 1) := by decide +kernel
theorem dX10_has_4 : decode cX10_has 4 = .ok (.iand, 1) := by decide +kernel
theorem dX10_has_5 : decode cX10_has 5 = .ok (.ifCond .eq 7, 3) := by decide +kernel
theorem dX10_has_12 : decode cX10_has 12 = .ok (.iconst 0, 1) := by decide +kernel
theorem dX10_has_13 : decode cX10_has 13 = .ok (.ireturn, 1) := by decide +kernel
theorem dX10_has_8 : decode cX10_has 8 = .ok (.iconst 1, 1) := by decide +kernel
theorem dX10_has_9 : decode cX10_has 9 = .ok (.goto 4, 3) := by decide +kernel
theorem dX10_isOut_0 : decode cX10_isOut 0 = .ok (.aload_n 0, 1) := by decide +kernel
theorem dX10_isOut_1 : decode cX10_isOut 1 = .ok (.iload_n 1, 1) := by decide +kernel
theorem dX10_isOut_2 : decode cX10_isOut 2 = .ok (.invokevirtual 66, 3) := by decide +kernel
theorem dX10_isOut_5 : decode cX10_isOut 5 = .ok (.getfield 101, 3) := by decide +kernel
theorem dX10_isOut_8 : decode cX10_isOut 8 = .ok (.ifCond .ne 7, 3) := by decide +kernel
theorem dX10_isOut_15 : decode cX10_isOut 15 = .ok (.iconst 0, 1) := by decide +kernel
theorem dX10_isOut_16 : decode cX10_isOut 16 = .ok (.ireturn, 1) := by decide +kernel
theorem dX10_isOut_11 : decode cX10_isOut 11 = .ok (.iconst 1, 1) := by decide +kernel
theorem dX10_isOut_12 : decode cX10_isOut 12 = .ok (.goto 4, 3) := by decide +kernel
theorem dX10_dayOfYear_0 : decode cX10_dayOfYear 0 = .ok (.aload_n 0, 1) := by decide +kernel
theorem dX10_dayOfYear_1 : decode cX10_dayOfYear 1 = .ok (.getfield 45, 3) := by decide +kernel
theorem dX10_dayOfYear_4 : decode cX10_dayOfYear 4 = .ok (.ifCond .le 12, 3) := by decide +kernel
theorem dX10_dayOfYear_7 : decode cX10_dayOfYear 7 = .ok (.iload_n 1, 1) := by decide +kernel
theorem dX10_dayOfYear_8 : decode cX10_dayOfYear 8 = .ok (.aload_n 0, 1) := by decide +kernel
theorem dX10_dayOfYear_9 : decode cX10_dayOfYear 9 = .ok (.getfield 45, 3) := by decide +kernel
theorem dX10_dayOfYear_12 : decode cX10_dayOfYear 12 = .ok (.irem, 1) := by decide +kernel
theorem dX10_dayOfYear_13 : decode cX10_dayOfYear 13 = .ok (.goto 4, 3) := by decide +kernel
theorem dX10_dayOfYear_17 : decode cX10_dayOfYear 17 = .ok (.ireturn, 1) := by decide +kernel
theorem dX10_dayOf_0 : decode cX10_dayOf 0 = .ok (.aload_n 0, 1) := by decide +kernel
theorem dX10_dayOf_1 : decode cX10_dayOf 1 = .ok (.aload_n 0, 1) := by decide +kernel
theorem dX10_dayOf_2 : decode cX10_dayOf 2 = .ok (.getfield 60, 3) := by decide +kernel
theorem dX10_dayOf_5 : decode cX10_dayOf 5 = .ok (.aload_n 0, 1) := by decide +kernel
theorem dX10_dayOf_6 : decode cX10_dayOf 6 = .ok (.iload_n 1, 1) := by decide +kernel
theorem dX10_dayOf_7 : decode cX10_dayOf 7 = .ok (.invokevirtual 66, 3) := by decide +kernel
theorem dX10_dayOf_10 : decode cX10_dayOf 10 = .ok (.getfield 98, 3) := by decide +kernel
theorem dX10_dayOf_13 : decode cX10_dayOf 13 = .ok (.iadd, 1) := by decide +kernel
theorem dX10_dayOf_14 : decode cX10_dayOf 14 = .ok (.invokevirtual 156, 3) := by decide +kernel
theorem dX10_dayOf_17 : decode cX10_dayOf 17 = .ok (.ireturn, 1) := by decide +kernel
theorem dX10_hasDay_0 : decode cX10_hasDay 0 = .ok (.lload_n 0, 1) := by decide +kernel
theorem dX10_hasDay_1 : decode cX10_hasDay 1 = .ok (.iload_n 2, 1) := by decide +kernel
theorem dX10_hasDay_2 : decode cX10_hasDay 2 = .ok (.lshr, 1) := by decide +kernel
theorem dX10_hasDay_3 : decode cX10_hasDay 3 = .ok (.lconst 1, 1) := by decide +kernel
theorem dX10_hasDay_4 : decode cX10_hasDay 4 = .ok (.land, 1) := by decide +kernel
theorem dX10_hasDay_5 : decode cX10_hasDay 5 = .ok (.lconst 0, 1) := by decide +kernel
theorem dX10_hasDay_6 : decode cX10_hasDay 6 = .ok (.lcmp, 1) := by decide +kernel
theorem dX10_hasDay_7 : decode cX10_hasDay 7 = .ok (.ifCond .eq 7, 3) := by decide +kernel
theorem dX10_hasDay_14 : decode cX10_hasDay 14 = .ok (.iconst 0, 1) := by decide +kernel
theorem dX10_hasDay_15 : decode cX10_hasDay 15 = .ok (.ireturn, 1) := by decide +kernel
theorem dX10_hasDay_10 : decode cX10_hasDay 10 = .ok (.iconst 1, 1) := by decide +kernel
theorem dX10_hasDay_11 : decode cX10_hasDay 11 = .ok (.goto 4, 3) := by decide +kernel
theorem dX10_tableOf_0 : decode cX10_tableOf 0 = .ok (.aload_n 0, 1) := by decide +kernel
theorem dX10_tableOf_1 : decode cX10_tableOf 1 = .ok (.iload_n 1, 1) := by decide +kernel
theorem dX10_tableOf_2 : decode cX10_tableOf 2 = .ok (.invokevirtual 66, 3) := by decide +kernel
theorem dX10_tableOf_5 : decode cX10_tableOf 5 = .ok (.astore_n 2, 1) := by decide +kernel
theorem dX10_tableOf_6 : decode cX10_tableOf 6 = .ok (.aload_n 2, 1) := by decide +kernel
theorem dX10_tableOf_7 : decode cX10_tableOf 7 = .ok (.getfield 92, 3) := by decide +kernel
theorem dX10_tableOf_10 : decode cX10_tableOf 10 = .ok (.lconst 1, 1) := by decide +kernel
theorem dX10_tableOf_11 : decode cX10_tableOf 11 = .ok (.aload_n 2, 1) := by decide +kernel
theorem dX10_tableOf_12 : decode cX10_tableOf 12 = .ok (.getfield 95, 3) := by decide +kernel
theorem dX10_tableOf_15 : decode cX10_tableOf 15 = .ok (.lshl, 1) := by decide +kernel
theorem dX10_tableOf_16 : decode cX10_tableOf 16 = .ok (.lor, 1) := by decide +kernel
theorem dX10_tableOf_17 : decode cX10_tableOf 17 = .ok (.lstore_n 3, 1) := by decide +kernel
theorem dX10_tableOf_18 : decode cX10_tableOf 18 = .ok (.iconst 0, 1) := by decide +kernel
theorem dX10_tableOf_19 : decode cX10_tableOf 19 = .ok (.istore 5, 2) := by decide +kernel
theorem dX10_tableOf_21 : decode cX10_tableOf 21 = .ok (.iload 5, 2) := by decide +kernel
theorem dX10_tableOf_23 : decode cX10_tableOf 23 = .ok (.aload_n 0, 1) := by decide +kernel
theorem dX10_tableOf_24 : decode cX10_tableOf 24 = .ok (.getfield 35, 3) := by decide +kernel
theorem dX10_tableOf_27 : decode cX10_tableOf 27 = .ok (.if_icmp .ge 35, 3) := by decide +kernel
theorem dX10_tableOf_62 : decode cX10_tableOf 62 = .ok (.lload_n 3, 1) := by decide +kernel
theorem dX10_tableOf_63 : decode cX10_tableOf 63 = .ok (.lreturn, 1) := by decide +kernel
theorem dX10_tableOf_30 : decode cX10_tableOf 30 = .ok (.aload_n 2, 1) := by decide +kernel
theorem dX10_tableOf_31 : decode cX10_tableOf 31 = .ok (.getfield 104, 3) := by decide +kernel
theorem dX10_tableOf_34 : decode cX10_tableOf 34 = .ok (.iload 5, 2) := by decide +kernel
theorem dX10_tableOf_36 : decode cX10_tableOf 36 = .ok (.invokestatic 181, 3) := by decide +kernel
theorem dX10_tableOf_39 : decode cX10_tableOf 39 = .ok (.ifCond .eq 17, 3) := by decide +kernel
theorem dX10_tableOf_42 : decode cX10_tableOf 42 = .ok (.lload_n 3, 1) := by decide +kernel
theorem dX10_tableOf_43 : decode cX10_tableOf 43 = .ok (.lconst 1, 1) := by decide +kernel
theorem dX10_tableOf_44 : decode cX10_tableOf 44 = .ok (.aload_n 0, 1) := by decide +kernel
theorem dX10_tableOf_45 : decode cX10_tableOf 45 = .ok (.iload 5, 2) := by decide +kernel
theorem dX10_tableOf_47 : decode cX10_tableOf 47 = .ok (.invokevirtual 66, 3) := by decide +kernel
theorem dX10_tableOf_50 : decode cX10_tableOf 50 = .ok (.getfield 95, 3) := by decide +kernel
theorem dX10_tableOf_53 : decode cX10_tableOf 53 = .ok (.lshl, 1) := by decide +kernel
theorem dX10_tableOf_54 : decode cX10_tableOf 54 = .ok (.lor, 1) := by decide +kernel
theorem dX10_tableOf_55 : decode cX10_tableOf 55 = .ok (.lstore_n 3, 1) := by decide +kernel
theorem dX10_tableOf_56 : decode cX10_tableOf 56 = .ok (.iinc 5 1, 3) := by decide +kernel
theorem dX10_tableOf_59 : decode cX10_tableOf 59 = .ok (.goto (-38), 3) := by decide +kernel
theorem dX10_isAwake_0 : decode cX10_isAwake 0 = .ok (.aload_n 0, 1) := by decide +kernel
theorem dX10_isAwake_1 : decode cX10_isAwake 1 = .ok (.iload_n 1, 1) := by decide +kernel
theorem dX10_isAwake_2 : decode cX10_isAwake 2 = .ok (.invokevirtual 160, 3) := by decide +kernel
theorem dX10_isAwake_5 : decode cX10_isAwake 5 = .ok (.ifCond .ne 23, 3) := by decide +kernel
theorem dX10_isAwake_28 : decode cX10_isAwake 28 = .ok (.iconst 0, 1) := by decide +kernel
theorem dX10_isAwake_29 : decode cX10_isAwake 29 = .ok (.ireturn, 1) := by decide +kernel
theorem dX10_isAwake_8 : decode cX10_isAwake 8 = .ok (.aload_n 0, 1) := by decide +kernel
theorem dX10_isAwake_9 : decode cX10_isAwake 9 = .ok (.iload_n 1, 1) := by decide +kernel
theorem dX10_isAwake_10 : decode cX10_isAwake 10 = .ok (.invokevirtual 174, 3) := by decide +kernel
theorem dX10_isAwake_13 : decode cX10_isAwake 13 = .ok (.aload_n 0, 1) := by decide +kernel
theorem dX10_isAwake_14 : decode cX10_isAwake 14 = .ok (.iload_n 1, 1) := by decide +kernel
theorem dX10_isAwake_15 : decode cX10_isAwake 15 = .ok (.invokevirtual 178, 3) := by decide +kernel
theorem dX10_isAwake_18 : decode cX10_isAwake 18 = .ok (.invokestatic 170, 3) := by decide +kernel
theorem dX10_isAwake_21 : decode cX10_isAwake 21 = .ok (.ifCond .eq 7, 3) := by decide +kernel
theorem dX10_isAwake_24 : decode cX10_isAwake 24 = .ok (.iconst 1, 1) := by decide +kernel
theorem dX10_isAwake_25 : decode cX10_isAwake 25 = .ok (.goto 4, 3) := by decide +kernel
theorem dX10_energySum_0 : decode cX10_energySum 0 = .ok (.iconst 0, 1) := by decide +kernel
theorem dX10_energySum_1 : decode cX10_energySum 1 = .ok (.istore_n 1, 1) := by decide +kernel
theorem dX10_energySum_2 : decode cX10_energySum 2 = .ok (.iconst 0, 1) := by decide +kernel
theorem dX10_energySum_3 : decode cX10_energySum 3 = .ok (.istore_n 2, 1) := by decide +kernel
theorem dX10_energySum_4 : decode cX10_energySum 4 = .ok (.iload_n 2, 1) := by decide +kernel
theorem dX10_energySum_5 : decode cX10_energySum 5 = .ok (.aload_n 0, 1) := by decide +kernel
theorem dX10_energySum_6 : decode cX10_energySum 6 = .ok (.getfield 35, 3) := by decide +kernel
theorem dX10_energySum_9 : decode cX10_energySum 9 = .ok (.if_icmp .ge 20, 3) := by decide +kernel
theorem dX10_energySum_29 : decode cX10_energySum 29 = .ok (.iload_n 1, 1) := by decide +kernel
theorem dX10_energySum_30 : decode cX10_energySum 30 = .ok (.ireturn, 1) := by decide +kernel
theorem dX10_energySum_12 : decode cX10_energySum 12 = .ok (.iload_n 1, 1) := by decide +kernel
theorem dX10_energySum_13 : decode cX10_energySum 13 = .ok (.aload_n 0, 1) := by decide +kernel
theorem dX10_energySum_14 : decode cX10_energySum 14 = .ok (.iload_n 2, 1) := by decide +kernel
theorem dX10_energySum_15 : decode cX10_energySum 15 = .ok (.invokevirtual 66, 3) := by decide +kernel
theorem dX10_energySum_18 : decode cX10_energySum 18 = .ok (.getfield 101, 3) := by decide +kernel
theorem dX10_energySum_21 : decode cX10_energySum 21 = .ok (.iadd, 1) := by decide +kernel
theorem dX10_energySum_22 : decode cX10_energySum 22 = .ok (.istore_n 1, 1) := by decide +kernel
theorem dX10_energySum_23 : decode cX10_energySum 23 = .ok (.iinc 2 1, 3) := by decide +kernel
theorem dX10_energySum_26 : decode cX10_energySum 26 = .ok (.goto (-22), 3) := by decide +kernel
theorem dX10_notOut_0 : decode cX10_notOut 0 = .ok (.iconst 0, 1) := by decide +kernel
theorem dX10_notOut_1 : decode cX10_notOut 1 = .ok (.istore_n 1, 1) := by decide +kernel
theorem dX10_notOut_2 : decode cX10_notOut 2 = .ok (.iconst 0, 1) := by decide +kernel
theorem dX10_notOut_3 : decode cX10_notOut 3 = .ok (.istore_n 2, 1) := by decide +kernel
theorem dX10_notOut_4 : decode cX10_notOut 4 = .ok (.iload_n 2, 1) := by decide +kernel
theorem dX10_notOut_5 : decode cX10_notOut 5 = .ok (.aload_n 0, 1) := by decide +kernel
theorem dX10_notOut_6 : decode cX10_notOut 6 = .ok (.getfield 35, 3) := by decide +kernel
theorem dX10_notOut_9 : decode cX10_notOut 9 = .ok (.if_icmp .ge 26, 3) := by decide +kernel
theorem dX10_notOut_35 : decode cX10_notOut 35 = .ok (.iload_n 1, 1) := by decide +kernel
theorem dX10_notOut_36 : decode cX10_notOut 36 = .ok (.ireturn, 1) := by decide +kernel
theorem dX10_notOut_12 : decode cX10_notOut 12 = .ok (.aload_n 0, 1) := by decide +kernel
theorem dX10_notOut_13 : decode cX10_notOut 13 = .ok (.iload_n 2, 1) := by decide +kernel
theorem dX10_notOut_14 : decode cX10_notOut 14 = .ok (.invokevirtual 66, 3) := by decide +kernel
theorem dX10_notOut_17 : decode cX10_notOut 17 = .ok (.getfield 101, 3) := by decide +kernel
theorem dX10_notOut_20 : decode cX10_notOut 20 = .ok (.ifCond .le 9, 3) := by decide +kernel
theorem dX10_notOut_23 : decode cX10_notOut 23 = .ok (.iload_n 1, 1) := by decide +kernel
theorem dX10_notOut_24 : decode cX10_notOut 24 = .ok (.iconst 1, 1) := by decide +kernel
theorem dX10_notOut_25 : decode cX10_notOut 25 = .ok (.iload_n 2, 1) := by decide +kernel
theorem dX10_notOut_26 : decode cX10_notOut 26 = .ok (.ishl, 1) := by decide +kernel
theorem dX10_notOut_27 : decode cX10_notOut 27 = .ok (.ior, 1) := by decide +kernel
theorem dX10_notOut_28 : decode cX10_notOut 28 = .ok (.istore_n 1, 1) := by decide +kernel
theorem dX10_notOut_29 : decode cX10_notOut 29 = .ok (.iinc 2 1, 3) := by decide +kernel
theorem dX10_notOut_32 : decode cX10_notOut 32 = .ok (.goto (-28), 3) := by decide +kernel
end
section
set_option maxHeartbeats 4000000 in
set_option maxRecDepth 100000 in
theorem m_nodeAt (l : Launch) (g : q_G) {K : Nat → Nat} {L : List Nat} (hN : L.Nodup) {f : Nat → va_E} (hT : q_Ty g K L f) (v : Nat) (hv : v ∈ L) (kv : K v = 10) (x : Int) (lx : (-2147483648) ≤ x) (ux : x ≤ 2147483647) : q_Ct l g K L yX10_nodeAt cX10_nodeAt 2 (some (.object "WakeVillage$Node")) 0 0 [.ref v, .int (q_i x)] f [] (q_Pr (fun (z : Nat) (f1 : Nat → va_E) => f = f1 ∧ z ∈ L ∧ K z = 5)) := by
  refine q_ofb (by decide +kernel) hN hT (Nat.le_of_ble_eq_true rfl) ?_
  intro p e s m below meth c ls cx hr hlk hB hl
  have hl : lv_has ls 2 [(0, .ref v), (1, .int (q_i x))] := hl
  obtain ⟨H, hH⟩ : ∃ H : Heap, H = s.heap := ⟨_, rfl⟩
  obtain ⟨locs, hlocs⟩ : ∃ z : List Loc, z = [] := ⟨_, rfl⟩
  rw [← hH, ← hlocs] at hB
  rw [← hH, ← hlocs]
  refine q_ald_n cx dX10_nodeAt_0 rfl (lv_at hl 0 rfl) ?_
  obtain ⟨p12, ep12⟩ : ∃ zz, q_r f v 0 = zz := ⟨_, rfl⟩
  refine q_gX10_13 cx hB hv kv ep12 dX10_nodeAt_1 (fun hb13 kb13 => ?_)
  refine q_ild_n cx dX10_nodeAt_4 rfl (lv_at hl 1 rfl) ?_
  refine q_iflt (tgt := 21) cx ⟨by omega, by omega⟩ dX10_nodeAt_5 (by decide) (fun c14 => ?_) (fun c14 => ?_)
  · refine q_iconst cx dX10_nodeAt_21 ?_
    obtain ⟨p15, ep15⟩ : ∃ zz, q_r f p12 (Int.toNat 0) = zz := ⟨_, rfl⟩
    refine q_aald (k2 := 5) (n := 10) cx hB hb13 kb13 (by decide) rfl 7 rfl (by decide) rfl (by decide) (by decide) (by decide) rfl ep15 dX10_nodeAt_22 (fun hb16 kb16 => ?_)
    refine q_aret cx hr (Or.inl ⟨_, rfl⟩) hlk hB dX10_nodeAt_23 ?_
    exact ⟨rfl, hb16, kb16⟩
  · refine q_ild_n cx dX10_nodeAt_8 rfl (lv_at hl 1 rfl) ?_
    refine q_ald_n cx dX10_nodeAt_9 rfl (lv_at hl 0 rfl) ?_
    refine q_gX10_13 cx hB hv kv ep12 dX10_nodeAt_10 (fun hb17 kb17 => ?_)
    refine q_alen (n := 10) cx hB hb17 kb17 (by decide) rfl 7 rfl rfl dX10_nodeAt_13 ?_
    refine q_icge (tgt := 21) cx ⟨by omega, by omega⟩ ⟨by decide, by decide⟩ dX10_nodeAt_14 (by decide) (fun c18 => ?_) (fun c18 => ?_)
    · refine q_iconst cx dX10_nodeAt_21 ?_
      obtain ⟨p19, ep19⟩ : ∃ zz, q_r f p12 (Int.toNat 0) = zz := ⟨_, rfl⟩
      refine q_aald (k2 := 5) (n := 10) cx hB hb17 kb17 (by decide) rfl 7 rfl (by decide) rfl (by decide) (by decide) (by decide) rfl ep19 dX10_nodeAt_22 (fun hb20 kb20 => ?_)
      refine q_aret cx hr (Or.inl ⟨_, rfl⟩) hlk hB dX10_nodeAt_23 ?_
      exact ⟨rfl, hb20, kb20⟩
    · refine q_ild_n cx dX10_nodeAt_17 rfl (lv_at hl 1 rfl) ?_
      refine lv_goto (tgt := 22) cx.1 cx.2.1 dX10_nodeAt_18 (by decide) ?_
      obtain ⟨p21, ep21⟩ : ∃ zz, q_r f p12 (Int.toNat x) = zz := ⟨_, rfl⟩
      refine q_aald (k2 := 5) (n := 10) cx hB hb17 kb17 (by decide) rfl 7 rfl (by decide) rfl (by omega) (by omega) (by decide) rfl ep21 dX10_nodeAt_22 (fun hb22 kb22 => ?_)
      refine q_aret cx hr (Or.inl ⟨_, rfl⟩) hlk hB dX10_nodeAt_23 ?_
      exact ⟨rfl, hb22, kb22⟩
set_option maxHeartbeats 4000000 in
set_option maxRecDepth 100000 in
theorem m_linkAt (l : Launch) (g : q_G) {K : Nat → Nat} {L : List Nat} (hN : L.Nodup) {f : Nat → va_E} (hT : q_Ty g K L f) (v : Nat) (hv : v ∈ L) (kv : K v = 10) (x : Int) (lx : (-2147483648) ≤ x) (ux : x ≤ 2147483647) : q_Ct l g K L yX10_linkAt cX10_linkAt 2 (some (.object "WakeVillage$Link")) 0 0 [.ref v, .int (q_i x)] f [] (q_Pr (fun (z : Nat) (f1 : Nat → va_E) => f = f1 ∧ z ∈ L ∧ K z = 3)) := by
  refine q_ofb (by decide +kernel) hN hT (Nat.le_of_ble_eq_true rfl) ?_
  intro p e s m below meth c ls cx hr hlk hB hl
  have hl : lv_has ls 2 [(0, .ref v), (1, .int (q_i x))] := hl
  obtain ⟨H, hH⟩ : ∃ H : Heap, H = s.heap := ⟨_, rfl⟩
  obtain ⟨locs, hlocs⟩ : ∃ z : List Loc, z = [] := ⟨_, rfl⟩
  rw [← hH, ← hlocs] at hB
  rw [← hH, ← hlocs]
  refine q_ald_n cx dX10_linkAt_0 rfl (lv_at hl 0 rfl) ?_
  obtain ⟨p12, ep12⟩ : ∃ zz, q_r f v 1 = zz := ⟨_, rfl⟩
  refine q_gX10_19 cx hB hv kv ep12 dX10_linkAt_1 (fun hb13 kb13 => ?_)
  refine q_ild_n cx dX10_linkAt_4 rfl (lv_at hl 1 rfl) ?_
  refine q_iflt (tgt := 21) cx ⟨by omega, by omega⟩ dX10_linkAt_5 (by decide) (fun c14 => ?_) (fun c14 => ?_)
  · refine q_iconst cx dX10_linkAt_21 ?_
    obtain ⟨p15, ep15⟩ : ∃ zz, q_r f p12 (Int.toNat 0) = zz := ⟨_, rfl⟩
    refine q_aald (k2 := 3) (n := 16) cx hB hb13 kb13 (by decide) rfl 5 rfl (by decide) rfl (by decide) (by decide) (by decide) rfl ep15 dX10_linkAt_22 (fun hb16 kb16 => ?_)
    refine q_aret cx hr (Or.inl ⟨_, rfl⟩) hlk hB dX10_linkAt_23 ?_
    exact ⟨rfl, hb16, kb16⟩
  · refine q_ild_n cx dX10_linkAt_8 rfl (lv_at hl 1 rfl) ?_
    refine q_ald_n cx dX10_linkAt_9 rfl (lv_at hl 0 rfl) ?_
    refine q_gX10_19 cx hB hv kv ep12 dX10_linkAt_10 (fun hb17 kb17 => ?_)
    refine q_alen (n := 16) cx hB hb17 kb17 (by decide) rfl 5 rfl rfl dX10_linkAt_13 ?_
    refine q_icge (tgt := 21) cx ⟨by omega, by omega⟩ ⟨by decide, by decide⟩ dX10_linkAt_14 (by decide) (fun c18 => ?_) (fun c18 => ?_)
    · refine q_iconst cx dX10_linkAt_21 ?_
      obtain ⟨p19, ep19⟩ : ∃ zz, q_r f p12 (Int.toNat 0) = zz := ⟨_, rfl⟩
      refine q_aald (k2 := 3) (n := 16) cx hB hb17 kb17 (by decide) rfl 5 rfl (by decide) rfl (by decide) (by decide) (by decide) rfl ep19 dX10_linkAt_22 (fun hb20 kb20 => ?_)
      refine q_aret cx hr (Or.inl ⟨_, rfl⟩) hlk hB dX10_linkAt_23 ?_
      exact ⟨rfl, hb20, kb20⟩
    · refine q_ild_n cx dX10_linkAt_17 rfl (lv_at hl 1 rfl) ?_
      refine lv_goto (tgt := 22) cx.1 cx.2.1 dX10_linkAt_18 (by decide) ?_
      obtain ⟨p21, ep21⟩ : ∃ zz, q_r f p12 (Int.toNat x) = zz := ⟨_, rfl⟩
      refine q_aald (k2 := 3) (n := 16) cx hB hb17 kb17 (by decide) rfl 5 rfl (by decide) rfl (by omega) (by omega) (by decide) rfl ep21 dX10_linkAt_22 (fun hb22 kb22 => ?_)
      refine q_aret cx hr (Or.inl ⟨_, rfl⟩) hlk hB dX10_linkAt_23 ?_
      exact ⟨rfl, hb22, kb22⟩
set_option maxHeartbeats 4000000 in
set_option maxRecDepth 100000 in
theorem m_messageAt (l : Launch) (g : q_G) {K : Nat → Nat} {L : List Nat} (hN : L.Nodup) {f : Nat → va_E} (hT : q_Ty g K L f) (v : Nat) (hv : v ∈ L) (kv : K v = 10) (x : Int) (lx : (-2147483648) ≤ x) (ux : x ≤ 2147483647) : q_Ct l g K L yX10_messageAt cX10_messageAt 2 (some (.object "WakeVillage$Message")) 0 0 [.ref v, .int (q_i x)] f [] (q_Pr (fun (z : Nat) (f1 : Nat → va_E) => f = f1 ∧ z ∈ L ∧ K z = 4)) := by
  refine q_ofb (by decide +kernel) hN hT (Nat.le_of_ble_eq_true rfl) ?_
  intro p e s m below meth c ls cx hr hlk hB hl
  have hl : lv_has ls 2 [(0, .ref v), (1, .int (q_i x))] := hl
  obtain ⟨H, hH⟩ : ∃ H : Heap, H = s.heap := ⟨_, rfl⟩
  obtain ⟨locs, hlocs⟩ : ∃ z : List Loc, z = [] := ⟨_, rfl⟩
  rw [← hH, ← hlocs] at hB
  rw [← hH, ← hlocs]
  refine q_ald_n cx dX10_messageAt_0 rfl (lv_at hl 0 rfl) ?_
  obtain ⟨p12, ep12⟩ : ∃ zz, q_r f v 2 = zz := ⟨_, rfl⟩
  refine q_gX10_25 cx hB hv kv ep12 dX10_messageAt_1 (fun hb13 kb13 => ?_)
  refine q_ild_n cx dX10_messageAt_4 rfl (lv_at hl 1 rfl) ?_
  refine q_iflt (tgt := 21) cx ⟨by omega, by omega⟩ dX10_messageAt_5 (by decide) (fun c14 => ?_) (fun c14 => ?_)
  · refine q_iconst cx dX10_messageAt_21 ?_
    obtain ⟨p15, ep15⟩ : ∃ zz, q_r f p12 (Int.toNat 0) = zz := ⟨_, rfl⟩
    refine q_aald (k2 := 4) (n := 61) cx hB hb13 kb13 (by decide) rfl 6 rfl (by decide) rfl (by decide) (by decide) (by decide) rfl ep15 dX10_messageAt_22 (fun hb16 kb16 => ?_)
    refine q_aret cx hr (Or.inl ⟨_, rfl⟩) hlk hB dX10_messageAt_23 ?_
    exact ⟨rfl, hb16, kb16⟩
  · refine q_ild_n cx dX10_messageAt_8 rfl (lv_at hl 1 rfl) ?_
    refine q_ald_n cx dX10_messageAt_9 rfl (lv_at hl 0 rfl) ?_
    refine q_gX10_25 cx hB hv kv ep12 dX10_messageAt_10 (fun hb17 kb17 => ?_)
    refine q_alen (n := 61) cx hB hb17 kb17 (by decide) rfl 6 rfl rfl dX10_messageAt_13 ?_
    refine q_icge (tgt := 21) cx ⟨by omega, by omega⟩ ⟨by decide, by decide⟩ dX10_messageAt_14 (by decide) (fun c18 => ?_) (fun c18 => ?_)
    · refine q_iconst cx dX10_messageAt_21 ?_
      obtain ⟨p19, ep19⟩ : ∃ zz, q_r f p12 (Int.toNat 0) = zz := ⟨_, rfl⟩
      refine q_aald (k2 := 4) (n := 61) cx hB hb17 kb17 (by decide) rfl 6 rfl (by decide) rfl (by decide) (by decide) (by decide) rfl ep19 dX10_messageAt_22 (fun hb20 kb20 => ?_)
      refine q_aret cx hr (Or.inl ⟨_, rfl⟩) hlk hB dX10_messageAt_23 ?_
      exact ⟨rfl, hb20, kb20⟩
    · refine q_ild_n cx dX10_messageAt_17 rfl (lv_at hl 1 rfl) ?_
      refine lv_goto (tgt := 22) cx.1 cx.2.1 dX10_messageAt_18 (by decide) ?_
      obtain ⟨p21, ep21⟩ : ∃ zz, q_r f p12 (Int.toNat x) = zz := ⟨_, rfl⟩
      refine q_aald (k2 := 4) (n := 61) cx hB hb17 kb17 (by decide) rfl 6 rfl (by decide) rfl (by omega) (by omega) (by decide) rfl ep21 dX10_messageAt_22 (fun hb22 kb22 => ?_)
      refine q_aret cx hr (Or.inl ⟨_, rfl⟩) hlk hB dX10_messageAt_23 ?_
      exact ⟨rfl, hb22, kb22⟩
set_option maxHeartbeats 4000000 in
set_option maxRecDepth 100000 in
theorem m_has (l : Launch) (g : q_G) {K : Nat → Nat} {L : List Nat} (hN : L.Nodup) {f : Nat → va_E} (hT : q_Ty g K L f) (x : Int) (lx : (-2147483648) ≤ x) (ux : x ≤ 2147483647) (y : Int) (ly : (-2147483648) ≤ y) (uy : y ≤ 2147483647) : q_Ct l g K L yX10_has cX10_has 2 (some .boolean) 0 0 [.int (q_i x), .int (q_i y)] f [] (q_Pi (fun (z : Int) (f1 : Nat → va_E) => f = f1 ∧ 0 ≤ z ∧ z ≤ 1)) := by
  refine q_ofb (by decide +kernel) hN hT (Nat.le_of_ble_eq_true rfl) ?_
  intro p e s m below meth c ls cx hr hlk hB hl
  have hl : lv_has ls 2 [(0, .int (q_i x)), (1, .int (q_i y))] := hl
  obtain ⟨H, hH⟩ : ∃ H : Heap, H = s.heap := ⟨_, rfl⟩
  obtain ⟨locs, hlocs⟩ : ∃ z : List Loc, z = [] := ⟨_, rfl⟩
  rw [← hH, ← hlocs] at hB
  rw [← hH, ← hlocs]
  refine q_ild_n cx dX10_has_0 rfl (lv_at hl 0 rfl) ?_
  refine q_ild_n cx dX10_has_1 rfl (lv_at hl 1 rfl) ?_
  refine q_ishr cx dX10_has_2 (fun y4 ry4 ey4 => ?_)
  refine q_iconst cx dX10_has_3 ?_
  refine q_iandm cx 1 (by decide) rfl dX10_has_4 (fun y5 ly5 uy5 ey5 => ?_)
  refine q_ifeq (tgt := 12) cx ⟨by omega, by omega⟩ dX10_has_5 (by decide) (fun c6 => ?_) (fun c6 => ?_)
  · refine q_iconst cx dX10_has_12 ?_
    refine q_zret cx hr hlk hB dX10_has_13 (by decide) (by decide) ?_
    exact ⟨rfl, (by decide), (by decide)⟩
  · refine q_iconst cx dX10_has_8 ?_
    refine lv_goto (tgt := 13) cx.1 cx.2.1 dX10_has_9 (by decide) ?_
    refine q_zret cx hr hlk hB dX10_has_13 (by decide) (by decide) ?_
    exact ⟨rfl, (by decide), (by decide)⟩
set_option maxHeartbeats 4000000 in
set_option maxRecDepth 100000 in
theorem m_isOut (l : Launch) (g : q_G) {K : Nat → Nat} {L : List Nat} (hN : L.Nodup) {f : Nat → va_E} (hT : q_Ty g K L f) (v : Nat) (hv : v ∈ L) (kv : K v = 10) (x : Int) (lx : (-2147483648) ≤ x) (ux : x ≤ 2147483647) : q_Ct l g K L yX10_isOut cX10_isOut 2 (some .boolean) 1 21 [.ref v, .int (q_i x)] f [] (q_Pi (fun (z : Int) (f1 : Nat → va_E) => f = f1 ∧ 0 ≤ z ∧ z ≤ 1)) := by
  refine q_ofb (by decide +kernel) hN hT (Nat.le_of_ble_eq_true rfl) ?_
  intro p e s m below meth c ls cx hr hlk hB hl
  have hl : lv_has ls 2 [(0, .ref v), (1, .int (q_i x))] := hl
  obtain ⟨H, hH⟩ : ∃ H : Heap, H = s.heap := ⟨_, rfl⟩
  obtain ⟨locs, hlocs⟩ : ∃ z : List Loc, z = [] := ⟨_, rfl⟩
  rw [← hH, ← hlocs] at hB
  rw [← hH, ← hlocs]
  refine q_ald_n cx dX10_isOut_0 rfl (lv_at hl 0 rfl) ?_
  refine q_ild_n cx dX10_isOut_1 rfl (lv_at hl 1 rfl) ?_
  refine q_cVr (As := [.int (q_i x)]) (rest := []) cx hB (fun _ h => h) hN hv kv (by decide) rfl (m_nodeAt l g hN hB.2.1 v hv kv x (by omega) (by omega)) q_cX10_66 q_dX10_nodeAt (by decide) rfl rfl hl.1 rfl (Nat.le_of_ble_eq_true rfl) dX10_isOut_2 (fun y8 H locs f7 h9 hF hB => ?_)
  obtain ⟨rfl, hy8, ky8⟩ := h9
  obtain ⟨x10, ex10⟩ : ∃ zz, q_z f y8 4 = zz := ⟨_, rfl⟩
  refine q_gX10_101 cx hB hy8 ky8 ex10 dX10_isOut_5 (fun lb11 ub11 => ?_)
  refine q_ifne (tgt := 15) cx ⟨by omega, by omega⟩ dX10_isOut_8 (by decide) (fun c12 => ?_) (fun c12 => ?_)
  · refine q_iconst cx dX10_isOut_15 ?_
    refine q_zret cx hr hlk hB dX10_isOut_16 (by decide) (by decide) ?_
    exact ⟨rfl, (by decide), (by decide)⟩
  · refine q_iconst cx dX10_isOut_11 ?_
    refine lv_goto (tgt := 16) cx.1 cx.2.1 dX10_isOut_12 (by decide) ?_
    refine q_zret cx hr hlk hB dX10_isOut_16 (by decide) (by decide) ?_
    exact ⟨rfl, (by decide), (by decide)⟩
set_option maxHeartbeats 4000000 in
set_option maxRecDepth 100000 in
theorem m_dayOfYear (l : Launch) (g : q_G) {K : Nat → Nat} {L : List Nat} (hN : L.Nodup) {f : Nat → va_E} (hT : q_Ty g K L f) (v : Nat) (hv : v ∈ L) (kv : K v = 10) (x : Int) (lx : (-2147483648) ≤ x) (ux : x ≤ 2147483647) : q_Ct l g K L yX10_dayOfYear cX10_dayOfYear 2 (some .int) 0 0 [.ref v, .int (q_i x)] f [] (q_Pi (fun (z : Int) (f1 : Nat → va_E) => f = f1)) := by
  refine q_ofb (by decide +kernel) hN hT (Nat.le_of_ble_eq_true rfl) ?_
  intro p e s m below meth c ls cx hr hlk hB hl
  have hl : lv_has ls 2 [(0, .ref v), (1, .int (q_i x))] := hl
  obtain ⟨H, hH⟩ : ∃ H : Heap, H = s.heap := ⟨_, rfl⟩
  obtain ⟨locs, hlocs⟩ : ∃ z : List Loc, z = [] := ⟨_, rfl⟩
  rw [← hH, ← hlocs] at hB
  rw [← hH, ← hlocs]
  refine q_ald_n cx dX10_dayOfYear_0 rfl (lv_at hl 0 rfl) ?_
  obtain ⟨x6, ex6⟩ : ∃ zz, q_z f v 6 = zz := ⟨_, rfl⟩
  refine q_gX10_45 cx hB hv kv ex6 dX10_dayOfYear_1 (fun lb7 ub7 => ?_)
  refine q_ifle (tgt := 16) cx ⟨by omega, by omega⟩ dX10_dayOfYear_4 (by decide) (fun c8 => ?_) (fun c8 => ?_)
  · exact absurd c8 (by omega)
  · refine q_ild_n cx dX10_dayOfYear_7 rfl (lv_at hl 1 rfl) ?_
    refine q_ald_n cx dX10_dayOfYear_8 rfl (lv_at hl 0 rfl) ?_
    refine q_gX10_45 cx hB hv kv ex6 dX10_dayOfYear_9 (fun lb9 ub9 => ?_)
    refine q_irem cx ⟨by omega, by omega⟩ ⟨by omega, by omega⟩ (by omega) dX10_dayOfYear_12 (fun y10 ey10 ay10 by10 ny10 => ?_)
    refine lv_goto (tgt := 17) cx.1 cx.2.1 dX10_dayOfYear_13 (by decide) ?_
    refine q_iret cx hr hlk hB dX10_dayOfYear_17 ⟨by omega, by omega⟩ ?_
    exact rfl
set_option maxHeartbeats 4000000 in
set_option maxRecDepth 100000 in
theorem m_dayOf (l : Launch) (g : q_G) {K : Nat → Nat} {L : List Nat} (hN : L.Nodup) {f : Nat → va_E} (hT : q_Ty g K L f) (v : Nat) (hv : v ∈ L) (kv : K v = 10) (x : Int) (lx : (-2147483648) ≤ x) (ux : x ≤ 2147483647) : q_Ct l g K L yX10_dayOf cX10_dayOf 2 (some .int) 1 21 [.ref v, .int (q_i x)] f [] (q_Pi (fun (z : Int) (f1 : Nat → va_E) => f = f1)) := by
  refine q_ofb (by decide +kernel) hN hT (Nat.le_of_ble_eq_true rfl) ?_
  intro p e s m below meth c ls cx hr hlk hB hl
  have hl : lv_has ls 2 [(0, .ref v), (1, .int (q_i x))] := hl
  obtain ⟨H, hH⟩ : ∃ H : Heap, H = s.heap := ⟨_, rfl⟩
  obtain ⟨locs, hlocs⟩ : ∃ z : List Loc, z = [] := ⟨_, rfl⟩
  rw [← hH, ← hlocs] at hB
  rw [← hH, ← hlocs]
  refine q_ald_n cx dX10_dayOf_0 rfl (lv_at hl 0 rfl) ?_
  refine q_ald_n cx dX10_dayOf_1 rfl (lv_at hl 0 rfl) ?_
  obtain ⟨x12, ex12⟩ : ∃ zz, q_z f v 11 = zz := ⟨_, rfl⟩
  refine q_gX10_60 cx hB hv kv ex12 dX10_dayOf_2 (fun lb13 ub13 => ?_)
  refine q_ald_n cx dX10_dayOf_5 rfl (lv_at hl 0 rfl) ?_
  refine q_ild_n cx dX10_dayOf_6 rfl (lv_at hl 1 rfl) ?_
  refine q_cVr (As := [.int (q_i x)]) (rest := [.int (q_i x12), .ref v]) cx hB (fun _ h => h) hN hv kv (by decide) rfl (m_nodeAt l g hN hB.2.1 v hv kv x (by omega) (by omega)) q_cX10_66 q_dX10_nodeAt (by decide) rfl rfl hl.1 rfl (Nat.le_of_ble_eq_true rfl) dX10_dayOf_7 (fun y15 H locs f14 h16 hF hB => ?_)
  obtain ⟨rfl, hy15, ky15⟩ := h16
  obtain ⟨x17, ex17⟩ : ∃ zz, q_z f y15 3 = zz := ⟨_, rfl⟩
  refine q_gX10_98 cx hB hy15 ky15 ex17 dX10_dayOf_10 (fun lb18 ub18 => ?_)
  refine q_iadd cx dX10_dayOf_13 ?_
  refine q_any (fun y19 ry19 ey19 => ?_)
  refine q_cVi (As := [.int (q_i y19)]) (rest := []) cx hB (fun _ h => h) hN hv kv (by decide) rfl (m_dayOfYear l g hN hB.2.1 v hv kv y19 (by omega) (by omega)) q_cX10_156 q_dX10_dayOfYear (by decide) rfl rfl hl.1 rfl (Nat.le_of_ble_eq_true rfl) dX10_dayOf_14 (fun y21 H locs f20 ry21 h22 hF hB => ?_)
  obtain rfl := h22
  refine q_iret cx hr hlk hB dX10_dayOf_17 ⟨by omega, by omega⟩ ?_
  exact rfl
set_option maxHeartbeats 4000000 in
set_option maxRecDepth 100000 in
theorem m_hasDay (l : Launch) (g : q_G) {K : Nat → Nat} {L : List Nat} (hN : L.Nodup) {f : Nat → va_E} (hT : q_Ty g K L f) (x : Int64) (y : Int) (ly : (-2147483648) ≤ y) (uy : y ≤ 2147483647) : q_Ct l g K L yX10_hasDay cX10_hasDay 3 (some .boolean) 0 0 [.long x, .int (q_i y)] f [] (q_Pi (fun (z : Int) (f1 : Nat → va_E) => f = f1 ∧ 0 ≤ z ∧ z ≤ 1)) := by
  refine q_ofb (by decide +kernel) hN hT (Nat.le_of_ble_eq_true rfl) ?_
  intro p e s m below meth c ls cx hr hlk hB hl
  have hl : lv_has ls 3 [(0, .long x), (2, .int (q_i y))] := hl
  obtain ⟨H, hH⟩ : ∃ H : Heap, H = s.heap := ⟨_, rfl⟩
  obtain ⟨locs, hlocs⟩ : ∃ z : List Loc, z = [] := ⟨_, rfl⟩
  rw [← hH, ← hlocs] at hB
  rw [← hH, ← hlocs]
  refine q_lld_n cx dX10_hasDay_0 rfl (lv_at hl 0 rfl) ?_
  refine q_ild_n cx dX10_hasDay_1 rfl (lv_at hl 1 rfl) ?_
  refine lv_lshr cx.1 cx.2.1 dX10_hasDay_2 rfl ?_
  refine lv_topl (fun j5 ej5 => ?_)
  refine q_lconst (z := 1) cx (by decide) dX10_hasDay_3 ?_
  refine lv_land cx.1 cx.2.1 dX10_hasDay_4 ?_
  refine lv_topl (fun j6 ej6 => ?_)
  refine q_lconst (z := 0) cx (by decide) dX10_hasDay_5 ?_
  refine q_lcmp cx dX10_hasDay_6 (fun y7 ly7 uy7 ey7 gy7 hy7 => ?_)
  refine q_ifeq (tgt := 14) cx ⟨by omega, by omega⟩ dX10_hasDay_7 (by decide) (fun c8 => ?_) (fun c8 => ?_)
  · refine q_iconst cx dX10_hasDay_14 ?_
    refine q_zret cx hr hlk hB dX10_hasDay_15 (by decide) (by decide) ?_
    exact ⟨rfl, (by decide), (by decide)⟩
  · refine q_iconst cx dX10_hasDay_10 ?_
    refine lv_goto (tgt := 15) cx.1 cx.2.1 dX10_hasDay_11 (by decide) ?_
    refine q_zret cx hr hlk hB dX10_hasDay_15 (by decide) (by decide) ?_
    exact ⟨rfl, (by decide), (by decide)⟩
set_option maxHeartbeats 4000000 in
set_option maxRecDepth 100000 in
theorem m_tableOf (l : Launch) (g : q_G) {K : Nat → Nat} {L : List Nat} (hN : L.Nodup) {f : Nat → va_E} (hT : q_Ty g K L f) (v : Nat) (hv : v ∈ L) (kv : K v = 10) (x : Int) (lx : (-2147483648) ≤ x) (ux : x ≤ 2147483647) : q_Ct l g K L yX10_tableOf cX10_tableOf 6 (some .long) 1 21 [.ref v, .int (q_i x)] f [] (q_Pl (fun (z : Int64) (f1 : Nat → va_E) => f = f1)) := by
  refine q_ofb (by decide +kernel) hN hT (Nat.le_of_ble_eq_true rfl) ?_
  intro p e s m below meth c ls cx hr hlk hB hl
  have hl : lv_has ls 6 [(0, .ref v), (1, .int (q_i x))] := hl
  have J21 : ∀ (n : Nat) (v21_2 : Nat) (hv21_2 : v21_2 ∈ L) (kv21_2 : K v21_2 = 5) (v21_3 : Int64) (v21_5 : Int) (lv21_5 : 0 ≤ v21_5) (uv21_5 : v21_5 ≤ 2147483647) (hmu : (Int.toNat (2147483647 - v21_5)) < n) (H : Heap) (locs : List Loc) (hB : q_B g K L (fun q => q ∈ L) [] f f s H locs) (ls : Array Slot) (hl : lv_has ls 6 [(0, .ref v), (2, .ref v21_2), (3, .long v21_3), (5, .int (q_i v21_5))]), W p l e { frames := 1, cells := 0, slots := 0, locals := 21 } s m ([.ref v, .int (q_i x)] : List Value).toArray below meth c H locs 0 0 (MQ below (q_Q g K L [] f (q_Pl (fun (z : Int64) (f1 : Nat → va_E) => f = f1))) ([.ref v, .int (q_i x)] : List Value).toArray s 0 0 (fun q => q ∈ L)) (F0 m 21 ls []) := by
    intro n
    induction n with
    | zero =>
      intro v21_2 hv21_2 kv21_2 v21_3 v21_5 lv21_5 uv21_5 hmu
      exact absurd hmu (Nat.not_lt_zero _)
    | succ n ih21 =>
      intro v21_2 hv21_2 kv21_2 v21_3 v21_5 lv21_5 uv21_5 hmu H locs hB ls hl
      have J56 : ∀ (v56_3 : Int64) (buv21_5 : v21_5 ≤ 2147483646) (H : Heap) (locs : List Loc) (hB : q_B g K L (fun q => q ∈ L) [] f f s H locs) (ls : Array Slot) (hl : lv_has ls 6 [(0, .ref v), (2, .ref v21_2), (3, .long v56_3), (5, .int (q_i v21_5))]), W p l e { frames := 1, cells := 0, slots := 0, locals := 21 } s m ([.ref v, .int (q_i x)] : List Value).toArray below meth c H locs 0 0 (MQ below (q_Q g K L [] f (q_Pl (fun (z : Int64) (f1 : Nat → va_E) => f = f1))) ([.ref v, .int (q_i x)] : List Value).toArray s 0 0 (fun q => q ∈ L)) (F0 m 56 ls []) := by
        intro v56_3 buv21_5 H locs hB ls hl
        refine q_iinc (lv' := [(5, .int (q_i (v21_5 + 1))), (0, .ref v), (2, .ref v21_2), (3, .long v56_3)]) cx dX10_tableOf_56 hl (k := 3) rfl (by decide) rfl (fun ls hl => ?_)
        refine lv_goto (tgt := 21) cx.1 cx.2.1 dX10_tableOf_59 (by decide) ?_
        exact ih21 v21_2 hv21_2 kv21_2 v56_3 (v21_5 + 1) (by omega) (by omega) (by omega) H locs hB ls (lv_sub hl [1, 2, 3, 0] rfl)
      refine lv_iload cx.1 cx.2.1 dX10_tableOf_21 (lv_at hl 3 rfl) ?_
      refine q_ald_n cx dX10_tableOf_23 rfl (lv_at hl 0 rfl) ?_
      obtain ⟨x569, ex569⟩ : ∃ zz, q_z f v 3 = zz := ⟨_, rfl⟩
      refine q_gX10_35 cx hB hv kv ex569 dX10_tableOf_24 (fun lb570 ub570 => ?_)
      refine q_icge (tgt := 62) cx ⟨by omega, by omega⟩ ⟨by omega, by omega⟩ dX10_tableOf_27 (by decide) (fun c571 => ?_) (fun c571 => ?_)
      · refine q_lld_n cx dX10_tableOf_62 rfl (lv_at hl 2 rfl) ?_
        refine q_lret cx hr hlk hB dX10_tableOf_63 ?_
        exact rfl
      · refine q_ald_n cx dX10_tableOf_30 rfl (lv_at hl 1 rfl) ?_
        obtain ⟨x572, ex572⟩ : ∃ zz, q_z f v21_2 5 = zz := ⟨_, rfl⟩
        refine q_gX10_104 cx hB hv21_2 kv21_2 ex572 dX10_tableOf_31 (fun lb573 ub573 => ?_)
        refine lv_iload cx.1 cx.2.1 dX10_tableOf_34 (lv_at hl 3 rfl) ?_
        refine q_cSi (As := [.int (q_i x572), .int (q_i v21_5)]) (rest := []) cx hB (fun _ h => h) hN (m_has l g hN hB.2.1 x572 (by omega) (by omega) v21_5 (by omega) (by omega)) q_cX10_181 q_dX10_has (by decide) rfl rfl hl.1 rfl (Nat.le_of_ble_eq_true rfl) dX10_tableOf_36 (fun y575 H locs f574 ry575 h576 hF hB => ?_)
        obtain ⟨rfl, ly575, uy575⟩ := h576
        refine q_ifeq (tgt := 56) cx ⟨by omega, by omega⟩ dX10_tableOf_39 (by decide) (fun c577 => ?_) (fun c577 => ?_)
        · exact J56 v21_3 (by omega) H locs hB ls (lv_sub hl [0, 1, 2, 3] rfl)
        · refine q_lld_n cx dX10_tableOf_42 rfl (lv_at hl 2 rfl) ?_
          refine q_lconst (z := 1) cx (by decide) dX10_tableOf_43 ?_
          refine q_ald_n cx dX10_tableOf_44 rfl (lv_at hl 0 rfl) ?_
          refine lv_iload cx.1 cx.2.1 dX10_tableOf_45 (lv_at hl 3 rfl) ?_
          refine q_cVr (As := [.int (q_i v21_5)]) (rest := [.long (q_l 1), .long v21_3]) cx hB (fun _ h => h) hN hv kv (by decide) rfl (m_nodeAt l g hN hB.2.1 v hv kv v21_5 (by omega) (by omega)) q_cX10_66 q_dX10_nodeAt (by decide) rfl rfl hl.1 rfl (Nat.le_of_ble_eq_true rfl) dX10_tableOf_47 (fun y579 H locs f578 h580 hF hB => ?_)
          obtain ⟨rfl, hy579, ky579⟩ := h580
          obtain ⟨x581, ex581⟩ : ∃ zz, q_z f y579 2 = zz := ⟨_, rfl⟩
          refine q_gX10_95 cx hB hy579 ky579 ex581 dX10_tableOf_50 (fun lb582 ub582 => ?_)
          refine lv_lshl cx.1 cx.2.1 dX10_tableOf_53 rfl ?_
          refine lv_topl (fun j583 ej583 => ?_)
          refine lv_lor cx.1 cx.2.1 dX10_tableOf_54 ?_
          refine lv_topl (fun j584 ej584 => ?_)
          refine lv_lstore_n (lv' := [(3, .long j584), (0, .ref v), (2, .ref v21_2), (5, .int (q_i v21_5))]) cx.1 cx.2.1 dX10_tableOf_55 rfl hl (by decide) rfl (fun ls hl => ?_)
          exact J56 j584 (by omega) H locs hB ls (lv_sub hl [1, 2, 0, 3] rfl)
  obtain ⟨H, hH⟩ : ∃ H : Heap, H = s.heap := ⟨_, rfl⟩
  obtain ⟨locs, hlocs⟩ : ∃ z : List Loc, z = [] := ⟨_, rfl⟩
  rw [← hH, ← hlocs] at hB
  rw [← hH, ← hlocs]
  refine q_ald_n cx dX10_tableOf_0 rfl (lv_at hl 0 rfl) ?_
  refine q_ild_n cx dX10_tableOf_1 rfl (lv_at hl 1 rfl) ?_
  refine q_cVr (As := [.int (q_i x)]) (rest := []) cx hB (fun _ h => h) hN hv kv (by decide) rfl (m_nodeAt l g hN hB.2.1 v hv kv x (by omega) (by omega)) q_cX10_66 q_dX10_nodeAt (by decide) rfl rfl hl.1 rfl (Nat.le_of_ble_eq_true rfl) dX10_tableOf_2 (fun y586 H locs f585 h587 hF hB => ?_)
  obtain ⟨rfl, hy586, ky586⟩ := h587
  refine lv_astore_n (lv' := [(2, .ref y586), (0, .ref v), (1, .int (q_i x))]) cx.1 cx.2.1 dX10_tableOf_5 rfl hl (by decide) rfl (fun ls hl => ?_)
  refine q_ald_n cx dX10_tableOf_6 rfl (lv_at hl 0 rfl) ?_
  obtain ⟨j588, ej588⟩ : ∃ zz, q_j f y586 1 = zz := ⟨_, rfl⟩
  refine q_gX10_92 cx hB hy586 ky586 ej588 dX10_tableOf_7 ?_
  refine q_lconst (z := 1) cx (by decide) dX10_tableOf_10 ?_
  refine q_ald_n cx dX10_tableOf_11 rfl (lv_at hl 0 rfl) ?_
  obtain ⟨x589, ex589⟩ : ∃ zz, q_z f y586 2 = zz := ⟨_, rfl⟩
  refine q_gX10_95 cx hB hy586 ky586 ex589 dX10_tableOf_12 (fun lb590 ub590 => ?_)
  refine lv_lshl cx.1 cx.2.1 dX10_tableOf_15 rfl ?_
  refine lv_topl (fun j591 ej591 => ?_)
  refine lv_lor cx.1 cx.2.1 dX10_tableOf_16 ?_
  refine lv_topl (fun j592 ej592 => ?_)
  refine lv_lstore_n (lv' := [(3, .long j592), (2, .ref y586), (0, .ref v), (1, .int (q_i x))]) cx.1 cx.2.1 dX10_tableOf_17 rfl hl (by decide) rfl (fun ls hl => ?_)
  refine q_iconst cx dX10_tableOf_18 ?_
  refine lv_istore (lv' := [(5, .int (q_i 0)), (3, .long j592), (2, .ref y586), (0, .ref v), (1, .int (q_i x))]) cx.1 cx.2.1 dX10_tableOf_19 hl (by decide) rfl (fun ls hl => ?_)
  exact J21 ((Int.toNat (2147483647 - 0)) + 1) y586 hy586 ky586 j592 0 (by decide) (by decide) (Nat.lt_succ_self _) H locs hB ls (lv_sub hl [3, 2, 1, 0] rfl)
set_option maxHeartbeats 4000000 in
set_option maxRecDepth 100000 in
theorem m_isAwake (l : Launch) (g : q_G) {K : Nat → Nat} {L : List Nat} (hN : L.Nodup) {f : Nat → va_E} (hT : q_Ty g K L f) (v : Nat) (hv : v ∈ L) (kv : K v = 10) (x : Int) (lx : (-2147483648) ≤ x) (ux : x ≤ 2147483647) : q_Ct l g K L yX10_isAwake cX10_isAwake 2 (some .boolean) 2 46 [.ref v, .int (q_i x)] f [] (q_Pi (fun (z : Int) (f1 : Nat → va_E) => f = f1 ∧ 0 ≤ z ∧ z ≤ 1)) := by
  refine q_ofb (by decide +kernel) hN hT (Nat.le_of_ble_eq_true rfl) ?_
  intro p e s m below meth c ls cx hr hlk hB hl
  have hl : lv_has ls 2 [(0, .ref v), (1, .int (q_i x))] := hl
  obtain ⟨H, hH⟩ : ∃ H : Heap, H = s.heap := ⟨_, rfl⟩
  obtain ⟨locs, hlocs⟩ : ∃ z : List Loc, z = [] := ⟨_, rfl⟩
  rw [← hH, ← hlocs] at hB
  rw [← hH, ← hlocs]
  refine q_ald_n cx dX10_isAwake_0 rfl (lv_at hl 0 rfl) ?_
  refine q_ild_n cx dX10_isAwake_1 rfl (lv_at hl 1 rfl) ?_
  refine q_cVi (As := [.int (q_i x)]) (rest := []) cx hB (fun _ h => h) hN hv kv (by decide) rfl (m_isOut l g hN hB.2.1 v hv kv x (by omega) (by omega)) q_cX10_160 q_dX10_isOut (by decide) rfl rfl hl.1 rfl (Nat.le_of_ble_eq_true rfl) dX10_isAwake_2 (fun y16 H locs f15 ry16 h17 hF hB => ?_)
  obtain ⟨rfl, ly16, uy16⟩ := h17
  refine q_ifne (tgt := 28) cx ⟨by omega, by omega⟩ dX10_isAwake_5 (by decide) (fun c18 => ?_) (fun c18 => ?_)
  · refine q_iconst cx dX10_isAwake_28 ?_
    refine q_zret cx hr hlk hB dX10_isAwake_29 (by decide) (by decide) ?_
    exact ⟨rfl, (by decide), (by decide)⟩
  · refine q_ald_n cx dX10_isAwake_8 rfl (lv_at hl 0 rfl) ?_
    refine q_ild_n cx dX10_isAwake_9 rfl (lv_at hl 1 rfl) ?_
    refine q_cVl (As := [.int (q_i x)]) (rest := []) cx hB (fun _ h => h) hN hv kv (by decide) rfl (m_tableOf l g hN hB.2.1 v hv kv x (by omega) (by omega)) q_cX10_174 q_dX10_tableOf (by decide) rfl rfl hl.1 rfl (Nat.le_of_ble_eq_true rfl) dX10_isAwake_10 (fun y20 H locs f19 h21 hF hB => ?_)
    obtain rfl := h21
    refine q_ald_n cx dX10_isAwake_13 rfl (lv_at hl 0 rfl) ?_
    refine q_ild_n cx dX10_isAwake_14 rfl (lv_at hl 1 rfl) ?_
    refine q_cVi (As := [.int (q_i x)]) (rest := [.long y20]) cx hB (fun _ h => h) hN hv kv (by decide) rfl (m_dayOf l g hN hB.2.1 v hv kv x (by omega) (by omega)) q_cX10_178 q_dX10_dayOf (by decide) rfl rfl hl.1 rfl (Nat.le_of_ble_eq_true rfl) dX10_isAwake_15 (fun y23 H locs f22 ry23 h24 hF hB => ?_)
    obtain rfl := h24
    refine q_cSi (As := [.long y20, .int (q_i y23)]) (rest := []) cx hB (fun _ h => h) hN (m_hasDay l g hN hB.2.1 y20 y23 (by omega) (by omega)) q_cX10_170 q_dX10_hasDay (by decide) rfl rfl hl.1 rfl (Nat.le_of_ble_eq_true rfl) dX10_isAwake_18 (fun y26 H locs f25 ry26 h27 hF hB => ?_)
    obtain ⟨rfl, ly26, uy26⟩ := h27
    refine q_ifeq (tgt := 28) cx ⟨by omega, by omega⟩ dX10_isAwake_21 (by decide) (fun c28 => ?_) (fun c28 => ?_)
    · refine q_iconst cx dX10_isAwake_28 ?_
      refine q_zret cx hr hlk hB dX10_isAwake_29 (by decide) (by decide) ?_
      exact ⟨rfl, (by decide), (by decide)⟩
    · refine q_iconst cx dX10_isAwake_24 ?_
      refine lv_goto (tgt := 29) cx.1 cx.2.1 dX10_isAwake_25 (by decide) ?_
      refine q_zret cx hr hlk hB dX10_isAwake_29 (by decide) (by decide) ?_
      exact ⟨rfl, (by decide), (by decide)⟩
set_option maxHeartbeats 4000000 in
set_option maxRecDepth 100000 in
theorem m_energySum (l : Launch) (g : q_G) {K : Nat → Nat} {L : List Nat} (hN : L.Nodup) {f : Nat → va_E} (hT : q_Ty g K L f) (v : Nat) (hv : v ∈ L) (kv : K v = 10) : q_Ct l g K L yX10_energySum cX10_energySum 3 (some .int) 1 21 [.ref v] f [] (q_Pi (fun (z : Int) (f1 : Nat → va_E) => f = f1)) := by
  refine q_ofb (by decide +kernel) hN hT (Nat.le_of_ble_eq_true rfl) ?_
  intro p e s m below meth c ls cx hr hlk hB hl
  have hl : lv_has ls 3 [(0, .ref v)] := hl
  have J4 : ∀ (n : Nat) (v4_1 : Int) (lv4_1 : (-2147483648) ≤ v4_1) (uv4_1 : v4_1 ≤ 2147483647) (v4_2 : Int) (lv4_2 : 0 ≤ v4_2) (uv4_2 : v4_2 ≤ 2147483647) (hmu : (Int.toNat (2147483647 - v4_2)) < n) (H : Heap) (locs : List Loc) (hB : q_B g K L (fun q => q ∈ L) [] f f s H locs) (ls : Array Slot) (hl : lv_has ls 3 [(0, .ref v), (1, .int (q_i v4_1)), (2, .int (q_i v4_2))]), W p l e { frames := 1, cells := 0, slots := 0, locals := 21 } s m ([.ref v] : List Value).toArray below meth c H locs 0 0 (MQ below (q_Q g K L [] f (q_Pi (fun (z : Int) (f1 : Nat → va_E) => f = f1))) ([.ref v] : List Value).toArray s 0 0 (fun q => q ∈ L)) (F0 m 4 ls []) := by
    intro n
    induction n with
    | zero =>
      intro v4_1 lv4_1 uv4_1 v4_2 lv4_2 uv4_2 hmu
      exact absurd hmu (Nat.not_lt_zero _)
    | succ n ih4 =>
      intro v4_1 lv4_1 uv4_1 v4_2 lv4_2 uv4_2 hmu H locs hB ls hl
      refine q_ild_n cx dX10_energySum_4 rfl (lv_at hl 2 rfl) ?_
      refine q_ald_n cx dX10_energySum_5 rfl (lv_at hl 0 rfl) ?_
      obtain ⟨x315, ex315⟩ : ∃ zz, q_z f v 3 = zz := ⟨_, rfl⟩
      refine q_gX10_35 cx hB hv kv ex315 dX10_energySum_6 (fun lb316 ub316 => ?_)
      refine q_icge (tgt := 29) cx ⟨by omega, by omega⟩ ⟨by omega, by omega⟩ dX10_energySum_9 (by decide) (fun c317 => ?_) (fun c317 => ?_)
      · refine q_ild_n cx dX10_energySum_29 rfl (lv_at hl 1 rfl) ?_
        refine q_iret cx hr hlk hB dX10_energySum_30 ⟨by omega, by omega⟩ ?_
        exact rfl
      · refine q_ild_n cx dX10_energySum_12 rfl (lv_at hl 1 rfl) ?_
        refine q_ald_n cx dX10_energySum_13 rfl (lv_at hl 0 rfl) ?_
        refine q_ild_n cx dX10_energySum_14 rfl (lv_at hl 2 rfl) ?_
        refine q_cVr (As := [.int (q_i v4_2)]) (rest := [.int (q_i v4_1)]) cx hB (fun _ h => h) hN hv kv (by decide) rfl (m_nodeAt l g hN hB.2.1 v hv kv v4_2 (by omega) (by omega)) q_cX10_66 q_dX10_nodeAt (by decide) rfl rfl hl.1 rfl (Nat.le_of_ble_eq_true rfl) dX10_energySum_15 (fun y319 H locs f318 h320 hF hB => ?_)
        obtain ⟨rfl, hy319, ky319⟩ := h320
        obtain ⟨x321, ex321⟩ : ∃ zz, q_z f y319 4 = zz := ⟨_, rfl⟩
        refine q_gX10_101 cx hB hy319 ky319 ex321 dX10_energySum_18 (fun lb322 ub322 => ?_)
        refine q_iadd cx dX10_energySum_21 ?_
        refine q_any (fun y323 ry323 ey323 => ?_)
        refine lv_istore_n (lv' := [(1, .int (q_i y323)), (0, .ref v), (2, .int (q_i v4_2))]) cx.1 cx.2.1 dX10_energySum_22 rfl hl (by decide) rfl (fun ls hl => ?_)
        refine q_iinc (lv' := [(2, .int (q_i (v4_2 + 1))), (1, .int (q_i y323)), (0, .ref v)]) cx dX10_energySum_23 hl (k := 2) rfl (by decide) rfl (fun ls hl => ?_)
        refine lv_goto (tgt := 4) cx.1 cx.2.1 dX10_energySum_26 (by decide) ?_
        exact ih4 y323 (by omega) (by omega) (v4_2 + 1) (by omega) (by omega) (by omega) H locs hB ls (lv_sub hl [2, 1, 0] rfl)
  obtain ⟨H, hH⟩ : ∃ H : Heap, H = s.heap := ⟨_, rfl⟩
  obtain ⟨locs, hlocs⟩ : ∃ z : List Loc, z = [] := ⟨_, rfl⟩
  rw [← hH, ← hlocs] at hB
  rw [← hH, ← hlocs]
  refine q_iconst cx dX10_energySum_0 ?_
  refine lv_istore_n (lv' := [(1, .int (q_i 0)), (0, .ref v)]) cx.1 cx.2.1 dX10_energySum_1 rfl hl (by decide) rfl (fun ls hl => ?_)
  refine q_iconst cx dX10_energySum_2 ?_
  refine lv_istore_n (lv' := [(2, .int (q_i 0)), (1, .int (q_i 0)), (0, .ref v)]) cx.1 cx.2.1 dX10_energySum_3 rfl hl (by decide) rfl (fun ls hl => ?_)
  exact J4 ((Int.toNat (2147483647 - 0)) + 1) 0 (by decide) (by decide) 0 (by decide) (by decide) (Nat.lt_succ_self _) H locs hB ls (lv_sub hl [2, 1, 0] rfl)
set_option maxHeartbeats 4000000 in
set_option maxRecDepth 100000 in
theorem m_notOut (l : Launch) (g : q_G) {K : Nat → Nat} {L : List Nat} (hN : L.Nodup) {f : Nat → va_E} (hT : q_Ty g K L f) (v : Nat) (hv : v ∈ L) (kv : K v = 10) : q_Ct l g K L yX10_notOut cX10_notOut 3 (some .int) 1 21 [.ref v] f [] (q_Pi (fun (z : Int) (f1 : Nat → va_E) => f = f1)) := by
  refine q_ofb (by decide +kernel) hN hT (Nat.le_of_ble_eq_true rfl) ?_
  intro p e s m below meth c ls cx hr hlk hB hl
  have hl : lv_has ls 3 [(0, .ref v)] := hl
  have J4 : ∀ (n : Nat) (v4_1 : Int) (lv4_1 : (-2147483648) ≤ v4_1) (uv4_1 : v4_1 ≤ 2147483647) (v4_2 : Int) (lv4_2 : 0 ≤ v4_2) (uv4_2 : v4_2 ≤ 2147483647) (hmu : (Int.toNat (2147483647 - v4_2)) < n) (H : Heap) (locs : List Loc) (hB : q_B g K L (fun q => q ∈ L) [] f f s H locs) (ls : Array Slot) (hl : lv_has ls 3 [(0, .ref v), (1, .int (q_i v4_1)), (2, .int (q_i v4_2))]), W p l e { frames := 1, cells := 0, slots := 0, locals := 21 } s m ([.ref v] : List Value).toArray below meth c H locs 0 0 (MQ below (q_Q g K L [] f (q_Pi (fun (z : Int) (f1 : Nat → va_E) => f = f1))) ([.ref v] : List Value).toArray s 0 0 (fun q => q ∈ L)) (F0 m 4 ls []) := by
    intro n
    induction n with
    | zero =>
      intro v4_1 lv4_1 uv4_1 v4_2 lv4_2 uv4_2 hmu
      exact absurd hmu (Nat.not_lt_zero _)
    | succ n ih4 =>
      intro v4_1 lv4_1 uv4_1 v4_2 lv4_2 uv4_2 hmu H locs hB ls hl
      have J29 : ∀ (v29_1 : Int) (lv29_1 : (-2147483648) ≤ v29_1) (uv29_1 : v29_1 ≤ 2147483647) (buv4_2 : v4_2 ≤ 2147483646) (H : Heap) (locs : List Loc) (hB : q_B g K L (fun q => q ∈ L) [] f f s H locs) (ls : Array Slot) (hl : lv_has ls 3 [(0, .ref v), (1, .int (q_i v29_1)), (2, .int (q_i v4_2))]), W p l e { frames := 1, cells := 0, slots := 0, locals := 21 } s m ([.ref v] : List Value).toArray below meth c H locs 0 0 (MQ below (q_Q g K L [] f (q_Pi (fun (z : Int) (f1 : Nat → va_E) => f = f1))) ([.ref v] : List Value).toArray s 0 0 (fun q => q ∈ L)) (F0 m 29 ls []) := by
        intro v29_1 lv29_1 uv29_1 buv4_2 H locs hB ls hl
        refine q_iinc (lv' := [(2, .int (q_i (v4_2 + 1))), (0, .ref v), (1, .int (q_i v29_1))]) cx dX10_notOut_29 hl (k := 2) rfl (by decide) rfl (fun ls hl => ?_)
        refine lv_goto (tgt := 4) cx.1 cx.2.1 dX10_notOut_32 (by decide) ?_
        exact ih4 v29_1 (by omega) (by omega) (v4_2 + 1) (by omega) (by omega) (by omega) H locs hB ls (lv_sub hl [1, 2, 0] rfl)
      refine q_ild_n cx dX10_notOut_4 rfl (lv_at hl 2 rfl) ?_
      refine q_ald_n cx dX10_notOut_5 rfl (lv_at hl 0 rfl) ?_
      obtain ⟨x386, ex386⟩ : ∃ zz, q_z f v 3 = zz := ⟨_, rfl⟩
      refine q_gX10_35 cx hB hv kv ex386 dX10_notOut_6 (fun lb387 ub387 => ?_)
      refine q_icge (tgt := 35) cx ⟨by omega, by omega⟩ ⟨by omega, by omega⟩ dX10_notOut_9 (by decide) (fun c388 => ?_) (fun c388 => ?_)
      · refine q_ild_n cx dX10_notOut_35 rfl (lv_at hl 1 rfl) ?_
        refine q_iret cx hr hlk hB dX10_notOut_36 ⟨by omega, by omega⟩ ?_
        exact rfl
      · refine q_ald_n cx dX10_notOut_12 rfl (lv_at hl 0 rfl) ?_
        refine q_ild_n cx dX10_notOut_13 rfl (lv_at hl 2 rfl) ?_
        refine q_cVr (As := [.int (q_i v4_2)]) (rest := []) cx hB (fun _ h => h) hN hv kv (by decide) rfl (m_nodeAt l g hN hB.2.1 v hv kv v4_2 (by omega) (by omega)) q_cX10_66 q_dX10_nodeAt (by decide) rfl rfl hl.1 rfl (Nat.le_of_ble_eq_true rfl) dX10_notOut_14 (fun y390 H locs f389 h391 hF hB => ?_)
        obtain ⟨rfl, hy390, ky390⟩ := h391
        obtain ⟨x392, ex392⟩ : ∃ zz, q_z f y390 4 = zz := ⟨_, rfl⟩
        refine q_gX10_101 cx hB hy390 ky390 ex392 dX10_notOut_17 (fun lb393 ub393 => ?_)
        refine q_ifle (tgt := 29) cx ⟨by omega, by omega⟩ dX10_notOut_20 (by decide) (fun c394 => ?_) (fun c394 => ?_)
        · exact J29 v4_1 (by omega) (by omega) (by omega) H locs hB ls (lv_sub hl [0, 1, 2] rfl)
        · refine q_ild_n cx dX10_notOut_23 rfl (lv_at hl 1 rfl) ?_
          refine q_iconst cx dX10_notOut_24 ?_
          refine q_ild_n cx dX10_notOut_25 rfl (lv_at hl 2 rfl) ?_
          refine q_ishl cx dX10_notOut_26 (fun y395 ry395 ey395 => ?_)
          refine q_ior cx dX10_notOut_27 (fun y396 ry396 ey396 => ?_)
          refine lv_istore_n (lv' := [(1, .int (q_i y396)), (0, .ref v), (2, .int (q_i v4_2))]) cx.1 cx.2.1 dX10_notOut_28 rfl hl (by decide) rfl (fun ls hl => ?_)
          exact J29 y396 (by omega) (by omega) (by omega) H locs hB ls (lv_sub hl [1, 0, 2] rfl)
  obtain ⟨H, hH⟩ : ∃ H : Heap, H = s.heap := ⟨_, rfl⟩
  obtain ⟨locs, hlocs⟩ : ∃ z : List Loc, z = [] := ⟨_, rfl⟩
  rw [← hH, ← hlocs] at hB
  rw [← hH, ← hlocs]
  refine q_iconst cx dX10_notOut_0 ?_
  refine lv_istore_n (lv' := [(1, .int (q_i 0)), (0, .ref v)]) cx.1 cx.2.1 dX10_notOut_1 rfl hl (by decide) rfl (fun ls hl => ?_)
  refine q_iconst cx dX10_notOut_2 ?_
  refine lv_istore_n (lv' := [(2, .int (q_i 0)), (1, .int (q_i 0)), (0, .ref v)]) cx.1 cx.2.1 dX10_notOut_3 rfl hl (by decide) rfl (fun ls hl => ?_)
  exact J4 ((Int.toNat (2147483647 - 0)) + 1) 0 (by decide) (by decide) 0 (by decide) (by decide) (Nat.lt_succ_self _) H locs hB ls (lv_sub hl [2, 1, 0] rfl)
end

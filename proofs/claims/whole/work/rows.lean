section
-- ===== PART A: goes FIRST, ahead of the names: the tables' words, and 'selects' of the private methods out of them =====
/-- a private method of a class that the tables say can be made, by its rows of tables_1 -/
def lw_okq (q : MethodName × Nat) : Prop := (q.1.cls ≠ "java/lang/invoke/MethodHandle" ∧ q.1.cls ≠ "java/lang/invoke/VarHandle") ∧ Cond.instantiable q.1.cls q.2 ∈ tables_1 ∧ Cond.privateMethod q.1 ∈ tables_1 ∧ Cond.instanceMethod q.1 ∈ tables_1
theorem lw_p0 : lw_okq (⟨"MirrorBytes", "changedBy", "(II)I"⟩, 8) := ⟨⟨by decide +kernel, by decide +kernel⟩, List.mem_of_getElem? (i := 15) (by decide +kernel), List.mem_of_getElem? (i := 494) (by decide +kernel), List.mem_of_getElem? (i := 495) (by decide +kernel)⟩
theorem lw_p1 : lw_okq (⟨"MirrorBytes", "wouldReadTheSame", "(II)Z"⟩, 8) := ⟨⟨by decide +kernel, by decide +kernel⟩, List.mem_of_getElem? (i := 15) (by decide +kernel), List.mem_of_getElem? (i := 601) (by decide +kernel), List.mem_of_getElem? (i := 602) (by decide +kernel)⟩
theorem lw_p2 : lw_okq (⟨"MirrorBytes", "byteThatGives", "(III)I"⟩, 8) := ⟨⟨by decide +kernel, by decide +kernel⟩, List.mem_of_getElem? (i := 15) (by decide +kernel), List.mem_of_getElem? (i := 629) (by decide +kernel), List.mem_of_getElem? (i := 630) (by decide +kernel)⟩
theorem lw_p3 : lw_okq (⟨"MirrorBytes", "walkedBits", "(I)I"⟩, 8) := ⟨⟨by decide +kernel, by decide +kernel⟩, List.mem_of_getElem? (i := 15) (by decide +kernel), List.mem_of_getElem? (i := 643) (by decide +kernel), List.mem_of_getElem? (i := 644) (by decide +kernel)⟩
theorem lw_p4 : lw_okq (⟨"MirrorBytes", "stepOfWalk", "(III)I"⟩, 8) := ⟨⟨by decide +kernel, by decide +kernel⟩, List.mem_of_getElem? (i := 15) (by decide +kernel), List.mem_of_getElem? (i := 655) (by decide +kernel), List.mem_of_getElem? (i := 656) (by decide +kernel)⟩
theorem lw_p5 : lw_okq (⟨"MirrorBytesModel", "begin", "()V"⟩, 14) := ⟨⟨by decide +kernel, by decide +kernel⟩, List.mem_of_getElem? (i := 691) (by decide +kernel), List.mem_of_getElem? (i := 697) (by decide +kernel), List.mem_of_getElem? (i := 698) (by decide +kernel)⟩
theorem lw_p6 : lw_okq (⟨"MirrorBytesModel", "repair", "(I)V"⟩, 14) := ⟨⟨by decide +kernel, by decide +kernel⟩, List.mem_of_getElem? (i := 691) (by decide +kernel), List.mem_of_getElem? (i := 701) (by decide +kernel), List.mem_of_getElem? (i := 702) (by decide +kernel)⟩
theorem lw_p7 : lw_okq (⟨"MirrorBytesModel", "fields", "()I"⟩, 14) := ⟨⟨by decide +kernel, by decide +kernel⟩, List.mem_of_getElem? (i := 691) (by decide +kernel), List.mem_of_getElem? (i := 705) (by decide +kernel), List.mem_of_getElem? (i := 706) (by decide +kernel)⟩
theorem lw_p8 : lw_okq (⟨"MirrorBytesModel", "reset", "(I)V"⟩, 14) := ⟨⟨by decide +kernel, by decide +kernel⟩, List.mem_of_getElem? (i := 691) (by decide +kernel), List.mem_of_getElem? (i := 709) (by decide +kernel), List.mem_of_getElem? (i := 710) (by decide +kernel)⟩
theorem lw_p9 : lw_okq (⟨"MirrorBytesModel", "emptyLog", "()V"⟩, 14) := ⟨⟨by decide +kernel, by decide +kernel⟩, List.mem_of_getElem? (i := 691) (by decide +kernel), List.mem_of_getElem? (i := 713) (by decide +kernel), List.mem_of_getElem? (i := 714) (by decide +kernel)⟩
theorem lw_p10 : lw_okq (⟨"MirrorBytesModel", "note", "()V"⟩, 14) := ⟨⟨by decide +kernel, by decide +kernel⟩, List.mem_of_getElem? (i := 691) (by decide +kernel), List.mem_of_getElem? (i := 764) (by decide +kernel), List.mem_of_getElem? (i := 765) (by decide +kernel)⟩
theorem lw_p11 : lw_okq (⟨"MirrorBytesModel", "goesTo", "(I)I"⟩, 14) := ⟨⟨by decide +kernel, by decide +kernel⟩, List.mem_of_getElem? (i := 691) (by decide +kernel), List.mem_of_getElem? (i := 775) (by decide +kernel), List.mem_of_getElem? (i := 776) (by decide +kernel)⟩
theorem lw_p12 : lw_okq (⟨"MirrorBytesModel", "registers", "()I"⟩, 14) := ⟨⟨by decide +kernel, by decide +kernel⟩, List.mem_of_getElem? (i := 691) (by decide +kernel), List.mem_of_getElem? (i := 779) (by decide +kernel), List.mem_of_getElem? (i := 780) (by decide +kernel)⟩
theorem lw_p13 : lw_okq (⟨"MirrorBytesModel", "peekAt", "(II)I"⟩, 14) := ⟨⟨by decide +kernel, by decide +kernel⟩, List.mem_of_getElem? (i := 691) (by decide +kernel), List.mem_of_getElem? (i := 783) (by decide +kernel), List.mem_of_getElem? (i := 784) (by decide +kernel)⟩
theorem lw_p14 : lw_okq (⟨"MirrorBytesModel", "registerOf", "(I)I"⟩, 14) := ⟨⟨by decide +kernel, by decide +kernel⟩, List.mem_of_getElem? (i := 691) (by decide +kernel), List.mem_of_getElem? (i := 787) (by decide +kernel), List.mem_of_getElem? (i := 788) (by decide +kernel)⟩
theorem lw_p15 : lw_okq (⟨"MirrorBytesModel", "tellsOf", "(II)I"⟩, 14) := ⟨⟨by decide +kernel, by decide +kernel⟩, List.mem_of_getElem? (i := 691) (by decide +kernel), List.mem_of_getElem? (i := 791) (by decide +kernel), List.mem_of_getElem? (i := 792) (by decide +kernel)⟩
def lw_privs_1 : List (MethodName × Nat) := [(⟨"MirrorBytes", "changedBy", "(II)I"⟩, 8), (⟨"MirrorBytes", "wouldReadTheSame", "(II)Z"⟩, 8), (⟨"MirrorBytes", "byteThatGives", "(III)I"⟩, 8), (⟨"MirrorBytes", "walkedBits", "(I)I"⟩, 8), (⟨"MirrorBytes", "stepOfWalk", "(III)I"⟩, 8), (⟨"MirrorBytesModel", "begin", "()V"⟩, 14), (⟨"MirrorBytesModel", "repair", "(I)V"⟩, 14), (⟨"MirrorBytesModel", "fields", "()I"⟩, 14), (⟨"MirrorBytesModel", "reset", "(I)V"⟩, 14), (⟨"MirrorBytesModel", "emptyLog", "()V"⟩, 14), (⟨"MirrorBytesModel", "note", "()V"⟩, 14), (⟨"MirrorBytesModel", "goesTo", "(I)I"⟩, 14), (⟨"MirrorBytesModel", "registers", "()I"⟩, 14), (⟨"MirrorBytesModel", "peekAt", "(II)I"⟩, 14), (⟨"MirrorBytesModel", "registerOf", "(I)I"⟩, 14), (⟨"MirrorBytesModel", "tellsOf", "(II)I"⟩, 14)]
theorem lw_r1 : ∀ q ∈ lw_privs_1, lw_okq q := List.forall_mem_cons.mpr ⟨lw_p0, List.forall_mem_cons.mpr ⟨lw_p1, List.forall_mem_cons.mpr ⟨lw_p2, List.forall_mem_cons.mpr ⟨lw_p3, List.forall_mem_cons.mpr ⟨lw_p4, List.forall_mem_cons.mpr ⟨lw_p5, List.forall_mem_cons.mpr ⟨lw_p6, List.forall_mem_cons.mpr ⟨lw_p7, List.forall_mem_cons.mpr ⟨lw_p8, List.forall_mem_cons.mpr ⟨lw_p9, List.forall_mem_cons.mpr ⟨lw_p10, List.forall_mem_cons.mpr ⟨lw_p11, List.forall_mem_cons.mpr ⟨lw_p12, List.forall_mem_cons.mpr ⟨lw_p13, List.forall_mem_cons.mpr ⟨lw_p14, List.forall_mem_cons.mpr ⟨lw_p15, fun _ h => absurd h List.not_mem_nil⟩⟩⟩⟩⟩⟩⟩⟩⟩⟩⟩⟩⟩⟩⟩⟩
theorem lw_p16 : lw_okq (⟨"MirrorBytesModel", "readOf", "(II)I"⟩, 14) := ⟨⟨by decide +kernel, by decide +kernel⟩, List.mem_of_getElem? (i := 691) (by decide +kernel), List.mem_of_getElem? (i := 795) (by decide +kernel), List.mem_of_getElem? (i := 796) (by decide +kernel)⟩
theorem lw_p17 : lw_okq (⟨"MirrorBytesModel", "clearRead", "(II)V"⟩, 14) := ⟨⟨by decide +kernel, by decide +kernel⟩, List.mem_of_getElem? (i := 691) (by decide +kernel), List.mem_of_getElem? (i := 799) (by decide +kernel), List.mem_of_getElem? (i := 800) (by decide +kernel)⟩
theorem lw_p18 : lw_okq (⟨"MirrorBytesModel", "most", "(I)I"⟩, 14) := ⟨⟨by decide +kernel, by decide +kernel⟩, List.mem_of_getElem? (i := 691) (by decide +kernel), List.mem_of_getElem? (i := 803) (by decide +kernel), List.mem_of_getElem? (i := 804) (by decide +kernel)⟩
theorem lw_p19 : lw_okq (⟨"MirrorBytesModel", "logs", "(III)V"⟩, 14) := ⟨⟨by decide +kernel, by decide +kernel⟩, List.mem_of_getElem? (i := 691) (by decide +kernel), List.mem_of_getElem? (i := 807) (by decide +kernel), List.mem_of_getElem? (i := 808) (by decide +kernel)⟩
theorem lw_p20 : lw_okq (⟨"MirrorBytesModel", "copyMachine", "(II)V"⟩, 14) := ⟨⟨by decide +kernel, by decide +kernel⟩, List.mem_of_getElem? (i := 691) (by decide +kernel), List.mem_of_getElem? (i := 815) (by decide +kernel), List.mem_of_getElem? (i := 816) (by decide +kernel)⟩
theorem lw_p21 : lw_okq (⟨"MirrorBytesModel", "writeTo", "(III)V"⟩, 14) := ⟨⟨by decide +kernel, by decide +kernel⟩, List.mem_of_getElem? (i := 691) (by decide +kernel), List.mem_of_getElem? (i := 819) (by decide +kernel), List.mem_of_getElem? (i := 820) (by decide +kernel)⟩
theorem lw_p22 : lw_okq (⟨"MirrorBytesModel", "isLocked", "(II)Z"⟩, 14) := ⟨⟨by decide +kernel, by decide +kernel⟩, List.mem_of_getElem? (i := 691) (by decide +kernel), List.mem_of_getElem? (i := 823) (by decide +kernel), List.mem_of_getElem? (i := 824) (by decide +kernel)⟩
theorem lw_p23 : lw_okq (⟨"MirrorBytesModel", "letIn", "(IIII)V"⟩, 14) := ⟨⟨by decide +kernel, by decide +kernel⟩, List.mem_of_getElem? (i := 691) (by decide +kernel), List.mem_of_getElem? (i := 827) (by decide +kernel), List.mem_of_getElem? (i := 828) (by decide +kernel)⟩
theorem lw_p24 : lw_okq (⟨"MirrorBytesModel", "openGates", "(III)V"⟩, 14) := ⟨⟨by decide +kernel, by decide +kernel⟩, List.mem_of_getElem? (i := 691) (by decide +kernel), List.mem_of_getElem? (i := 834) (by decide +kernel), List.mem_of_getElem? (i := 835) (by decide +kernel)⟩
theorem lw_p25 : lw_okq (⟨"MirrorBytesModel", "otherFields", "(II)I"⟩, 14) := ⟨⟨by decide +kernel, by decide +kernel⟩, List.mem_of_getElem? (i := 691) (by decide +kernel), List.mem_of_getElem? (i := 838) (by decide +kernel), List.mem_of_getElem? (i := 839) (by decide +kernel)⟩
theorem lw_p26 : lw_okq (⟨"MirrorBytesModel", "isField", "(I)Z"⟩, 14) := ⟨⟨by decide +kernel, by decide +kernel⟩, List.mem_of_getElem? (i := 691) (by decide +kernel), List.mem_of_getElem? (i := 846) (by decide +kernel), List.mem_of_getElem? (i := 847) (by decide +kernel)⟩
theorem lw_p27 : lw_okq (⟨"MirrorBytesModel", "isRegister", "(I)Z"⟩, 14) := ⟨⟨by decide +kernel, by decide +kernel⟩, List.mem_of_getElem? (i := 691) (by decide +kernel), List.mem_of_getElem? (i := 866) (by decide +kernel), List.mem_of_getElem? (i := 867) (by decide +kernel)⟩
theorem lw_p28 : lw_okq (⟨"MirrorBytesModel", "wouldTell", "(II)Z"⟩, 14) := ⟨⟨by decide +kernel, by decide +kernel⟩, List.mem_of_getElem? (i := 691) (by decide +kernel), List.mem_of_getElem? (i := 894) (by decide +kernel), List.mem_of_getElem? (i := 895) (by decide +kernel)⟩
theorem lw_p29 : lw_okq (⟨"MirrorBytesModel", "tryWrite", "(II)V"⟩, 14) := ⟨⟨by decide +kernel, by decide +kernel⟩, List.mem_of_getElem? (i := 691) (by decide +kernel), List.mem_of_getElem? (i := 906) (by decide +kernel), List.mem_of_getElem? (i := 907) (by decide +kernel)⟩
theorem lw_p30 : lw_okq (⟨"MirrorBytesModel", "isWalked", "(I)Z"⟩, 14) := ⟨⟨by decide +kernel, by decide +kernel⟩, List.mem_of_getElem? (i := 691) (by decide +kernel), List.mem_of_getElem? (i := 918) (by decide +kernel), List.mem_of_getElem? (i := 919) (by decide +kernel)⟩
theorem lw_p31 : lw_okq (⟨"MirrorBytesModel", "isLockOrGate", "(II)Z"⟩, 14) := ⟨⟨by decide +kernel, by decide +kernel⟩, List.mem_of_getElem? (i := 691) (by decide +kernel), List.mem_of_getElem? (i := 922) (by decide +kernel), List.mem_of_getElem? (i := 923) (by decide +kernel)⟩
def lw_privs_2 : List (MethodName × Nat) := [(⟨"MirrorBytesModel", "readOf", "(II)I"⟩, 14), (⟨"MirrorBytesModel", "clearRead", "(II)V"⟩, 14), (⟨"MirrorBytesModel", "most", "(I)I"⟩, 14), (⟨"MirrorBytesModel", "logs", "(III)V"⟩, 14), (⟨"MirrorBytesModel", "copyMachine", "(II)V"⟩, 14), (⟨"MirrorBytesModel", "writeTo", "(III)V"⟩, 14), (⟨"MirrorBytesModel", "isLocked", "(II)Z"⟩, 14), (⟨"MirrorBytesModel", "letIn", "(IIII)V"⟩, 14), (⟨"MirrorBytesModel", "openGates", "(III)V"⟩, 14), (⟨"MirrorBytesModel", "otherFields", "(II)I"⟩, 14), (⟨"MirrorBytesModel", "isField", "(I)Z"⟩, 14), (⟨"MirrorBytesModel", "isRegister", "(I)Z"⟩, 14), (⟨"MirrorBytesModel", "wouldTell", "(II)Z"⟩, 14), (⟨"MirrorBytesModel", "tryWrite", "(II)V"⟩, 14), (⟨"MirrorBytesModel", "isWalked", "(I)Z"⟩, 14), (⟨"MirrorBytesModel", "isLockOrGate", "(II)Z"⟩, 14)]
theorem lw_r2 : ∀ q ∈ lw_privs_2, lw_okq q := List.forall_mem_cons.mpr ⟨lw_p16, List.forall_mem_cons.mpr ⟨lw_p17, List.forall_mem_cons.mpr ⟨lw_p18, List.forall_mem_cons.mpr ⟨lw_p19, List.forall_mem_cons.mpr ⟨lw_p20, List.forall_mem_cons.mpr ⟨lw_p21, List.forall_mem_cons.mpr ⟨lw_p22, List.forall_mem_cons.mpr ⟨lw_p23, List.forall_mem_cons.mpr ⟨lw_p24, List.forall_mem_cons.mpr ⟨lw_p25, List.forall_mem_cons.mpr ⟨lw_p26, List.forall_mem_cons.mpr ⟨lw_p27, List.forall_mem_cons.mpr ⟨lw_p28, List.forall_mem_cons.mpr ⟨lw_p29, List.forall_mem_cons.mpr ⟨lw_p30, List.forall_mem_cons.mpr ⟨lw_p31, fun _ h => absurd h List.not_mem_nil⟩⟩⟩⟩⟩⟩⟩⟩⟩⟩⟩⟩⟩⟩⟩⟩
theorem lw_p32 : lw_okq (⟨"MirrorBytesModel", "bitsBy", "(IZ)I"⟩, 14) := ⟨⟨by decide +kernel, by decide +kernel⟩, List.mem_of_getElem? (i := 691) (by decide +kernel), List.mem_of_getElem? (i := 926) (by decide +kernel), List.mem_of_getElem? (i := 927) (by decide +kernel)⟩
theorem lw_p33 : lw_okq (⟨"MirrorBytesModel", "bitsOf", "(I)I"⟩, 14) := ⟨⟨by decide +kernel, by decide +kernel⟩, List.mem_of_getElem? (i := 691) (by decide +kernel), List.mem_of_getElem? (i := 930) (by decide +kernel), List.mem_of_getElem? (i := 931) (by decide +kernel)⟩
theorem lw_p34 : lw_okq (⟨"MirrorBytesModel", "fieldBits", "()I"⟩, 14) := ⟨⟨by decide +kernel, by decide +kernel⟩, List.mem_of_getElem? (i := 691) (by decide +kernel), List.mem_of_getElem? (i := 946) (by decide +kernel), List.mem_of_getElem? (i := 947) (by decide +kernel)⟩
theorem lw_p35 : lw_okq (⟨"MirrorBytesModel", "brokenMany", "()I"⟩, 14) := ⟨⟨by decide +kernel, by decide +kernel⟩, List.mem_of_getElem? (i := 691) (by decide +kernel), List.mem_of_getElem? (i := 950) (by decide +kernel), List.mem_of_getElem? (i := 951) (by decide +kernel)⟩
theorem lw_p36 : lw_okq (⟨"MirrorBytesModel", "next", "()V"⟩, 14) := ⟨⟨by decide +kernel, by decide +kernel⟩, List.mem_of_getElem? (i := 691) (by decide +kernel), List.mem_of_getElem? (i := 966) (by decide +kernel), List.mem_of_getElem? (i := 967) (by decide +kernel)⟩
theorem lw_p37 : lw_okq (⟨"MirrorBytesModel", "isHere", "(II)Z"⟩, 14) := ⟨⟨by decide +kernel, by decide +kernel⟩, List.mem_of_getElem? (i := 691) (by decide +kernel), List.mem_of_getElem? (i := 970) (by decide +kernel), List.mem_of_getElem? (i := 971) (by decide +kernel)⟩
theorem lw_p38 : lw_okq (⟨"MirrorBytesModel", "readItem", "()V"⟩, 14) := ⟨⟨by decide +kernel, by decide +kernel⟩, List.mem_of_getElem? (i := 691) (by decide +kernel), List.mem_of_getElem? (i := 978) (by decide +kernel), List.mem_of_getElem? (i := 979) (by decide +kernel)⟩
theorem lw_p39 : lw_okq (⟨"MirrorBytesModel", "must", "(Z)I"⟩, 14) := ⟨⟨by decide +kernel, by decide +kernel⟩, List.mem_of_getElem? (i := 691) (by decide +kernel), List.mem_of_getElem? (i := 982) (by decide +kernel), List.mem_of_getElem? (i := 983) (by decide +kernel)⟩
theorem lw_p40 : lw_okq (⟨"MirrorBytesModel", "readRegister", "()V"⟩, 14) := ⟨⟨by decide +kernel, by decide +kernel⟩, List.mem_of_getElem? (i := 691) (by decide +kernel), List.mem_of_getElem? (i := 986) (by decide +kernel), List.mem_of_getElem? (i := 987) (by decide +kernel)⟩
theorem lw_p41 : lw_okq (⟨"MirrorBytesModel", "number", "(II)I"⟩, 14) := ⟨⟨by decide +kernel, by decide +kernel⟩, List.mem_of_getElem? (i := 691) (by decide +kernel), List.mem_of_getElem? (i := 990) (by decide +kernel), List.mem_of_getElem? (i := 991) (by decide +kernel)⟩
theorem lw_p42 : lw_okq (⟨"MirrorBytesModel", "readField", "()V"⟩, 14) := ⟨⟨by decide +kernel, by decide +kernel⟩, List.mem_of_getElem? (i := 691) (by decide +kernel), List.mem_of_getElem? (i := 994) (by decide +kernel), List.mem_of_getElem? (i := 995) (by decide +kernel)⟩
theorem lw_p43 : lw_okq (⟨"MirrorBytesModel", "usedBits", "(I)I"⟩, 14) := ⟨⟨by decide +kernel, by decide +kernel⟩, List.mem_of_getElem? (i := 691) (by decide +kernel), List.mem_of_getElem? (i := 998) (by decide +kernel), List.mem_of_getElem? (i := 999) (by decide +kernel)⟩
theorem lw_p44 : lw_okq (⟨"MirrorBytesModel", "readAlias", "()V"⟩, 14) := ⟨⟨by decide +kernel, by decide +kernel⟩, List.mem_of_getElem? (i := 691) (by decide +kernel), List.mem_of_getElem? (i := 1002) (by decide +kernel), List.mem_of_getElem? (i := 1003) (by decide +kernel)⟩
theorem lw_p45 : lw_okq (⟨"MirrorBytesModel", "readLink", "(I)V"⟩, 14) := ⟨⟨by decide +kernel, by decide +kernel⟩, List.mem_of_getElem? (i := 691) (by decide +kernel), List.mem_of_getElem? (i := 1006) (by decide +kernel), List.mem_of_getElem? (i := 1007) (by decide +kernel)⟩
def lw_privs_3 : List (MethodName × Nat) := [(⟨"MirrorBytesModel", "bitsBy", "(IZ)I"⟩, 14), (⟨"MirrorBytesModel", "bitsOf", "(I)I"⟩, 14), (⟨"MirrorBytesModel", "fieldBits", "()I"⟩, 14), (⟨"MirrorBytesModel", "brokenMany", "()I"⟩, 14), (⟨"MirrorBytesModel", "next", "()V"⟩, 14), (⟨"MirrorBytesModel", "isHere", "(II)Z"⟩, 14), (⟨"MirrorBytesModel", "readItem", "()V"⟩, 14), (⟨"MirrorBytesModel", "must", "(Z)I"⟩, 14), (⟨"MirrorBytesModel", "readRegister", "()V"⟩, 14), (⟨"MirrorBytesModel", "number", "(II)I"⟩, 14), (⟨"MirrorBytesModel", "readField", "()V"⟩, 14), (⟨"MirrorBytesModel", "usedBits", "(I)I"⟩, 14), (⟨"MirrorBytesModel", "readAlias", "()V"⟩, 14), (⟨"MirrorBytesModel", "readLink", "(I)V"⟩, 14)]
theorem lw_r3 : ∀ q ∈ lw_privs_3, lw_okq q := List.forall_mem_cons.mpr ⟨lw_p32, List.forall_mem_cons.mpr ⟨lw_p33, List.forall_mem_cons.mpr ⟨lw_p34, List.forall_mem_cons.mpr ⟨lw_p35, List.forall_mem_cons.mpr ⟨lw_p36, List.forall_mem_cons.mpr ⟨lw_p37, List.forall_mem_cons.mpr ⟨lw_p38, List.forall_mem_cons.mpr ⟨lw_p39, List.forall_mem_cons.mpr ⟨lw_p40, List.forall_mem_cons.mpr ⟨lw_p41, List.forall_mem_cons.mpr ⟨lw_p42, List.forall_mem_cons.mpr ⟨lw_p43, List.forall_mem_cons.mpr ⟨lw_p44, List.forall_mem_cons.mpr ⟨lw_p45, fun _ h => absurd h List.not_mem_nil⟩⟩⟩⟩⟩⟩⟩⟩⟩⟩⟩⟩⟩⟩
def lw_privs : List (MethodName × Nat) := lw_privs_1 ++ (lw_privs_2 ++ (lw_privs_3))
def lw_tbl : List Cond := k2_sels lw_privs ++ tables_1
theorem lw_privs_ok : ∀ q ∈ lw_privs, lw_okq q := by
  show ∀ q ∈ lw_privs_1 ++ (lw_privs_2 ++ (lw_privs_3)), lw_okq q
  exact List.forall_mem_append.mpr ⟨lw_r1, List.forall_mem_append.mpr ⟨lw_r2, lw_r3⟩⟩
end
section
def RX0 : String := "MirrorBytes$Block"
def TX0 : u_T := fun k => match k with
  | 0 => ("MirrorBytes$Block", "registers", "I", false)
  | 1 => ("MirrorBytes$Block", "fields", "I", false)
  | 2 => ("MirrorBytes$Block", "aliases", "I", false)
  | 3 => ("MirrorBytes$Block", "address", "[I", true)
  | 4 => ("MirrorBytes$Block", "lock", "[I", true)
  | 5 => ("MirrorBytes$Block", "gate", "[I", true)
  | 6 => ("MirrorBytes$Block", "owner", "[I", true)
  | 7 => ("MirrorBytes$Block", "kind", "[I", true)
  | 8 => ("MirrorBytes$Block", "low", "[I", true)
  | 9 => ("MirrorBytes$Block", "high", "[I", true)
  | 10 => ("MirrorBytes$Block", "mask", "[I", true)
  | 11 => ("MirrorBytes$Block", "initial", "[I", true)
  | 12 => ("MirrorBytes$Block", "aliasAddress", "[I", true)
  | 13 => ("MirrorBytes$Block", "aliasRegister", "[I", true)
  | _ => ("MirrorBytes$Block", "aliasKind", "[I", true)
def tyX0 : Nat → FieldType := fun k => match k with
  | 0 => .int
  | 1 => .int
  | 2 => .int
  | 3 => .array .int
  | 4 => .array .int
  | 5 => .array .int
  | 6 => .array .int
  | 7 => .array .int
  | 8 => .array .int
  | 9 => .array .int
  | 10 => .array .int
  | 11 => .array .int
  | 12 => .array .int
  | 13 => .array .int
  | _ => .array .int
abbrev wsX00 : List Cond := u_ws RX0 TX0 15
theorem nmX0 : ∀ a, a < 15 → ∀ b, b < 15 → a ≠ b → (TX0 a).2.1 ≠ (TX0 b).2.1 := by decide +kernel
theorem tyX0_ok : ∀ k, k < 15 → parseFieldDescriptor (TX0 k).2.2.1 = some (tyX0 k) := by decide +kernel
abbrev cX0_init : ByteArray := prog_2_method_1_code
def yX0_init : MethodName := ⟨RX0, "<init>", "()V"⟩
abbrev cX0_empty : ByteArray := prog_2_method_2_code
def yX0_empty : MethodName := ⟨RX0, "empty", "()V"⟩
abbrev cX0_greatestValue : ByteArray := prog_2_method_3_code
def yX0_greatestValue : MethodName := ⟨RX0, "greatestValue", "(I)I"⟩
abbrev cX0_canHold : ByteArray := prog_2_method_4_code
def yX0_canHold : MethodName := ⟨RX0, "canHold", "(II)Z"⟩
abbrev cX0_usedBits : ByteArray := prog_2_method_5_code
def yX0_usedBits : MethodName := ⟨RX0, "usedBits", "(I)I"⟩
abbrev cX0_plainBits : ByteArray := prog_2_method_6_code
def yX0_plainBits : MethodName := ⟨RX0, "plainBits", "(I)I"⟩
abbrev cX0_bitsOfFields : ByteArray := prog_2_method_7_code
def yX0_bitsOfFields : MethodName := ⟨RX0, "bitsOfFields", "()I"⟩
abbrev cX0_registerAt : ByteArray := prog_2_method_8_code
def yX0_registerAt : MethodName := ⟨RX0, "registerAt", "(I)I"⟩
abbrev cX0_aliasAt : ByteArray := prog_2_method_9_code
def yX0_aliasAt : MethodName := ⟨RX0, "aliasAt", "(I)I"⟩
abbrev cX0_registerBehind : ByteArray := prog_2_method_10_code
def yX0_registerBehind : MethodName := ⟨RX0, "registerBehind", "(I)I"⟩
abbrev cX0_holdersOf : ByteArray := prog_2_method_11_code
def yX0_holdersOf : MethodName := ⟨RX0, "holdersOf", "(I)I"⟩
abbrev cX0_isLock : ByteArray := prog_2_method_12_code
def yX0_isLock : MethodName := ⟨RX0, "isLock", "(I)Z"⟩
abbrev cX0_isGate : ByteArray := prog_2_method_13_code
def yX0_isGate : MethodName := ⟨RX0, "isGate", "(I)Z"⟩
abbrev cX0_isOpenedBy : ByteArray := prog_2_method_14_code
def yX0_isOpenedBy : MethodName := ⟨RX0, "isOpenedBy", "(II)Z"⟩
abbrev cX0_canReach : ByteArray := prog_2_method_15_code
def yX0_canReach : MethodName := ⟨RX0, "canReach", "(II)Z"⟩
def RX1 : String := "MirrorBytes$Device"
def TX1 : u_T := fun k => match k with
  | 0 => ("MirrorBytes$Device", "content", "[I", true)
  | 1 => ("MirrorBytes$Device", "held", "[I", true)
  | 2 => ("MirrorBytes$Device", "entered", "[Z", true)
  | _ => ("MirrorBytes$Device", "kinds", "[I", true)
def tyX1 : Nat → FieldType := fun k => match k with
  | 0 => .array .int
  | 1 => .array .int
  | 2 => .array .boolean
  | _ => .array .int
abbrev wsX10 : List Cond := u_ws RX1 TX1 4
theorem nmX1 : ∀ a, a < 4 → ∀ b, b < 4 → a ≠ b → (TX1 a).2.1 ≠ (TX1 b).2.1 := by decide +kernel
theorem tyX1_ok : ∀ k, k < 4 → parseFieldDescriptor (TX1 k).2.2.1 = some (tyX1 k) := by decide +kernel
abbrev cX1_init : ByteArray := prog_3_method_1_code
def yX1_init : MethodName := ⟨RX1, "<init>", "()V"⟩
abbrev cX1_copyFrom : ByteArray := prog_3_method_2_code
def yX1_copyFrom : MethodName := ⟨RX1, "copyFrom", "(LMirrorBytes$Device;)V"⟩
abbrev cX1_mend : ByteArray := prog_3_method_3_code
def yX1_mend : MethodName := ⟨RX1, "mend", "(LMirrorBytes$Block;)V"⟩
abbrev cX1_restart : ByteArray := prog_3_method_4_code
def yX1_restart : MethodName := ⟨RX1, "restart", "(LMirrorBytes$Block;)V"⟩
abbrev cX1_valueOf : ByteArray := prog_3_method_5_code
def yX1_valueOf : MethodName := ⟨RX1, "valueOf", "(LMirrorBytes$Block;I)I"⟩
abbrev cX1_putValue : ByteArray := prog_3_method_6_code
def yX1_putValue : MethodName := ⟨RX1, "putValue", "(LMirrorBytes$Block;II)V"⟩
abbrev cX1_putBits : ByteArray := prog_3_method_7_code
def yX1_putBits : MethodName := ⟨RX1, "putBits", "(LMirrorBytes$Block;II)V"⟩
abbrev cX1_brokenFields : ByteArray := prog_3_method_8_code
def yX1_brokenFields : MethodName := ⟨RX1, "brokenFields", "(LMirrorBytes$Block;)I"⟩
abbrev cX1_isLocked : ByteArray := prog_3_method_9_code
def yX1_isLocked : MethodName := ⟨RX1, "isLocked", "(LMirrorBytes$Block;I)Z"⟩
abbrev cX1_shown : ByteArray := prog_3_method_10_code
def yX1_shown : MethodName := ⟨RX1, "shown", "(LMirrorBytes$Block;I)I"⟩
abbrev cX1_look : ByteArray := prog_3_method_11_code
def yX1_look : MethodName := ⟨RX1, "look", "(LMirrorBytes$Block;I)I"⟩
abbrev cX1_read : ByteArray := prog_3_method_12_code
def yX1_read : MethodName := ⟨RX1, "read", "(LMirrorBytes$Block;I)I"⟩
abbrev cX1_learn : ByteArray := prog_3_method_13_code
def yX1_learn : MethodName := ⟨RX1, "learn", "(LMirrorBytes$Block;II)V"⟩
abbrev cX1_write : ByteArray := prog_3_method_14_code
def yX1_write : MethodName := ⟨RX1, "write", "(LMirrorBytes$Block;II)V"⟩
abbrev cX1_letIn : ByteArray := prog_3_method_15_code
def yX1_letIn : MethodName := ⟨RX1, "letIn", "(LMirrorBytes$Block;II)V"⟩
abbrev cX1_letInByAlias : ByteArray := prog_3_method_16_code
def yX1_letInByAlias : MethodName := ⟨RX1, "letInByAlias", "(LMirrorBytes$Block;III)V"⟩
abbrev cX1_bitsAfter : ByteArray := prog_3_method_17_code
def yX1_bitsAfter : MethodName := ⟨RX1, "bitsAfter", "(III)I"⟩
abbrev cX1_openGates : ByteArray := prog_3_method_18_code
def yX1_openGates : MethodName := ⟨RX1, "openGates", "(LMirrorBytes$Block;II)V"⟩
def RX2 : String := "MirrorBytes$History"
def TX2 : u_T := fun k => match k with
  | 0 => ("MirrorBytes$History", "before", "[LMirrorBytes$Situation;", true)
  | 1 => ("MirrorBytes$History", "next", "I", false)
  | _ => ("MirrorBytes$History", "length", "I", false)
def tyX2 : Nat → FieldType := fun k => match k with
  | 0 => .array (.object "MirrorBytes$Situation")
  | 1 => .int
  | _ => .int
abbrev wsX20 : List Cond := u_ws RX2 TX2 3
theorem nmX2 : ∀ a, a < 3 → ∀ b, b < 3 → a ≠ b → (TX2 a).2.1 ≠ (TX2 b).2.1 := by decide +kernel
theorem tyX2_ok : ∀ k, k < 3 → parseFieldDescriptor (TX2 k).2.2.1 = some (tyX2 k) := by decide +kernel
abbrev cX2_init : ByteArray := prog_4_method_1_code
def yX2_init : MethodName := ⟨RX2, "<init>", "()V"⟩
abbrev cX2_forget : ByteArray := prog_4_method_2_code
def yX2_forget : MethodName := ⟨RX2, "forget", "()V"⟩
abbrev cX2_remember : ByteArray := prog_4_method_3_code
def yX2_remember : MethodName := ⟨RX2, "remember", "(LMirrorBytes$Situation;)V"⟩
abbrev cX2_recall : ByteArray := prog_4_method_4_code
def yX2_recall : MethodName := ⟨RX2, "recall", "(LMirrorBytes$Situation;)V"⟩
def RX3 : String := "MirrorBytes$Journal"
def TX3 : u_T := fun k => match k with
  | 0 => ("MirrorBytes$Journal", "length", "I", false)
  | 1 => ("MirrorBytes$Journal", "address", "[I", true)
  | 2 => ("MirrorBytes$Journal", "isWrite", "[Z", true)
  | _ => ("MirrorBytes$Journal", "content", "[I", true)
def tyX3 : Nat → FieldType := fun k => match k with
  | 0 => .int
  | 1 => .array .int
  | 2 => .array .boolean
  | _ => .array .int
abbrev wsX30 : List Cond := u_ws RX3 TX3 4
theorem nmX3 : ∀ a, a < 4 → ∀ b, b < 4 → a ≠ b → (TX3 a).2.1 ≠ (TX3 b).2.1 := by decide +kernel
theorem tyX3_ok : ∀ k, k < 4 → parseFieldDescriptor (TX3 k).2.2.1 = some (tyX3 k) := by decide +kernel
abbrev cX3_init : ByteArray := prog_5_method_1_code
def yX3_init : MethodName := ⟨RX3, "<init>", "()V"⟩
abbrev cX3_copyFrom : ByteArray := prog_5_method_2_code
def yX3_copyFrom : MethodName := ⟨RX3, "copyFrom", "(LMirrorBytes$Journal;)V"⟩
abbrev cX3_append : ByteArray := prog_5_method_3_code
def yX3_append : MethodName := ⟨RX3, "append", "(IZI)V"⟩
abbrev cX3_agreesWith : ByteArray := prog_5_method_4_code
def yX3_agreesWith : MethodName := ⟨RX3, "agreesWith", "(LMirrorBytes$Device;LMirrorBytes$Block;)Z"⟩
def RX4 : String := "MirrorBytes$Parser"
def TX4 : u_T := fun k => match k with
  | 0 => ("MirrorBytes$Parser", "tokens", "LMirrorBytes$Tokens;", true)
  | _ => ("MirrorBytes$Parser", "block", "LMirrorBytes$Block;", false)
def tyX4 : Nat → FieldType := fun k => match k with
  | 0 => .object "MirrorBytes$Tokens"
  | _ => .object "MirrorBytes$Block"
abbrev wsX40 : List Cond := u_ws RX4 TX4 2
theorem nmX4 : ∀ a, a < 2 → ∀ b, b < 2 → a ≠ b → (TX4 a).2.1 ≠ (TX4 b).2.1 := by decide +kernel
theorem tyX4_ok : ∀ k, k < 2 → parseFieldDescriptor (TX4 k).2.2.1 = some (tyX4 k) := by decide +kernel
abbrev cX4_init : ByteArray := prog_6_method_1_code
def yX4_init : MethodName := ⟨RX4, "<init>", "(LMirrorBytes$Text;)V"⟩
abbrev cX4_exchange : ByteArray := prog_6_method_2_code
def yX4_exchange : MethodName := ⟨RX4, "exchange", "(LMirrorBytes$Block;)LMirrorBytes$Block;"⟩
abbrev cX4_parse : ByteArray := prog_6_method_3_code
def yX4_parse : MethodName := ⟨RX4, "parse", "()I"⟩
abbrev cX4_readItem : ByteArray := prog_6_method_4_code
def yX4_readItem : MethodName := ⟨RX4, "readItem", "()Z"⟩
abbrev cX4_readRegister : ByteArray := prog_6_method_5_code
def yX4_readRegister : MethodName := ⟨RX4, "readRegister", "()Z"⟩
abbrev cX4_readField : ByteArray := prog_6_method_6_code
def yX4_readField : MethodName := ⟨RX4, "readField", "()Z"⟩
abbrev cX4_readAlias : ByteArray := prog_6_method_7_code
def yX4_readAlias : MethodName := ⟨RX4, "readAlias", "()Z"⟩
abbrev cX4_suitsAlias : ByteArray := prog_6_method_8_code
def yX4_suitsAlias : MethodName := ⟨RX4, "suitsAlias", "(I)Z"⟩
abbrev cX4_readLock : ByteArray := prog_6_method_9_code
def yX4_readLock : MethodName := ⟨RX4, "readLock", "()Z"⟩
abbrev cX4_readGate : ByteArray := prog_6_method_10_code
def yX4_readGate : MethodName := ⟨RX4, "readGate", "()Z"⟩
abbrev cX4_takeNumber : ByteArray := prog_6_method_11_code
def yX4_takeNumber : MethodName := ⟨RX4, "takeNumber", "(II)Z"⟩
abbrev cX4_takeKind : ByteArray := prog_6_method_12_code
def yX4_takeKind : MethodName := ⟨RX4, "takeKind", "()Z"⟩
abbrev cX4_takeSemicolon : ByteArray := prog_6_method_13_code
def yX4_takeSemicolon : MethodName := ⟨RX4, "takeSemicolon", "()Z"⟩
def RX5 : String := "MirrorBytes$Situation"
def TX5 : u_T := fun k => match k with
  | 0 => ("MirrorBytes$Situation", "device", "LMirrorBytes$Device;", true)
  | 1 => ("MirrorBytes$Situation", "mirror", "LMirrorBytes$Device;", true)
  | 2 => ("MirrorBytes$Situation", "journal", "LMirrorBytes$Journal;", true)
  | 3 => ("MirrorBytes$Situation", "differing", "I", false)
  | _ => ("MirrorBytes$Situation", "latestDifference", "I", false)
def tyX5 : Nat → FieldType := fun k => match k with
  | 0 => .object "MirrorBytes$Device"
  | 1 => .object "MirrorBytes$Device"
  | 2 => .object "MirrorBytes$Journal"
  | 3 => .int
  | _ => .int
abbrev wsX50 : List Cond := u_ws RX5 TX5 5
theorem nmX5 : ∀ a, a < 5 → ∀ b, b < 5 → a ≠ b → (TX5 a).2.1 ≠ (TX5 b).2.1 := by decide +kernel
theorem tyX5_ok : ∀ k, k < 5 → parseFieldDescriptor (TX5 k).2.2.1 = some (tyX5 k) := by decide +kernel
abbrev cX5_init : ByteArray := prog_7_method_1_code
def yX5_init : MethodName := ⟨RX5, "<init>", "()V"⟩
abbrev cX5_copyFrom : ByteArray := prog_7_method_2_code
def yX5_copyFrom : MethodName := ⟨RX5, "copyFrom", "(LMirrorBytes$Situation;)V"⟩
abbrev cX5_startWith : ByteArray := prog_7_method_3_code
def yX5_startWith : MethodName := ⟨RX5, "startWith", "(LMirrorBytes$Block;)V"⟩
abbrev cX5_restart : ByteArray := prog_7_method_4_code
def yX5_restart : MethodName := ⟨RX5, "restart", "(LMirrorBytes$Block;)V"⟩
abbrev cX5_performRead : ByteArray := prog_7_method_5_code
def yX5_performRead : MethodName := ⟨RX5, "performRead", "(LMirrorBytes$Block;I)I"⟩
abbrev cX5_performWrite : ByteArray := prog_7_method_6_code
def yX5_performWrite : MethodName := ⟨RX5, "performWrite", "(LMirrorBytes$Block;II)V"⟩
def RX6 : String := "MirrorBytes$Text"
def TX6 : u_T := fun k => match k with
  | 0 => ("MirrorBytes$Text", "content", "[I", true)
  | _ => ("MirrorBytes$Text", "length", "I", false)
def tyX6 : Nat → FieldType := fun k => match k with
  | 0 => .array .int
  | _ => .int
abbrev wsX60 : List Cond := u_ws RX6 TX6 2
theorem nmX6 : ∀ a, a < 2 → ∀ b, b < 2 → a ≠ b → (TX6 a).2.1 ≠ (TX6 b).2.1 := by decide +kernel
theorem tyX6_ok : ∀ k, k < 2 → parseFieldDescriptor (TX6 k).2.2.1 = some (tyX6 k) := by decide +kernel
abbrev cX6_init : ByteArray := prog_8_method_1_code
def yX6_init : MethodName := ⟨RX6, "<init>", "()V"⟩
abbrev cX6_append : ByteArray := prog_8_method_2_code
def yX6_append : MethodName := ⟨RX6, "append", "(I)V"⟩
abbrev cX6_isLetter : ByteArray := prog_8_method_3_code
def yX6_isLetter : MethodName := ⟨RX6, "isLetter", "(I)Z"⟩
abbrev cX6_isDigit : ByteArray := prog_8_method_4_code
def yX6_isDigit : MethodName := ⟨RX6, "isDigit", "(I)Z"⟩
def RX7 : String := "MirrorBytes$Tokens"
def TX7 : u_T := fun k => match k with
  | 0 => ("MirrorBytes$Tokens", "text", "LMirrorBytes$Text;", true)
  | 1 => ("MirrorBytes$Tokens", "start", "I", false)
  | 2 => ("MirrorBytes$Tokens", "end", "I", false)
  | _ => ("MirrorBytes$Tokens", "sort", "I", false)
def tyX7 : Nat → FieldType := fun k => match k with
  | 0 => .object "MirrorBytes$Text"
  | 1 => .int
  | 2 => .int
  | _ => .int
abbrev wsX70 : List Cond := u_ws RX7 TX7 4
theorem nmX7 : ∀ a, a < 4 → ∀ b, b < 4 → a ≠ b → (TX7 a).2.1 ≠ (TX7 b).2.1 := by decide +kernel
theorem tyX7_ok : ∀ k, k < 4 → parseFieldDescriptor (TX7 k).2.2.1 = some (tyX7 k) := by decide +kernel
abbrev cX7_init : ByteArray := prog_9_method_1_code
def yX7_init : MethodName := ⟨RX7, "<init>", "(LMirrorBytes$Text;)V"⟩
abbrev cX7_rewind : ByteArray := prog_9_method_2_code
def yX7_rewind : MethodName := ⟨RX7, "rewind", "()V"⟩
abbrev cX7_advance : ByteArray := prog_9_method_3_code
def yX7_advance : MethodName := ⟨RX7, "advance", "()V"⟩
abbrev cX7_letter : ByteArray := prog_9_method_4_code
def yX7_letter : MethodName := ⟨RX7, "letter", "()I"⟩
abbrev cX7_kind : ByteArray := prog_9_method_5_code
def yX7_kind : MethodName := ⟨RX7, "kind", "()I"⟩
abbrev cX7_number : ByteArray := prog_9_method_6_code
def yX7_number : MethodName := ⟨RX7, "number", "()I"⟩
def RX8 : String := "MirrorBytes"
def TX8 : u_T := fun k => match k with
  | 0 => ("MirrorBytes", "text", "LMirrorBytes$Text;", true)
  | 1 => ("MirrorBytes", "parser", "LMirrorBytes$Parser;", true)
  | 2 => ("MirrorBytes", "now", "LMirrorBytes$Situation;", true)
  | 3 => ("MirrorBytes", "history", "LMirrorBytes$History;", true)
  | 4 => ("MirrorBytes", "images", "[LMirrorBytes$Situation;", true)
  | 5 => ("MirrorBytes", "imageHeld", "[Z", true)
  | 6 => ("MirrorBytes", "trial", "LMirrorBytes$Device;", true)
  | _ => ("MirrorBytes", "block", "LMirrorBytes$Block;", false)
def tyX8 : Nat → FieldType := fun k => match k with
  | 0 => .object "MirrorBytes$Text"
  | 1 => .object "MirrorBytes$Parser"
  | 2 => .object "MirrorBytes$Situation"
  | 3 => .object "MirrorBytes$History"
  | 4 => .array (.object "MirrorBytes$Situation")
  | 5 => .array .boolean
  | 6 => .object "MirrorBytes$Device"
  | _ => .object "MirrorBytes$Block"
abbrev wsX80 : List Cond := u_ws RX8 TX8 8
theorem nmX8 : ∀ a, a < 8 → ∀ b, b < 8 → a ≠ b → (TX8 a).2.1 ≠ (TX8 b).2.1 := by decide +kernel
theorem tyX8_ok : ∀ k, k < 8 → parseFieldDescriptor (TX8 k).2.2.1 = some (tyX8 k) := by decide +kernel
abbrev cX8_init : ByteArray := prog_1_method_1_code
def yX8_init : MethodName := ⟨RX8, "<init>", "()V"⟩
abbrev cX8_type : ByteArray := prog_1_method_2_code
def yX8_type : MethodName := ⟨RX8, "type", "(I)I"⟩
abbrev cX8_clear : ByteArray := prog_1_method_3_code
def yX8_clear : MethodName := ⟨RX8, "clear", "()I"⟩
abbrev cX8_tells : ByteArray := prog_1_method_4_code
def yX8_tells : MethodName := ⟨RX8, "tells", "()I"⟩
abbrev cX8_resets : ByteArray := prog_1_method_5_code
def yX8_resets : MethodName := ⟨RX8, "resets", "()I"⟩
abbrev cX8_reads : ByteArray := prog_1_method_6_code
def yX8_reads : MethodName := ⟨RX8, "reads", "(I)I"⟩
abbrev cX8_writes : ByteArray := prog_1_method_7_code
def yX8_writes : MethodName := ⟨RX8, "writes", "(II)I"⟩
abbrev cX8_sets : ByteArray := prog_1_method_8_code
def yX8_sets : MethodName := ⟨RX8, "sets", "(II)I"⟩
abbrev cX8_breaks : ByteArray := prog_1_method_9_code
def yX8_breaks : MethodName := ⟨RX8, "breaks", "(II)I"⟩
abbrev cX8_undo : ByteArray := prog_1_method_10_code
def yX8_undo : MethodName := ⟨RX8, "undo", "()I"⟩
abbrev cX8_field : ByteArray := prog_1_method_11_code
def yX8_field : MethodName := ⟨RX8, "field", "(II)I"⟩
abbrev cX8_register : ByteArray := prog_1_method_12_code
def yX8_register : MethodName := ⟨RX8, "register", "(II)I"⟩
abbrev cX8_alias : ByteArray := prog_1_method_13_code
def yX8_alias : MethodName := ⟨RX8, "alias", "(II)I"⟩
abbrev cX8_at : ByteArray := prog_1_method_14_code
def yX8_at : MethodName := ⟨RX8, "at", "(I)I"⟩
abbrev cX8_peek : ByteArray := prog_1_method_15_code
def yX8_peek : MethodName := ⟨RX8, "peek", "(II)I"⟩
abbrev cX8_differed : ByteArray := prog_1_method_16_code
def yX8_differed : MethodName := ⟨RX8, "differed", "(I)I"⟩
abbrev cX8_log : ByteArray := prog_1_method_17_code
def yX8_log : MethodName := ⟨RX8, "log", "(II)I"⟩
abbrev cX8_suspects : ByteArray := prog_1_method_18_code
def yX8_suspects : MethodName := ⟨RX8, "suspects", "(I)I"⟩
abbrev cX8_clashes : ByteArray := prog_1_method_19_code
def yX8_clashes : MethodName := ⟨RX8, "clashes", "(I)I"⟩
abbrev cX8_touched : ByteArray := prog_1_method_20_code
def yX8_touched : MethodName := ⟨RX8, "touched", "(II)I"⟩
abbrev cX8_way : ByteArray := prog_1_method_21_code
def yX8_way : MethodName := ⟨RX8, "way", "(II)I"⟩
abbrev cX8_walk : ByteArray := prog_1_method_22_code
def yX8_walk : MethodName := ⟨RX8, "walk", "(II)I"⟩
abbrev cX8_keep : ByteArray := prog_1_method_23_code
def yX8_keep : MethodName := ⟨RX8, "keep", "(I)I"⟩
abbrev cX8_back : ByteArray := prog_1_method_24_code
def yX8_back : MethodName := ⟨RX8, "back", "(I)I"⟩
abbrev cX8_count : ByteArray := prog_1_method_25_code
def yX8_count : MethodName := ⟨RX8, "count", "(I)I"⟩
abbrev cX8_isWithin : ByteArray := prog_1_method_26_code
def yX8_isWithin : MethodName := ⟨RX8, "isWithin", "(II)Z"⟩
abbrev cX8_changedBy : ByteArray := prog_1_method_27_code
def yX8_changedBy : MethodName := ⟨RX8, "changedBy", "(II)I"⟩
abbrev cX8_byteThatGives : ByteArray := prog_1_method_28_code
def yX8_byteThatGives : MethodName := ⟨RX8, "byteThatGives", "(III)I"⟩
abbrev cX8_wouldReadTheSame : ByteArray := prog_1_method_29_code
def yX8_wouldReadTheSame : MethodName := ⟨RX8, "wouldReadTheSame", "(II)Z"⟩
abbrev cX8_walkedBits : ByteArray := prog_1_method_30_code
def yX8_walkedBits : MethodName := ⟨RX8, "walkedBits", "(I)I"⟩
abbrev cX8_stepOfWalk : ByteArray := prog_1_method_31_code
def yX8_stepOfWalk : MethodName := ⟨RX8, "stepOfWalk", "(III)I"⟩
def RX9 : String := "MirrorBytesModel"
def TX9 : u_T := fun k => match k with
  | 0 => ("MirrorBytesModel", "told", "[I", true)
  | 1 => ("MirrorBytesModel", "draft", "[I", true)
  | 2 => ("MirrorBytesModel", "now", "[I", true)
  | 3 => ("MirrorBytesModel", "past", "[I", true)
  | 4 => ("MirrorBytesModel", "pasts", "I", false)
  | 5 => ("MirrorBytesModel", "images", "[I", true)
  | 6 => ("MirrorBytesModel", "isKept", "[Z", true)
  | 7 => ("MirrorBytesModel", "text", "[I", true)
  | 8 => ("MirrorBytesModel", "typed", "I", false)
  | 9 => ("MirrorBytesModel", "at", "I", false)
  | 10 => ("MirrorBytesModel", "tokenAt", "I", false)
  | 11 => ("MirrorBytesModel", "token", "I", false)
  | 12 => ("MirrorBytesModel", "value", "I", false)
  | _ => ("MirrorBytesModel", "fault", "I", false)
def tyX9 : Nat → FieldType := fun k => match k with
  | 0 => .array .int
  | 1 => .array .int
  | 2 => .array .int
  | 3 => .array .int
  | 4 => .int
  | 5 => .array .int
  | 6 => .array .boolean
  | 7 => .array .int
  | 8 => .int
  | 9 => .int
  | 10 => .int
  | 11 => .int
  | 12 => .int
  | _ => .int
abbrev wsX90 : List Cond := u_ws RX9 TX9 14
theorem nmX9 : ∀ a, a < 14 → ∀ b, b < 14 → a ≠ b → (TX9 a).2.1 ≠ (TX9 b).2.1 := by decide +kernel
theorem tyX9_ok : ∀ k, k < 14 → parseFieldDescriptor (TX9 k).2.2.1 = some (tyX9 k) := by decide +kernel
abbrev cX9_init : ByteArray := prog_11_method_1_code
def yX9_init : MethodName := ⟨RX9, "<init>", "()V"⟩
abbrev cX9_in : ByteArray := prog_11_method_2_code
def yX9_in : MethodName := ⟨RX9, "in", "(III)Z"⟩
abbrev cX9_fields : ByteArray := prog_11_method_3_code
def yX9_fields : MethodName := ⟨RX9, "fields", "()I"⟩
abbrev cX9_registers : ByteArray := prog_11_method_4_code
def yX9_registers : MethodName := ⟨RX9, "registers", "()I"⟩
abbrev cX9_isField : ByteArray := prog_11_method_5_code
def yX9_isField : MethodName := ⟨RX9, "isField", "(I)Z"⟩
abbrev cX9_isRegister : ByteArray := prog_11_method_6_code
def yX9_isRegister : MethodName := ⟨RX9, "isRegister", "(I)Z"⟩
abbrev cX9_most : ByteArray := prog_11_method_7_code
def yX9_most : MethodName := ⟨RX9, "most", "(I)I"⟩
abbrev cX9_bitsOf : ByteArray := prog_11_method_8_code
def yX9_bitsOf : MethodName := ⟨RX9, "bitsOf", "(I)I"⟩
abbrev cX9_reset : ByteArray := prog_11_method_9_code
def yX9_reset : MethodName := ⟨RX9, "reset", "(I)V"⟩
abbrev cX9_repair : ByteArray := prog_11_method_10_code
def yX9_repair : MethodName := ⟨RX9, "repair", "(I)V"⟩
abbrev cX9_begin : ByteArray := prog_11_method_11_code
def yX9_begin : MethodName := ⟨RX9, "begin", "()V"⟩
abbrev cX9_emptyLog : ByteArray := prog_11_method_12_code
def yX9_emptyLog : MethodName := ⟨RX9, "emptyLog", "()V"⟩
abbrev cX9_isLocked : ByteArray := prog_11_method_13_code
def yX9_isLocked : MethodName := ⟨RX9, "isLocked", "(II)Z"⟩
abbrev cX9_goesTo : ByteArray := prog_11_method_14_code
def yX9_goesTo : MethodName := ⟨RX9, "goesTo", "(I)I"⟩
abbrev cX9_registerOf : ByteArray := prog_11_method_15_code
def yX9_registerOf : MethodName := ⟨RX9, "registerOf", "(I)I"⟩
abbrev cX9_tellsOf : ByteArray := prog_11_method_16_code
def yX9_tellsOf : MethodName := ⟨RX9, "tellsOf", "(II)I"⟩
abbrev cX9_peekAt : ByteArray := prog_11_method_17_code
def yX9_peekAt : MethodName := ⟨RX9, "peekAt", "(II)I"⟩
abbrev cX9_clearRead : ByteArray := prog_11_method_18_code
def yX9_clearRead : MethodName := ⟨RX9, "clearRead", "(II)V"⟩
abbrev cX9_readOf : ByteArray := prog_11_method_19_code
def yX9_readOf : MethodName := ⟨RX9, "readOf", "(II)I"⟩
abbrev cX9_by : ByteArray := prog_11_method_20_code
def yX9_by : MethodName := ⟨RX9, "by", "(IIIZ)I"⟩
abbrev cX9_letIn : ByteArray := prog_11_method_21_code
def yX9_letIn : MethodName := ⟨RX9, "letIn", "(IIII)V"⟩
abbrev cX9_openGates : ByteArray := prog_11_method_22_code
def yX9_openGates : MethodName := ⟨RX9, "openGates", "(III)V"⟩
abbrev cX9_writeTo : ByteArray := prog_11_method_23_code
def yX9_writeTo : MethodName := ⟨RX9, "writeTo", "(III)V"⟩
abbrev cX9_copyMachine : ByteArray := prog_11_method_24_code
def yX9_copyMachine : MethodName := ⟨RX9, "copyMachine", "(II)V"⟩
abbrev cX9_otherFields : ByteArray := prog_11_method_25_code
def yX9_otherFields : MethodName := ⟨RX9, "otherFields", "(II)I"⟩
abbrev cX9_note : ByteArray := prog_11_method_26_code
def yX9_note : MethodName := ⟨RX9, "note", "()V"⟩
abbrev cX9_resets : ByteArray := prog_11_method_27_code
def yX9_resets : MethodName := ⟨RX9, "resets", "()I"⟩
abbrev cX9_logs : ByteArray := prog_11_method_28_code
def yX9_logs : MethodName := ⟨RX9, "logs", "(III)V"⟩
abbrev cX9_reads : ByteArray := prog_11_method_29_code
def yX9_reads : MethodName := ⟨RX9, "reads", "(I)I"⟩
abbrev cX9_writes : ByteArray := prog_11_method_30_code
def yX9_writes : MethodName := ⟨RX9, "writes", "(II)I"⟩
abbrev cX9_sets : ByteArray := prog_11_method_31_code
def yX9_sets : MethodName := ⟨RX9, "sets", "(II)I"⟩
abbrev cX9_breaks : ByteArray := prog_11_method_32_code
def yX9_breaks : MethodName := ⟨RX9, "breaks", "(II)I"⟩
abbrev cX9_undo : ByteArray := prog_11_method_33_code
def yX9_undo : MethodName := ⟨RX9, "undo", "()I"⟩
abbrev cX9_field : ByteArray := prog_11_method_34_code
def yX9_field : MethodName := ⟨RX9, "field", "(II)I"⟩
abbrev cX9_register : ByteArray := prog_11_method_35_code
def yX9_register : MethodName := ⟨RX9, "register", "(II)I"⟩
abbrev cX9_alias : ByteArray := prog_11_method_36_code
def yX9_alias : MethodName := ⟨RX9, "alias", "(II)I"⟩
abbrev cX9_at : ByteArray := prog_11_method_37_code
def yX9_at : MethodName := ⟨RX9, "at", "(I)I"⟩
abbrev cX9_peek : ByteArray := prog_11_method_38_code
def yX9_peek : MethodName := ⟨RX9, "peek", "(II)I"⟩
abbrev cX9_differed : ByteArray := prog_11_method_39_code
def yX9_differed : MethodName := ⟨RX9, "differed", "(I)I"⟩
abbrev cX9_log : ByteArray := prog_11_method_40_code
def yX9_log : MethodName := ⟨RX9, "log", "(II)I"⟩
abbrev cX9_wouldTell : ByteArray := prog_11_method_41_code
def yX9_wouldTell : MethodName := ⟨RX9, "wouldTell", "(II)Z"⟩
abbrev cX9_suspects : ByteArray := prog_11_method_42_code
def yX9_suspects : MethodName := ⟨RX9, "suspects", "(I)I"⟩
abbrev cX9_clashes : ByteArray := prog_11_method_43_code
def yX9_clashes : MethodName := ⟨RX9, "clashes", "(I)I"⟩
abbrev cX9_tryWrite : ByteArray := prog_11_method_44_code
def yX9_tryWrite : MethodName := ⟨RX9, "tryWrite", "(II)V"⟩
abbrev cX9_touched : ByteArray := prog_11_method_45_code
def yX9_touched : MethodName := ⟨RX9, "touched", "(II)I"⟩
abbrev cX9_way : ByteArray := prog_11_method_46_code
def yX9_way : MethodName := ⟨RX9, "way", "(II)I"⟩
abbrev cX9_isLockOrGate : ByteArray := prog_11_method_47_code
def yX9_isLockOrGate : MethodName := ⟨RX9, "isLockOrGate", "(II)Z"⟩
abbrev cX9_isWalked : ByteArray := prog_11_method_48_code
def yX9_isWalked : MethodName := ⟨RX9, "isWalked", "(I)Z"⟩
abbrev cX9_bitsBy : ByteArray := prog_11_method_49_code
def yX9_bitsBy : MethodName := ⟨RX9, "bitsBy", "(IZ)I"⟩
abbrev cX9_walk : ByteArray := prog_11_method_50_code
def yX9_walk : MethodName := ⟨RX9, "walk", "(II)I"⟩
abbrev cX9_keep : ByteArray := prog_11_method_51_code
def yX9_keep : MethodName := ⟨RX9, "keep", "(I)I"⟩
abbrev cX9_back : ByteArray := prog_11_method_52_code
def yX9_back : MethodName := ⟨RX9, "back", "(I)I"⟩
abbrev cX9_fieldBits : ByteArray := prog_11_method_53_code
def yX9_fieldBits : MethodName := ⟨RX9, "fieldBits", "()I"⟩
abbrev cX9_brokenMany : ByteArray := prog_11_method_54_code
def yX9_brokenMany : MethodName := ⟨RX9, "brokenMany", "()I"⟩
abbrev cX9_count : ByteArray := prog_11_method_55_code
def yX9_count : MethodName := ⟨RX9, "count", "(I)I"⟩
abbrev cX9_type : ByteArray := prog_11_method_56_code
def yX9_type : MethodName := ⟨RX9, "type", "(I)I"⟩
abbrev cX9_clear : ByteArray := prog_11_method_57_code
def yX9_clear : MethodName := ⟨RX9, "clear", "()I"⟩
abbrev cX9_isHere : ByteArray := prog_11_method_58_code
def yX9_isHere : MethodName := ⟨RX9, "isHere", "(II)Z"⟩
abbrev cX9_kindOf : ByteArray := prog_11_method_59_code
def yX9_kindOf : MethodName := ⟨RX9, "kindOf", "(I)I"⟩
abbrev cX9_next : ByteArray := prog_11_method_60_code
def yX9_next : MethodName := ⟨RX9, "next", "()V"⟩
abbrev cX9_must : ByteArray := prog_11_method_61_code
def yX9_must : MethodName := ⟨RX9, "must", "(Z)I"⟩
abbrev cX9_number : ByteArray := prog_11_method_62_code
def yX9_number : MethodName := ⟨RX9, "number", "(II)I"⟩
abbrev cX9_usedBits : ByteArray := prog_11_method_63_code
def yX9_usedBits : MethodName := ⟨RX9, "usedBits", "(I)I"⟩
abbrev cX9_readRegister : ByteArray := prog_11_method_64_code
def yX9_readRegister : MethodName := ⟨RX9, "readRegister", "()V"⟩
abbrev cX9_readField : ByteArray := prog_11_method_65_code
def yX9_readField : MethodName := ⟨RX9, "readField", "()V"⟩
abbrev cX9_readAlias : ByteArray := prog_11_method_66_code
def yX9_readAlias : MethodName := ⟨RX9, "readAlias", "()V"⟩
abbrev cX9_readLink : ByteArray := prog_11_method_67_code
def yX9_readLink : MethodName := ⟨RX9, "readLink", "(I)V"⟩
abbrev cX9_readItem : ByteArray := prog_11_method_68_code
def yX9_readItem : MethodName := ⟨RX9, "readItem", "()V"⟩
abbrev cX9_tells : ByteArray := prog_11_method_69_code
def yX9_tells : MethodName := ⟨RX9, "tells", "()I"⟩
def RJ6 : String := "java/lang/Integer"
def TJ6 : u_T := fun k => match k with
  | _ => ("", "", "", false)
def tyJ6 : Nat → FieldType := fun k => match k with
  | _ => .int
abbrev wsJ60 : List Cond := u_ws RJ6 TJ6 0
theorem nmJ6 : ∀ a, a < 0 → ∀ b, b < 0 → a ≠ b → (TJ6 a).2.1 ≠ (TJ6 b).2.1 := by decide +kernel
theorem tyJ6_ok : ∀ k, k < 0 → parseFieldDescriptor (TJ6 k).2.2.1 = some (tyJ6 k) := by decide +kernel
abbrev cJ6_bitCount_0f7a4 : ByteArray := prog_12_method_49_code
def yJ6_bitCount_0f7a4 : MethodName := ⟨RJ6, "bitCount", "(I)I"⟩
def RJ9 : String := "java/lang/Math"
def TJ9 : u_T := fun k => match k with
  | _ => ("", "", "", false)
def tyJ9 : Nat → FieldType := fun k => match k with
  | _ => .int
abbrev wsJ90 : List Cond := u_ws RJ9 TJ9 0
theorem nmJ9 : ∀ a, a < 0 → ∀ b, b < 0 → a ≠ b → (TJ9 a).2.1 ≠ (TJ9 b).2.1 := by decide +kernel
theorem tyJ9_ok : ∀ k, k < 0 → parseFieldDescriptor (TJ9 k).2.2.1 = some (tyJ9 k) := by decide +kernel
abbrev cJ9_min_7cf53 : ByteArray := prog_13_method_69_code
def yJ9_min_7cf53 : MethodName := ⟨RJ9, "min", "(II)I"⟩
def RJ10 : String := "java/lang/System"
def TJ10 : u_T := fun k => match k with
  | _ => ("", "", "", false)
def tyJ10 : Nat → FieldType := fun k => match k with
  | _ => .int
abbrev wsJ100 : List Cond := u_ws RJ10 TJ10 0
theorem nmJ10 : ∀ a, a < 0 → ∀ b, b < 0 → a ≠ b → (TJ10 a).2.1 ≠ (TJ10 b).2.1 := by decide +kernel
theorem tyJ10_ok : ∀ k, k < 0 → parseFieldDescriptor (TJ10 k).2.2.1 = some (tyJ10 k) := by decide +kernel
def RL : String := "MirrorBytesLaw"
abbrev cL_law : ByteArray := code
def yL_law : MethodName := ⟨RL, "law", "([I)Z"⟩
abbrev vwCl : List vw_C := [(RX0, TX0, 15), (RX1, TX1, 4), (RX2, TX2, 3), (RX3, TX3, 4), (RX4, TX4, 2), (RX5, TX5, 5), (RX6, TX6, 2), (RX7, TX7, 4), (RX8, TX8, 8), (RX9, TX9, 14)]
theorem inX0 : ∀ w ∈ wsX00, w ∈ lw_tbl := by decide +kernel
theorem inX1 : ∀ w ∈ wsX10, w ∈ lw_tbl := by decide +kernel
theorem inX2 : ∀ w ∈ wsX20, w ∈ lw_tbl := by decide +kernel
theorem inX3 : ∀ w ∈ wsX30, w ∈ lw_tbl := by decide +kernel
theorem inX4 : ∀ w ∈ wsX40, w ∈ lw_tbl := by decide +kernel
theorem inX5 : ∀ w ∈ wsX50, w ∈ lw_tbl := by decide +kernel
theorem inX6 : ∀ w ∈ wsX60, w ∈ lw_tbl := by decide +kernel
theorem inX7 : ∀ w ∈ wsX70, w ∈ lw_tbl := by decide +kernel
theorem inX8 : ∀ w ∈ wsX80, w ∈ lw_tbl := by decide +kernel
theorem inX9 : ∀ w ∈ wsX90, w ∈ lw_tbl := by decide +kernel
end
section
def gt : List Cond := lw_tbl.filter goodWord
theorem gm {w : Cond} {i : Nat} (h : lw_tbl[i]? = some w) (g : goodWord w = true) : w ∈ gt := List.mem_filter.mpr ⟨List.mem_of_getElem? h, g⟩
theorem gt_good {w : Cond} (h : w ∈ gt) : (w.onTables && w.keeps) = true ∨ ∃ ty, w = .arrayClass ty := good_of_word (List.mem_filter.mp h).2
theorem gt_tbl {w : Cond} (h : w ∈ gt) : w ∈ lw_tbl := (List.mem_filter.mp h).1
theorem gt_in {ws : List Cond} (h : ∀ w ∈ ws, w ∈ lw_tbl) (g : ws.all goodWord = true) : ∀ w ∈ ws, w ∈ gt := fun w hw => List.mem_filter.mpr ⟨h w hw, List.all_eq_true.mp g w hw⟩
theorem ig0 : ∀ w ∈ wsX00, w ∈ gt := gt_in inX0 (by decide +kernel)
theorem ig1 : ∀ w ∈ wsX10, w ∈ gt := gt_in inX1 (by decide +kernel)
theorem ig2 : ∀ w ∈ wsX20, w ∈ gt := gt_in inX2 (by decide +kernel)
theorem ig3 : ∀ w ∈ wsX30, w ∈ gt := gt_in inX3 (by decide +kernel)
theorem ig4 : ∀ w ∈ wsX40, w ∈ gt := gt_in inX4 (by decide +kernel)
theorem ig5 : ∀ w ∈ wsX50, w ∈ gt := gt_in inX5 (by decide +kernel)
theorem ig6 : ∀ w ∈ wsX60, w ∈ gt := gt_in inX6 (by decide +kernel)
theorem ig7 : ∀ w ∈ wsX70, w ∈ gt := gt_in inX7 (by decide +kernel)
theorem ig8 : ∀ w ∈ wsX80, w ∈ gt := gt_in inX8 (by decide +kernel)
theorem ig9 : ∀ w ∈ wsX90, w ∈ gt := gt_in inX9 (by decide +kernel)
theorem se_X8_changedBy : Cond.selects RX8 yX8_changedBy yX8_changedBy ∈ gt := gm (i := 0) (by decide +kernel) rfl
theorem se_X8_wouldReadTheSame : Cond.selects RX8 yX8_wouldReadTheSame yX8_wouldReadTheSame ∈ gt := gm (i := 1) (by decide +kernel) rfl
theorem se_X8_byteThatGives : Cond.selects RX8 yX8_byteThatGives yX8_byteThatGives ∈ gt := gm (i := 2) (by decide +kernel) rfl
theorem se_X8_walkedBits : Cond.selects RX8 yX8_walkedBits yX8_walkedBits ∈ gt := gm (i := 3) (by decide +kernel) rfl
theorem se_X8_stepOfWalk : Cond.selects RX8 yX8_stepOfWalk yX8_stepOfWalk ∈ gt := gm (i := 4) (by decide +kernel) rfl
theorem se_X9_begin : Cond.selects RX9 yX9_begin yX9_begin ∈ gt := gm (i := 5) (by decide +kernel) rfl
theorem se_X9_repair : Cond.selects RX9 yX9_repair yX9_repair ∈ gt := gm (i := 6) (by decide +kernel) rfl
theorem se_X9_fields : Cond.selects RX9 yX9_fields yX9_fields ∈ gt := gm (i := 7) (by decide +kernel) rfl
theorem se_X9_reset : Cond.selects RX9 yX9_reset yX9_reset ∈ gt := gm (i := 8) (by decide +kernel) rfl
theorem se_X9_emptyLog : Cond.selects RX9 yX9_emptyLog yX9_emptyLog ∈ gt := gm (i := 9) (by decide +kernel) rfl
theorem se_X9_note : Cond.selects RX9 yX9_note yX9_note ∈ gt := gm (i := 10) (by decide +kernel) rfl
theorem se_X9_goesTo : Cond.selects RX9 yX9_goesTo yX9_goesTo ∈ gt := gm (i := 11) (by decide +kernel) rfl
theorem se_X9_registers : Cond.selects RX9 yX9_registers yX9_registers ∈ gt := gm (i := 12) (by decide +kernel) rfl
theorem se_X9_peekAt : Cond.selects RX9 yX9_peekAt yX9_peekAt ∈ gt := gm (i := 13) (by decide +kernel) rfl
theorem se_X9_registerOf : Cond.selects RX9 yX9_registerOf yX9_registerOf ∈ gt := gm (i := 14) (by decide +kernel) rfl
theorem se_X9_tellsOf : Cond.selects RX9 yX9_tellsOf yX9_tellsOf ∈ gt := gm (i := 15) (by decide +kernel) rfl
theorem se_X9_readOf : Cond.selects RX9 yX9_readOf yX9_readOf ∈ gt := gm (i := 16) (by decide +kernel) rfl
theorem se_X9_clearRead : Cond.selects RX9 yX9_clearRead yX9_clearRead ∈ gt := gm (i := 17) (by decide +kernel) rfl
theorem se_X9_most : Cond.selects RX9 yX9_most yX9_most ∈ gt := gm (i := 18) (by decide +kernel) rfl
theorem se_X9_logs : Cond.selects RX9 yX9_logs yX9_logs ∈ gt := gm (i := 19) (by decide +kernel) rfl
theorem se_X9_copyMachine : Cond.selects RX9 yX9_copyMachine yX9_copyMachine ∈ gt := gm (i := 20) (by decide +kernel) rfl
theorem se_X9_writeTo : Cond.selects RX9 yX9_writeTo yX9_writeTo ∈ gt := gm (i := 21) (by decide +kernel) rfl
theorem se_X9_isLocked : Cond.selects RX9 yX9_isLocked yX9_isLocked ∈ gt := gm (i := 22) (by decide +kernel) rfl
theorem se_X9_letIn : Cond.selects RX9 yX9_letIn yX9_letIn ∈ gt := gm (i := 23) (by decide +kernel) rfl
theorem se_X9_openGates : Cond.selects RX9 yX9_openGates yX9_openGates ∈ gt := gm (i := 24) (by decide +kernel) rfl
theorem se_X9_otherFields : Cond.selects RX9 yX9_otherFields yX9_otherFields ∈ gt := gm (i := 25) (by decide +kernel) rfl
theorem se_X9_isField : Cond.selects RX9 yX9_isField yX9_isField ∈ gt := gm (i := 26) (by decide +kernel) rfl
theorem se_X9_isRegister : Cond.selects RX9 yX9_isRegister yX9_isRegister ∈ gt := gm (i := 27) (by decide +kernel) rfl
theorem se_X9_wouldTell : Cond.selects RX9 yX9_wouldTell yX9_wouldTell ∈ gt := gm (i := 28) (by decide +kernel) rfl
theorem se_X9_tryWrite : Cond.selects RX9 yX9_tryWrite yX9_tryWrite ∈ gt := gm (i := 29) (by decide +kernel) rfl
theorem se_X9_isWalked : Cond.selects RX9 yX9_isWalked yX9_isWalked ∈ gt := gm (i := 30) (by decide +kernel) rfl
theorem se_X9_isLockOrGate : Cond.selects RX9 yX9_isLockOrGate yX9_isLockOrGate ∈ gt := gm (i := 31) (by decide +kernel) rfl
theorem se_X9_bitsBy : Cond.selects RX9 yX9_bitsBy yX9_bitsBy ∈ gt := gm (i := 32) (by decide +kernel) rfl
theorem se_X9_bitsOf : Cond.selects RX9 yX9_bitsOf yX9_bitsOf ∈ gt := gm (i := 33) (by decide +kernel) rfl
theorem se_X9_fieldBits : Cond.selects RX9 yX9_fieldBits yX9_fieldBits ∈ gt := gm (i := 34) (by decide +kernel) rfl
theorem se_X9_brokenMany : Cond.selects RX9 yX9_brokenMany yX9_brokenMany ∈ gt := gm (i := 35) (by decide +kernel) rfl
theorem se_X9_next : Cond.selects RX9 yX9_next yX9_next ∈ gt := gm (i := 36) (by decide +kernel) rfl
theorem se_X9_isHere : Cond.selects RX9 yX9_isHere yX9_isHere ∈ gt := gm (i := 37) (by decide +kernel) rfl
theorem se_X9_readItem : Cond.selects RX9 yX9_readItem yX9_readItem ∈ gt := gm (i := 38) (by decide +kernel) rfl
theorem se_X9_must : Cond.selects RX9 yX9_must yX9_must ∈ gt := gm (i := 39) (by decide +kernel) rfl
theorem se_X9_readRegister : Cond.selects RX9 yX9_readRegister yX9_readRegister ∈ gt := gm (i := 40) (by decide +kernel) rfl
theorem se_X9_number : Cond.selects RX9 yX9_number yX9_number ∈ gt := gm (i := 41) (by decide +kernel) rfl
theorem se_X9_readField : Cond.selects RX9 yX9_readField yX9_readField ∈ gt := gm (i := 42) (by decide +kernel) rfl
theorem se_X9_usedBits : Cond.selects RX9 yX9_usedBits yX9_usedBits ∈ gt := gm (i := 43) (by decide +kernel) rfl
theorem se_X9_readAlias : Cond.selects RX9 yX9_readAlias yX9_readAlias ∈ gt := gm (i := 44) (by decide +kernel) rfl
theorem se_X9_readLink : Cond.selects RX9 yX9_readLink yX9_readLink ∈ gt := gm (i := 45) (by decide +kernel) rfl
theorem ini_L : Cond.initialized RL ∈ gt := gm (i := 46) (by decide +kernel) rfl
theorem ini_X8 : Cond.initialized RX8 ∈ gt := gm (i := 47) (by decide +kernel) rfl
theorem ini_X6 : Cond.initialized RX6 ∈ gt := gm (i := 48) (by decide +kernel) rfl
theorem ini_X4 : Cond.initialized RX4 ∈ gt := gm (i := 49) (by decide +kernel) rfl
theorem ini_X0 : Cond.initialized RX0 ∈ gt := gm (i := 50) (by decide +kernel) rfl
theorem ini_X7 : Cond.initialized RX7 ∈ gt := gm (i := 51) (by decide +kernel) rfl
theorem ini_X5 : Cond.initialized RX5 ∈ gt := gm (i := 52) (by decide +kernel) rfl
theorem ini_X1 : Cond.initialized RX1 ∈ gt := gm (i := 53) (by decide +kernel) rfl
theorem ini_X3 : Cond.initialized RX3 ∈ gt := gm (i := 54) (by decide +kernel) rfl
theorem ini_X2 : Cond.initialized RX2 ∈ gt := gm (i := 55) (by decide +kernel) rfl
theorem ini_X9 : Cond.initialized RX9 ∈ gt := gm (i := 56) (by decide +kernel) rfl
theorem ini_J10 : Cond.initialized RJ10 ∈ gt := gm (i := 57) (by decide +kernel) rfl
theorem ini_J9 : Cond.initialized RJ9 ∈ gt := gm (i := 58) (by decide +kernel) rfl
theorem ini_J6 : Cond.initialized RJ6 ∈ gt := gm (i := 59) (by decide +kernel) rfl
theorem cl_L_7 : Cond.classLink RL 7 RX8 ∈ gt := gm (i := 60) (by decide +kernel) rfl
theorem ia_X8 : Cond.instantiable RX8 8 ∈ gt := gm (i := 61) (by decide +kernel) rfl
theorem ml_L_9 : Cond.methodLink RL 9 yX8_init ∈ gt := gm (i := 62) (by decide +kernel) rfl
theorem im_X8_init : Cond.instanceMethod yX8_init ∈ gt := gm (i := 63) (by decide +kernel) rfl
theorem co_X8_init : Cond.code yX8_init cX8_init 2 none ∈ gt := gm (i := 64) (by decide +kernel) rfl
theorem mo_X8 : Cond.methodLink RX8 1 objectInit ∈ gt := gm (i := 65) (by decide +kernel) rfl
theorem cl_X8_7 : Cond.classLink RX8 7 RX6 ∈ gt := gm (i := 68) (by decide +kernel) rfl
theorem ia_X6 : Cond.instantiable RX6 2 ∈ gt := gm (i := 69) (by decide +kernel) rfl
theorem mn_X8_9 : Cond.methodLinkNest RX8 9 yX6_init "MirrorBytes" ∈ lw_tbl := List.mem_of_getElem? (i := 70) (by decide +kernel)
theorem im_X6_init : Cond.instanceMethod yX6_init ∈ gt := gm (i := 71) (by decide +kernel) rfl
theorem co_X6_init : Cond.code yX6_init cX6_init 1 none ∈ gt := gm (i := 72) (by decide +kernel) rfl
theorem mo_X6 : Cond.methodLink RX6 3 objectInit ∈ gt := gm (i := 73) (by decide +kernel) rfl
theorem fl_X6_9 : Cond.fieldLink RX6 9 "MirrorBytes$Text" "content" "[I" ∈ gt := gm (i := 74) (by decide +kernel) rfl
theorem fl_X7_27 : Cond.fieldLink RX7 27 "MirrorBytes$Text" "content" "[I" ∈ gt := gm (i := 75) (by decide +kernel) rfl
theorem fl_X6_15 : Cond.fieldLink RX6 15 "MirrorBytes$Text" "length" "I" ∈ gt := gm (i := 76) (by decide +kernel) rfl
theorem fl_X8_65 : Cond.fieldLink RX8 65 "MirrorBytes$Text" "length" "I" ∈ gt := gm (i := 77) (by decide +kernel) rfl
theorem fl_X7_22 : Cond.fieldLink RX7 22 "MirrorBytes$Text" "length" "I" ∈ gt := gm (i := 78) (by decide +kernel) rfl
theorem cl_X8_16 : Cond.classLink RX8 16 RX4 ∈ gt := gm (i := 85) (by decide +kernel) rfl
theorem ia_X4 : Cond.instantiable RX4 2 ∈ gt := gm (i := 86) (by decide +kernel) rfl
theorem ml_X8_18 : Cond.methodLink RX8 18 yX4_init ∈ gt := gm (i := 87) (by decide +kernel) rfl
theorem im_X4_init : Cond.instanceMethod yX4_init ∈ gt := gm (i := 88) (by decide +kernel) rfl
theorem co_X4_init : Cond.code yX4_init cX4_init 2 none ∈ gt := gm (i := 89) (by decide +kernel) rfl
theorem mo_X4 : Cond.methodLink RX4 3 objectInit ∈ gt := gm (i := 90) (by decide +kernel) rfl
theorem cl_X4_9 : Cond.classLink RX4 9 RX0 ∈ gt := gm (i := 91) (by decide +kernel) rfl
theorem ia_X0 : Cond.instantiable RX0 15 ∈ gt := gm (i := 92) (by decide +kernel) rfl
theorem mn_X4_11 : Cond.methodLinkNest RX4 11 yX0_init "MirrorBytes" ∈ lw_tbl := List.mem_of_getElem? (i := 93) (by decide +kernel)
theorem im_X0_init : Cond.instanceMethod yX0_init ∈ gt := gm (i := 94) (by decide +kernel) rfl
theorem co_X0_init : Cond.code yX0_init cX0_init 1 none ∈ gt := gm (i := 95) (by decide +kernel) rfl
theorem mo_X0 : Cond.methodLink RX0 3 objectInit ∈ gt := gm (i := 96) (by decide +kernel) rfl
theorem fl_X0_48 : Cond.fieldLink RX0 48 "MirrorBytes$Block" "registers" "I" ∈ gt := gm (i := 97) (by decide +kernel) rfl
theorem fl_X4_66 : Cond.fieldLink RX4 66 "MirrorBytes$Block" "registers" "I" ∈ gt := gm (i := 98) (by decide +kernel) rfl
theorem fl_X8_155 : Cond.fieldLink RX8 155 "MirrorBytes$Block" "registers" "I" ∈ gt := gm (i := 99) (by decide +kernel) rfl
theorem fl_X1_110 : Cond.fieldLink RX1 110 "MirrorBytes$Block" "registers" "I" ∈ gt := gm (i := 100) (by decide +kernel) rfl
theorem fl_X0_52 : Cond.fieldLink RX0 52 "MirrorBytes$Block" "fields" "I" ∈ gt := gm (i := 101) (by decide +kernel) rfl
theorem fl_X1_36 : Cond.fieldLink RX1 36 "MirrorBytes$Block" "fields" "I" ∈ gt := gm (i := 102) (by decide +kernel) rfl
theorem fl_X4_89 : Cond.fieldLink RX4 89 "MirrorBytes$Block" "fields" "I" ∈ gt := gm (i := 103) (by decide +kernel) rfl
theorem fl_X8_126 : Cond.fieldLink RX8 126 "MirrorBytes$Block" "fields" "I" ∈ gt := gm (i := 104) (by decide +kernel) rfl
theorem fl_X0_55 : Cond.fieldLink RX0 55 "MirrorBytes$Block" "aliases" "I" ∈ gt := gm (i := 105) (by decide +kernel) rfl
theorem fl_X4_119 : Cond.fieldLink RX4 119 "MirrorBytes$Block" "aliases" "I" ∈ gt := gm (i := 106) (by decide +kernel) rfl
theorem fl_X8_174 : Cond.fieldLink RX8 174 "MirrorBytes$Block" "aliases" "I" ∈ gt := gm (i := 107) (by decide +kernel) rfl
theorem fl_X0_9 : Cond.fieldLink RX0 9 "MirrorBytes$Block" "address" "[I" ∈ gt := gm (i := 108) (by decide +kernel) rfl
theorem fl_X4_73 : Cond.fieldLink RX4 73 "MirrorBytes$Block" "address" "[I" ∈ gt := gm (i := 109) (by decide +kernel) rfl
theorem fl_X8_158 : Cond.fieldLink RX8 158 "MirrorBytes$Block" "address" "[I" ∈ gt := gm (i := 110) (by decide +kernel) rfl
theorem fl_X0_15 : Cond.fieldLink RX0 15 "MirrorBytes$Block" "lock" "[I" ∈ gt := gm (i := 111) (by decide +kernel) rfl
theorem fl_X4_80 : Cond.fieldLink RX4 80 "MirrorBytes$Block" "lock" "[I" ∈ gt := gm (i := 112) (by decide +kernel) rfl
theorem fl_X1_59 : Cond.fieldLink RX1 59 "MirrorBytes$Block" "lock" "[I" ∈ gt := gm (i := 113) (by decide +kernel) rfl
theorem fl_X8_161 : Cond.fieldLink RX8 161 "MirrorBytes$Block" "lock" "[I" ∈ gt := gm (i := 114) (by decide +kernel) rfl
theorem fl_X0_18 : Cond.fieldLink RX0 18 "MirrorBytes$Block" "gate" "[I" ∈ gt := gm (i := 115) (by decide +kernel) rfl
theorem fl_X4_83 : Cond.fieldLink RX4 83 "MirrorBytes$Block" "gate" "[I" ∈ gt := gm (i := 116) (by decide +kernel) rfl
theorem fl_X8_164 : Cond.fieldLink RX8 164 "MirrorBytes$Block" "gate" "[I" ∈ gt := gm (i := 117) (by decide +kernel) rfl
theorem fl_X1_97 : Cond.fieldLink RX1 97 "MirrorBytes$Block" "gate" "[I" ∈ gt := gm (i := 118) (by decide +kernel) rfl
theorem fl_X0_21 : Cond.fieldLink RX0 21 "MirrorBytes$Block" "owner" "[I" ∈ gt := gm (i := 119) (by decide +kernel) rfl
theorem fl_X1_47 : Cond.fieldLink RX1 47 "MirrorBytes$Block" "owner" "[I" ∈ gt := gm (i := 120) (by decide +kernel) rfl
theorem fl_X4_95 : Cond.fieldLink RX4 95 "MirrorBytes$Block" "owner" "[I" ∈ gt := gm (i := 121) (by decide +kernel) rfl
theorem fl_X8_137 : Cond.fieldLink RX8 137 "MirrorBytes$Block" "owner" "[I" ∈ gt := gm (i := 122) (by decide +kernel) rfl
theorem fl_X0_24 : Cond.fieldLink RX0 24 "MirrorBytes$Block" "kind" "[I" ∈ gt := gm (i := 123) (by decide +kernel) rfl
theorem fl_X1_31 : Cond.fieldLink RX1 31 "MirrorBytes$Block" "kind" "[I" ∈ gt := gm (i := 124) (by decide +kernel) rfl
theorem fl_X4_98 : Cond.fieldLink RX4 98 "MirrorBytes$Block" "kind" "[I" ∈ gt := gm (i := 125) (by decide +kernel) rfl
theorem fl_X8_146 : Cond.fieldLink RX8 146 "MirrorBytes$Block" "kind" "[I" ∈ gt := gm (i := 126) (by decide +kernel) rfl
theorem fl_X0_27 : Cond.fieldLink RX0 27 "MirrorBytes$Block" "low" "[I" ∈ gt := gm (i := 127) (by decide +kernel) rfl
theorem fl_X1_53 : Cond.fieldLink RX1 53 "MirrorBytes$Block" "low" "[I" ∈ gt := gm (i := 128) (by decide +kernel) rfl
theorem fl_X4_107 : Cond.fieldLink RX4 107 "MirrorBytes$Block" "low" "[I" ∈ gt := gm (i := 129) (by decide +kernel) rfl
theorem fl_X8_140 : Cond.fieldLink RX8 140 "MirrorBytes$Block" "low" "[I" ∈ gt := gm (i := 130) (by decide +kernel) rfl
theorem fl_X0_30 : Cond.fieldLink RX0 30 "MirrorBytes$Block" "high" "[I" ∈ gt := gm (i := 131) (by decide +kernel) rfl
theorem fl_X4_110 : Cond.fieldLink RX4 110 "MirrorBytes$Block" "high" "[I" ∈ gt := gm (i := 132) (by decide +kernel) rfl
theorem fl_X8_143 : Cond.fieldLink RX8 143 "MirrorBytes$Block" "high" "[I" ∈ gt := gm (i := 133) (by decide +kernel) rfl
theorem fl_X0_33 : Cond.fieldLink RX0 33 "MirrorBytes$Block" "mask" "[I" ∈ gt := gm (i := 134) (by decide +kernel) rfl
theorem fl_X1_50 : Cond.fieldLink RX1 50 "MirrorBytes$Block" "mask" "[I" ∈ gt := gm (i := 135) (by decide +kernel) rfl
theorem fl_X4_113 : Cond.fieldLink RX4 113 "MirrorBytes$Block" "mask" "[I" ∈ gt := gm (i := 136) (by decide +kernel) rfl
theorem fl_X8_259 : Cond.fieldLink RX8 259 "MirrorBytes$Block" "mask" "[I" ∈ gt := gm (i := 137) (by decide +kernel) rfl
theorem fl_X0_36 : Cond.fieldLink RX0 36 "MirrorBytes$Block" "initial" "[I" ∈ gt := gm (i := 138) (by decide +kernel) rfl
theorem fl_X1_40 : Cond.fieldLink RX1 40 "MirrorBytes$Block" "initial" "[I" ∈ gt := gm (i := 139) (by decide +kernel) rfl
theorem fl_X4_116 : Cond.fieldLink RX4 116 "MirrorBytes$Block" "initial" "[I" ∈ gt := gm (i := 140) (by decide +kernel) rfl
theorem fl_X8_149 : Cond.fieldLink RX8 149 "MirrorBytes$Block" "initial" "[I" ∈ gt := gm (i := 141) (by decide +kernel) rfl
theorem fl_X0_39 : Cond.fieldLink RX0 39 "MirrorBytes$Block" "aliasAddress" "[I" ∈ gt := gm (i := 142) (by decide +kernel) rfl
theorem fl_X4_122 : Cond.fieldLink RX4 122 "MirrorBytes$Block" "aliasAddress" "[I" ∈ gt := gm (i := 143) (by decide +kernel) rfl
theorem fl_X8_177 : Cond.fieldLink RX8 177 "MirrorBytes$Block" "aliasAddress" "[I" ∈ gt := gm (i := 144) (by decide +kernel) rfl
theorem fl_X0_42 : Cond.fieldLink RX0 42 "MirrorBytes$Block" "aliasRegister" "[I" ∈ gt := gm (i := 145) (by decide +kernel) rfl
theorem fl_X4_125 : Cond.fieldLink RX4 125 "MirrorBytes$Block" "aliasRegister" "[I" ∈ gt := gm (i := 146) (by decide +kernel) rfl
theorem fl_X8_180 : Cond.fieldLink RX8 180 "MirrorBytes$Block" "aliasRegister" "[I" ∈ gt := gm (i := 147) (by decide +kernel) rfl
theorem fl_X0_45 : Cond.fieldLink RX0 45 "MirrorBytes$Block" "aliasKind" "[I" ∈ gt := gm (i := 148) (by decide +kernel) rfl
theorem fl_X4_132 : Cond.fieldLink RX4 132 "MirrorBytes$Block" "aliasKind" "[I" ∈ gt := gm (i := 149) (by decide +kernel) rfl
theorem fl_X8_183 : Cond.fieldLink RX8 183 "MirrorBytes$Block" "aliasKind" "[I" ∈ gt := gm (i := 150) (by decide +kernel) rfl
theorem fl_X1_90 : Cond.fieldLink RX1 90 "MirrorBytes$Block" "aliasKind" "[I" ∈ gt := gm (i := 151) (by decide +kernel) rfl
theorem cl_X4_18 : Cond.classLink RX4 18 RX7 ∈ gt := gm (i := 183) (by decide +kernel) rfl
theorem ia_X7 : Cond.instantiable RX7 4 ∈ gt := gm (i := 184) (by decide +kernel) rfl
theorem ml_X4_20 : Cond.methodLink RX4 20 yX7_init ∈ gt := gm (i := 185) (by decide +kernel) rfl
theorem im_X7_init : Cond.instanceMethod yX7_init ∈ gt := gm (i := 186) (by decide +kernel) rfl
theorem co_X7_init : Cond.code yX7_init cX7_init 2 none ∈ gt := gm (i := 187) (by decide +kernel) rfl
theorem mo_X7 : Cond.methodLink RX7 3 objectInit ∈ gt := gm (i := 188) (by decide +kernel) rfl
theorem fl_X7_9 : Cond.fieldLink RX7 9 "MirrorBytes$Tokens" "text" "LMirrorBytes$Text;" ∈ gt := gm (i := 189) (by decide +kernel) rfl
theorem fl_X7_19 : Cond.fieldLink RX7 19 "MirrorBytes$Tokens" "start" "I" ∈ gt := gm (i := 190) (by decide +kernel) rfl
theorem fl_X4_44 : Cond.fieldLink RX4 44 "MirrorBytes$Tokens" "start" "I" ∈ gt := gm (i := 191) (by decide +kernel) rfl
theorem fl_X7_15 : Cond.fieldLink RX7 15 "MirrorBytes$Tokens" "end" "I" ∈ gt := gm (i := 192) (by decide +kernel) rfl
theorem fl_X4_36 : Cond.fieldLink RX4 36 "MirrorBytes$Tokens" "sort" "I" ∈ gt := gm (i := 193) (by decide +kernel) rfl
theorem fl_X7_31 : Cond.fieldLink RX7 31 "MirrorBytes$Tokens" "sort" "I" ∈ gt := gm (i := 194) (by decide +kernel) rfl
theorem fl_X4_23 : Cond.fieldLink RX4 23 "MirrorBytes$Parser" "tokens" "LMirrorBytes$Tokens;" ∈ gt := gm (i := 204) (by decide +kernel) rfl
theorem fl_X4_12 : Cond.fieldLink RX4 12 "MirrorBytes$Parser" "block" "LMirrorBytes$Block;" ∈ gt := gm (i := 205) (by decide +kernel) rfl
theorem cl_X8_25 : Cond.classLink RX8 25 RX5 ∈ gt := gm (i := 211) (by decide +kernel) rfl
theorem ia_X5 : Cond.instantiable RX5 5 ∈ gt := gm (i := 212) (by decide +kernel) rfl
theorem mn_X8_27 : Cond.methodLinkNest RX8 27 yX5_init "MirrorBytes" ∈ lw_tbl := List.mem_of_getElem? (i := 213) (by decide +kernel)
theorem im_X5_init : Cond.instanceMethod yX5_init ∈ gt := gm (i := 214) (by decide +kernel) rfl
theorem co_X5_init : Cond.code yX5_init cX5_init 1 none ∈ gt := gm (i := 215) (by decide +kernel) rfl
theorem mo_X5 : Cond.methodLink RX5 3 objectInit ∈ gt := gm (i := 216) (by decide +kernel) rfl
theorem cl_X5_9 : Cond.classLink RX5 9 RX1 ∈ gt := gm (i := 217) (by decide +kernel) rfl
theorem ia_X1 : Cond.instantiable RX1 4 ∈ gt := gm (i := 218) (by decide +kernel) rfl
theorem mn_X5_11 : Cond.methodLinkNest RX5 11 yX1_init "MirrorBytes" ∈ lw_tbl := List.mem_of_getElem? (i := 219) (by decide +kernel)
theorem im_X1_init : Cond.instanceMethod yX1_init ∈ gt := gm (i := 220) (by decide +kernel) rfl
theorem co_X1_init : Cond.code yX1_init cX1_init 1 none ∈ gt := gm (i := 221) (by decide +kernel) rfl
theorem mo_X1 : Cond.methodLink RX1 3 objectInit ∈ gt := gm (i := 222) (by decide +kernel) rfl
theorem fl_X1_9 : Cond.fieldLink RX1 9 "MirrorBytes$Device" "content" "[I" ∈ gt := gm (i := 223) (by decide +kernel) rfl
theorem fl_X8_262 : Cond.fieldLink RX8 262 "MirrorBytes$Device" "content" "[I" ∈ gt := gm (i := 224) (by decide +kernel) rfl
theorem fl_X1_15 : Cond.fieldLink RX1 15 "MirrorBytes$Device" "held" "[I" ∈ gt := gm (i := 225) (by decide +kernel) rfl
theorem fl_X8_171 : Cond.fieldLink RX8 171 "MirrorBytes$Device" "held" "[I" ∈ gt := gm (i := 226) (by decide +kernel) rfl
theorem fl_X1_18 : Cond.fieldLink RX1 18 "MirrorBytes$Device" "entered" "[Z" ∈ gt := gm (i := 227) (by decide +kernel) rfl
theorem fl_X1_22 : Cond.fieldLink RX1 22 "MirrorBytes$Device" "kinds" "[I" ∈ gt := gm (i := 228) (by decide +kernel) rfl
theorem fl_X8_129 : Cond.fieldLink RX8 129 "MirrorBytes$Device" "kinds" "[I" ∈ gt := gm (i := 229) (by decide +kernel) rfl
theorem cl_X5_21 : Cond.classLink RX5 21 RX3 ∈ gt := gm (i := 240) (by decide +kernel) rfl
theorem ia_X3 : Cond.instantiable RX3 4 ∈ gt := gm (i := 241) (by decide +kernel) rfl
theorem mn_X5_23 : Cond.methodLinkNest RX5 23 yX3_init "MirrorBytes" ∈ lw_tbl := List.mem_of_getElem? (i := 242) (by decide +kernel)
theorem im_X3_init : Cond.instanceMethod yX3_init ∈ gt := gm (i := 243) (by decide +kernel) rfl
theorem co_X3_init : Cond.code yX3_init cX3_init 1 none ∈ gt := gm (i := 244) (by decide +kernel) rfl
theorem mo_X3 : Cond.methodLink RX3 3 objectInit ∈ gt := gm (i := 245) (by decide +kernel) rfl
theorem fl_X3_22 : Cond.fieldLink RX3 22 "MirrorBytes$Journal" "length" "I" ∈ gt := gm (i := 246) (by decide +kernel) rfl
theorem fl_X5_50 : Cond.fieldLink RX5 50 "MirrorBytes$Journal" "length" "I" ∈ gt := gm (i := 247) (by decide +kernel) rfl
theorem fl_X8_96 : Cond.fieldLink RX8 96 "MirrorBytes$Journal" "length" "I" ∈ gt := gm (i := 248) (by decide +kernel) rfl
theorem fl_X3_9 : Cond.fieldLink RX3 9 "MirrorBytes$Journal" "address" "[I" ∈ gt := gm (i := 249) (by decide +kernel) rfl
theorem fl_X8_202 : Cond.fieldLink RX8 202 "MirrorBytes$Journal" "address" "[I" ∈ gt := gm (i := 250) (by decide +kernel) rfl
theorem fl_X3_15 : Cond.fieldLink RX3 15 "MirrorBytes$Journal" "isWrite" "[Z" ∈ gt := gm (i := 251) (by decide +kernel) rfl
theorem fl_X8_203 : Cond.fieldLink RX8 203 "MirrorBytes$Journal" "isWrite" "[Z" ∈ gt := gm (i := 252) (by decide +kernel) rfl
theorem fl_X3_19 : Cond.fieldLink RX3 19 "MirrorBytes$Journal" "content" "[I" ∈ gt := gm (i := 253) (by decide +kernel) rfl
theorem fl_X8_206 : Cond.fieldLink RX8 206 "MirrorBytes$Journal" "content" "[I" ∈ gt := gm (i := 254) (by decide +kernel) rfl
theorem fl_X5_12 : Cond.fieldLink RX5 12 "MirrorBytes$Situation" "device" "LMirrorBytes$Device;" ∈ gt := gm (i := 264) (by decide +kernel) rfl
theorem fl_X8_117 : Cond.fieldLink RX8 117 "MirrorBytes$Situation" "device" "LMirrorBytes$Device;" ∈ gt := gm (i := 265) (by decide +kernel) rfl
theorem fl_X5_18 : Cond.fieldLink RX5 18 "MirrorBytes$Situation" "mirror" "LMirrorBytes$Device;" ∈ gt := gm (i := 266) (by decide +kernel) rfl
theorem fl_X8_152 : Cond.fieldLink RX8 152 "MirrorBytes$Situation" "mirror" "LMirrorBytes$Device;" ∈ gt := gm (i := 267) (by decide +kernel) rfl
theorem fl_X5_24 : Cond.fieldLink RX5 24 "MirrorBytes$Situation" "journal" "LMirrorBytes$Journal;" ∈ gt := gm (i := 268) (by decide +kernel) rfl
theorem fl_X8_92 : Cond.fieldLink RX8 92 "MirrorBytes$Situation" "journal" "LMirrorBytes$Journal;" ∈ gt := gm (i := 269) (by decide +kernel) rfl
theorem fl_X5_39 : Cond.fieldLink RX5 39 "MirrorBytes$Situation" "differing" "I" ∈ gt := gm (i := 270) (by decide +kernel) rfl
theorem fl_X8_196 : Cond.fieldLink RX8 196 "MirrorBytes$Situation" "differing" "I" ∈ gt := gm (i := 271) (by decide +kernel) rfl
theorem fl_X5_28 : Cond.fieldLink RX5 28 "MirrorBytes$Situation" "latestDifference" "I" ∈ gt := gm (i := 272) (by decide +kernel) rfl
theorem fl_X8_199 : Cond.fieldLink RX8 199 "MirrorBytes$Situation" "latestDifference" "I" ∈ gt := gm (i := 273) (by decide +kernel) rfl
theorem cl_X8_32 : Cond.classLink RX8 32 RX2 ∈ gt := gm (i := 285) (by decide +kernel) rfl
theorem ia_X2 : Cond.instantiable RX2 3 ∈ gt := gm (i := 286) (by decide +kernel) rfl
theorem ml_X8_34 : Cond.methodLink RX8 34 yX2_init ∈ gt := gm (i := 287) (by decide +kernel) rfl
theorem im_X2_init : Cond.instanceMethod yX2_init ∈ gt := gm (i := 288) (by decide +kernel) rfl
theorem co_X2_init : Cond.code yX2_init cX2_init 2 none ∈ gt := gm (i := 289) (by decide +kernel) rfl
theorem mo_X2 : Cond.methodLink RX2 3 objectInit ∈ gt := gm (i := 290) (by decide +kernel) rfl
theorem cl_X2_9 : Cond.classLink RX2 9 RX5 ∈ gt := gm (i := 291) (by decide +kernel) rfl
theorem mn_X2_17 : Cond.methodLinkNest RX2 17 yX5_init "MirrorBytes" ∈ lw_tbl := List.mem_of_getElem? (i := 293) (by decide +kernel)
theorem fl_X2_11 : Cond.fieldLink RX2 11 "MirrorBytes$History" "before" "[LMirrorBytes$Situation;" ∈ gt := gm (i := 294) (by decide +kernel) rfl
theorem fl_X2_22 : Cond.fieldLink RX2 22 "MirrorBytes$History" "next" "I" ∈ gt := gm (i := 295) (by decide +kernel) rfl
theorem fl_X2_18 : Cond.fieldLink RX2 18 "MirrorBytes$History" "length" "I" ∈ gt := gm (i := 296) (by decide +kernel) rfl
theorem fl_X8_133 : Cond.fieldLink RX8 133 "MirrorBytes$History" "length" "I" ∈ gt := gm (i := 297) (by decide +kernel) rfl
theorem cl_X8_47 : Cond.classLink RX8 47 RX1 ∈ gt := gm (i := 305) (by decide +kernel) rfl
theorem mn_X8_49 : Cond.methodLinkNest RX8 49 yX1_init "MirrorBytes" ∈ lw_tbl := List.mem_of_getElem? (i := 306) (by decide +kernel)
theorem cl_X8_54 : Cond.classLink RX8 54 RX0 ∈ gt := gm (i := 307) (by decide +kernel) rfl
theorem mn_X8_56 : Cond.methodLinkNest RX8 56 yX0_init "MirrorBytes" ∈ lw_tbl := List.mem_of_getElem? (i := 308) (by decide +kernel)
theorem fl_X8_10 : Cond.fieldLink RX8 10 "MirrorBytes" "text" "LMirrorBytes$Text;" ∈ gt := gm (i := 309) (by decide +kernel) rfl
theorem fl_X8_21 : Cond.fieldLink RX8 21 "MirrorBytes" "parser" "LMirrorBytes$Parser;" ∈ gt := gm (i := 310) (by decide +kernel) rfl
theorem fl_X8_28 : Cond.fieldLink RX8 28 "MirrorBytes" "now" "LMirrorBytes$Situation;" ∈ gt := gm (i := 311) (by decide +kernel) rfl
theorem fl_X8_35 : Cond.fieldLink RX8 35 "MirrorBytes" "history" "LMirrorBytes$History;" ∈ gt := gm (i := 312) (by decide +kernel) rfl
theorem fl_X8_39 : Cond.fieldLink RX8 39 "MirrorBytes" "images" "[LMirrorBytes$Situation;" ∈ gt := gm (i := 313) (by decide +kernel) rfl
theorem fl_X8_43 : Cond.fieldLink RX8 43 "MirrorBytes" "imageHeld" "[Z" ∈ gt := gm (i := 314) (by decide +kernel) rfl
theorem fl_X8_50 : Cond.fieldLink RX8 50 "MirrorBytes" "trial" "LMirrorBytes$Device;" ∈ gt := gm (i := 315) (by decide +kernel) rfl
theorem fl_X8_57 : Cond.fieldLink RX8 57 "MirrorBytes" "block" "LMirrorBytes$Block;" ∈ gt := gm (i := 316) (by decide +kernel) rfl
theorem ml_L_13 : Cond.methodLink RL 13 yX8_type ∈ gt := gm (i := 334) (by decide +kernel) rfl
theorem im_X8_type : Cond.instanceMethod yX8_type ∈ gt := gm (i := 335) (by decide +kernel) rfl
theorem se_X8_type : Cond.selects RX8 yX8_type yX8_type ∈ gt := gm (i := 336) (by decide +kernel) rfl
theorem co_X8_type : Cond.code yX8_type cX8_type 2 (some .int) ∈ gt := gm (i := 337) (by decide +kernel) rfl
theorem ml_X8_61 : Cond.methodLink RX8 61 yX8_isWithin ∈ gt := gm (i := 338) (by decide +kernel) rfl
theorem st_X8_isWithin : Cond.static yX8_isWithin ∈ gt := gm (i := 339) (by decide +kernel) rfl
theorem co_X8_isWithin : Cond.code yX8_isWithin cX8_isWithin 2 (some .boolean) ∈ gt := gm (i := 340) (by decide +kernel) rfl
theorem ml_X8_69 : Cond.methodLink RX8 69 yX6_append ∈ gt := gm (i := 341) (by decide +kernel) rfl
theorem im_X6_append : Cond.instanceMethod yX6_append ∈ gt := gm (i := 342) (by decide +kernel) rfl
theorem se_X6_append : Cond.selects RX6 yX6_append yX6_append ∈ gt := gm (i := 343) (by decide +kernel) rfl
theorem co_X6_append : Cond.code yX6_append cX6_append 2 none ∈ gt := gm (i := 344) (by decide +kernel) rfl
theorem ml_L_18 : Cond.methodLink RL 18 yX8_clear ∈ gt := gm (i := 345) (by decide +kernel) rfl
theorem im_X8_clear : Cond.instanceMethod yX8_clear ∈ gt := gm (i := 346) (by decide +kernel) rfl
theorem se_X8_clear : Cond.selects RX8 yX8_clear yX8_clear ∈ gt := gm (i := 347) (by decide +kernel) rfl
theorem co_X8_clear : Cond.code yX8_clear cX8_clear 2 (some .int) ∈ gt := gm (i := 348) (by decide +kernel) rfl
theorem ml_L_23 : Cond.methodLink RL 23 yX8_tells ∈ gt := gm (i := 349) (by decide +kernel) rfl
theorem im_X8_tells : Cond.instanceMethod yX8_tells ∈ gt := gm (i := 350) (by decide +kernel) rfl
theorem se_X8_tells : Cond.selects RX8 yX8_tells yX8_tells ∈ gt := gm (i := 351) (by decide +kernel) rfl
theorem co_X8_tells : Cond.code yX8_tells cX8_tells 3 (some .int) ∈ gt := gm (i := 352) (by decide +kernel) rfl
theorem ml_X8_73 : Cond.methodLink RX8 73 yX4_parse ∈ gt := gm (i := 353) (by decide +kernel) rfl
theorem im_X4_parse : Cond.instanceMethod yX4_parse ∈ gt := gm (i := 354) (by decide +kernel) rfl
theorem se_X4_parse : Cond.selects RX4 yX4_parse yX4_parse ∈ gt := gm (i := 355) (by decide +kernel) rfl
theorem co_X4_parse : Cond.code yX4_parse cX4_parse 2 (some .int) ∈ gt := gm (i := 356) (by decide +kernel) rfl
theorem ml_X4_27 : Cond.methodLink RX4 27 yX0_empty ∈ gt := gm (i := 357) (by decide +kernel) rfl
theorem im_X0_empty : Cond.instanceMethod yX0_empty ∈ gt := gm (i := 358) (by decide +kernel) rfl
theorem se_X0_empty : Cond.selects RX0 yX0_empty yX0_empty ∈ gt := gm (i := 359) (by decide +kernel) rfl
theorem co_X0_empty : Cond.code yX0_empty cX0_empty 1 none ∈ gt := gm (i := 360) (by decide +kernel) rfl
theorem ml_X4_30 : Cond.methodLink RX4 30 yX7_rewind ∈ gt := gm (i := 361) (by decide +kernel) rfl
theorem im_X7_rewind : Cond.instanceMethod yX7_rewind ∈ gt := gm (i := 362) (by decide +kernel) rfl
theorem se_X7_rewind : Cond.selects RX7 yX7_rewind yX7_rewind ∈ gt := gm (i := 363) (by decide +kernel) rfl
theorem co_X7_rewind : Cond.code yX7_rewind cX7_rewind 1 none ∈ gt := gm (i := 364) (by decide +kernel) rfl
theorem ml_X4_33 : Cond.methodLink RX4 33 yX7_advance ∈ gt := gm (i := 365) (by decide +kernel) rfl
theorem im_X7_advance : Cond.instanceMethod yX7_advance ∈ gt := gm (i := 366) (by decide +kernel) rfl
theorem se_X7_advance : Cond.selects RX7 yX7_advance yX7_advance ∈ gt := gm (i := 367) (by decide +kernel) rfl
theorem co_X7_advance : Cond.code yX7_advance cX7_advance 1 none ∈ gt := gm (i := 368) (by decide +kernel) rfl
theorem ml_X7_34 : Cond.methodLink RX7 34 yX6_isLetter ∈ gt := gm (i := 369) (by decide +kernel) rfl
theorem im_X6_isLetter : Cond.instanceMethod yX6_isLetter ∈ gt := gm (i := 370) (by decide +kernel) rfl
theorem se_X6_isLetter : Cond.selects RX6 yX6_isLetter yX6_isLetter ∈ gt := gm (i := 371) (by decide +kernel) rfl
theorem co_X6_isLetter : Cond.code yX6_isLetter cX6_isLetter 2 (some .boolean) ∈ gt := gm (i := 372) (by decide +kernel) rfl
theorem ml_X7_38 : Cond.methodLink RX7 38 yX6_isDigit ∈ gt := gm (i := 373) (by decide +kernel) rfl
theorem im_X6_isDigit : Cond.instanceMethod yX6_isDigit ∈ gt := gm (i := 374) (by decide +kernel) rfl
theorem se_X6_isDigit : Cond.selects RX6 yX6_isDigit yX6_isDigit ∈ gt := gm (i := 375) (by decide +kernel) rfl
theorem co_X6_isDigit : Cond.code yX6_isDigit cX6_isDigit 2 (some .boolean) ∈ gt := gm (i := 376) (by decide +kernel) rfl
theorem ml_X4_40 : Cond.methodLink RX4 40 yX4_readItem ∈ gt := gm (i := 377) (by decide +kernel) rfl
theorem im_X4_readItem : Cond.instanceMethod yX4_readItem ∈ gt := gm (i := 378) (by decide +kernel) rfl
theorem se_X4_readItem : Cond.selects RX4 yX4_readItem yX4_readItem ∈ gt := gm (i := 379) (by decide +kernel) rfl
theorem co_X4_readItem : Cond.code yX4_readItem cX4_readItem 1 (some .boolean) ∈ gt := gm (i := 380) (by decide +kernel) rfl
theorem ml_X4_47 : Cond.methodLink RX4 47 yX7_letter ∈ gt := gm (i := 381) (by decide +kernel) rfl
theorem im_X7_letter : Cond.instanceMethod yX7_letter ∈ gt := gm (i := 382) (by decide +kernel) rfl
theorem se_X7_letter : Cond.selects RX7 yX7_letter yX7_letter ∈ gt := gm (i := 383) (by decide +kernel) rfl
theorem co_X7_letter : Cond.code yX7_letter cX7_letter 1 (some .int) ∈ gt := gm (i := 384) (by decide +kernel) rfl
theorem ml_X4_51 : Cond.methodLink RX4 51 yX4_readRegister ∈ gt := gm (i := 385) (by decide +kernel) rfl
theorem im_X4_readRegister : Cond.instanceMethod yX4_readRegister ∈ gt := gm (i := 386) (by decide +kernel) rfl
theorem se_X4_readRegister : Cond.selects RX4 yX4_readRegister yX4_readRegister ∈ gt := gm (i := 387) (by decide +kernel) rfl
theorem co_X4_readRegister : Cond.code yX4_readRegister cX4_readRegister 2 (some .boolean) ∈ gt := gm (i := 388) (by decide +kernel) rfl
theorem ml_X4_69 : Cond.methodLink RX4 69 yX4_takeNumber ∈ gt := gm (i := 389) (by decide +kernel) rfl
theorem im_X4_takeNumber : Cond.instanceMethod yX4_takeNumber ∈ gt := gm (i := 390) (by decide +kernel) rfl
theorem se_X4_takeNumber : Cond.selects RX4 yX4_takeNumber yX4_takeNumber ∈ gt := gm (i := 391) (by decide +kernel) rfl
theorem co_X4_takeNumber : Cond.code yX4_takeNumber cX4_takeNumber 4 (some .boolean) ∈ gt := gm (i := 392) (by decide +kernel) rfl
theorem ml_X4_77 : Cond.methodLink RX4 77 yX7_number ∈ gt := gm (i := 393) (by decide +kernel) rfl
theorem im_X7_number : Cond.instanceMethod yX7_number ∈ gt := gm (i := 394) (by decide +kernel) rfl
theorem se_X7_number : Cond.selects RX7 yX7_number yX7_number ∈ gt := gm (i := 395) (by decide +kernel) rfl
theorem co_X7_number : Cond.code yX7_number cX7_number 4 (some .int) ∈ gt := gm (i := 396) (by decide +kernel) rfl
theorem ml_X4_86 : Cond.methodLink RX4 86 yX4_takeSemicolon ∈ gt := gm (i := 397) (by decide +kernel) rfl
theorem im_X4_takeSemicolon : Cond.instanceMethod yX4_takeSemicolon ∈ gt := gm (i := 398) (by decide +kernel) rfl
theorem se_X4_takeSemicolon : Cond.selects RX4 yX4_takeSemicolon yX4_takeSemicolon ∈ gt := gm (i := 399) (by decide +kernel) rfl
theorem co_X4_takeSemicolon : Cond.code yX4_takeSemicolon cX4_takeSemicolon 1 (some .boolean) ∈ gt := gm (i := 400) (by decide +kernel) rfl
theorem ml_X4_54 : Cond.methodLink RX4 54 yX4_readField ∈ gt := gm (i := 401) (by decide +kernel) rfl
theorem im_X4_readField : Cond.instanceMethod yX4_readField ∈ gt := gm (i := 402) (by decide +kernel) rfl
theorem se_X4_readField : Cond.selects RX4 yX4_readField yX4_readField ∈ gt := gm (i := 403) (by decide +kernel) rfl
theorem co_X4_readField : Cond.code yX4_readField cX4_readField 7 (some .boolean) ∈ gt := gm (i := 404) (by decide +kernel) rfl
theorem ml_X4_92 : Cond.methodLink RX4 92 yX4_takeKind ∈ gt := gm (i := 405) (by decide +kernel) rfl
theorem im_X4_takeKind : Cond.instanceMethod yX4_takeKind ∈ gt := gm (i := 406) (by decide +kernel) rfl
theorem se_X4_takeKind : Cond.selects RX4 yX4_takeKind yX4_takeKind ∈ gt := gm (i := 407) (by decide +kernel) rfl
theorem co_X4_takeKind : Cond.code yX4_takeKind cX4_takeKind 1 (some .boolean) ∈ gt := gm (i := 408) (by decide +kernel) rfl
theorem ml_X4_101 : Cond.methodLink RX4 101 yX7_kind ∈ gt := gm (i := 409) (by decide +kernel) rfl
theorem im_X7_kind : Cond.instanceMethod yX7_kind ∈ gt := gm (i := 410) (by decide +kernel) rfl
theorem se_X7_kind : Cond.selects RX7 yX7_kind yX7_kind ∈ gt := gm (i := 411) (by decide +kernel) rfl
theorem co_X7_kind : Cond.code yX7_kind cX7_kind 2 (some .int) ∈ gt := gm (i := 412) (by decide +kernel) rfl
theorem ml_X4_103 : Cond.methodLink RX4 103 yX0_usedBits ∈ gt := gm (i := 415) (by decide +kernel) rfl
theorem im_X0_usedBits : Cond.instanceMethod yX0_usedBits ∈ gt := gm (i := 416) (by decide +kernel) rfl
theorem se_X0_usedBits : Cond.selects RX0 yX0_usedBits yX0_usedBits ∈ gt := gm (i := 417) (by decide +kernel) rfl
theorem co_X0_usedBits : Cond.code yX0_usedBits cX0_usedBits 4 (some .int) ∈ gt := gm (i := 418) (by decide +kernel) rfl
theorem ml_X4_57 : Cond.methodLink RX4 57 yX4_readAlias ∈ gt := gm (i := 419) (by decide +kernel) rfl
theorem im_X4_readAlias : Cond.instanceMethod yX4_readAlias ∈ gt := gm (i := 420) (by decide +kernel) rfl
theorem se_X4_readAlias : Cond.selects RX4 yX4_readAlias yX4_readAlias ∈ gt := gm (i := 421) (by decide +kernel) rfl
theorem co_X4_readAlias : Cond.code yX4_readAlias cX4_readAlias 2 (some .boolean) ∈ gt := gm (i := 422) (by decide +kernel) rfl
theorem ml_X4_128 : Cond.methodLink RX4 128 yX4_suitsAlias ∈ gt := gm (i := 423) (by decide +kernel) rfl
theorem st_X4_suitsAlias : Cond.static yX4_suitsAlias ∈ gt := gm (i := 424) (by decide +kernel) rfl
theorem co_X4_suitsAlias : Cond.code yX4_suitsAlias cX4_suitsAlias 1 (some .boolean) ∈ gt := gm (i := 425) (by decide +kernel) rfl
theorem ml_X4_60 : Cond.methodLink RX4 60 yX4_readLock ∈ gt := gm (i := 426) (by decide +kernel) rfl
theorem im_X4_readLock : Cond.instanceMethod yX4_readLock ∈ gt := gm (i := 427) (by decide +kernel) rfl
theorem se_X4_readLock : Cond.selects RX4 yX4_readLock yX4_readLock ∈ gt := gm (i := 428) (by decide +kernel) rfl
theorem co_X4_readLock : Cond.code yX4_readLock cX4_readLock 2 (some .boolean) ∈ gt := gm (i := 429) (by decide +kernel) rfl
theorem ml_X4_63 : Cond.methodLink RX4 63 yX4_readGate ∈ gt := gm (i := 430) (by decide +kernel) rfl
theorem im_X4_readGate : Cond.instanceMethod yX4_readGate ∈ gt := gm (i := 431) (by decide +kernel) rfl
theorem se_X4_readGate : Cond.selects RX4 yX4_readGate yX4_readGate ∈ gt := gm (i := 432) (by decide +kernel) rfl
theorem co_X4_readGate : Cond.code yX4_readGate cX4_readGate 3 (some .boolean) ∈ gt := gm (i := 433) (by decide +kernel) rfl
theorem ml_X8_77 : Cond.methodLink RX8 77 yX4_exchange ∈ gt := gm (i := 434) (by decide +kernel) rfl
theorem im_X4_exchange : Cond.instanceMethod yX4_exchange ∈ gt := gm (i := 435) (by decide +kernel) rfl
theorem se_X4_exchange : Cond.selects RX4 yX4_exchange yX4_exchange ∈ gt := gm (i := 436) (by decide +kernel) rfl
theorem co_X4_exchange : Cond.code yX4_exchange cX4_exchange 3 (some (.object "MirrorBytes$Block")) ∈ gt := gm (i := 437) (by decide +kernel) rfl
theorem ml_X8_81 : Cond.methodLink RX8 81 yX5_startWith ∈ gt := gm (i := 438) (by decide +kernel) rfl
theorem im_X5_startWith : Cond.instanceMethod yX5_startWith ∈ gt := gm (i := 439) (by decide +kernel) rfl
theorem se_X5_startWith : Cond.selects RX5 yX5_startWith yX5_startWith ∈ gt := gm (i := 440) (by decide +kernel) rfl
theorem co_X5_startWith : Cond.code yX5_startWith cX5_startWith 2 none ∈ gt := gm (i := 441) (by decide +kernel) rfl
theorem ml_X5_42 : Cond.methodLink RX5 42 yX1_mend ∈ gt := gm (i := 442) (by decide +kernel) rfl
theorem im_X1_mend : Cond.instanceMethod yX1_mend ∈ gt := gm (i := 443) (by decide +kernel) rfl
theorem se_X1_mend : Cond.selects RX1 yX1_mend yX1_mend ∈ gt := gm (i := 444) (by decide +kernel) rfl
theorem co_X1_mend : Cond.code yX1_mend cX1_mend 2 none ∈ gt := gm (i := 445) (by decide +kernel) rfl
theorem ml_X5_46 : Cond.methodLink RX5 46 yX5_restart ∈ gt := gm (i := 449) (by decide +kernel) rfl
theorem im_X5_restart : Cond.instanceMethod yX5_restart ∈ gt := gm (i := 450) (by decide +kernel) rfl
theorem se_X5_restart : Cond.selects RX5 yX5_restart yX5_restart ∈ gt := gm (i := 451) (by decide +kernel) rfl
theorem co_X5_restart : Cond.code yX5_restart cX5_restart 2 none ∈ gt := gm (i := 452) (by decide +kernel) rfl
theorem ml_X5_49 : Cond.methodLink RX5 49 yX1_restart ∈ gt := gm (i := 453) (by decide +kernel) rfl
theorem im_X1_restart : Cond.instanceMethod yX1_restart ∈ gt := gm (i := 454) (by decide +kernel) rfl
theorem se_X1_restart : Cond.selects RX1 yX1_restart yX1_restart ∈ gt := gm (i := 455) (by decide +kernel) rfl
theorem co_X1_restart : Cond.code yX1_restart cX1_restart 3 none ∈ gt := gm (i := 456) (by decide +kernel) rfl
theorem ml_X1_43 : Cond.methodLink RX1 43 yX1_putValue ∈ gt := gm (i := 457) (by decide +kernel) rfl
theorem im_X1_putValue : Cond.instanceMethod yX1_putValue ∈ gt := gm (i := 458) (by decide +kernel) rfl
theorem se_X1_putValue : Cond.selects RX1 yX1_putValue yX1_putValue ∈ gt := gm (i := 459) (by decide +kernel) rfl
theorem co_X1_putValue : Cond.code yX1_putValue cX1_putValue 4 none ∈ gt := gm (i := 460) (by decide +kernel) rfl
theorem ml_X1_56 : Cond.methodLink RX1 56 yX1_putBits ∈ gt := gm (i := 461) (by decide +kernel) rfl
theorem im_X1_putBits : Cond.instanceMethod yX1_putBits ∈ gt := gm (i := 462) (by decide +kernel) rfl
theorem se_X1_putBits : Cond.selects RX1 yX1_putBits yX1_putBits ∈ gt := gm (i := 463) (by decide +kernel) rfl
theorem co_X1_putBits : Cond.code yX1_putBits cX1_putBits 5 none ∈ gt := gm (i := 464) (by decide +kernel) rfl
theorem ml_X8_85 : Cond.methodLink RX8 85 yX2_forget ∈ gt := gm (i := 465) (by decide +kernel) rfl
theorem im_X2_forget : Cond.instanceMethod yX2_forget ∈ gt := gm (i := 466) (by decide +kernel) rfl
theorem se_X2_forget : Cond.selects RX2 yX2_forget yX2_forget ∈ gt := gm (i := 467) (by decide +kernel) rfl
theorem co_X2_forget : Cond.code yX2_forget cX2_forget 1 none ∈ gt := gm (i := 468) (by decide +kernel) rfl
theorem ml_L_27 : Cond.methodLink RL 27 yX8_resets ∈ gt := gm (i := 469) (by decide +kernel) rfl
theorem im_X8_resets : Cond.instanceMethod yX8_resets ∈ gt := gm (i := 470) (by decide +kernel) rfl
theorem se_X8_resets : Cond.selects RX8 yX8_resets yX8_resets ∈ gt := gm (i := 471) (by decide +kernel) rfl
theorem co_X8_resets : Cond.code yX8_resets cX8_resets 2 (some .int) ∈ gt := gm (i := 472) (by decide +kernel) rfl
theorem ml_X8_88 : Cond.methodLink RX8 88 yX2_remember ∈ gt := gm (i := 473) (by decide +kernel) rfl
theorem im_X2_remember : Cond.instanceMethod yX2_remember ∈ gt := gm (i := 474) (by decide +kernel) rfl
theorem se_X2_remember : Cond.selects RX2 yX2_remember yX2_remember ∈ gt := gm (i := 475) (by decide +kernel) rfl
theorem co_X2_remember : Cond.code yX2_remember cX2_remember 2 none ∈ gt := gm (i := 476) (by decide +kernel) rfl
theorem ml_X2_25 : Cond.methodLink RX2 25 yX5_copyFrom ∈ gt := gm (i := 477) (by decide +kernel) rfl
theorem im_X5_copyFrom : Cond.instanceMethod yX5_copyFrom ∈ gt := gm (i := 478) (by decide +kernel) rfl
theorem se_X5_copyFrom : Cond.selects RX5 yX5_copyFrom yX5_copyFrom ∈ gt := gm (i := 479) (by decide +kernel) rfl
theorem co_X5_copyFrom : Cond.code yX5_copyFrom cX5_copyFrom 2 none ∈ gt := gm (i := 480) (by decide +kernel) rfl
theorem ml_X5_32 : Cond.methodLink RX5 32 yX1_copyFrom ∈ gt := gm (i := 481) (by decide +kernel) rfl
theorem im_X1_copyFrom : Cond.instanceMethod yX1_copyFrom ∈ gt := gm (i := 482) (by decide +kernel) rfl
theorem se_X1_copyFrom : Cond.selects RX1 yX1_copyFrom yX1_copyFrom ∈ gt := gm (i := 483) (by decide +kernel) rfl
theorem co_X1_copyFrom : Cond.code yX1_copyFrom cX1_copyFrom 3 none ∈ gt := gm (i := 484) (by decide +kernel) rfl
theorem ml_X5_36 : Cond.methodLink RX5 36 yX3_copyFrom ∈ gt := gm (i := 485) (by decide +kernel) rfl
theorem im_X3_copyFrom : Cond.instanceMethod yX3_copyFrom ∈ gt := gm (i := 486) (by decide +kernel) rfl
theorem se_X3_copyFrom : Cond.selects RX3 yX3_copyFrom yX3_copyFrom ∈ gt := gm (i := 487) (by decide +kernel) rfl
theorem co_X3_copyFrom : Cond.code yX3_copyFrom cX3_copyFrom 3 none ∈ gt := gm (i := 488) (by decide +kernel) rfl
theorem ml_X2_29 : Cond.methodLink RX2 29 yJ9_min_7cf53 ∈ gt := gm (i := 489) (by decide +kernel) rfl
theorem st_J9_min_7cf53 : Cond.static yJ9_min_7cf53 ∈ gt := gm (i := 490) (by decide +kernel) rfl
theorem co_J9_min_7cf53 : Cond.code yJ9_min_7cf53 cJ9_min_7cf53 2 (some .int) ∈ gt := gm (i := 491) (by decide +kernel) rfl
theorem ml_X8_99 : Cond.methodLink RX8 99 yX5_restart ∈ gt := gm (i := 492) (by decide +kernel) rfl
theorem ml_L_31 : Cond.methodLink RL 31 yX8_reads ∈ gt := gm (i := 493) (by decide +kernel) rfl
theorem im_X8_reads : Cond.instanceMethod yX8_reads ∈ gt := gm (i := 494) (by decide +kernel) rfl
theorem se_X8_reads : Cond.selects RX8 yX8_reads yX8_reads ∈ gt := gm (i := 495) (by decide +kernel) rfl
theorem co_X8_reads : Cond.code yX8_reads cX8_reads 2 (some .int) ∈ gt := gm (i := 496) (by decide +kernel) rfl
theorem ml_X8_102 : Cond.methodLink RX8 102 yX5_performRead ∈ gt := gm (i := 497) (by decide +kernel) rfl
theorem im_X5_performRead : Cond.instanceMethod yX5_performRead ∈ gt := gm (i := 498) (by decide +kernel) rfl
theorem se_X5_performRead : Cond.selects RX5 yX5_performRead yX5_performRead ∈ gt := gm (i := 499) (by decide +kernel) rfl
theorem co_X5_performRead : Cond.code yX5_performRead cX5_performRead 4 (some .int) ∈ gt := gm (i := 500) (by decide +kernel) rfl
theorem ml_X5_53 : Cond.methodLink RX5 53 yX1_read ∈ gt := gm (i := 501) (by decide +kernel) rfl
theorem im_X1_read : Cond.instanceMethod yX1_read ∈ gt := gm (i := 502) (by decide +kernel) rfl
theorem se_X1_read : Cond.selects RX1 yX1_read yX1_read ∈ gt := gm (i := 503) (by decide +kernel) rfl
theorem co_X1_read : Cond.code yX1_read cX1_read 6 (some .int) ∈ gt := gm (i := 504) (by decide +kernel) rfl
theorem ml_X1_77 : Cond.methodLink RX1 77 yX1_look ∈ gt := gm (i := 505) (by decide +kernel) rfl
theorem im_X1_look : Cond.instanceMethod yX1_look ∈ gt := gm (i := 506) (by decide +kernel) rfl
theorem se_X1_look : Cond.selects RX1 yX1_look yX1_look ∈ gt := gm (i := 507) (by decide +kernel) rfl
theorem co_X1_look : Cond.code yX1_look cX1_look 4 (some .int) ∈ gt := gm (i := 508) (by decide +kernel) rfl
theorem ml_X1_70 : Cond.methodLink RX1 70 yX0_registerBehind ∈ gt := gm (i := 509) (by decide +kernel) rfl
theorem im_X0_registerBehind : Cond.instanceMethod yX0_registerBehind ∈ gt := gm (i := 510) (by decide +kernel) rfl
theorem se_X0_registerBehind : Cond.selects RX0 yX0_registerBehind yX0_registerBehind ∈ gt := gm (i := 511) (by decide +kernel) rfl
theorem co_X0_registerBehind : Cond.code yX0_registerBehind cX0_registerBehind 3 (some .int) ∈ gt := gm (i := 512) (by decide +kernel) rfl
theorem ml_X0_74 : Cond.methodLink RX0 74 yX0_aliasAt ∈ gt := gm (i := 513) (by decide +kernel) rfl
theorem im_X0_aliasAt : Cond.instanceMethod yX0_aliasAt ∈ gt := gm (i := 514) (by decide +kernel) rfl
theorem se_X0_aliasAt : Cond.selects RX0 yX0_aliasAt yX0_aliasAt ∈ gt := gm (i := 515) (by decide +kernel) rfl
theorem co_X0_aliasAt : Cond.code yX0_aliasAt cX0_aliasAt 3 (some .int) ∈ gt := gm (i := 516) (by decide +kernel) rfl
theorem ml_X0_71 : Cond.methodLink RX0 71 yX0_registerAt ∈ gt := gm (i := 517) (by decide +kernel) rfl
theorem im_X0_registerAt : Cond.instanceMethod yX0_registerAt ∈ gt := gm (i := 518) (by decide +kernel) rfl
theorem se_X0_registerAt : Cond.selects RX0 yX0_registerAt yX0_registerAt ∈ gt := gm (i := 519) (by decide +kernel) rfl
theorem co_X0_registerAt : Cond.code yX0_registerAt cX0_registerAt 3 (some .int) ∈ gt := gm (i := 520) (by decide +kernel) rfl
theorem ml_X1_74 : Cond.methodLink RX1 74 yX1_shown ∈ gt := gm (i := 521) (by decide +kernel) rfl
theorem im_X1_shown : Cond.instanceMethod yX1_shown ∈ gt := gm (i := 522) (by decide +kernel) rfl
theorem se_X1_shown : Cond.selects RX1 yX1_shown yX1_shown ∈ gt := gm (i := 523) (by decide +kernel) rfl
theorem co_X1_shown : Cond.code yX1_shown cX1_shown 5 (some .int) ∈ gt := gm (i := 524) (by decide +kernel) rfl
theorem ml_X1_80 : Cond.methodLink RX1 80 yX0_registerAt ∈ gt := gm (i := 525) (by decide +kernel) rfl
theorem ml_X5_57 : Cond.methodLink RX5 57 yX1_look ∈ gt := gm (i := 526) (by decide +kernel) rfl
theorem ml_X5_60 : Cond.methodLink RX5 60 yX1_learn ∈ gt := gm (i := 527) (by decide +kernel) rfl
theorem im_X1_learn : Cond.instanceMethod yX1_learn ∈ gt := gm (i := 528) (by decide +kernel) rfl
theorem se_X1_learn : Cond.selects RX1 yX1_learn yX1_learn ∈ gt := gm (i := 529) (by decide +kernel) rfl
theorem co_X1_learn : Cond.code yX1_learn cX1_learn 6 none ∈ gt := gm (i := 530) (by decide +kernel) rfl
theorem ml_X5_64 : Cond.methodLink RX5 64 yX3_append ∈ gt := gm (i := 531) (by decide +kernel) rfl
theorem im_X3_append : Cond.instanceMethod yX3_append ∈ gt := gm (i := 532) (by decide +kernel) rfl
theorem se_X3_append : Cond.selects RX3 yX3_append yX3_append ∈ gt := gm (i := 533) (by decide +kernel) rfl
theorem co_X3_append : Cond.code yX3_append cX3_append 4 none ∈ gt := gm (i := 534) (by decide +kernel) rfl
theorem ml_L_35 : Cond.methodLink RL 35 yX8_writes ∈ gt := gm (i := 535) (by decide +kernel) rfl
theorem im_X8_writes : Cond.instanceMethod yX8_writes ∈ gt := gm (i := 536) (by decide +kernel) rfl
theorem se_X8_writes : Cond.selects RX8 yX8_writes yX8_writes ∈ gt := gm (i := 537) (by decide +kernel) rfl
theorem co_X8_writes : Cond.code yX8_writes cX8_writes 4 (some .int) ∈ gt := gm (i := 538) (by decide +kernel) rfl
theorem ml_X8_106 : Cond.methodLink RX8 106 yX8_changedBy ∈ gt := gm (i := 539) (by decide +kernel) rfl
theorem im_X8_changedBy : Cond.instanceMethod yX8_changedBy ∈ gt := gm (i := 541) (by decide +kernel) rfl
theorem co_X8_changedBy : Cond.code yX8_changedBy cX8_changedBy 5 (some .int) ∈ gt := gm (i := 542) (by decide +kernel) rfl
theorem ml_X8_235 : Cond.methodLink RX8 235 yX1_copyFrom ∈ gt := gm (i := 543) (by decide +kernel) rfl
theorem ml_X8_238 : Cond.methodLink RX8 238 yX1_write ∈ gt := gm (i := 544) (by decide +kernel) rfl
theorem im_X1_write : Cond.instanceMethod yX1_write ∈ gt := gm (i := 545) (by decide +kernel) rfl
theorem se_X1_write : Cond.selects RX1 yX1_write yX1_write ∈ gt := gm (i := 546) (by decide +kernel) rfl
theorem co_X1_write : Cond.code yX1_write cX1_write 6 none ∈ gt := gm (i := 547) (by decide +kernel) rfl
theorem ml_X1_83 : Cond.methodLink RX1 83 yX1_isLocked ∈ gt := gm (i := 548) (by decide +kernel) rfl
theorem im_X1_isLocked : Cond.instanceMethod yX1_isLocked ∈ gt := gm (i := 549) (by decide +kernel) rfl
theorem se_X1_isLocked : Cond.selects RX1 yX1_isLocked yX1_isLocked ∈ gt := gm (i := 550) (by decide +kernel) rfl
theorem co_X1_isLocked : Cond.code yX1_isLocked cX1_isLocked 4 (some .boolean) ∈ gt := gm (i := 551) (by decide +kernel) rfl
theorem mn_X1_62 : Cond.methodLinkNest RX1 62 yX8_isWithin "MirrorBytes" ∈ lw_tbl := List.mem_of_getElem? (i := 552) (by decide +kernel)
theorem ml_X1_66 : Cond.methodLink RX1 66 yX1_valueOf ∈ gt := gm (i := 553) (by decide +kernel) rfl
theorem im_X1_valueOf : Cond.instanceMethod yX1_valueOf ∈ gt := gm (i := 554) (by decide +kernel) rfl
theorem se_X1_valueOf : Cond.selects RX1 yX1_valueOf yX1_valueOf ∈ gt := gm (i := 555) (by decide +kernel) rfl
theorem co_X1_valueOf : Cond.code yX1_valueOf cX1_valueOf 3 (some .int) ∈ gt := gm (i := 556) (by decide +kernel) rfl
theorem ml_X1_87 : Cond.methodLink RX1 87 yX0_aliasAt ∈ gt := gm (i := 557) (by decide +kernel) rfl
theorem ml_X1_93 : Cond.methodLink RX1 93 yX1_letInByAlias ∈ gt := gm (i := 558) (by decide +kernel) rfl
theorem im_X1_letInByAlias : Cond.instanceMethod yX1_letInByAlias ∈ gt := gm (i := 559) (by decide +kernel) rfl
theorem se_X1_letInByAlias : Cond.selects RX1 yX1_letInByAlias yX1_letInByAlias ∈ gt := gm (i := 560) (by decide +kernel) rfl
theorem co_X1_letInByAlias : Cond.code yX1_letInByAlias cX1_letInByAlias 6 none ∈ gt := gm (i := 561) (by decide +kernel) rfl
theorem ml_X1_106 : Cond.methodLink RX1 106 yX1_bitsAfter ∈ gt := gm (i := 562) (by decide +kernel) rfl
theorem im_X1_bitsAfter : Cond.instanceMethod yX1_bitsAfter ∈ gt := gm (i := 563) (by decide +kernel) rfl
theorem se_X1_bitsAfter : Cond.selects RX1 yX1_bitsAfter yX1_bitsAfter ∈ gt := gm (i := 564) (by decide +kernel) rfl
theorem co_X1_bitsAfter : Cond.code yX1_bitsAfter cX1_bitsAfter 4 (some .int) ∈ gt := gm (i := 565) (by decide +kernel) rfl
theorem ml_X1_100 : Cond.methodLink RX1 100 yX1_letIn ∈ gt := gm (i := 566) (by decide +kernel) rfl
theorem im_X1_letIn : Cond.instanceMethod yX1_letIn ∈ gt := gm (i := 567) (by decide +kernel) rfl
theorem se_X1_letIn : Cond.selects RX1 yX1_letIn yX1_letIn ∈ gt := gm (i := 568) (by decide +kernel) rfl
theorem co_X1_letIn : Cond.code yX1_letIn cX1_letIn 5 none ∈ gt := gm (i := 569) (by decide +kernel) rfl
theorem ml_X1_103 : Cond.methodLink RX1 103 yX1_openGates ∈ gt := gm (i := 570) (by decide +kernel) rfl
theorem im_X1_openGates : Cond.instanceMethod yX1_openGates ∈ gt := gm (i := 571) (by decide +kernel) rfl
theorem se_X1_openGates : Cond.selects RX1 yX1_openGates yX1_openGates ∈ gt := gm (i := 572) (by decide +kernel) rfl
theorem co_X1_openGates : Cond.code yX1_openGates cX1_openGates 5 none ∈ gt := gm (i := 573) (by decide +kernel) rfl
theorem ml_X1_113 : Cond.methodLink RX1 113 yX0_isOpenedBy ∈ gt := gm (i := 574) (by decide +kernel) rfl
theorem im_X0_isOpenedBy : Cond.instanceMethod yX0_isOpenedBy ∈ gt := gm (i := 575) (by decide +kernel) rfl
theorem se_X0_isOpenedBy : Cond.selects RX0 yX0_isOpenedBy yX0_isOpenedBy ∈ gt := gm (i := 576) (by decide +kernel) rfl
theorem co_X0_isOpenedBy : Cond.code yX0_isOpenedBy cX0_isOpenedBy 4 (some .boolean) ∈ gt := gm (i := 577) (by decide +kernel) rfl
theorem mn_X0_58 : Cond.methodLinkNest RX0 58 yX8_isWithin "MirrorBytes" ∈ lw_tbl := List.mem_of_getElem? (i := 578) (by decide +kernel)
theorem ml_X8_120 : Cond.methodLink RX8 120 yX1_valueOf ∈ gt := gm (i := 579) (by decide +kernel) rfl
theorem ml_X8_110 : Cond.methodLink RX8 110 yX5_performWrite ∈ gt := gm (i := 580) (by decide +kernel) rfl
theorem im_X5_performWrite : Cond.instanceMethod yX5_performWrite ∈ gt := gm (i := 581) (by decide +kernel) rfl
theorem se_X5_performWrite : Cond.selects RX5 yX5_performWrite yX5_performWrite ∈ gt := gm (i := 582) (by decide +kernel) rfl
theorem co_X5_performWrite : Cond.code yX5_performWrite cX5_performWrite 4 none ∈ gt := gm (i := 583) (by decide +kernel) rfl
theorem ml_X5_68 : Cond.methodLink RX5 68 yX1_write ∈ gt := gm (i := 584) (by decide +kernel) rfl
theorem ml_L_40 : Cond.methodLink RL 40 yX8_sets ∈ gt := gm (i := 585) (by decide +kernel) rfl
theorem im_X8_sets : Cond.instanceMethod yX8_sets ∈ gt := gm (i := 586) (by decide +kernel) rfl
theorem se_X8_sets : Cond.selects RX8 yX8_sets yX8_sets ∈ gt := gm (i := 587) (by decide +kernel) rfl
theorem co_X8_sets : Cond.code yX8_sets cX8_sets 4 (some .int) ∈ gt := gm (i := 588) (by decide +kernel) rfl
theorem ml_X8_114 : Cond.methodLink RX8 114 yX0_canHold ∈ gt := gm (i := 589) (by decide +kernel) rfl
theorem im_X0_canHold : Cond.instanceMethod yX0_canHold ∈ gt := gm (i := 590) (by decide +kernel) rfl
theorem se_X0_canHold : Cond.selects RX0 yX0_canHold yX0_canHold ∈ gt := gm (i := 591) (by decide +kernel) rfl
theorem co_X0_canHold : Cond.code yX0_canHold cX0_canHold 3 (some .boolean) ∈ gt := gm (i := 592) (by decide +kernel) rfl
theorem ml_X0_62 : Cond.methodLink RX0 62 yX0_greatestValue ∈ gt := gm (i := 593) (by decide +kernel) rfl
theorem im_X0_greatestValue : Cond.instanceMethod yX0_greatestValue ∈ gt := gm (i := 594) (by decide +kernel) rfl
theorem se_X0_greatestValue : Cond.selects RX0 yX0_greatestValue yX0_greatestValue ∈ gt := gm (i := 595) (by decide +kernel) rfl
theorem co_X0_greatestValue : Cond.code yX0_greatestValue cX0_greatestValue 2 (some .int) ∈ gt := gm (i := 596) (by decide +kernel) rfl
theorem ml_X8_123 : Cond.methodLink RX8 123 yX1_putValue ∈ gt := gm (i := 597) (by decide +kernel) rfl
theorem ml_L_44 : Cond.methodLink RL 44 yX8_breaks ∈ gt := gm (i := 598) (by decide +kernel) rfl
theorem im_X8_breaks : Cond.instanceMethod yX8_breaks ∈ gt := gm (i := 599) (by decide +kernel) rfl
theorem se_X8_breaks : Cond.selects RX8 yX8_breaks yX8_breaks ∈ gt := gm (i := 600) (by decide +kernel) rfl
theorem co_X8_breaks : Cond.code yX8_breaks cX8_breaks 4 (some .int) ∈ gt := gm (i := 601) (by decide +kernel) rfl
theorem ml_L_48 : Cond.methodLink RL 48 yX8_undo ∈ gt := gm (i := 602) (by decide +kernel) rfl
theorem im_X8_undo : Cond.instanceMethod yX8_undo ∈ gt := gm (i := 603) (by decide +kernel) rfl
theorem se_X8_undo : Cond.selects RX8 yX8_undo yX8_undo ∈ gt := gm (i := 604) (by decide +kernel) rfl
theorem co_X8_undo : Cond.code yX8_undo cX8_undo 1 (some .int) ∈ gt := gm (i := 605) (by decide +kernel) rfl
theorem ml_X8_134 : Cond.methodLink RX8 134 yX2_recall ∈ gt := gm (i := 606) (by decide +kernel) rfl
theorem im_X2_recall : Cond.instanceMethod yX2_recall ∈ gt := gm (i := 607) (by decide +kernel) rfl
theorem se_X2_recall : Cond.selects RX2 yX2_recall yX2_recall ∈ gt := gm (i := 608) (by decide +kernel) rfl
theorem co_X2_recall : Cond.code yX2_recall cX2_recall 2 none ∈ gt := gm (i := 609) (by decide +kernel) rfl
theorem ml_L_52 : Cond.methodLink RL 52 yX8_field ∈ gt := gm (i := 610) (by decide +kernel) rfl
theorem im_X8_field : Cond.instanceMethod yX8_field ∈ gt := gm (i := 611) (by decide +kernel) rfl
theorem se_X8_field : Cond.selects RX8 yX8_field yX8_field ∈ gt := gm (i := 612) (by decide +kernel) rfl
theorem co_X8_field : Cond.code yX8_field cX8_field 3 (some .int) ∈ gt := gm (i := 613) (by decide +kernel) rfl
theorem ml_L_56 : Cond.methodLink RL 56 yX8_register ∈ gt := gm (i := 614) (by decide +kernel) rfl
theorem im_X8_register : Cond.instanceMethod yX8_register ∈ gt := gm (i := 615) (by decide +kernel) rfl
theorem se_X8_register : Cond.selects RX8 yX8_register yX8_register ∈ gt := gm (i := 616) (by decide +kernel) rfl
theorem co_X8_register : Cond.code yX8_register cX8_register 3 (some .int) ∈ gt := gm (i := 617) (by decide +kernel) rfl
theorem ml_X8_167 : Cond.methodLink RX8 167 yX1_isLocked ∈ gt := gm (i := 618) (by decide +kernel) rfl
theorem ml_L_60 : Cond.methodLink RL 60 yX8_alias ∈ gt := gm (i := 619) (by decide +kernel) rfl
theorem im_X8_alias : Cond.instanceMethod yX8_alias ∈ gt := gm (i := 620) (by decide +kernel) rfl
theorem se_X8_alias : Cond.selects RX8 yX8_alias yX8_alias ∈ gt := gm (i := 621) (by decide +kernel) rfl
theorem co_X8_alias : Cond.code yX8_alias cX8_alias 3 (some .int) ∈ gt := gm (i := 622) (by decide +kernel) rfl
theorem ml_L_64 : Cond.methodLink RL 64 yX8_at ∈ gt := gm (i := 623) (by decide +kernel) rfl
theorem im_X8_at : Cond.instanceMethod yX8_at ∈ gt := gm (i := 624) (by decide +kernel) rfl
theorem se_X8_at : Cond.selects RX8 yX8_at yX8_at ∈ gt := gm (i := 625) (by decide +kernel) rfl
theorem co_X8_at : Cond.code yX8_at cX8_at 3 (some .int) ∈ gt := gm (i := 626) (by decide +kernel) rfl
theorem ml_X8_186 : Cond.methodLink RX8 186 yX0_aliasAt ∈ gt := gm (i := 627) (by decide +kernel) rfl
theorem ml_X8_190 : Cond.methodLink RX8 190 yX0_registerAt ∈ gt := gm (i := 628) (by decide +kernel) rfl
theorem ml_L_68 : Cond.methodLink RL 68 yX8_peek ∈ gt := gm (i := 629) (by decide +kernel) rfl
theorem im_X8_peek : Cond.instanceMethod yX8_peek ∈ gt := gm (i := 630) (by decide +kernel) rfl
theorem se_X8_peek : Cond.selects RX8 yX8_peek yX8_peek ∈ gt := gm (i := 631) (by decide +kernel) rfl
theorem co_X8_peek : Cond.code yX8_peek cX8_peek 3 (some .int) ∈ gt := gm (i := 632) (by decide +kernel) rfl
theorem ml_X8_193 : Cond.methodLink RX8 193 yX1_look ∈ gt := gm (i := 633) (by decide +kernel) rfl
theorem ml_L_72 : Cond.methodLink RL 72 yX8_differed ∈ gt := gm (i := 634) (by decide +kernel) rfl
theorem im_X8_differed : Cond.instanceMethod yX8_differed ∈ gt := gm (i := 635) (by decide +kernel) rfl
theorem se_X8_differed : Cond.selects RX8 yX8_differed yX8_differed ∈ gt := gm (i := 636) (by decide +kernel) rfl
theorem co_X8_differed : Cond.code yX8_differed cX8_differed 2 (some .int) ∈ gt := gm (i := 637) (by decide +kernel) rfl
theorem ml_L_76 : Cond.methodLink RL 76 yX8_log ∈ gt := gm (i := 638) (by decide +kernel) rfl
theorem im_X8_log : Cond.instanceMethod yX8_log ∈ gt := gm (i := 639) (by decide +kernel) rfl
theorem se_X8_log : Cond.selects RX8 yX8_log yX8_log ∈ gt := gm (i := 640) (by decide +kernel) rfl
theorem co_X8_log : Cond.code yX8_log cX8_log 3 (some .int) ∈ gt := gm (i := 641) (by decide +kernel) rfl
theorem ml_L_80 : Cond.methodLink RL 80 yX8_suspects ∈ gt := gm (i := 642) (by decide +kernel) rfl
theorem im_X8_suspects : Cond.instanceMethod yX8_suspects ∈ gt := gm (i := 643) (by decide +kernel) rfl
theorem se_X8_suspects : Cond.selects RX8 yX8_suspects yX8_suspects ∈ gt := gm (i := 644) (by decide +kernel) rfl
theorem co_X8_suspects : Cond.code yX8_suspects cX8_suspects 5 (some .int) ∈ gt := gm (i := 645) (by decide +kernel) rfl
theorem ml_X8_209 : Cond.methodLink RX8 209 yX8_wouldReadTheSame ∈ gt := gm (i := 646) (by decide +kernel) rfl
theorem im_X8_wouldReadTheSame : Cond.instanceMethod yX8_wouldReadTheSame ∈ gt := gm (i := 648) (by decide +kernel) rfl
theorem co_X8_wouldReadTheSame : Cond.code yX8_wouldReadTheSame cX8_wouldReadTheSame 3 (some .boolean) ∈ gt := gm (i := 649) (by decide +kernel) rfl
theorem ml_X8_244 : Cond.methodLink RX8 244 yX1_mend ∈ gt := gm (i := 650) (by decide +kernel) rfl
theorem ml_X8_247 : Cond.methodLink RX8 247 yX1_restart ∈ gt := gm (i := 651) (by decide +kernel) rfl
theorem ml_X8_248 : Cond.methodLink RX8 248 yX3_agreesWith ∈ gt := gm (i := 652) (by decide +kernel) rfl
theorem im_X3_agreesWith : Cond.instanceMethod yX3_agreesWith ∈ gt := gm (i := 653) (by decide +kernel) rfl
theorem se_X3_agreesWith : Cond.selects RX3 yX3_agreesWith yX3_agreesWith ∈ gt := gm (i := 654) (by decide +kernel) rfl
theorem co_X3_agreesWith : Cond.code yX3_agreesWith cX3_agreesWith 4 (some .boolean) ∈ gt := gm (i := 655) (by decide +kernel) rfl
theorem ml_X3_26 : Cond.methodLink RX3 26 yX1_write ∈ gt := gm (i := 656) (by decide +kernel) rfl
theorem ml_X3_32 : Cond.methodLink RX3 32 yX1_read ∈ gt := gm (i := 657) (by decide +kernel) rfl
theorem ml_L_84 : Cond.methodLink RL 84 yX8_clashes ∈ gt := gm (i := 658) (by decide +kernel) rfl
theorem im_X8_clashes : Cond.instanceMethod yX8_clashes ∈ gt := gm (i := 659) (by decide +kernel) rfl
theorem se_X8_clashes : Cond.selects RX8 yX8_clashes yX8_clashes ∈ gt := gm (i := 660) (by decide +kernel) rfl
theorem co_X8_clashes : Cond.code yX8_clashes cX8_clashes 5 (some .int) ∈ gt := gm (i := 661) (by decide +kernel) rfl
theorem ml_X8_212 : Cond.methodLink RX8 212 yX0_holdersOf ∈ gt := gm (i := 662) (by decide +kernel) rfl
theorem im_X0_holdersOf : Cond.instanceMethod yX0_holdersOf ∈ gt := gm (i := 663) (by decide +kernel) rfl
theorem se_X0_holdersOf : Cond.selects RX0 yX0_holdersOf yX0_holdersOf ∈ gt := gm (i := 664) (by decide +kernel) rfl
theorem co_X0_holdersOf : Cond.code yX0_holdersOf cX0_holdersOf 4 (some .int) ∈ gt := gm (i := 665) (by decide +kernel) rfl
theorem ml_L_88 : Cond.methodLink RL 88 yX8_touched ∈ gt := gm (i := 666) (by decide +kernel) rfl
theorem im_X8_touched : Cond.instanceMethod yX8_touched ∈ gt := gm (i := 667) (by decide +kernel) rfl
theorem se_X8_touched : Cond.selects RX8 yX8_touched yX8_touched ∈ gt := gm (i := 668) (by decide +kernel) rfl
theorem co_X8_touched : Cond.code yX8_touched cX8_touched 3 (some .int) ∈ gt := gm (i := 669) (by decide +kernel) rfl
theorem ml_L_92 : Cond.methodLink RL 92 yX8_way ∈ gt := gm (i := 670) (by decide +kernel) rfl
theorem im_X8_way : Cond.instanceMethod yX8_way ∈ gt := gm (i := 671) (by decide +kernel) rfl
theorem se_X8_way : Cond.selects RX8 yX8_way yX8_way ∈ gt := gm (i := 672) (by decide +kernel) rfl
theorem co_X8_way : Cond.code yX8_way cX8_way 5 (some .int) ∈ gt := gm (i := 673) (by decide +kernel) rfl
theorem ml_X8_215 : Cond.methodLink RX8 215 yX8_byteThatGives ∈ gt := gm (i := 674) (by decide +kernel) rfl
theorem im_X8_byteThatGives : Cond.instanceMethod yX8_byteThatGives ∈ gt := gm (i := 676) (by decide +kernel) rfl
theorem co_X8_byteThatGives : Cond.code yX8_byteThatGives cX8_byteThatGives 6 (some .int) ∈ gt := gm (i := 677) (by decide +kernel) rfl
theorem ml_X8_241 : Cond.methodLink RX8 241 yX0_canReach ∈ gt := gm (i := 678) (by decide +kernel) rfl
theorem im_X0_canReach : Cond.instanceMethod yX0_canReach ∈ gt := gm (i := 679) (by decide +kernel) rfl
theorem se_X0_canReach : Cond.selects RX0 yX0_canReach yX0_canReach ∈ gt := gm (i := 680) (by decide +kernel) rfl
theorem co_X0_canReach : Cond.code yX0_canReach cX0_canReach 4 (some .boolean) ∈ gt := gm (i := 681) (by decide +kernel) rfl
theorem ml_X0_77 : Cond.methodLink RX0 77 yX0_registerBehind ∈ gt := gm (i := 682) (by decide +kernel) rfl
theorem ml_X0_80 : Cond.methodLink RX0 80 yX0_isOpenedBy ∈ gt := gm (i := 683) (by decide +kernel) rfl
theorem ml_L_96 : Cond.methodLink RL 96 yX8_walk ∈ gt := gm (i := 684) (by decide +kernel) rfl
theorem im_X8_walk : Cond.instanceMethod yX8_walk ∈ gt := gm (i := 685) (by decide +kernel) rfl
theorem se_X8_walk : Cond.selects RX8 yX8_walk yX8_walk ∈ gt := gm (i := 686) (by decide +kernel) rfl
theorem co_X8_walk : Cond.code yX8_walk cX8_walk 8 (some .int) ∈ gt := gm (i := 687) (by decide +kernel) rfl
theorem ml_X8_219 : Cond.methodLink RX8 219 yX8_walkedBits ∈ gt := gm (i := 688) (by decide +kernel) rfl
theorem im_X8_walkedBits : Cond.instanceMethod yX8_walkedBits ∈ gt := gm (i := 690) (by decide +kernel) rfl
theorem co_X8_walkedBits : Cond.code yX8_walkedBits cX8_walkedBits 5 (some .int) ∈ gt := gm (i := 691) (by decide +kernel) rfl
theorem ml_X8_252 : Cond.methodLink RX8 252 yX0_isGate ∈ gt := gm (i := 692) (by decide +kernel) rfl
theorem im_X0_isGate : Cond.instanceMethod yX0_isGate ∈ gt := gm (i := 693) (by decide +kernel) rfl
theorem se_X0_isGate : Cond.selects RX0 yX0_isGate yX0_isGate ∈ gt := gm (i := 694) (by decide +kernel) rfl
theorem co_X0_isGate : Cond.code yX0_isGate cX0_isGate 3 (some .boolean) ∈ gt := gm (i := 695) (by decide +kernel) rfl
theorem ml_X8_256 : Cond.methodLink RX8 256 yX0_isLock ∈ gt := gm (i := 696) (by decide +kernel) rfl
theorem im_X0_isLock : Cond.instanceMethod yX0_isLock ∈ gt := gm (i := 697) (by decide +kernel) rfl
theorem se_X0_isLock : Cond.selects RX0 yX0_isLock yX0_isLock ∈ gt := gm (i := 698) (by decide +kernel) rfl
theorem co_X0_isLock : Cond.code yX0_isLock cX0_isLock 3 (some .boolean) ∈ gt := gm (i := 699) (by decide +kernel) rfl
theorem ml_X8_222 : Cond.methodLink RX8 222 yX8_stepOfWalk ∈ gt := gm (i := 700) (by decide +kernel) rfl
theorem im_X8_stepOfWalk : Cond.instanceMethod yX8_stepOfWalk ∈ gt := gm (i := 702) (by decide +kernel) rfl
theorem co_X8_stepOfWalk : Cond.code yX8_stepOfWalk cX8_stepOfWalk 4 (some .int) ∈ gt := gm (i := 703) (by decide +kernel) rfl
theorem ml_X8_263 : Cond.methodLink RX8 263 yX0_plainBits ∈ gt := gm (i := 704) (by decide +kernel) rfl
theorem im_X0_plainBits : Cond.instanceMethod yX0_plainBits ∈ gt := gm (i := 705) (by decide +kernel) rfl
theorem se_X0_plainBits : Cond.selects RX0 yX0_plainBits yX0_plainBits ∈ gt := gm (i := 706) (by decide +kernel) rfl
theorem co_X0_plainBits : Cond.code yX0_plainBits cX0_plainBits 4 (some .int) ∈ gt := gm (i := 707) (by decide +kernel) rfl
theorem ml_X8_266 : Cond.methodLink RX8 266 yX1_shown ∈ gt := gm (i := 708) (by decide +kernel) rfl
theorem ml_L_100 : Cond.methodLink RL 100 yX8_keep ∈ gt := gm (i := 709) (by decide +kernel) rfl
theorem im_X8_keep : Cond.instanceMethod yX8_keep ∈ gt := gm (i := 710) (by decide +kernel) rfl
theorem se_X8_keep : Cond.selects RX8 yX8_keep yX8_keep ∈ gt := gm (i := 711) (by decide +kernel) rfl
theorem co_X8_keep : Cond.code yX8_keep cX8_keep 2 (some .int) ∈ gt := gm (i := 712) (by decide +kernel) rfl
theorem ml_X8_225 : Cond.methodLink RX8 225 yX5_copyFrom ∈ gt := gm (i := 713) (by decide +kernel) rfl
theorem ml_L_104 : Cond.methodLink RL 104 yX8_back ∈ gt := gm (i := 714) (by decide +kernel) rfl
theorem im_X8_back : Cond.instanceMethod yX8_back ∈ gt := gm (i := 715) (by decide +kernel) rfl
theorem se_X8_back : Cond.selects RX8 yX8_back yX8_back ∈ gt := gm (i := 716) (by decide +kernel) rfl
theorem co_X8_back : Cond.code yX8_back cX8_back 2 (some .int) ∈ gt := gm (i := 717) (by decide +kernel) rfl
theorem ml_L_108 : Cond.methodLink RL 108 yX8_count ∈ gt := gm (i := 718) (by decide +kernel) rfl
theorem im_X8_count : Cond.instanceMethod yX8_count ∈ gt := gm (i := 719) (by decide +kernel) rfl
theorem se_X8_count : Cond.selects RX8 yX8_count yX8_count ∈ gt := gm (i := 720) (by decide +kernel) rfl
theorem co_X8_count : Cond.code yX8_count cX8_count 2 (some .int) ∈ gt := gm (i := 721) (by decide +kernel) rfl
theorem ml_X8_228 : Cond.methodLink RX8 228 yX0_bitsOfFields ∈ gt := gm (i := 722) (by decide +kernel) rfl
theorem im_X0_bitsOfFields : Cond.instanceMethod yX0_bitsOfFields ∈ gt := gm (i := 723) (by decide +kernel) rfl
theorem se_X0_bitsOfFields : Cond.selects RX0 yX0_bitsOfFields yX0_bitsOfFields ∈ gt := gm (i := 724) (by decide +kernel) rfl
theorem co_X0_bitsOfFields : Cond.code yX0_bitsOfFields cX0_bitsOfFields 3 (some .int) ∈ gt := gm (i := 725) (by decide +kernel) rfl
theorem ml_X0_66 : Cond.methodLink RX0 66 yJ6_bitCount_0f7a4 ∈ gt := gm (i := 726) (by decide +kernel) rfl
theorem st_J6_bitCount_0f7a4 : Cond.static yJ6_bitCount_0f7a4 ∈ gt := gm (i := 727) (by decide +kernel) rfl
theorem co_J6_bitCount_0f7a4 : Cond.code yJ6_bitCount_0f7a4 cJ6_bitCount_0f7a4 1 (some .int) ∈ gt := gm (i := 728) (by decide +kernel) rfl
theorem ml_X8_231 : Cond.methodLink RX8 231 yX1_brokenFields ∈ gt := gm (i := 732) (by decide +kernel) rfl
theorem im_X1_brokenFields : Cond.instanceMethod yX1_brokenFields ∈ gt := gm (i := 733) (by decide +kernel) rfl
theorem se_X1_brokenFields : Cond.selects RX1 yX1_brokenFields yX1_brokenFields ∈ gt := gm (i := 734) (by decide +kernel) rfl
theorem co_X1_brokenFields : Cond.code yX1_brokenFields cX1_brokenFields 4 (some .int) ∈ gt := gm (i := 735) (by decide +kernel) rfl
theorem cl_L_10 : Cond.classLink RL 10 RX9 ∈ gt := gm (i := 736) (by decide +kernel) rfl
theorem ia_X9 : Cond.instantiable RX9 14 ∈ gt := gm (i := 737) (by decide +kernel) rfl
theorem ml_L_12 : Cond.methodLink RL 12 yX9_init ∈ gt := gm (i := 738) (by decide +kernel) rfl
theorem im_X9_init : Cond.instanceMethod yX9_init ∈ gt := gm (i := 739) (by decide +kernel) rfl
theorem co_X9_init : Cond.code yX9_init cX9_init 1 none ∈ gt := gm (i := 740) (by decide +kernel) rfl
theorem mo_X9 : Cond.methodLink RX9 1 objectInit ∈ gt := gm (i := 741) (by decide +kernel) rfl
theorem ml_X9_32 : Cond.methodLink RX9 32 yX9_begin ∈ gt := gm (i := 742) (by decide +kernel) rfl
theorem im_X9_begin : Cond.instanceMethod yX9_begin ∈ gt := gm (i := 744) (by decide +kernel) rfl
theorem co_X9_begin : Cond.code yX9_begin cX9_begin 1 none ∈ gt := gm (i := 745) (by decide +kernel) rfl
theorem ml_X9_50 : Cond.methodLink RX9 50 yX9_repair ∈ gt := gm (i := 746) (by decide +kernel) rfl
theorem im_X9_repair : Cond.instanceMethod yX9_repair ∈ gt := gm (i := 748) (by decide +kernel) rfl
theorem co_X9_repair : Cond.code yX9_repair cX9_repair 3 none ∈ gt := gm (i := 749) (by decide +kernel) rfl
theorem ml_X9_35 : Cond.methodLink RX9 35 yX9_fields ∈ gt := gm (i := 750) (by decide +kernel) rfl
theorem im_X9_fields : Cond.instanceMethod yX9_fields ∈ gt := gm (i := 752) (by decide +kernel) rfl
theorem co_X9_fields : Cond.code yX9_fields cX9_fields 1 (some .int) ∈ gt := gm (i := 753) (by decide +kernel) rfl
theorem ml_X9_54 : Cond.methodLink RX9 54 yX9_reset ∈ gt := gm (i := 754) (by decide +kernel) rfl
theorem im_X9_reset : Cond.instanceMethod yX9_reset ∈ gt := gm (i := 756) (by decide +kernel) rfl
theorem co_X9_reset : Cond.code yX9_reset cX9_reset 3 none ∈ gt := gm (i := 757) (by decide +kernel) rfl
theorem ml_X9_57 : Cond.methodLink RX9 57 yX9_emptyLog ∈ gt := gm (i := 758) (by decide +kernel) rfl
theorem im_X9_emptyLog : Cond.instanceMethod yX9_emptyLog ∈ gt := gm (i := 760) (by decide +kernel) rfl
theorem co_X9_emptyLog : Cond.code yX9_emptyLog cX9_emptyLog 1 none ∈ gt := gm (i := 761) (by decide +kernel) rfl
theorem fl_X9_7 : Cond.fieldLink RX9 7 "MirrorBytesModel" "told" "[I" ∈ gt := gm (i := 762) (by decide +kernel) rfl
theorem fl_X9_13 : Cond.fieldLink RX9 13 "MirrorBytesModel" "draft" "[I" ∈ gt := gm (i := 763) (by decide +kernel) rfl
theorem fl_X9_16 : Cond.fieldLink RX9 16 "MirrorBytesModel" "now" "[I" ∈ gt := gm (i := 764) (by decide +kernel) rfl
theorem fl_X9_19 : Cond.fieldLink RX9 19 "MirrorBytesModel" "past" "[I" ∈ gt := gm (i := 765) (by decide +kernel) rfl
theorem fl_X9_60 : Cond.fieldLink RX9 60 "MirrorBytesModel" "pasts" "I" ∈ gt := gm (i := 766) (by decide +kernel) rfl
theorem fl_X9_22 : Cond.fieldLink RX9 22 "MirrorBytesModel" "images" "[I" ∈ gt := gm (i := 767) (by decide +kernel) rfl
theorem fl_X9_25 : Cond.fieldLink RX9 25 "MirrorBytesModel" "isKept" "[Z" ∈ gt := gm (i := 768) (by decide +kernel) rfl
theorem fl_X9_29 : Cond.fieldLink RX9 29 "MirrorBytesModel" "text" "[I" ∈ gt := gm (i := 769) (by decide +kernel) rfl
theorem fl_X9_147 : Cond.fieldLink RX9 147 "MirrorBytesModel" "typed" "I" ∈ gt := gm (i := 770) (by decide +kernel) rfl
theorem fl_X9_150 : Cond.fieldLink RX9 150 "MirrorBytesModel" "at" "I" ∈ gt := gm (i := 771) (by decide +kernel) rfl
theorem fl_X9_156 : Cond.fieldLink RX9 156 "MirrorBytesModel" "tokenAt" "I" ∈ gt := gm (i := 772) (by decide +kernel) rfl
theorem fl_X9_162 : Cond.fieldLink RX9 162 "MirrorBytesModel" "token" "I" ∈ gt := gm (i := 773) (by decide +kernel) rfl
theorem fl_X9_159 : Cond.fieldLink RX9 159 "MirrorBytesModel" "value" "I" ∈ gt := gm (i := 774) (by decide +kernel) rfl
theorem fl_X9_169 : Cond.fieldLink RX9 169 "MirrorBytesModel" "fault" "I" ∈ gt := gm (i := 775) (by decide +kernel) rfl
theorem ml_L_30 : Cond.methodLink RL 30 yX9_resets ∈ gt := gm (i := 805) (by decide +kernel) rfl
theorem im_X9_resets : Cond.instanceMethod yX9_resets ∈ gt := gm (i := 806) (by decide +kernel) rfl
theorem se_X9_resets : Cond.selects RX9 yX9_resets yX9_resets ∈ gt := gm (i := 807) (by decide +kernel) rfl
theorem co_X9_resets : Cond.code yX9_resets cX9_resets 2 (some .int) ∈ gt := gm (i := 808) (by decide +kernel) rfl
theorem ml_X9_97 : Cond.methodLink RX9 97 yX9_note ∈ gt := gm (i := 809) (by decide +kernel) rfl
theorem im_X9_note : Cond.instanceMethod yX9_note ∈ gt := gm (i := 811) (by decide +kernel) rfl
theorem co_X9_note : Cond.code yX9_note cX9_note 2 none ∈ gt := gm (i := 812) (by decide +kernel) rfl
theorem ml_L_34 : Cond.methodLink RL 34 yX9_reads ∈ gt := gm (i := 813) (by decide +kernel) rfl
theorem im_X9_reads : Cond.instanceMethod yX9_reads ∈ gt := gm (i := 814) (by decide +kernel) rfl
theorem se_X9_reads : Cond.selects RX9 yX9_reads yX9_reads ∈ gt := gm (i := 815) (by decide +kernel) rfl
theorem co_X9_reads : Cond.code yX9_reads cX9_reads 6 (some .int) ∈ gt := gm (i := 816) (by decide +kernel) rfl
theorem ml_X9_39 : Cond.methodLink RX9 39 yX9_in ∈ gt := gm (i := 817) (by decide +kernel) rfl
theorem st_X9_in : Cond.static yX9_in ∈ gt := gm (i := 818) (by decide +kernel) rfl
theorem co_X9_in : Cond.code yX9_in cX9_in 3 (some .boolean) ∈ gt := gm (i := 819) (by decide +kernel) rfl
theorem ml_X9_64 : Cond.methodLink RX9 64 yX9_goesTo ∈ gt := gm (i := 820) (by decide +kernel) rfl
theorem im_X9_goesTo : Cond.instanceMethod yX9_goesTo ∈ gt := gm (i := 822) (by decide +kernel) rfl
theorem co_X9_goesTo : Cond.code yX9_goesTo cX9_goesTo 3 (some .int) ∈ gt := gm (i := 823) (by decide +kernel) rfl
theorem ml_X9_43 : Cond.methodLink RX9 43 yX9_registers ∈ gt := gm (i := 824) (by decide +kernel) rfl
theorem im_X9_registers : Cond.instanceMethod yX9_registers ∈ gt := gm (i := 826) (by decide +kernel) rfl
theorem co_X9_registers : Cond.code yX9_registers cX9_registers 1 (some .int) ∈ gt := gm (i := 827) (by decide +kernel) rfl
theorem ml_X9_74 : Cond.methodLink RX9 74 yX9_peekAt ∈ gt := gm (i := 828) (by decide +kernel) rfl
theorem im_X9_peekAt : Cond.instanceMethod yX9_peekAt ∈ gt := gm (i := 830) (by decide +kernel) rfl
theorem co_X9_peekAt : Cond.code yX9_peekAt cX9_peekAt 4 (some .int) ∈ gt := gm (i := 831) (by decide +kernel) rfl
theorem ml_X9_67 : Cond.methodLink RX9 67 yX9_registerOf ∈ gt := gm (i := 832) (by decide +kernel) rfl
theorem im_X9_registerOf : Cond.instanceMethod yX9_registerOf ∈ gt := gm (i := 834) (by decide +kernel) rfl
theorem co_X9_registerOf : Cond.code yX9_registerOf cX9_registerOf 2 (some .int) ∈ gt := gm (i := 835) (by decide +kernel) rfl
theorem ml_X9_70 : Cond.methodLink RX9 70 yX9_tellsOf ∈ gt := gm (i := 836) (by decide +kernel) rfl
theorem im_X9_tellsOf : Cond.instanceMethod yX9_tellsOf ∈ gt := gm (i := 838) (by decide +kernel) rfl
theorem co_X9_tellsOf : Cond.code yX9_tellsOf cX9_tellsOf 5 (some .int) ∈ gt := gm (i := 839) (by decide +kernel) rfl
theorem ml_X9_100 : Cond.methodLink RX9 100 yX9_readOf ∈ gt := gm (i := 840) (by decide +kernel) rfl
theorem im_X9_readOf : Cond.instanceMethod yX9_readOf ∈ gt := gm (i := 842) (by decide +kernel) rfl
theorem co_X9_readOf : Cond.code yX9_readOf cX9_readOf 5 (some .int) ∈ gt := gm (i := 843) (by decide +kernel) rfl
theorem ml_X9_77 : Cond.methodLink RX9 77 yX9_clearRead ∈ gt := gm (i := 844) (by decide +kernel) rfl
theorem im_X9_clearRead : Cond.instanceMethod yX9_clearRead ∈ gt := gm (i := 846) (by decide +kernel) rfl
theorem co_X9_clearRead : Cond.code yX9_clearRead cX9_clearRead 4 none ∈ gt := gm (i := 847) (by decide +kernel) rfl
theorem ml_X9_46 : Cond.methodLink RX9 46 yX9_most ∈ gt := gm (i := 848) (by decide +kernel) rfl
theorem im_X9_most : Cond.instanceMethod yX9_most ∈ gt := gm (i := 850) (by decide +kernel) rfl
theorem co_X9_most : Cond.code yX9_most cX9_most 2 (some .int) ∈ gt := gm (i := 851) (by decide +kernel) rfl
theorem ml_X9_103 : Cond.methodLink RX9 103 yX9_logs ∈ gt := gm (i := 852) (by decide +kernel) rfl
theorem im_X9_logs : Cond.instanceMethod yX9_logs ∈ gt := gm (i := 854) (by decide +kernel) rfl
theorem co_X9_logs : Cond.code yX9_logs cX9_logs 5 none ∈ gt := gm (i := 855) (by decide +kernel) rfl
theorem ml_L_39 : Cond.methodLink RL 39 yX9_writes ∈ gt := gm (i := 856) (by decide +kernel) rfl
theorem im_X9_writes : Cond.instanceMethod yX9_writes ∈ gt := gm (i := 857) (by decide +kernel) rfl
theorem se_X9_writes : Cond.selects RX9 yX9_writes yX9_writes ∈ gt := gm (i := 858) (by decide +kernel) rfl
theorem co_X9_writes : Cond.code yX9_writes cX9_writes 3 (some .int) ∈ gt := gm (i := 859) (by decide +kernel) rfl
theorem ml_X9_106 : Cond.methodLink RX9 106 yX9_copyMachine ∈ gt := gm (i := 860) (by decide +kernel) rfl
theorem im_X9_copyMachine : Cond.instanceMethod yX9_copyMachine ∈ gt := gm (i := 862) (by decide +kernel) rfl
theorem co_X9_copyMachine : Cond.code yX9_copyMachine cX9_copyMachine 4 none ∈ gt := gm (i := 863) (by decide +kernel) rfl
theorem ml_X9_109 : Cond.methodLink RX9 109 yX9_writeTo ∈ gt := gm (i := 864) (by decide +kernel) rfl
theorem im_X9_writeTo : Cond.instanceMethod yX9_writeTo ∈ gt := gm (i := 866) (by decide +kernel) rfl
theorem co_X9_writeTo : Cond.code yX9_writeTo cX9_writeTo 6 none ∈ gt := gm (i := 867) (by decide +kernel) rfl
theorem ml_X9_85 : Cond.methodLink RX9 85 yX9_isLocked ∈ gt := gm (i := 868) (by decide +kernel) rfl
theorem im_X9_isLocked : Cond.instanceMethod yX9_isLocked ∈ gt := gm (i := 870) (by decide +kernel) rfl
theorem co_X9_isLocked : Cond.code yX9_isLocked cX9_isLocked 3 (some .boolean) ∈ gt := gm (i := 871) (by decide +kernel) rfl
theorem ml_X9_89 : Cond.methodLink RX9 89 yX9_letIn ∈ gt := gm (i := 872) (by decide +kernel) rfl
theorem im_X9_letIn : Cond.instanceMethod yX9_letIn ∈ gt := gm (i := 874) (by decide +kernel) rfl
theorem co_X9_letIn : Cond.code yX9_letIn cX9_letIn 9 none ∈ gt := gm (i := 875) (by decide +kernel) rfl
theorem ml_X9_81 : Cond.methodLink RX9 81 yX9_by ∈ gt := gm (i := 876) (by decide +kernel) rfl
theorem st_X9_by : Cond.static yX9_by ∈ gt := gm (i := 877) (by decide +kernel) rfl
theorem co_X9_by : Cond.code yX9_by cX9_by 4 (some .int) ∈ gt := gm (i := 878) (by decide +kernel) rfl
theorem ml_X9_93 : Cond.methodLink RX9 93 yX9_openGates ∈ gt := gm (i := 879) (by decide +kernel) rfl
theorem im_X9_openGates : Cond.instanceMethod yX9_openGates ∈ gt := gm (i := 881) (by decide +kernel) rfl
theorem co_X9_openGates : Cond.code yX9_openGates cX9_openGates 7 none ∈ gt := gm (i := 882) (by decide +kernel) rfl
theorem ml_X9_112 : Cond.methodLink RX9 112 yX9_otherFields ∈ gt := gm (i := 883) (by decide +kernel) rfl
theorem im_X9_otherFields : Cond.instanceMethod yX9_otherFields ∈ gt := gm (i := 885) (by decide +kernel) rfl
theorem co_X9_otherFields : Cond.code yX9_otherFields cX9_otherFields 5 (some .int) ∈ gt := gm (i := 886) (by decide +kernel) rfl
theorem ml_L_43 : Cond.methodLink RL 43 yX9_sets ∈ gt := gm (i := 887) (by decide +kernel) rfl
theorem im_X9_sets : Cond.instanceMethod yX9_sets ∈ gt := gm (i := 888) (by decide +kernel) rfl
theorem se_X9_sets : Cond.selects RX9 yX9_sets yX9_sets ∈ gt := gm (i := 889) (by decide +kernel) rfl
theorem co_X9_sets : Cond.code yX9_sets cX9_sets 4 (some .int) ∈ gt := gm (i := 890) (by decide +kernel) rfl
theorem ml_X9_115 : Cond.methodLink RX9 115 yX9_isField ∈ gt := gm (i := 891) (by decide +kernel) rfl
theorem im_X9_isField : Cond.instanceMethod yX9_isField ∈ gt := gm (i := 893) (by decide +kernel) rfl
theorem co_X9_isField : Cond.code yX9_isField cX9_isField 2 (some .boolean) ∈ gt := gm (i := 894) (by decide +kernel) rfl
theorem ml_L_47 : Cond.methodLink RL 47 yX9_breaks ∈ gt := gm (i := 895) (by decide +kernel) rfl
theorem im_X9_breaks : Cond.instanceMethod yX9_breaks ∈ gt := gm (i := 896) (by decide +kernel) rfl
theorem se_X9_breaks : Cond.selects RX9 yX9_breaks yX9_breaks ∈ gt := gm (i := 897) (by decide +kernel) rfl
theorem co_X9_breaks : Cond.code yX9_breaks cX9_breaks 4 (some .int) ∈ gt := gm (i := 898) (by decide +kernel) rfl
theorem ml_L_51 : Cond.methodLink RL 51 yX9_undo ∈ gt := gm (i := 899) (by decide +kernel) rfl
theorem im_X9_undo : Cond.instanceMethod yX9_undo ∈ gt := gm (i := 900) (by decide +kernel) rfl
theorem se_X9_undo : Cond.selects RX9 yX9_undo yX9_undo ∈ gt := gm (i := 901) (by decide +kernel) rfl
theorem co_X9_undo : Cond.code yX9_undo cX9_undo 2 (some .int) ∈ gt := gm (i := 902) (by decide +kernel) rfl
theorem ml_L_55 : Cond.methodLink RL 55 yX9_field ∈ gt := gm (i := 903) (by decide +kernel) rfl
theorem im_X9_field : Cond.instanceMethod yX9_field ∈ gt := gm (i := 904) (by decide +kernel) rfl
theorem se_X9_field : Cond.selects RX9 yX9_field yX9_field ∈ gt := gm (i := 905) (by decide +kernel) rfl
theorem co_X9_field : Cond.code yX9_field cX9_field 3 (some .int) ∈ gt := gm (i := 906) (by decide +kernel) rfl
theorem ml_L_59 : Cond.methodLink RL 59 yX9_register ∈ gt := gm (i := 907) (by decide +kernel) rfl
theorem im_X9_register : Cond.instanceMethod yX9_register ∈ gt := gm (i := 908) (by decide +kernel) rfl
theorem se_X9_register : Cond.selects RX9 yX9_register yX9_register ∈ gt := gm (i := 909) (by decide +kernel) rfl
theorem co_X9_register : Cond.code yX9_register cX9_register 3 (some .int) ∈ gt := gm (i := 910) (by decide +kernel) rfl
theorem ml_X9_119 : Cond.methodLink RX9 119 yX9_isRegister ∈ gt := gm (i := 911) (by decide +kernel) rfl
theorem im_X9_isRegister : Cond.instanceMethod yX9_isRegister ∈ gt := gm (i := 913) (by decide +kernel) rfl
theorem co_X9_isRegister : Cond.code yX9_isRegister cX9_isRegister 2 (some .boolean) ∈ gt := gm (i := 914) (by decide +kernel) rfl
theorem ml_L_63 : Cond.methodLink RL 63 yX9_alias ∈ gt := gm (i := 915) (by decide +kernel) rfl
theorem im_X9_alias : Cond.instanceMethod yX9_alias ∈ gt := gm (i := 916) (by decide +kernel) rfl
theorem se_X9_alias : Cond.selects RX9 yX9_alias yX9_alias ∈ gt := gm (i := 917) (by decide +kernel) rfl
theorem co_X9_alias : Cond.code yX9_alias cX9_alias 3 (some .int) ∈ gt := gm (i := 918) (by decide +kernel) rfl
theorem ml_L_67 : Cond.methodLink RL 67 yX9_at ∈ gt := gm (i := 919) (by decide +kernel) rfl
theorem im_X9_at : Cond.instanceMethod yX9_at ∈ gt := gm (i := 920) (by decide +kernel) rfl
theorem se_X9_at : Cond.selects RX9 yX9_at yX9_at ∈ gt := gm (i := 921) (by decide +kernel) rfl
theorem co_X9_at : Cond.code yX9_at cX9_at 2 (some .int) ∈ gt := gm (i := 922) (by decide +kernel) rfl
theorem ml_L_71 : Cond.methodLink RL 71 yX9_peek ∈ gt := gm (i := 923) (by decide +kernel) rfl
theorem im_X9_peek : Cond.instanceMethod yX9_peek ∈ gt := gm (i := 924) (by decide +kernel) rfl
theorem se_X9_peek : Cond.selects RX9 yX9_peek yX9_peek ∈ gt := gm (i := 925) (by decide +kernel) rfl
theorem co_X9_peek : Cond.code yX9_peek cX9_peek 3 (some .int) ∈ gt := gm (i := 926) (by decide +kernel) rfl
theorem ml_L_75 : Cond.methodLink RL 75 yX9_differed ∈ gt := gm (i := 927) (by decide +kernel) rfl
theorem im_X9_differed : Cond.instanceMethod yX9_differed ∈ gt := gm (i := 928) (by decide +kernel) rfl
theorem se_X9_differed : Cond.selects RX9 yX9_differed yX9_differed ∈ gt := gm (i := 929) (by decide +kernel) rfl
theorem co_X9_differed : Cond.code yX9_differed cX9_differed 2 (some .int) ∈ gt := gm (i := 930) (by decide +kernel) rfl
theorem ml_L_79 : Cond.methodLink RL 79 yX9_log ∈ gt := gm (i := 931) (by decide +kernel) rfl
theorem im_X9_log : Cond.instanceMethod yX9_log ∈ gt := gm (i := 932) (by decide +kernel) rfl
theorem se_X9_log : Cond.selects RX9 yX9_log yX9_log ∈ gt := gm (i := 933) (by decide +kernel) rfl
theorem co_X9_log : Cond.code yX9_log cX9_log 3 (some .int) ∈ gt := gm (i := 934) (by decide +kernel) rfl
theorem ml_L_83 : Cond.methodLink RL 83 yX9_suspects ∈ gt := gm (i := 935) (by decide +kernel) rfl
theorem im_X9_suspects : Cond.instanceMethod yX9_suspects ∈ gt := gm (i := 936) (by decide +kernel) rfl
theorem se_X9_suspects : Cond.selects RX9 yX9_suspects yX9_suspects ∈ gt := gm (i := 937) (by decide +kernel) rfl
theorem co_X9_suspects : Cond.code yX9_suspects cX9_suspects 5 (some .int) ∈ gt := gm (i := 938) (by decide +kernel) rfl
theorem ml_X9_122 : Cond.methodLink RX9 122 yX9_wouldTell ∈ gt := gm (i := 939) (by decide +kernel) rfl
theorem im_X9_wouldTell : Cond.instanceMethod yX9_wouldTell ∈ gt := gm (i := 941) (by decide +kernel) rfl
theorem co_X9_wouldTell : Cond.code yX9_wouldTell cX9_wouldTell 6 (some .boolean) ∈ gt := gm (i := 942) (by decide +kernel) rfl
theorem ml_L_87 : Cond.methodLink RL 87 yX9_clashes ∈ gt := gm (i := 943) (by decide +kernel) rfl
theorem im_X9_clashes : Cond.instanceMethod yX9_clashes ∈ gt := gm (i := 944) (by decide +kernel) rfl
theorem se_X9_clashes : Cond.selects RX9 yX9_clashes yX9_clashes ∈ gt := gm (i := 945) (by decide +kernel) rfl
theorem co_X9_clashes : Cond.code yX9_clashes cX9_clashes 7 (some .int) ∈ gt := gm (i := 946) (by decide +kernel) rfl
theorem ml_L_91 : Cond.methodLink RL 91 yX9_touched ∈ gt := gm (i := 947) (by decide +kernel) rfl
theorem im_X9_touched : Cond.instanceMethod yX9_touched ∈ gt := gm (i := 948) (by decide +kernel) rfl
theorem se_X9_touched : Cond.selects RX9 yX9_touched yX9_touched ∈ gt := gm (i := 949) (by decide +kernel) rfl
theorem co_X9_touched : Cond.code yX9_touched cX9_touched 3 (some .int) ∈ gt := gm (i := 950) (by decide +kernel) rfl
theorem ml_X9_125 : Cond.methodLink RX9 125 yX9_tryWrite ∈ gt := gm (i := 951) (by decide +kernel) rfl
theorem im_X9_tryWrite : Cond.instanceMethod yX9_tryWrite ∈ gt := gm (i := 953) (by decide +kernel) rfl
theorem co_X9_tryWrite : Cond.code yX9_tryWrite cX9_tryWrite 3 none ∈ gt := gm (i := 954) (by decide +kernel) rfl
theorem ml_L_95 : Cond.methodLink RL 95 yX9_way ∈ gt := gm (i := 955) (by decide +kernel) rfl
theorem im_X9_way : Cond.instanceMethod yX9_way ∈ gt := gm (i := 956) (by decide +kernel) rfl
theorem se_X9_way : Cond.selects RX9 yX9_way yX9_way ∈ gt := gm (i := 957) (by decide +kernel) rfl
theorem co_X9_way : Cond.code yX9_way cX9_way 4 (some .int) ∈ gt := gm (i := 958) (by decide +kernel) rfl
theorem ml_L_99 : Cond.methodLink RL 99 yX9_walk ∈ gt := gm (i := 959) (by decide +kernel) rfl
theorem im_X9_walk : Cond.instanceMethod yX9_walk ∈ gt := gm (i := 960) (by decide +kernel) rfl
theorem se_X9_walk : Cond.selects RX9 yX9_walk yX9_walk ∈ gt := gm (i := 961) (by decide +kernel) rfl
theorem co_X9_walk : Cond.code yX9_walk cX9_walk 8 (some .int) ∈ gt := gm (i := 962) (by decide +kernel) rfl
theorem ml_X9_134 : Cond.methodLink RX9 134 yX9_isWalked ∈ gt := gm (i := 963) (by decide +kernel) rfl
theorem im_X9_isWalked : Cond.instanceMethod yX9_isWalked ∈ gt := gm (i := 965) (by decide +kernel) rfl
theorem co_X9_isWalked : Cond.code yX9_isWalked cX9_isWalked 5 (some .boolean) ∈ gt := gm (i := 966) (by decide +kernel) rfl
theorem ml_X9_128 : Cond.methodLink RX9 128 yX9_isLockOrGate ∈ gt := gm (i := 967) (by decide +kernel) rfl
theorem im_X9_isLockOrGate : Cond.instanceMethod yX9_isLockOrGate ∈ gt := gm (i := 969) (by decide +kernel) rfl
theorem co_X9_isLockOrGate : Cond.code yX9_isLockOrGate cX9_isLockOrGate 5 (some .boolean) ∈ gt := gm (i := 970) (by decide +kernel) rfl
theorem ml_X9_137 : Cond.methodLink RX9 137 yX9_bitsBy ∈ gt := gm (i := 971) (by decide +kernel) rfl
theorem im_X9_bitsBy : Cond.instanceMethod yX9_bitsBy ∈ gt := gm (i := 973) (by decide +kernel) rfl
theorem co_X9_bitsBy : Cond.code yX9_bitsBy cX9_bitsBy 5 (some .int) ∈ gt := gm (i := 974) (by decide +kernel) rfl
theorem ml_X9_131 : Cond.methodLink RX9 131 yX9_bitsOf ∈ gt := gm (i := 975) (by decide +kernel) rfl
theorem im_X9_bitsOf : Cond.instanceMethod yX9_bitsOf ∈ gt := gm (i := 977) (by decide +kernel) rfl
theorem co_X9_bitsOf : Cond.code yX9_bitsOf cX9_bitsOf 2 (some .int) ∈ gt := gm (i := 978) (by decide +kernel) rfl
theorem ml_L_103 : Cond.methodLink RL 103 yX9_keep ∈ gt := gm (i := 979) (by decide +kernel) rfl
theorem im_X9_keep : Cond.instanceMethod yX9_keep ∈ gt := gm (i := 980) (by decide +kernel) rfl
theorem se_X9_keep : Cond.selects RX9 yX9_keep yX9_keep ∈ gt := gm (i := 981) (by decide +kernel) rfl
theorem co_X9_keep : Cond.code yX9_keep cX9_keep 3 (some .int) ∈ gt := gm (i := 982) (by decide +kernel) rfl
theorem ml_L_107 : Cond.methodLink RL 107 yX9_back ∈ gt := gm (i := 983) (by decide +kernel) rfl
theorem im_X9_back : Cond.instanceMethod yX9_back ∈ gt := gm (i := 984) (by decide +kernel) rfl
theorem se_X9_back : Cond.selects RX9 yX9_back yX9_back ∈ gt := gm (i := 985) (by decide +kernel) rfl
theorem co_X9_back : Cond.code yX9_back cX9_back 3 (some .int) ∈ gt := gm (i := 986) (by decide +kernel) rfl
theorem ml_L_111 : Cond.methodLink RL 111 yX9_count ∈ gt := gm (i := 987) (by decide +kernel) rfl
theorem im_X9_count : Cond.instanceMethod yX9_count ∈ gt := gm (i := 988) (by decide +kernel) rfl
theorem se_X9_count : Cond.selects RX9 yX9_count yX9_count ∈ gt := gm (i := 989) (by decide +kernel) rfl
theorem co_X9_count : Cond.code yX9_count cX9_count 2 (some .int) ∈ gt := gm (i := 990) (by decide +kernel) rfl
theorem ml_X9_141 : Cond.methodLink RX9 141 yX9_fieldBits ∈ gt := gm (i := 991) (by decide +kernel) rfl
theorem im_X9_fieldBits : Cond.instanceMethod yX9_fieldBits ∈ gt := gm (i := 993) (by decide +kernel) rfl
theorem co_X9_fieldBits : Cond.code yX9_fieldBits cX9_fieldBits 3 (some .int) ∈ gt := gm (i := 994) (by decide +kernel) rfl
theorem ml_X9_144 : Cond.methodLink RX9 144 yX9_brokenMany ∈ gt := gm (i := 995) (by decide +kernel) rfl
theorem im_X9_brokenMany : Cond.instanceMethod yX9_brokenMany ∈ gt := gm (i := 997) (by decide +kernel) rfl
theorem co_X9_brokenMany : Cond.code yX9_brokenMany cX9_brokenMany 3 (some .int) ∈ gt := gm (i := 998) (by decide +kernel) rfl
theorem ml_L_17 : Cond.methodLink RL 17 yX9_type ∈ gt := gm (i := 999) (by decide +kernel) rfl
theorem im_X9_type : Cond.instanceMethod yX9_type ∈ gt := gm (i := 1000) (by decide +kernel) rfl
theorem se_X9_type : Cond.selects RX9 yX9_type yX9_type ∈ gt := gm (i := 1001) (by decide +kernel) rfl
theorem co_X9_type : Cond.code yX9_type cX9_type 2 (some .int) ∈ gt := gm (i := 1002) (by decide +kernel) rfl
theorem ml_L_22 : Cond.methodLink RL 22 yX9_clear ∈ gt := gm (i := 1003) (by decide +kernel) rfl
theorem im_X9_clear : Cond.instanceMethod yX9_clear ∈ gt := gm (i := 1004) (by decide +kernel) rfl
theorem se_X9_clear : Cond.selects RX9 yX9_clear yX9_clear ∈ gt := gm (i := 1005) (by decide +kernel) rfl
theorem co_X9_clear : Cond.code yX9_clear cX9_clear 2 (some .int) ∈ gt := gm (i := 1006) (by decide +kernel) rfl
theorem ml_L_26 : Cond.methodLink RL 26 yX9_tells ∈ gt := gm (i := 1007) (by decide +kernel) rfl
theorem im_X9_tells : Cond.instanceMethod yX9_tells ∈ gt := gm (i := 1008) (by decide +kernel) rfl
theorem se_X9_tells : Cond.selects RX9 yX9_tells yX9_tells ∈ gt := gm (i := 1009) (by decide +kernel) rfl
theorem co_X9_tells : Cond.code yX9_tells cX9_tells 3 (some .int) ∈ gt := gm (i := 1010) (by decide +kernel) rfl
theorem ml_X9_172 : Cond.methodLink RX9 172 yX9_next ∈ gt := gm (i := 1011) (by decide +kernel) rfl
theorem im_X9_next : Cond.instanceMethod yX9_next ∈ gt := gm (i := 1013) (by decide +kernel) rfl
theorem co_X9_next : Cond.code yX9_next cX9_next 2 none ∈ gt := gm (i := 1014) (by decide +kernel) rfl
theorem ml_X9_153 : Cond.methodLink RX9 153 yX9_isHere ∈ gt := gm (i := 1015) (by decide +kernel) rfl
theorem im_X9_isHere : Cond.instanceMethod yX9_isHere ∈ gt := gm (i := 1017) (by decide +kernel) rfl
theorem co_X9_isHere : Cond.code yX9_isHere cX9_isHere 3 (some .boolean) ∈ gt := gm (i := 1018) (by decide +kernel) rfl
theorem ml_X9_166 : Cond.methodLink RX9 166 yX9_kindOf ∈ gt := gm (i := 1020) (by decide +kernel) rfl
theorem st_X9_kindOf : Cond.static yX9_kindOf ∈ gt := gm (i := 1021) (by decide +kernel) rfl
theorem co_X9_kindOf : Cond.code yX9_kindOf cX9_kindOf 1 (some .int) ∈ gt := gm (i := 1022) (by decide +kernel) rfl
theorem ml_X9_197 : Cond.methodLink RX9 197 yX9_readItem ∈ gt := gm (i := 1023) (by decide +kernel) rfl
theorem im_X9_readItem : Cond.instanceMethod yX9_readItem ∈ gt := gm (i := 1025) (by decide +kernel) rfl
theorem co_X9_readItem : Cond.code yX9_readItem cX9_readItem 3 none ∈ gt := gm (i := 1026) (by decide +kernel) rfl
theorem ml_X9_175 : Cond.methodLink RX9 175 yX9_must ∈ gt := gm (i := 1027) (by decide +kernel) rfl
theorem im_X9_must : Cond.instanceMethod yX9_must ∈ gt := gm (i := 1029) (by decide +kernel) rfl
theorem co_X9_must : Cond.code yX9_must cX9_must 3 (some .int) ∈ gt := gm (i := 1030) (by decide +kernel) rfl
theorem ml_X9_185 : Cond.methodLink RX9 185 yX9_readRegister ∈ gt := gm (i := 1031) (by decide +kernel) rfl
theorem im_X9_readRegister : Cond.instanceMethod yX9_readRegister ∈ gt := gm (i := 1033) (by decide +kernel) rfl
theorem co_X9_readRegister : Cond.code yX9_readRegister cX9_readRegister 3 none ∈ gt := gm (i := 1034) (by decide +kernel) rfl
theorem ml_X9_179 : Cond.methodLink RX9 179 yX9_number ∈ gt := gm (i := 1035) (by decide +kernel) rfl
theorem im_X9_number : Cond.instanceMethod yX9_number ∈ gt := gm (i := 1037) (by decide +kernel) rfl
theorem co_X9_number : Cond.code yX9_number cX9_number 3 (some .int) ∈ gt := gm (i := 1038) (by decide +kernel) rfl
theorem ml_X9_188 : Cond.methodLink RX9 188 yX9_readField ∈ gt := gm (i := 1039) (by decide +kernel) rfl
theorem im_X9_readField : Cond.instanceMethod yX9_readField ∈ gt := gm (i := 1041) (by decide +kernel) rfl
theorem co_X9_readField : Cond.code yX9_readField cX9_readField 8 none ∈ gt := gm (i := 1042) (by decide +kernel) rfl
theorem ml_X9_182 : Cond.methodLink RX9 182 yX9_usedBits ∈ gt := gm (i := 1043) (by decide +kernel) rfl
theorem im_X9_usedBits : Cond.instanceMethod yX9_usedBits ∈ gt := gm (i := 1045) (by decide +kernel) rfl
theorem co_X9_usedBits : Cond.code yX9_usedBits cX9_usedBits 5 (some .int) ∈ gt := gm (i := 1046) (by decide +kernel) rfl
theorem ml_X9_191 : Cond.methodLink RX9 191 yX9_readAlias ∈ gt := gm (i := 1047) (by decide +kernel) rfl
theorem im_X9_readAlias : Cond.instanceMethod yX9_readAlias ∈ gt := gm (i := 1049) (by decide +kernel) rfl
theorem co_X9_readAlias : Cond.code yX9_readAlias cX9_readAlias 5 none ∈ gt := gm (i := 1050) (by decide +kernel) rfl
theorem ml_X9_194 : Cond.methodLink RX9 194 yX9_readLink ∈ gt := gm (i := 1051) (by decide +kernel) rfl
theorem im_X9_readLink : Cond.instanceMethod yX9_readLink ∈ gt := gm (i := 1053) (by decide +kernel) rfl
theorem co_X9_readLink : Cond.code yX9_readLink cX9_readLink 4 none ∈ gt := gm (i := 1054) (by decide +kernel) rfl
theorem wm_objI : Cond.instanceMethod objectInit ∈ gt := gm (i := 66) (by decide +kernel) rfl
theorem wm_objC : Cond.code objectInit ⟨#[0xb1]⟩ 1 none ∈ gt := gm (i := 67) (by decide +kernel) rfl
theorem wm_arrI : Cond.arrayClass .int ∈ gt := gm (i := 84) (by decide +kernel) rfl
theorem wm_arrZ : Cond.arrayClass .boolean ∈ gt := gm (i := 239) (by decide +kernel) rfl
theorem wm_kl : Cond.fieldLinkNest RX7 41 "MirrorBytes" "KIND_LETTERS" "[C" "MirrorBytes" ∈ lw_tbl := List.mem_of_getElem? (i := 413) (by decide +kernel)
theorem wm_acS : Cond.static arraycopyName ∈ gt := gm (i := 447) (by decide +kernel) rfl
theorem wm_acN : Cond.native arraycopyName ∈ gt := gm (i := 448) (by decide +kernel) rfl
theorem wm_c265 : Cond.constant RJ6 265 1431655765 ∈ gt := gm (i := 729) (by decide +kernel) rfl
theorem wm_c266 : Cond.constant RJ6 266 858993459 ∈ gt := gm (i := 730) (by decide +kernel) rfl
theorem wm_c267 : Cond.constant RJ6 267 252645135 ∈ gt := gm (i := 731) (by decide +kernel) rfl
theorem wm_c165 : Cond.constant RX9 165 65535 ∈ gt := gm (i := 1019) (by decide +kernel) rfl
end
section
/-! My own rows: the world as a function of addresses. -/
abbrev Om : Type := Nat → Option va_E
abbrev Gm : Type := va_G × ClassId × ClassId × ClassId
abbrev Fn : Type := Nat → Int32
def tysG (G : Gm) : List (ClassId × FieldType) := [(G.2.1, .int), (G.2.2.1, .boolean), (G.2.2.2, .object "MirrorBytes$Situation")]
def oK (G : Gm) (U : State) : Prop := va_K G.1 vwCl (tysG G) U
def oW (G : Gm) (A : Nat → Prop) (Ω : Om) (H : Heap) : Prop := ∀ a e, Ω a = some e → va_at G.1 vwCl (a, e) H ∧ A a
/-- the words of nest mates -/
def nestM : List (String × Nat × MethodName) := [(RX8, 9, yX6_init), (RX4, 11, yX0_init), (RX8, 27, yX5_init), (RX5, 11, yX1_init), (RX5, 23, yX3_init), (RX2, 17, yX5_init), (RX8, 49, yX1_init), (RX8, 56, yX0_init), (RX1, 62, yX8_isWithin), (RX0, 58, yX8_isWithin)]
def oN (U : State) : Prop := (∀ q ∈ nestM, va_Nw (.methodLinkNest q.1 q.2.1 q.2.2 "MirrorBytes") U) ∧ va_Nw (.fieldLinkNest RX7 41 "MirrorBytes" "KIND_LETTERS" "[C" "MirrorBytes") U
theorem oN.warm {s U : State} (hW : s.WarmedH U.vm) (h : oN s) : oN U := ⟨fun q hq => va_Nw.warmM hW (h.1 q hq), va_Nw.warmF hW h.2⟩
theorem oN.same {u U : State} (hvm : u.vm = U.vm) (h : oN u) : oN U := ⟨fun q hq => va_Nw.same rfl hvm (h.1 q hq), va_Nw.same rfl hvm h.2⟩
def oS (G : Gm) (A : Nat → Prop) (Ω : Om) (U : State) : Prop := oW G A Ω U.heap ∧ oK G U ∧ oN U
def oB (G : Gm) (A : Nat → Prop) (Ω : Om) (U : State) : Prop := oW G A Ω U.heap
def oU (Ω : Om) (a : Nat) (e : va_E) : Om := fun q => if q = a then some e else Ω q
def oF (Ω Ω' : Om) (o k : Nat) : Prop := ∀ q : Nat, (q < o ∨ o + k ≤ q) → Ω' q = Ω q
theorem oU_self {Ω : Om} {a : Nat} {e : va_E} : oU Ω a e a = some e := if_pos rfl
theorem oU_ne {Ω : Om} {a q : Nat} {e : va_E} (h : q ≠ a) : oU Ω a e q = Ω q := if_neg h
theorem oF.rf {Ω : Om} {o k : Nat} : oF Ω Ω o k := fun _ _ => rfl
theorem oF.tr {Ω Ω1 Ω2 : Om} {o k : Nat} (h : oF Ω Ω1 o k) (h2 : oF Ω1 Ω2 o k) : oF Ω Ω2 o k := fun q hq => (h2 q hq).trans (h q hq)
theorem oF.wide {Ω Ω1 : Om} {o k o' k' : Nat} (h : oF Ω Ω1 o k) (h1 : o' ≤ o) (h2 : o + k ≤ o' + k') : oF Ω Ω1 o' k' := fun q hq => h q (by omega)
theorem oF.up {Ω : Om} {a : Nat} {e : va_E} {o k : Nat} (h1 : o ≤ a) (h2 : a < o + k) : oF Ω (oU Ω a e) o k := fun q hq => oU_ne (by omega)
theorem oW.one {G : Gm} {A : Nat → Prop} {Ω : Om} {H : Heap} {a : Nat} {e : va_E} (hW : oW G A Ω H) (he : Ω a = some e) : va_P G.1 vwCl [(a, e)] H := by
  intro k q hk
  have hz : k < 1 := (List.getElem?_eq_some_iff.mp hk).1
  rw [show k = 0 by omega] at hk
  cases hk
  exact (hW a e he).1
theorem oW.put {G : Gm} {A : Nat → Prop} {Ω : Om} {H H1 : Heap} {a : Nat} {e : va_E} (hW : oW G A Ω H) (he : va_at G.1 vwCl (a, e) H1) (oq : ∀ q : Nat, q ≠ a → H1[q]? = H[q]?) (ha : A a) : oW G A (oU Ω a e) H1 := by
  intro q f hq
  by_cases h : q = a
  · subst h
    rw [oU_self] at hq
    cases hq
    exact ⟨he, ha⟩
  · rw [oU_ne h] at hq
    exact ⟨(hW q f hq).1.kept (oq q h), (hW q f hq).2⟩
theorem oK.moved {G : Gm} {u U : State} (hvm : u.vm.Alike U.vm) (h : oK G u) : oK G U := va_K.moved hvm h
theorem oS_blind {G : Gm} {A : Nat → Prop} {Ω : Om} {av : List Value} : FrameBlind (va_Pc av (oS G A Ω)) := fun a U g mk q => ⟨q.1, q.2.1, va_K.moved (u := U) (U := U.calling g mk a) (Vm.Alike.refl U.vm) q.2.2.1, oN.same (u := U) (U := U.calling g mk a) rfl q.2.2.2⟩
theorem oS_ok {G : Gm} {A : Nat → Prop} {Ω : Om} {H : Heap} {av : List Value} {s : State} (hK : oK G s) (hN : oN s) (hW : oW G A Ω H) : ∀ U : State, U.heap = H → s.WarmedH U.vm → va_Pc av (oS G A Ω) av.toArray U := fun U hU hw => ⟨rfl, by rw [hU]; exact hW, va_K.moved hw.alike hK, oN.warm hw hN⟩
/-- the words of a method: its code, and the tables -/
def wz (y : MethodName) (cc : ByteArray) (n : Nat) (ret : Option FieldType) : List Cond := .code y cc n ret :: gt
theorem good_wz {y : MethodName} {cc : ByteArray} {n : Nat} {ret : Option FieldType} (zc : Cond.code y cc n ret ∈ gt) : GoodIn gt (wz y cc n ret) := fun w h => by
  rcases List.mem_cons.mp h with h | h
  · rw [h]; exact ⟨zc, gt_good zc⟩
  · exact ⟨h, gt_good h⟩
theorem good_V {y : MethodName} {cc : ByteArray} {n : Nat} {ret : Option FieldType} {own C : String} {idx : Nat} (z1 : Cond.methodLink own idx y ∈ gt) (z2 : Cond.instanceMethod y ∈ gt) (z3 : Cond.selects C y y ∈ gt) (z4 : Cond.initialized C ∈ gt) (zc : Cond.code y cc n ret ∈ gt) : GoodIn gt (wsV own idx C y (wz y cc n ret)) := fun w h => by
  rcases List.mem_append.mp h with h | h
  · simp only [List.mem_cons, List.not_mem_nil, or_false] at h
    rcases h with h | h | h | h <;> rw [h]
    · exact ⟨z1, gt_good z1⟩
    · exact ⟨z2, gt_good z2⟩
    · exact ⟨z3, gt_good z3⟩
    · exact ⟨z4, gt_good z4⟩
  · exact good_wz zc w h
theorem good_S {y : MethodName} {cc : ByteArray} {n : Nat} {ret : Option FieldType} {own : String} {idx : Nat} (z1 : Cond.methodLink own idx y ∈ gt) (z2 : Cond.static y ∈ gt) (z4 : Cond.initialized own ∈ gt) (zc : Cond.code y cc n ret ∈ gt) : GoodIn gt (wsS own idx y (wz y cc n ret)) := fun w h => by
  rcases List.mem_append.mp h with h | h
  · simp only [List.mem_cons, List.not_mem_nil, or_false] at h
    rcases h with h | h | h <;> rw [h]
    · exact ⟨z1, gt_good z1⟩
    · exact ⟨z2, gt_good z2⟩
    · exact ⟨z4, gt_good z4⟩
  · exact good_wz zc w h
section OR
variable {p : Program} {l : Launch} {e : Env} {R : Room} {s : State} {m : MethodId} {args : Array Value} {below : List Frame} {meth : Method} {c : Code} {H : Heap} {locs : List Loc} {cells slots : Nat} {Q : State → Prop}
variable {cc : ByteArray} {pc : Nat} {ls : Array Slot} {rest : List Value} {G : Gm} {A A0 : Nat → Prop} {Ω : Om} {H0 : Heap} {a : Nat}
theorem o_get (hx : p.tables.exec = Jvm.exec) (hb : c.code = cc) {own C : String} {T : u_T} {N ci index : Nat} (hts : ∀ w ∈ gt, w.before args s = true) (hown : s.vm.findClass own = some m.cls) (hK : oK G s) (hW : oW G A Ω H) {fs : List Value} (he : Ω a = some (.inr (ci, fs))) (hc : vwCl[ci]? = some (C, T, N)) (hin : ∀ w ∈ u_ws C T N, w ∈ gt) (k : Nat) (hk : k < N) (hlink : Cond.fieldLink own index (T k).1 (T k).2.1 (T k).2.2.1 ∈ gt) {v : Value} (hv : fs[k]? = some v) (hdg : decode cc pc = .ok (.getfield index, 3))
    (kk : W p l e R s m args below meth c H locs cells slots Q (F0 m (pc + 3) ls (v :: rest))) : W p l e R s m args below meth c H locs cells slots Q (F0 m pc ls (.ref a :: rest)) :=
  va_get hx hb hts hin hown hK (hW.one he) 0 rfl hc k hk (hts _ hlink) (fun _ h => h) hv hdg kk
theorem o_put (hx : p.tables.exec = Jvm.exec) (hb : c.code = cc) {own C : String} {T : u_T} {N ci index : Nat} (hts : ∀ w ∈ gt, w.before args s = true) (hown : s.vm.findClass own = some m.cls) (hK : oK G s) (hW : oW G A Ω H) (hS0 : va_S A0 H0 H locs) (hA : ∀ q, A q → A0 q) {fs : List Value} (he : Ω a = some (.inr (ci, fs))) (hc : vwCl[ci]? = some (C, T, N)) (hin : ∀ w ∈ u_ws C T N, w ∈ gt) (ty0 : Nat → FieldType) (hty : ∀ k, k < N → parseFieldDescriptor (T k).2.2.1 = some (ty0 k)) (hnm : ∀ a, a < N → ∀ b, b < N → a ≠ b → (T a).2.1 ≠ (T b).2.1) (k : Nat) (hk : k < N) (hlink : Cond.fieldLink own index (T k).1 (T k).2.1 (T k).2.2.1 ∈ gt) (hfin : (T k).2.2.2 = false) {ty : FieldType} {v : Value} (hd : parseFieldDescriptor (T k).2.2.1 = some ty) (hn : narrow ty v = v) (hfit : fits ty v = true) (hl : k < fs.length) (hdg : decode cc pc = .ok (.putfield index, 3))
    (kk : ∀ (H1 : Heap) (locs1 : List Loc), oW G A (oU Ω a (.inr (ci, fs.set k v))) H1 → va_S A0 H0 H1 locs1 → W p l e R s m args below meth c H1 locs1 cells slots Q (F0 m (pc + 3) ls rest)) : W p l e R s m args below meth c H locs cells slots Q (F0 m pc ls (v :: .ref a :: rest)) := by
  have hap := va_apart (own := own) hts hin ty0 hty hnm hK hc
  have hA1 := (hW a _ he).2
  obtain ⟨r, h1, cell, q1, q2, q3, q4⟩ := (hW a _ he).1
  have hr : r = (C, T, N) := Option.some.inj (h1.symm.trans hc)
  subst hr
  obtain ⟨hS, hfc, kC, hkC, hkind⟩ := hK.1 ci _ hc
  obtain ⟨cf, kf, fi, f, hi, hsl⟩ := hS k hk
  have hlay := hts _ (hin _ (u_in_lay hk))
  unfold u_lay at hlay
  rw [if_neg (by rw [hfin]; decide)] at hlay
  have hst := (u_facts hfc hkC (u_lays hts hin hk) hi).1
  have h6 := u_store hfc hkC hkind hlay hi hd hn hfit
  refine W.putK hx hb (f := f) ⟨hown, hts _ hlink, ⟨_, _, _, hi⟩, hst⟩ (by rw [q2]; exact h6) q1 q3 (by rw [hsl]; exact k2_hasslot (q4 k hk)) rfl rfl hdg fun H' e1 e2 e3 => ?_
  rw [hsl] at e1 ⊢
  exact kk H' _ (hW.put ⟨_, hc, t_OB.to (V := updV (vp_V fs) k v) ⟨_, e1, q2, q3, t_set q4 hap hk v⟩ (fun j _ => vp_updV_set hl v j)⟩ e3 hA1) (hS0.put e2 e3 (hA _ hA1))
theorem o_iald (hx : p.tables.exec = Jvm.exec) (hb : c.code = cc) (hK : oK G s) (hW : oW G A Ω H) {n : Nat} {f : Fn} (he : Ω a = some (.inl (G.2.1, n, .inl f))) {i : Int32} (hin : vp_in i n) (hdg : decode cc pc = .ok (.iaload, 1))
    (kk : W p l e R s m args below meth c H locs cells slots Q (F0 m (pc + 1) ls (.int (f i.toNatClampNeg) :: rest))) : W p l e R s m args below meth c H locs cells slots Q (F0 m pc ls (.int i :: .ref a :: rest)) :=
  va_iald hx hb hK (hW.one he) 0 0 rfl rfl hin hdg kk
theorem o_zald (hx : p.tables.exec = Jvm.exec) (hb : c.code = cc) (hK : oK G s) (hW : oW G A Ω H) {n : Nat} {f : Fn} (he : Ω a = some (.inl (G.2.2.1, n, .inl f))) {i : Int32} (hin : vp_in i n) (hdg : decode cc pc = .ok (.baload, 1))
    (kk : W p l e R s m args below meth c H locs cells slots Q (F0 m (pc + 1) ls (.int (f i.toNatClampNeg) :: rest))) : W p l e R s m args below meth c H locs cells slots Q (F0 m pc ls (.int i :: .ref a :: rest)) :=
  va_zald hx hb hK (hW.one he) 0 1 rfl rfl hin hdg kk
theorem o_aldq (hx : p.tables.exec = Jvm.exec) (hb : c.code = cc) (hK : oK G s) (hW : oW G A Ω H) {n : Nat} {f : Nat → Option Nat} (he : Ω a = some (.inl (G.2.2.2, n, .inr (.inr (.inr (.inr f)))))) {i : Int32} (hin : vp_in i n) (hdg : decode cc pc = .ok (.aaload, 1))
    (kk : W p l e R s m args below meth c H locs cells slots Q (F0 m (pc + 1) ls (va_rf (f i.toNatClampNeg) :: rest))) : W p l e R s m args below meth c H locs cells slots Q (F0 m pc ls (.int i :: .ref a :: rest)) :=
  va_aldq hx hb hK (hW.one he) 0 2 rfl rfl hin hdg kk
theorem o_iast (hx : p.tables.exec = Jvm.exec) (hb : c.code = cc) (hK : oK G s) (hW : oW G A Ω H) (hS : va_S A0 H0 H locs) (hA : ∀ q, A q → A0 q) {n : Nat} {f : Fn} (he : Ω a = some (.inl (G.2.1, n, .inl f))) {i x : Int32} (hin : vp_in i n) (hdg : decode cc pc = .ok (.iastore, 1))
    (kk : ∀ (H1 : Heap) (locs1 : List Loc), oW G A (oU Ω a (.inl (G.2.1, n, .inl (upd f i.toNatClampNeg x)))) H1 → va_S A0 H0 H1 locs1 → W p l e R s m args below meth c H1 locs1 cells slots Q (F0 m (pc + 1) ls rest)) : W p l e R s m args below meth c H locs cells slots Q (F0 m pc ls (.int x :: .int i :: .ref a :: rest)) := by
  refine W.iast hx hb (hW a _ he).1 ((hK.2 0 _ rfl).1 n (fun j => .int (f j))) (fun q => by cases q) (by show ¬ (i < 0 ∨ (arrV _ _ _).slots.size ≤ _); rw [arrV_size]; exact hin) rfl rfl hdg fun H1 e z oq => ?_
  refine kk H1 _ (hW.put ?_ oq (hW a _ he).2) (hS.put z oq (hA _ (hW a _ he).2))
  show H1[a]? = some (vp_cell _ _)
  rw [e]
  rw [vp_cell_i, vp_cell_i, arrV_store]
  congr 2
  funext q
  by_cases hq : q = i.toNatClampNeg
  · subst hq
    simp [updV, upd]
  · simp [updV, upd, hq]
theorem o_zast (hx : p.tables.exec = Jvm.exec) (hb : c.code = cc) (hK : oK G s) (hW : oW G A Ω H) (hS : va_S A0 H0 H locs) (hA : ∀ q, A q → A0 q) {n : Nat} {f : Fn} (he : Ω a = some (.inl (G.2.2.1, n, .inl f))) {i x : Int32} (hin : vp_in i n) (hdg : decode cc pc = .ok (.bastore, 1))
    (kk : ∀ (H1 : Heap) (locs1 : List Loc), oW G A (oU Ω a (.inl (G.2.2.1, n, .inl (upd f i.toNatClampNeg (vp_nar .boolean x))))) H1 → va_S A0 H0 H1 locs1 → W p l e R s m args below meth c H1 locs1 cells slots Q (F0 m (pc + 1) ls rest)) : W p l e R s m args below meth c H locs cells slots Q (F0 m pc ls (.int x :: .int i :: .ref a :: rest)) := by
  refine W.zast hx hb (hW a _ he).1 ((hK.2 1 _ rfl).1 n (fun j => .int (f j))) (fun q => by cases q) (by show ¬ (i < 0 ∨ (arrV _ _ _).slots.size ≤ _); rw [arrV_size]; exact hin) rfl rfl hdg fun H1 e z oq => ?_
  refine kk H1 _ (hW.put ?_ oq (hW a _ he).2) (hS.put z oq (hA _ (hW a _ he).2))
  show H1[a]? = some (vp_cell _ _)
  rw [e]
  rw [vp_cell_i, vp_cell_i, arrV_store]
  congr 2
  funext q
  by_cases hq : q = i.toNatClampNeg
  · subst hq
    simp [updV, upd, vp_nar]
    try rfl
  · simp [updV, upd, hq]
/-- System.arraycopy between two int rows, from 0 to 0 -/
theorem o_copy (hx : p.tables.exec = Jvm.exec) (hb : c.code = cc) (hml : c.maxLocals = ls.size) {own : String} {index : Nat} (hown : s.vm.findClass own = some m.cls) (hts : ∀ w ∈ gt, w.before args s = true) (hlink : Cond.methodLink own index arraycopyName ∈ gt) (hini : Cond.initialized "java/lang/System" ∈ gt)
    (hK : oK G s) (hW : oW G A Ω H) (hS : va_S A0 H0 H locs) (hA : ∀ q, A q → A0 q) {a0 : Nat} {n0 n1 : Nat} {f g : Fn} (ha0 : Ω a0 = some (.inl (G.2.1, n0, .inl f))) (ha1 : Ω a = some (.inl (G.2.1, n1, .inl g)))
    {sp dp n : Int32} (h1 : ¬ sp < 0) (h2 : ¬ dp < 0) (h3 : ¬ n < 0) (h4 : sp.toNatClampNeg + n.toNatClampNeg ≤ n0) (h5 : dp.toNatClampNeg + n.toNatClampNeg ≤ n1)
    (hframes : 1 ≤ R.frames) (hlocals : (rest.map fun v => v.category).sum + (nativeFrameWords "java/lang/System" "arraycopy" 5 + 11) ≤ R.locals) (hdg : decode cc pc = .ok (.invokestatic index, 3))
    (kk : ∀ (H1 : Heap) (locs1 : List Loc), oW G A (oU Ω a (.inl (G.2.1, n1, .inl (va_cpy f g sp.toNatClampNeg dp.toNatClampNeg n.toNatClampNeg)))) H1 → va_S A0 H0 H1 locs1 → W p l e R s m args below meth c H1 locs1 cells slots Q (F0 m (pc + 3) ls rest)) : W p l e R s m args below meth c H locs cells slots Q (F0 m pc ls (.int n :: .int dp :: .ref a :: .int sp :: .ref a0 :: rest)) := by
  have nn : ∀ z : Int32, ¬ z < 0 → z.toInt = (z.toNatClampNeg : Int) := by
    intro z hz
    have hz0 : (0 : Int) ≤ z.toInt := by
      have := Int32.not_lt.mp hz
      simpa using Int32.le_iff_toInt_le.mp this
    show z.toInt = ((z.toInt.toNat : Nat) : Int)
    omega
  intro T hT X
  have hc0 := (hW a0 _ ha0).1
  have hc1 := (hW a _ ha1).1
  obtain ⟨-, k0, hk0, cm0, hkk0⟩ := (hK.2 0 _ rfl).1 n0 (fun j => .int (f j))
  obtain ⟨-, k1, hk1, cm1, hkk1⟩ := (hK.2 0 _ rfl).1 n1 (fun j => .int (g j))
  obtain ⟨vm', X', step⟩ := X.arraycopy hx hown (hts _ hlink) (hts _ wm_acN) (hts _ wm_acS) (hts _ hini) (src := a0) (dst := a) (cs := vp_cell G.2.1 (n0, .inl f)) (cd := vp_cell G.2.1 (n1, .inl g)) (srcPos := sp) (destPos := dp) (n := n) (by rw [hT]; exact hc0) (by rw [hT]; exact hc1)
    (fun _ h => by cases h) (fun _ h => by cases h) (fun h => by cases h) (fun h => by cases h) hk0 hk1 hkk0 hkk1 (by simp [refKind]) h1 h2 h3
    (by rw [nn sp h1, nn n h3]; show ¬ _ > ((arrV G.2.1 n0 (fun j => .int (f j))).slots.size : Int); rw [arrV_size]; omega)
    (by rw [nn dp h2, nn n h3]; show ¬ _ > ((arrV G.2.1 n1 (fun j => .int (g j))).slots.size : Int); rw [arrV_size]; omega)
    (fun vm₁ _ i hi => by
      have e : (vp_cell G.2.1 (n0, .inl f)).slots.getD (sp.toNatClampNeg + i) .null = .int (f (sp.toNatClampNeg + i)) := by
        show (arrV G.2.1 n0 (fun j => .int (f j))).slots.getD _ _ = _
        rw [Array.getD_eq_getD_getElem?, arrV_read _ _ (by omega)]
        rfl
      refine ⟨?_, ?_⟩
      · rw [e]
        rfl
      · rw [e]
        exact trivial)
    (g := F0 m pc ls (.int n :: .int dp :: .ref a :: .int sp :: .ref a0 :: rest)) rfl (by rw [hml]) (rest := rest) rfl (by rw [hb]; exact hdg) hframes (by show 2 * 0 + _ + _ ≤ _; omega)
  have e1 : copied (vp_cell G.2.1 (n0, .inl f)) (vp_cell G.2.1 (n1, .inl g)) sp dp n = vp_cell G.2.1 (n1, .inl (va_cpy f g sp.toNatClampNeg dp.toNatClampNeg n.toNatClampNeg)) := va_copied (fun z => .int z) G.2.1 G.2.1 f g h4
  rw [e1] at X' step
  have hl : a < H.size := (Array.getElem?_eq_some_iff.mp hc1).1
  have hheap : ((T.setVm vm').setCell a (vp_cell G.2.1 (n1, .inl (va_cpy f g sp.toNatClampNeg dp.toNatClampNeg n.toNatClampNeg)))).heap = H.setIfInBounds a (vp_cell G.2.1 (n1, .inl (va_cpy f g sp.toNatClampNeg dp.toNatClampNeg n.toNatClampNeg))) := by rw [← hT]; rfl
  have oq : ∀ q : Nat, q ≠ a → (H.setIfInBounds a (vp_cell G.2.1 (n1, .inl (va_cpy f g sp.toNatClampNeg dp.toNatClampNeg n.toNatClampNeg))))[q]? = H[q]? := fun q hq => by simp [Array.getElem?_setIfInBounds, Ne.symm hq]
  have hAa := (hW a _ ha1).2
  obtain ⟨t, a1, b1⟩ := kk _ _ (hW.put (show (H.setIfInBounds a _)[a]? = some _ by simp [Array.getElem?_setIfInBounds, hl]) oq hAa) ⟨by simp; exact hS.1, fun q g1 g2 => by
      rw [oq q (fun e => g2 (by rw [e]; exact hA _ hAa))]
      exact hS.2.1 q g1 g2, fun q hq => by
      rcases List.mem_append.mp hq with h | h
      · exact hS.2.2 q h
      · obtain ⟨z, -, hz⟩ := List.mem_map.mp h
        rw [← hz]
        exact hA _ hAa⟩ _ hheap X'
  exact ⟨t, step t a1, b1⟩
/-- the side facts of a call, by numbers alone -/
def o_num (y : MethodName) (n : Nat) (rm R : Room) (maxL : Nat) : Bool := decide (y.cls ≠ "java/lang/invoke/MethodHandle") && decide (y.cls ≠ "java/lang/invoke/VarHandle") && decide ((parseMethodDescriptor y.desc).map (fun d => d.parameters.length) = some n) && Nat.ble (rm.frames + 1) R.frames && Nat.ble (8 + (maxL + 11) + rm.locals) R.locals && Nat.beq rm.cells 0 && Nat.beq rm.slots 0
theorem o_num_ok {y : MethodName} {n : Nat} {rm R : Room} {maxL : Nat} (h : o_num y n rm R maxL = true) : (y.cls ≠ "java/lang/invoke/MethodHandle" ∧ y.cls ≠ "java/lang/invoke/VarHandle" ∧ (parseMethodDescriptor y.desc).map (fun d => d.parameters.length) = some n) ∧ (rm.frames + 1 ≤ R.frames ∧ 8 + (maxL + 11) + rm.locals ≤ R.locals) ∧ rm.cells = 0 ∧ rm.slots = 0 := by
  simp only [o_num, Bool.and_eq_true, decide_eq_true_eq, Nat.ble_eq, Nat.beq_eq] at h
  obtain ⟨⟨⟨⟨⟨⟨h1, h2⟩, h3⟩, h4⟩, h5⟩, h6⟩, h7⟩ := h
  exact ⟨⟨h1, h2, h3⟩, ⟨h4, h5⟩, h6, h7⟩
theorem o_Vi {y : MethodName} {bytes : ByteArray} {maxL nL index ci N n : Nat} {ret : Option FieldType} {own : String} {T : u_T} {As st0 : List Value} {rm : Room} {fs : List Value} {post : Int32 → Om → Prop} (hx : p.tables.exec = Jvm.exec) (hb : c.code = cc) (hml : c.maxLocals = nL) (hown : s.vm.findClass own = some m.cls) (hts : ∀ w ∈ gt, w.before args s = true) (hK : oK G s) (hN : oN s) (hW : oW G A Ω H) (hS : va_S A0 H0 H locs) (hA : ∀ q, A q → A0 q)
    (hM : Met l y (wz y bytes maxL ret) rm (va_Pc (.ref a :: As) (oS G A Ω)) (va_Qi post (oB G A) A) 0 0 A) (he : Ω a = some (.inr (ci, fs))) (hc : vwCl[ci]? = some (y.cls, T, N)) (hg : GoodIn gt (wsV own index y.cls y (wz y bytes maxL ret))) (hn : o_num y n rm R maxL = true) (hcs : cells ≤ R.cells ∧ slots ≤ R.slots) (hls : ls.size = nL) (hcat : (rest.map fun v => v.category).sum ≤ 8) (hlen : As.length = n) (hst : st0 = As.reverse ++ .ref a :: rest) (hdg : decode cc pc = .ok (.invokevirtual index, 3))
    (kk : ∀ (r : Int32) (Ω1 : Om) (H1 : Heap) (locs1 : List Loc), post r Ω1 → oW G A Ω1 H1 → va_S A0 H0 H1 locs1 → W p l e R s m args below meth c H1 locs1 cells slots Q (F0 m (pc + 3) ls (.int r :: rest))) : W p l e R s m args below meth c H locs cells slots Q (F0 m pc ls st0) := by
  obtain ⟨h1, h2, h3, h4⟩ := o_num_ok hn
  subst hlen
  refine va_calli (va_runV (As := As) (rest := rest) ⟨hx, hb, hml, hown, hts⟩ hM (cwV _ hts hg rfl h3 h4 ⟨rfl, h1⟩ h2) ⟨oS_blind, va_recv hK (hW.one he) (q0 := 0) hc rfl, oS_ok hK hN hW⟩ rfl rfl hls hst (lv_room hcat) hdg ⟨hcs.1, hcs.2⟩) hS (fun q _ h => hA q h) hA (fun r u t H1 locs1 ht hvm hw hB _ _ hS => ?_)
  exact kk r u H1 locs1 hw (by rw [← ht]; exact hB) hS
theorem o_Vv {y : MethodName} {bytes : ByteArray} {maxL nL index ci N n : Nat} {ret : Option FieldType} {own : String} {T : u_T} {As st0 : List Value} {rm : Room} {fs : List Value} {post : Om → Prop} (hx : p.tables.exec = Jvm.exec) (hb : c.code = cc) (hml : c.maxLocals = nL) (hown : s.vm.findClass own = some m.cls) (hts : ∀ w ∈ gt, w.before args s = true) (hK : oK G s) (hN : oN s) (hW : oW G A Ω H) (hS : va_S A0 H0 H locs) (hA : ∀ q, A q → A0 q)
    (hM : Met l y (wz y bytes maxL ret) rm (va_Pc (.ref a :: As) (oS G A Ω)) (va_Qv post (oB G A) A) 0 0 A) (he : Ω a = some (.inr (ci, fs))) (hc : vwCl[ci]? = some (y.cls, T, N)) (hg : GoodIn gt (wsV own index y.cls y (wz y bytes maxL ret))) (hn : o_num y n rm R maxL = true) (hcs : cells ≤ R.cells ∧ slots ≤ R.slots) (hls : ls.size = nL) (hcat : (rest.map fun v => v.category).sum ≤ 8) (hlen : As.length = n) (hst : st0 = As.reverse ++ .ref a :: rest) (hdg : decode cc pc = .ok (.invokevirtual index, 3))
    (kk : ∀ (Ω1 : Om) (H1 : Heap) (locs1 : List Loc), post Ω1 → oW G A Ω1 H1 → va_S A0 H0 H1 locs1 → W p l e R s m args below meth c H1 locs1 cells slots Q (F0 m (pc + 3) ls rest)) : W p l e R s m args below meth c H locs cells slots Q (F0 m pc ls st0) := by
  obtain ⟨h1, h2, h3, h4⟩ := o_num_ok hn
  subst hlen
  refine va_callv (va_runV (As := As) (rest := rest) ⟨hx, hb, hml, hown, hts⟩ hM (cwV _ hts hg rfl h3 h4 ⟨rfl, h1⟩ h2) ⟨oS_blind, va_recv hK (hW.one he) (q0 := 0) hc rfl, oS_ok hK hN hW⟩ rfl rfl hls hst (lv_room hcat) hdg ⟨hcs.1, hcs.2⟩) hS (fun q _ h => hA q h) hA (fun u t H1 locs1 ht hvm hw hB _ _ hS => ?_)
  exact kk u H1 locs1 hw (by rw [← ht]; exact hB) hS
theorem o_Si {y : MethodName} {bytes : ByteArray} {maxL nL index n : Nat} {ret : Option FieldType} {As st0 : List Value} {rm : Room} {post : Int32 → Om → Prop} (hx : p.tables.exec = Jvm.exec) (hb : c.code = cc) (hml : c.maxLocals = nL) (hown : s.vm.findClass y.cls = some m.cls) (hts : ∀ w ∈ gt, w.before args s = true) (hK : oK G s) (hN : oN s) (hW : oW G A Ω H) (hS : va_S A0 H0 H locs) (hA : ∀ q, A q → A0 q)
    (hM : Met l y (wz y bytes maxL ret) rm (va_Pc As (oS G A Ω)) (va_Qi post (oB G A) A) 0 0 A) (hg : GoodIn gt (wsS y.cls index y (wz y bytes maxL ret))) (hn : o_num y n rm R maxL = true) (hcs : cells ≤ R.cells ∧ slots ≤ R.slots) (hls : ls.size = nL) (hcat : (rest.map fun v => v.category).sum ≤ 8) (hlen : As.length = n) (hst : st0 = As.reverse ++ rest) (hdg : decode cc pc = .ok (.invokestatic index, 3))
    (kk : ∀ (r : Int32) (Ω1 : Om) (H1 : Heap) (locs1 : List Loc), post r Ω1 → oW G A Ω1 H1 → va_S A0 H0 H1 locs1 → W p l e R s m args below meth c H1 locs1 cells slots Q (F0 m (pc + 3) ls (.int r :: rest))) : W p l e R s m args below meth c H locs cells slots Q (F0 m pc ls st0) := by
  obtain ⟨h1, h2, h3, h4⟩ := o_num_ok hn
  subst hlen
  refine va_calli (va_runS (As := As) (rest := rest) ⟨hx, hb, hml, hown, hts⟩ hM (cwS _ hts hg rfl h3 h4 ⟨rfl, h1⟩ h2) ⟨oS_blind, oS_ok hK hN hW⟩ rfl rfl hls hst (lv_room hcat) hdg ⟨hcs.1, hcs.2⟩) hS (fun q _ h => hA q h) hA (fun r u t H1 locs1 ht hvm hw hB _ _ hS => ?_)
  exact kk r u H1 locs1 hw (by rw [← ht]; exact hB) hS
theorem o_SNi {y : MethodName} {bytes : ByteArray} {maxL nL index n : Nat} {ret : Option FieldType} {own : String} {As st0 : List Value} {rm : Room} {post : Int32 → Om → Prop} (hx : p.tables.exec = Jvm.exec) (hb : c.code = cc) (hml : c.maxLocals = nL) (hown : s.vm.findClass own = some m.cls) (hts : ∀ w ∈ gt, w.before args s = true) (hK : oK G s) (hN : oN s) (hW : oW G A Ω H) (hS : va_S A0 H0 H locs) (hA : ∀ q, A q → A0 q)
    (hM : Met l y (wz y bytes maxL ret) rm (va_Pc As (oS G A Ω)) (va_Qi post (oB G A) A) 0 0 A) (z1 : (own, index, y) ∈ nestM) (z2 : Cond.static y ∈ gt) (z3 : Cond.initialized y.cls ∈ gt) (zc : Cond.code y bytes maxL ret ∈ gt) (hn : o_num y n rm R maxL = true) (hcs : cells ≤ R.cells ∧ slots ≤ R.slots) (hls : ls.size = nL) (hcat : (rest.map fun v => v.category).sum ≤ 8) (hlen : As.length = n) (hst : st0 = As.reverse ++ rest) (hdg : decode cc pc = .ok (.invokestatic index, 3))
    (kk : ∀ (r : Int32) (Ω1 : Om) (H1 : Heap) (locs1 : List Loc), post r Ω1 → oW G A Ω1 H1 → va_S A0 H0 H1 locs1 → W p l e R s m args below meth c H1 locs1 cells slots Q (F0 m (pc + 3) ls (.int r :: rest))) : W p l e R s m args below meth c H locs cells slots Q (F0 m pc ls st0) := by
  obtain ⟨h1, h2, h3, h4⟩ := o_num_ok hn
  subst hlen
  refine va_calli (va_runSN (As := As) (rest := rest) ⟨hx, hb, hml, hown, hts⟩ hM ⟨va_cnB _ hts (good_wz zc) rfl h3 h4 (hN.1 _ z1) (hts _ z3) h1 h2, hts _ z2, trivial⟩ ⟨oS_blind, oS_ok hK hN hW⟩ rfl rfl hls hst (lv_room hcat) hdg ⟨hcs.1, hcs.2⟩) hS (fun q _ h => hA q h) hA (fun r u t H1 locs1 ht hvm hw hB _ _ hS => ?_)
  exact kk r u H1 locs1 hw (by rw [← ht]; exact hB) hS
end OR
end
section
theorem zz_1 : True := trivial
end

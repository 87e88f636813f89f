section
-- ===== PART A: goes FIRST, ahead of the names: the tables' words, and 'selects' of the private methods out of them =====
/-- a private method of a class that the tables say can be made, by its rows of tables_1 -/
def lw_okq (q : MethodName × Nat) : Prop := (q.1.cls ≠ "java/lang/invoke/MethodHandle" ∧ q.1.cls ≠ "java/lang/invoke/VarHandle") ∧ Cond.instantiable q.1.cls q.2 ∈ tables_1 ∧ Cond.privateMethod q.1 ∈ tables_1 ∧ Cond.instanceMethod q.1 ∈ tables_1
theorem lw_p0 : lw_okq (⟨"MirrorBytes", "changedBy", "(II)I"⟩, 8) := ⟨⟨by decide +kernel, by decide +kernel⟩, List.mem_of_getElem? (i := 15) (by decide +kernel), List.mem_of_getElem? (i := 494) (by decide +kernel), List.mem_of_getElem? (i := 495) (by decide +kernel)⟩
theorem lw_p1 : lw_okq (⟨"MirrorBytes", "wouldReadTheSame", "(II)Z"⟩, 8) := ⟨⟨by decide +kernel, by decide +kernel⟩, List.mem_of_getElem? (i := 15) (by decide +kernel), List.mem_of_getElem? (i := 601) (by decide +kernel), List.mem_of_getElem? (i := 602) (by decide +kernel)⟩
theorem lw_p2 : lw_okq (⟨"MirrorBytes", "byteThatGives", "(III)I"⟩, 8) := ⟨⟨by decide +kernel, by decide +kernel⟩, List.mem_of_getElem? (i := 15) (by decide +kernel), List.mem_of_getElem? (i := 629) (by decide +kernel), List.mem_of_getElem? (i := 630) (by decide +kernel)⟩
theorem lw_p3 : lw_okq (⟨"MirrorBytes", "walkedBits", "(I)I"⟩, 8) := ⟨⟨by decide +kernel, by decide +kernel⟩, List.mem_of_getElem? (i := 15) (by decide +kernel), List.mem_of_getElem? (i := 643) (by decide +kernel), List.mem_of_getElem? (i := 644) (by decide +kernel)⟩
theorem lw_p4 : lw_okq (⟨"MirrorBytes", "stepOfWalk", "(III)I"⟩, 8) := ⟨⟨by decide +kernel, by decide +kernel⟩, List.mem_of_getElem? (i := 15) (by decide +kernel), List.mem_of_getElem? (i := 655) (by decide +kernel), List.mem_of_getElem? (i := 656) (by decide +kernel)⟩
theorem lw_p5 : lw_okq (⟨"MirrorBytesModel", "begin", "()V"⟩, 14) := ⟨⟨by decide +kernel, by decide +kernel⟩, List.mem_of_getElem? (i := 691) (by decide +kernel), List.mem_of_getElem? (i := 697) (by decide +kernel), List.mem_of_getElem? (i := 698) (by decide +kernel)⟩
theorem lw_p6 : lw_okq (⟨"MirrorBytesModel", "repair", "(I)V"⟩, 14) := ⟨⟨by decide +kernel, by decide +kernel⟩, List.mem_of_getElem? (i := 691) (by decide +kernel), List.mem_of_getElem? (i := 701) (by decide +kernel), List.mem_of_getElem? (i := 702) (by decide +kernel)⟩
theorem lw_p7 : lw_okq (⟨"MirrorBytesModel", "fields", "()I"⟩, 14) := ⟨⟨by decide +kernel, by decide +kernel⟩, List.mem_of_getElem? (i := 691) (by decide +kernel), List.mem_of_getElem? (i := 705) (by decide +kernel), List.mem_of_getElem? (i := 706) (by decide +kernel)⟩
theorem lw_p8 : lw_okq (⟨"MirrorBytesModel", "reset", "(I)V"⟩, 14) := ⟨⟨by decide +kernel, by decide +kernel⟩, List.mem_of_getElem? (i := 691) (by decide +kernel), List.mem_of_getElem? (i := 709) (by decide +kernel), List.mem_of_getElem? (i := 710) (by decide +kernel)⟩
theorem lw_p9 : lw_okq (⟨"MirrorBytesModel", "emptyLog", "()V"⟩, 14) := ⟨⟨by decide +kernel, by decide +kernel⟩, List.mem_of_getElem? (i := 691) (by decide +kernel), List.mem_of_getElem? (i := 713) (by decide +kernel), List.mem_of_getElem? (i := 714) (by decide +kernel)⟩
theorem lw_p10 : lw_okq (⟨"MirrorBytesModel", "note", "()V"⟩, 14) := ⟨⟨by decide +kernel, by decide +kernel⟩, List.mem_of_getElem? (i := 691) (by decide +kernel), List.mem_of_getElem? (i := 764) (by decide +kernel), List.mem_of_getElem? (i := 765) (by decide +kernel)⟩
theorem lw_p11 : lw_okq (⟨"MirrorBytesModel", "goesTo", "(I)I"⟩, 14) := ⟨⟨by decide +kernel, by decide +kernel⟩, List.mem_of_getElem? (i := 691) (by decide +kernel), List.mem_of_getElem? (i := 775) (by decide +kernel), List.mem_of_getElem? (i := 776) (by decide +kernel)⟩
theorem lw_p12 : lw_okq (⟨"MirrorBytesModel", "registers", "()I"⟩, 14) := ⟨⟨by decide +kernel, by decide +kernel⟩, List.mem_of_getElem? (i := 691) (by decide +kernel), List.mem_of_getElem? (i := 779) (by decide +kernel), List.mem_of_getElem? (i := 780) (by decide +kernel)⟩
theorem lw_p13 : lw_okq (⟨"MirrorBytesModel", "peekAt", "(II)I"⟩, 14) := ⟨⟨by decide +kernel, by decide +kernel⟩, List.mem_of_getElem? (i := 691) (by decide +kernel), List.mem_of_getElem? (i := 783) (by decide +kernel), List.mem_of_getElem? (i := 784) (by decide +kernel)⟩
theorem lw_p14 : lw_okq (⟨"MirrorBytesModel", "registerOf", "(I)I"⟩, 14) := ⟨⟨by decide +kernel, by decide +kernel⟩, List.mem_of_getElem? (i := 691) (by decide +kernel), List.mem_of_getElem? (i := 787) (by decide +kernel), List.mem_of_getElem? (i := 788) (by decide +kernel)⟩
theorem lw_p15 : lw_okq (⟨"MirrorBytesModel", "tellsOf", "(II)I"⟩, 14) := ⟨⟨by decide +kernel, by decide +kernel⟩, List.mem_of_getElem? (i := 691) (by decide +kernel), List.mem_of_getElem? (i := 791) (by decide +kernel), List.mem_of_getElem? (i := 792) (by decide +kernel)⟩
def lw_privs_1 : List (MethodName × Nat) := [(⟨"MirrorBytes", "changedBy", "(II)I"⟩, 8), (⟨"MirrorBytes", "wouldReadTheSame", "(II)Z"⟩, 8), (⟨"MirrorBytes", "byteThatGives", "(III)I"⟩, 8), (⟨"MirrorBytes", "walkedBits", "(I)I"⟩, 8), (⟨"MirrorBytes", "stepOfWalk", "(III)I"⟩, 8), (⟨"MirrorBytesModel", "begin", "()V"⟩, 14), (⟨"MirrorBytesModel", "repair", "(I)V"⟩, 14), (⟨"MirrorBytesModel", "fields", "()I"⟩, 14), (⟨"MirrorBytesModel", "reset", "(I)V"⟩, 14), (⟨"MirrorBytesModel", "emptyLog", "()V"⟩, 14), (⟨"MirrorBytesModel", "note", "()V"⟩, 14), (⟨"MirrorBytesModel", "goesTo", "(I)I"⟩, 14), (⟨"MirrorBytesModel", "registers", "()I"⟩, 14), (⟨"MirrorBytesModel", "peekAt", "(II)I"⟩, 14), (⟨"MirrorBytesModel", "registerOf", "(I)I"⟩, 14), (⟨"MirrorBytesModel", "tellsOf", "(II)I"⟩, 14)]
theorem lw_r1 : ∀ q ∈ lw_privs_1, lw_okq q := List.forall_mem_cons.mpr ⟨lw_p0, List.forall_mem_cons.mpr ⟨lw_p1, List.forall_mem_cons.mpr ⟨lw_p2, List.forall_mem_cons.mpr ⟨lw_p3, List.forall_mem_cons.mpr ⟨lw_p4, List.forall_mem_cons.mpr ⟨lw_p5, List.forall_mem_cons.mpr ⟨lw_p6, List.forall_mem_cons.mpr ⟨lw_p7, List.forall_mem_cons.mpr ⟨lw_p8, List.forall_mem_cons.mpr ⟨lw_p9, List.forall_mem_cons.mpr ⟨lw_p10, List.forall_mem_cons.mpr ⟨lw_p11, List.forall_mem_cons.mpr ⟨lw_p12, List.forall_mem_cons.mpr ⟨lw_p13, List.forall_mem_cons.mpr ⟨lw_p14, List.forall_mem_cons.mpr ⟨lw_p15, fun _ h => absurd h List.not_mem_nil⟩⟩⟩⟩⟩⟩⟩⟩⟩⟩⟩⟩⟩⟩⟩⟩
theorem lw_p16 : lw_okq (⟨"MirrorBytesModel", "readOf", "(II)I"⟩, 14) := ⟨⟨by decide +kernel, by decide +kernel⟩, List.mem_of_getElem? (i := 691) (by decide +kernel), List.mem_of_getElem? (i := 795) (by decide +kernel), List.mem_of_getElem? (i := 796) (by decide +kernel)⟩
theorem lw_p17 : lw_okq (⟨"MirrorBytesModel", "clearRead", "(II)V"⟩, 14) := ⟨⟨by decide +kernel, by decide +kernel⟩, List.mem_of_getElem? (i := 691) (by decide +kernel), List.mem_of_getElem? (i := 799) (by decide +kernel), List.mem_of_getElem? (i := 800) (by decide +kernel)⟩
theorem lw_p18 : lw_okq (⟨"MirrorBytesModel", "most", "(I)I"⟩, 14) := ⟨⟨by decide +kernel, by decide +kernel⟩, List.mem_of_getElem? (i := 691) (by decide +kernel), List.mem_of_getElem? (i := 803) (by decide +kernel), List.mem_of_getElem? (i := 804) (by decide +kernel)⟩
theorem lw_p19 : lw_okq (⟨"MirrorBytesModel", "logs", "(III)V"⟩, 14) := ⟨⟨by decide +kernel, by decide +kernel⟩, List.mem_of_getElem? (i := 691) (by decide +kernel), List.mem_of_getElem? (i := 807) (by decide +kernel), List.mem_of_getElem? (i := 808) (by decide +kernel)⟩
theorem lw_p20 : lw_okq (⟨"MirrorBytesModel", "copyMachine", "(II)V"⟩, 14) := ⟨⟨by decide +kernel, by decide +kernel⟩, List.mem_of_getElem? (i := 691) (by decide +kernel), List.mem_of_getElem? (i := 815) (by decide +kernel), List.mem_of_getElem? (i := 816) (by decide +kernel)⟩
theorem lw_p21 : lw_okq (⟨"MirrorBytesModel", "writeTo", "(III)V"⟩, 14) := ⟨⟨by decide +kernel, by decide +kernel⟩, List.mem_of_getElem? (i := 691) (by decide +kernel), List.mem_of_getElem? (i := 819) (by decide +kernel), List.mem_of_getElem? (i := 820) (by decide +kernel)⟩
theorem lw_p22 : lw_okq (⟨"MirrorBytesModel", "isLocked", "(II)Z"⟩, 14) := ⟨⟨by decide +kernel, by decide +kernel⟩, List.mem_of_getElem? (i := 691) (by decide +kernel), List.mem_of_getElem? (i := 823) (by decide +kernel), List.mem_of_getElem? (i := 824) (by decide +kernel)⟩
theorem lw_p23 : lw_okq (⟨"MirrorBytesModel", "letIn", "(IIII)V"⟩, 14) := ⟨⟨by decide +kernel, by decide +kernel⟩, List.mem_of_getElem? (i := 691) (by decide +kernel), List.mem_of_getElem? (i := 827) (by decide +kernel), List.mem_of_getElem? (i := 828) (by decide +kernel)⟩
theorem lw_p24 : lw_okq (⟨"MirrorBytesModel", "openGates", "(III)V"⟩, 14) := ⟨⟨by decide +kernel, by decide +kernel⟩, List.mem_of_getElem? (i := 691) (by decide +kernel), List.mem_of_getElem? (i := 834) (by decide +kernel), List.mem_of_getElem? (i := 835) (by decide +kernel)⟩
theorem lw_p25 : lw_okq (⟨"MirrorBytesModel", "otherFields", "(II)I"⟩, 14) := ⟨⟨by decide +kernel, by decide +kernel⟩, List.mem_of_getElem? (i := 691) (by decide +kernel), List.mem_of_getElem? (i := 838) (by decide +kernel), List.mem_of_getElem? (i := 839) (by decide +kernel)⟩
theorem lw_p26 : lw_okq (⟨"MirrorBytesModel", "isField", "(I)Z"⟩, 14) := ⟨⟨by decide +kernel, by decide +kernel⟩, List.mem_of_getElem? (i := 691) (by decide +kernel), List.mem_of_getElem? (i := 846) (by decide +kernel), List.mem_of_getElem? (i := 847) (by decide +kernel)⟩
theorem lw_p27 : lw_okq (⟨"MirrorBytesModel", "isRegister", "(I)Z"⟩, 14) := ⟨⟨by decide +kernel, by decide +kernel⟩, List.mem_of_getElem? (i := 691) (by decide +kernel), List.mem_of_getElem? (i := 866) (by decide +kernel), List.mem_of_getElem? (i := 867) (by decide +kernel)⟩
theorem lw_p28 : lw_okq (⟨"MirrorBytesModel", "wouldTell", "(II)Z"⟩, 14) := ⟨⟨by decide +kernel, by decide +kernel⟩, List.mem_of_getElem? (i := 691) (by decide +kernel), List.mem_of_getElem? (i := 894) (by decide +kernel), List.mem_of_getElem? (i := 895) (by decide +kernel)⟩
theorem lw_p29 : lw_okq (⟨"MirrorBytesModel", "tryWrite", "(II)V"⟩, 14) := ⟨⟨by decide +kernel, by decide +kernel⟩, List.mem_of_getElem? (i := 691) (by decide +kernel), List.mem_of_getElem? (i := 906) (by decide +kernel), List.mem_of_getElem? (i := 907) (by decide +kernel)⟩
theorem lw_p30 : lw_okq (⟨"MirrorBytesModel", "isWalked", "(I)Z"⟩, 14) := ⟨⟨by decide +kernel, by decide +kernel⟩, List.mem_of_getElem? (i := 691) (by decide +kernel), List.mem_of_getElem? (i := 918) (by decide +kernel), List.mem_of_getElem? (i := 919) (by decide +kernel)⟩
theorem lw_p31 : lw_okq (⟨"MirrorBytesModel", "isLockOrGate", "(II)Z"⟩, 14) := ⟨⟨by decide +kernel, by decide +kernel⟩, List.mem_of_getElem? (i := 691) (by decide +kernel), List.mem_of_getElem? (i := 922) (by decide +kernel), List.mem_of_getElem? (i := 923) (by decide +kernel)⟩
def lw_privs_2 : List (MethodName × Nat) := [(⟨"MirrorBytesModel", "readOf", "(II)I"⟩, 14), (⟨"MirrorBytesModel", "clearRead", "(II)V"⟩, 14), (⟨"MirrorBytesModel", "most", "(I)I"⟩, 14), (⟨"MirrorBytesModel", "logs", "(III)V"⟩, 14), (⟨"MirrorBytesModel", "copyMachine", "(II)V"⟩, 14), (⟨"MirrorBytesModel", "writeTo", "(III)V"⟩, 14), (⟨"MirrorBytesModel", "isLocked", "(II)Z"⟩, 14), (⟨"MirrorBytesModel", "letIn", "(IIII)V"⟩, 14), (⟨"MirrorBytesModel", "openGates", "(III)V"⟩, 14), (⟨"MirrorBytesModel", "otherFields", "(II)I"⟩, 14), (⟨"MirrorBytesModel", "isField", "(I)Z"⟩, 14), (⟨"MirrorBytesModel", "isRegister", "(I)Z"⟩, 14), (⟨"MirrorBytesModel", "wouldTell", "(II)Z"⟩, 14), (⟨"MirrorBytesModel", "tryWrite", "(II)V"⟩, 14), (⟨"MirrorBytesModel", "isWalked", "(I)Z"⟩, 14), (⟨"MirrorBytesModel", "isLockOrGate", "(II)Z"⟩, 14)]
theorem lw_r2 : ∀ q ∈ lw_privs_2, lw_okq q := List.forall_mem_cons.mpr ⟨lw_p16, List.forall_mem_cons.mpr ⟨lw_p17, List.forall_mem_cons.mpr ⟨lw_p18, List.forall_mem_cons.mpr ⟨lw_p19, List.forall_mem_cons.mpr ⟨lw_p20, List.forall_mem_cons.mpr ⟨lw_p21, List.forall_mem_cons.mpr ⟨lw_p22, List.forall_mem_cons.mpr ⟨lw_p23, List.forall_mem_cons.mpr ⟨lw_p24, List.forall_mem_cons.mpr ⟨lw_p25, List.forall_mem_cons.mpr ⟨lw_p26, List.forall_mem_cons.mpr ⟨lw_p27, List.forall_mem_cons.mpr ⟨lw_p28, List.forall_mem_cons.mpr ⟨lw_p29, List.forall_mem_cons.mpr ⟨lw_p30, List.forall_mem_cons.mpr ⟨lw_p31, fun _ h => absurd h List.not_mem_nil⟩⟩⟩⟩⟩⟩⟩⟩⟩⟩⟩⟩⟩⟩⟩⟩
theorem lw_p32 : lw_okq (⟨"MirrorBytesModel", "bitsBy", "(IZ)I"⟩, 14) := ⟨⟨by decide +kernel, by decide +kernel⟩, List.mem_of_getElem? (i := 691) (by decide +kernel), List.mem_of_getElem? (i := 926) (by decide +kernel), List.mem_of_getElem? (i := 927) (by decide +kernel)⟩
theorem lw_p33 : lw_okq (⟨"MirrorBytesModel", "bitsOf", "(I)I"⟩, 14) := ⟨⟨by decide +kernel, by decide +kernel⟩, List.mem_of_getElem? (i := 691) (by decide +kernel), List.mem_of_getElem? (i := 930) (by decide +kernel), List.mem_of_getElem? (i := 931) (by decide +kernel)⟩
theorem lw_p34 : lw_okq (⟨"MirrorBytesModel", "fieldBits", "()I"⟩, 14) := ⟨⟨by decide +kernel, by decide +kernel⟩, List.mem_of_getElem? (i := 691) (by decide +kernel), List.mem_of_getElem? (i := 946) (by decide +kernel), List.mem_of_getElem? (i := 947) (by decide +kernel)⟩
theorem lw_p35 : lw_okq (⟨"MirrorBytesModel", "brokenMany", "()I"⟩, 14) := ⟨⟨by decide +kernel, by decide +kernel⟩, List.mem_of_getElem? (i := 691) (by decide +kernel), List.mem_of_getElem? (i := 950) (by decide +kernel), List.mem_of_getElem? (i := 951) (by decide +kernel)⟩
theorem lw_p36 : lw_okq (⟨"MirrorBytesModel", "next", "()V"⟩, 14) := ⟨⟨by decide +kernel, by decide +kernel⟩, List.mem_of_getElem? (i := 691) (by decide +kernel), List.mem_of_getElem? (i := 966) (by decide +kernel), List.mem_of_getElem? (i := 967) (by decide +kernel)⟩
theorem lw_p37 : lw_okq (⟨"MirrorBytesModel", "isHere", "(II)Z"⟩, 14) := ⟨⟨by decide +kernel, by decide +kernel⟩, List.mem_of_getElem? (i := 691) (by decide +kernel), List.mem_of_getElem? (i := 970) (by decide +kernel), List.mem_of_getElem? (i := 971) (by decide +kernel)⟩
theorem lw_p38 : lw_okq (⟨"MirrorBytesModel", "readItem", "()V"⟩, 14) := ⟨⟨by decide +kernel, by decide +kernel⟩, List.mem_of_getElem? (i := 691) (by decide +kernel), List.mem_of_getElem? (i := 978) (by decide +kernel), List.mem_of_getElem? (i := 979) (by decide +kernel)⟩
theorem lw_p39 : lw_okq (⟨"MirrorBytesModel", "must", "(Z)I"⟩, 14) := ⟨⟨by decide +kernel, by decide +kernel⟩, List.mem_of_getElem? (i := 691) (by decide +kernel), List.mem_of_getElem? (i := 982) (by decide +kernel), List.mem_of_getElem? (i := 983) (by decide +kernel)⟩
theorem lw_p40 : lw_okq (⟨"MirrorBytesModel", "readRegister", "()V"⟩, 14) := ⟨⟨by decide +kernel, by decide +kernel⟩, List.mem_of_getElem? (i := 691) (by decide +kernel), List.mem_of_getElem? (i := 986) (by decide +kernel), List.mem_of_getElem? (i := 987) (by decide +kernel)⟩
theorem lw_p41 : lw_okq (⟨"MirrorBytesModel", "number", "(II)I"⟩, 14) := ⟨⟨by decide +kernel, by decide +kernel⟩, List.mem_of_getElem? (i := 691) (by decide +kernel), List.mem_of_getElem? (i := 990) (by decide +kernel), List.mem_of_getElem? (i := 991) (by decide +kernel)⟩
theorem lw_p42 : lw_okq (⟨"MirrorBytesModel", "readField", "()V"⟩, 14) := ⟨⟨by decide +kernel, by decide +kernel⟩, List.mem_of_getElem? (i := 691) (by decide +kernel), List.mem_of_getElem? (i := 994) (by decide +kernel), List.mem_of_getElem? (i := 995) (by decide +kernel)⟩
theorem lw_p43 : lw_okq (⟨"MirrorBytesModel", "usedBits", "(I)I"⟩, 14) := ⟨⟨by decide +kernel, by decide +kernel⟩, List.mem_of_getElem? (i := 691) (by decide +kernel), List.mem_of_getElem? (i := 998) (by decide +kernel), List.mem_of_getElem? (i := 999) (by decide +kernel)⟩
theorem lw_p44 : lw_okq (⟨"MirrorBytesModel", "readAlias", "()V"⟩, 14) := ⟨⟨by decide +kernel, by decide +kernel⟩, List.mem_of_getElem? (i := 691) (by decide +kernel), List.mem_of_getElem? (i := 1002) (by decide +kernel), List.mem_of_getElem? (i := 1003) (by decide +kernel)⟩
theorem lw_p45 : lw_okq (⟨"MirrorBytesModel", "readLink", "(I)V"⟩, 14) := ⟨⟨by decide +kernel, by decide +kernel⟩, List.mem_of_getElem? (i := 691) (by decide +kernel), List.mem_of_getElem? (i := 1006) (by decide +kernel), List.mem_of_getElem? (i := 1007) (by decide +kernel)⟩
def lw_privs_3 : List (MethodName × Nat) := [(⟨"MirrorBytesModel", "bitsBy", "(IZ)I"⟩, 14), (⟨"MirrorBytesModel", "bitsOf", "(I)I"⟩, 14), (⟨"MirrorBytesModel", "fieldBits", "()I"⟩, 14), (⟨"MirrorBytesModel", "brokenMany", "()I"⟩, 14), (⟨"MirrorBytesModel", "next", "()V"⟩, 14), (⟨"MirrorBytesModel", "isHere", "(II)Z"⟩, 14), (⟨"MirrorBytesModel", "readItem", "()V"⟩, 14), (⟨"MirrorBytesModel", "must", "(Z)I"⟩, 14), (⟨"MirrorBytesModel", "readRegister", "()V"⟩, 14), (⟨"MirrorBytesModel", "number", "(II)I"⟩, 14), (⟨"MirrorBytesModel", "readField", "()V"⟩, 14), (⟨"MirrorBytesModel", "usedBits", "(I)I"⟩, 14), (⟨"MirrorBytesModel", "readAlias", "()V"⟩, 14), (⟨"MirrorBytesModel", "readLink", "(I)V"⟩, 14)]
theorem lw_r3 : ∀ q ∈ lw_privs_3, lw_okq q := List.forall_mem_cons.mpr ⟨lw_p32, List.forall_mem_cons.mpr ⟨lw_p33, List.forall_mem_cons.mpr ⟨lw_p34, List.forall_mem_cons.mpr ⟨lw_p35, List.forall_mem_cons.mpr ⟨lw_p36, List.forall_mem_cons.mpr ⟨lw_p37, List.forall_mem_cons.mpr ⟨lw_p38, List.forall_mem_cons.mpr ⟨lw_p39, List.forall_mem_cons.mpr ⟨lw_p40, List.forall_mem_cons.mpr ⟨lw_p41, List.forall_mem_cons.mpr ⟨lw_p42, List.forall_mem_cons.mpr ⟨lw_p43, List.forall_mem_cons.mpr ⟨lw_p44, List.forall_mem_cons.mpr ⟨lw_p45, fun _ h => absurd h List.not_mem_nil⟩⟩⟩⟩⟩⟩⟩⟩⟩⟩⟩⟩⟩⟩
def lw_privs : List (MethodName × Nat) := lw_privs_1 ++ (lw_privs_2 ++ (lw_privs_3))
def lw_tbl : List Cond := k2_sels lw_privs ++ tables_1
theorem lw_privs_ok : ∀ q ∈ lw_privs, lw_okq q := by
  show ∀ q ∈ lw_privs_1 ++ (lw_privs_2 ++ (lw_privs_3)), lw_okq q
  exact List.forall_mem_append.mpr ⟨lw_r1, List.forall_mem_append.mpr ⟨lw_r2, lw_r3⟩⟩
end
section
def RX0 : String := "MirrorBytes$Block"
def TX0 : u_T := fun k => match k with
  | 0 => ("MirrorBytes$Block", "registers", "I", false)
  | 1 => ("MirrorBytes$Block", "fields", "I", false)
  | 2 => ("MirrorBytes$Block", "aliases", "I", false)
  | 3 => ("MirrorBytes$Block", "address", "[I", true)
  | 4 => ("MirrorBytes$Block", "lock", "[I", true)
  | 5 => ("MirrorBytes$Block", "gate", "[I", true)
  | 6 => ("MirrorBytes$Block", "owner", "[I", true)
  | 7 => ("MirrorBytes$Block", "kind", "[I", true)
  | 8 => ("MirrorBytes$Block", "low", "[I", true)
  | 9 => ("MirrorBytes$Block", "high", "[I", true)
  | 10 => ("MirrorBytes$Block", "mask", "[I", true)
  | 11 => ("MirrorBytes$Block", "initial", "[I", true)
  | 12 => ("MirrorBytes$Block", "aliasAddress", "[I", true)
  | 13 => ("MirrorBytes$Block", "aliasRegister", "[I", true)
  | _ => ("MirrorBytes$Block", "aliasKind", "[I", true)
def tyX0 : Nat → FieldType := fun k => match k with
  | 0 => .int
  | 1 => .int
  | 2 => .int
  | 3 => .array .int
  | 4 => .array .int
  | 5 => .array .int
  | 6 => .array .int
  | 7 => .array .int
  | 8 => .array .int
  | 9 => .array .int
  | 10 => .array .int
  | 11 => .array .int
  | 12 => .array .int
  | 13 => .array .int
  | _ => .array .int
abbrev wsX00 : List Cond := u_ws RX0 TX0 15
theorem nmX0 : ∀ a, a < 15 → ∀ b, b < 15 → a ≠ b → (TX0 a).2.1 ≠ (TX0 b).2.1 := by decide +kernel
theorem tyX0_ok : ∀ k, k < 15 → parseFieldDescriptor (TX0 k).2.2.1 = some (tyX0 k) := by decide +kernel
abbrev cX0_init : ByteArray := prog_2_method_1_code
def yX0_init : MethodName := ⟨RX0, "<init>", "()V"⟩
abbrev cX0_empty : ByteArray := prog_2_method_2_code
def yX0_empty : MethodName := ⟨RX0, "empty", "()V"⟩
abbrev cX0_greatestValue : ByteArray := prog_2_method_3_code
def yX0_greatestValue : MethodName := ⟨RX0, "greatestValue", "(I)I"⟩
abbrev cX0_canHold : ByteArray := prog_2_method_4_code
def yX0_canHold : MethodName := ⟨RX0, "canHold", "(II)Z"⟩
abbrev cX0_usedBits : ByteArray := prog_2_method_5_code
def yX0_usedBits : MethodName := ⟨RX0, "usedBits", "(I)I"⟩
abbrev cX0_plainBits : ByteArray := prog_2_method_6_code
def yX0_plainBits : MethodName := ⟨RX0, "plainBits", "(I)I"⟩
abbrev cX0_bitsOfFields : ByteArray := prog_2_method_7_code
def yX0_bitsOfFields : MethodName := ⟨RX0, "bitsOfFields", "()I"⟩
abbrev cX0_registerAt : ByteArray := prog_2_method_8_code
def yX0_registerAt : MethodName := ⟨RX0, "registerAt", "(I)I"⟩
abbrev cX0_aliasAt : ByteArray := prog_2_method_9_code
def yX0_aliasAt : MethodName := ⟨RX0, "aliasAt", "(I)I"⟩
abbrev cX0_registerBehind : ByteArray := prog_2_method_10_code
def yX0_registerBehind : MethodName := ⟨RX0, "registerBehind", "(I)I"⟩
abbrev cX0_holdersOf : ByteArray := prog_2_method_11_code
def yX0_holdersOf : MethodName := ⟨RX0, "holdersOf", "(I)I"⟩
abbrev cX0_isLock : ByteArray := prog_2_method_12_code
def yX0_isLock : MethodName := ⟨RX0, "isLock", "(I)Z"⟩
abbrev cX0_isGate : ByteArray := prog_2_method_13_code
def yX0_isGate : MethodName := ⟨RX0, "isGate", "(I)Z"⟩
abbrev cX0_isOpenedBy : ByteArray := prog_2_method_14_code
def yX0_isOpenedBy : MethodName := ⟨RX0, "isOpenedBy", "(II)Z"⟩
abbrev cX0_canReach : ByteArray := prog_2_method_15_code
def yX0_canReach : MethodName := ⟨RX0, "canReach", "(II)Z"⟩
def RX1 : String := "MirrorBytes$Device"
def TX1 : u_T := fun k => match k with
  | 0 => ("MirrorBytes$Device", "content", "[I", true)
  | 1 => ("MirrorBytes$Device", "held", "[I", true)
  | 2 => ("MirrorBytes$Device", "entered", "[Z", true)
  | _ => ("MirrorBytes$Device", "kinds", "[I", true)
def tyX1 : Nat → FieldType := fun k => match k with
  | 0 => .array .int
  | 1 => .array .int
  | 2 => .array .boolean
  | _ => .array .int
abbrev wsX10 : List Cond := u_ws RX1 TX1 4
theorem nmX1 : ∀ a, a < 4 → ∀ b, b < 4 → a ≠ b → (TX1 a).2.1 ≠ (TX1 b).2.1 := by decide +kernel
theorem tyX1_ok : ∀ k, k < 4 → parseFieldDescriptor (TX1 k).2.2.1 = some (tyX1 k) := by decide +kernel
abbrev cX1_init : ByteArray := prog_3_method_1_code
def yX1_init : MethodName := ⟨RX1, "<init>", "()V"⟩
abbrev cX1_copyFrom : ByteArray := prog_3_method_2_code
def yX1_copyFrom : MethodName := ⟨RX1, "copyFrom", "(LMirrorBytes$Device;)V"⟩
abbrev cX1_mend : ByteArray := prog_3_method_3_code
def yX1_mend : MethodName := ⟨RX1, "mend", "(LMirrorBytes$Block;)V"⟩
abbrev cX1_restart : ByteArray := prog_3_method_4_code
def yX1_restart : MethodName := ⟨RX1, "restart", "(LMirrorBytes$Block;)V"⟩
abbrev cX1_valueOf : ByteArray := prog_3_method_5_code
def yX1_valueOf : MethodName := ⟨RX1, "valueOf", "(LMirrorBytes$Block;I)I"⟩
abbrev cX1_putValue : ByteArray := prog_3_method_6_code
def yX1_putValue : MethodName := ⟨RX1, "putValue", "(LMirrorBytes$Block;II)V"⟩
abbrev cX1_putBits : ByteArray := prog_3_method_7_code
def yX1_putBits : MethodName := ⟨RX1, "putBits", "(LMirrorBytes$Block;II)V"⟩
abbrev cX1_brokenFields : ByteArray := prog_3_method_8_code
def yX1_brokenFields : MethodName := ⟨RX1, "brokenFields", "(LMirrorBytes$Block;)I"⟩
abbrev cX1_isLocked : ByteArray := prog_3_method_9_code
def yX1_isLocked : MethodName := ⟨RX1, "isLocked", "(LMirrorBytes$Block;I)Z"⟩
abbrev cX1_shown : ByteArray := prog_3_method_10_code
def yX1_shown : MethodName := ⟨RX1, "shown", "(LMirrorBytes$Block;I)I"⟩
abbrev cX1_look : ByteArray := prog_3_method_11_code
def yX1_look : MethodName := ⟨RX1, "look", "(LMirrorBytes$Block;I)I"⟩
abbrev cX1_read : ByteArray := prog_3_method_12_code
def yX1_read : MethodName := ⟨RX1, "read", "(LMirrorBytes$Block;I)I"⟩
abbrev cX1_learn : ByteArray := prog_3_method_13_code
def yX1_learn : MethodName := ⟨RX1, "learn", "(LMirrorBytes$Block;II)V"⟩
abbrev cX1_write : ByteArray := prog_3_method_14_code
def yX1_write : MethodName := ⟨RX1, "write", "(LMirrorBytes$Block;II)V"⟩
abbrev cX1_letIn : ByteArray := prog_3_method_15_code
def yX1_letIn : MethodName := ⟨RX1, "letIn", "(LMirrorBytes$Block;II)V"⟩
abbrev cX1_letInByAlias : ByteArray := prog_3_method_16_code
def yX1_letInByAlias : MethodName := ⟨RX1, "letInByAlias", "(LMirrorBytes$Block;III)V"⟩
abbrev cX1_bitsAfter : ByteArray := prog_3_method_17_code
def yX1_bitsAfter : MethodName := ⟨RX1, "bitsAfter", "(III)I"⟩
abbrev cX1_openGates : ByteArray := prog_3_method_18_code
def yX1_openGates : MethodName := ⟨RX1, "openGates", "(LMirrorBytes$Block;II)V"⟩
def RX2 : String := "MirrorBytes$History"
def TX2 : u_T := fun k => match k with
  | 0 => ("MirrorBytes$History", "before", "[LMirrorBytes$Situation;", true)
  | 1 => ("MirrorBytes$History", "next", "I", false)
  | _ => ("MirrorBytes$History", "length", "I", false)
def tyX2 : Nat → FieldType := fun k => match k with
  | 0 => .array (.object "MirrorBytes$Situation")
  | 1 => .int
  | _ => .int
abbrev wsX20 : List Cond := u_ws RX2 TX2 3
theorem nmX2 : ∀ a, a < 3 → ∀ b, b < 3 → a ≠ b → (TX2 a).2.1 ≠ (TX2 b).2.1 := by decide +kernel
theorem tyX2_ok : ∀ k, k < 3 → parseFieldDescriptor (TX2 k).2.2.1 = some (tyX2 k) := by decide +kernel
abbrev cX2_init : ByteArray := prog_4_method_1_code
def yX2_init : MethodName := ⟨RX2, "<init>", "()V"⟩
abbrev cX2_forget : ByteArray := prog_4_method_2_code
def yX2_forget : MethodName := ⟨RX2, "forget", "()V"⟩
abbrev cX2_remember : ByteArray := prog_4_method_3_code
def yX2_remember : MethodName := ⟨RX2, "remember", "(LMirrorBytes$Situation;)V"⟩
abbrev cX2_recall : ByteArray := prog_4_method_4_code
def yX2_recall : MethodName := ⟨RX2, "recall", "(LMirrorBytes$Situation;)V"⟩
def RX3 : String := "MirrorBytes$Journal"
def TX3 : u_T := fun k => match k with
  | 0 => ("MirrorBytes$Journal", "length", "I", false)
  | 1 => ("MirrorBytes$Journal", "address", "[I", true)
  | 2 => ("MirrorBytes$Journal", "isWrite", "[Z", true)
  | _ => ("MirrorBytes$Journal", "content", "[I", true)
def tyX3 : Nat → FieldType := fun k => match k with
  | 0 => .int
  | 1 => .array .int
  | 2 => .array .boolean
  | _ => .array .int
abbrev wsX30 : List Cond := u_ws RX3 TX3 4
theorem nmX3 : ∀ a, a < 4 → ∀ b, b < 4 → a ≠ b → (TX3 a).2.1 ≠ (TX3 b).2.1 := by decide +kernel
theorem tyX3_ok : ∀ k, k < 4 → parseFieldDescriptor (TX3 k).2.2.1 = some (tyX3 k) := by decide +kernel
abbrev cX3_init : ByteArray := prog_5_method_1_code
def yX3_init : MethodName := ⟨RX3, "<init>", "()V"⟩
abbrev cX3_copyFrom : ByteArray := prog_5_method_2_code
def yX3_copyFrom : MethodName := ⟨RX3, "copyFrom", "(LMirrorBytes$Journal;)V"⟩
abbrev cX3_append : ByteArray := prog_5_method_3_code
def yX3_append : MethodName := ⟨RX3, "append", "(IZI)V"⟩
abbrev cX3_agreesWith : ByteArray := prog_5_method_4_code
def yX3_agreesWith : MethodName := ⟨RX3, "agreesWith", "(LMirrorBytes$Device;LMirrorBytes$Block;)Z"⟩
def RX4 : String := "MirrorBytes$Parser"
def TX4 : u_T := fun k => match k with
  | 0 => ("MirrorBytes$Parser", "tokens", "LMirrorBytes$Tokens;", true)
  | _ => ("MirrorBytes$Parser", "block", "LMirrorBytes$Block;", false)
def tyX4 : Nat → FieldType := fun k => match k with
  | 0 => .object "MirrorBytes$Tokens"
  | _ => .object "MirrorBytes$Block"
abbrev wsX40 : List Cond := u_ws RX4 TX4 2
theorem nmX4 : ∀ a, a < 2 → ∀ b, b < 2 → a ≠ b → (TX4 a).2.1 ≠ (TX4 b).2.1 := by decide +kernel
theorem tyX4_ok : ∀ k, k < 2 → parseFieldDescriptor (TX4 k).2.2.1 = some (tyX4 k) := by decide +kernel
abbrev cX4_init : ByteArray := prog_6_method_1_code
def yX4_init : MethodName := ⟨RX4, "<init>", "(LMirrorBytes$Text;)V"⟩
abbrev cX4_exchange : ByteArray := prog_6_method_2_code
def yX4_exchange : MethodName := ⟨RX4, "exchange", "(LMirrorBytes$Block;)LMirrorBytes$Block;"⟩
abbrev cX4_parse : ByteArray := prog_6_method_3_code
def yX4_parse : MethodName := ⟨RX4, "parse", "()I"⟩
abbrev cX4_readItem : ByteArray := prog_6_method_4_code
def yX4_readItem : MethodName := ⟨RX4, "readItem", "()Z"⟩
abbrev cX4_readRegister : ByteArray := prog_6_method_5_code
def yX4_readRegister : MethodName := ⟨RX4, "readRegister", "()Z"⟩
abbrev cX4_readField : ByteArray := prog_6_method_6_code
def yX4_readField : MethodName := ⟨RX4, "readField", "()Z"⟩
abbrev cX4_readAlias : ByteArray := prog_6_method_7_code
def yX4_readAlias : MethodName := ⟨RX4, "readAlias", "()Z"⟩
abbrev cX4_suitsAlias : ByteArray := prog_6_method_8_code
def yX4_suitsAlias : MethodName := ⟨RX4, "suitsAlias", "(I)Z"⟩
abbrev cX4_readLock : ByteArray := prog_6_method_9_code
def yX4_readLock : MethodName := ⟨RX4, "readLock", "()Z"⟩
abbrev cX4_readGate : ByteArray := prog_6_method_10_code
def yX4_readGate : MethodName := ⟨RX4, "readGate", "()Z"⟩
abbrev cX4_takeNumber : ByteArray := prog_6_method_11_code
def yX4_takeNumber : MethodName := ⟨RX4, "takeNumber", "(II)Z"⟩
abbrev cX4_takeKind : ByteArray := prog_6_method_12_code
def yX4_takeKind : MethodName := ⟨RX4, "takeKind", "()Z"⟩
abbrev cX4_takeSemicolon : ByteArray := prog_6_method_13_code
def yX4_takeSemicolon : MethodName := ⟨RX4, "takeSemicolon", "()Z"⟩
def RX5 : String := "MirrorBytes$Situation"
def TX5 : u_T := fun k => match k with
  | 0 => ("MirrorBytes$Situation", "device", "LMirrorBytes$Device;", true)
  | 1 => ("MirrorBytes$Situation", "mirror", "LMirrorBytes$Device;", true)
  | 2 => ("MirrorBytes$Situation", "journal", "LMirrorBytes$Journal;", true)
  | 3 => ("MirrorBytes$Situation", "differing", "I", false)
  | _ => ("MirrorBytes$Situation", "latestDifference", "I", false)
def tyX5 : Nat → FieldType := fun k => match k with
  | 0 => .object "MirrorBytes$Device"
  | 1 => .object "MirrorBytes$Device"
  | 2 => .object "MirrorBytes$Journal"
  | 3 => .int
  | _ => .int
abbrev wsX50 : List Cond := u_ws RX5 TX5 5
theorem nmX5 : ∀ a, a < 5 → ∀ b, b < 5 → a ≠ b → (TX5 a).2.1 ≠ (TX5 b).2.1 := by decide +kernel
theorem tyX5_ok : ∀ k, k < 5 → parseFieldDescriptor (TX5 k).2.2.1 = some (tyX5 k) := by decide +kernel
abbrev cX5_init : ByteArray := prog_7_method_1_code
def yX5_init : MethodName := ⟨RX5, "<init>", "()V"⟩
abbrev cX5_copyFrom : ByteArray := prog_7_method_2_code
def yX5_copyFrom : MethodName := ⟨RX5, "copyFrom", "(LMirrorBytes$Situation;)V"⟩
abbrev cX5_startWith : ByteArray := prog_7_method_3_code
def yX5_startWith : MethodName := ⟨RX5, "startWith", "(LMirrorBytes$Block;)V"⟩
abbrev cX5_restart : ByteArray := prog_7_method_4_code
def yX5_restart : MethodName := ⟨RX5, "restart", "(LMirrorBytes$Block;)V"⟩
abbrev cX5_performRead : ByteArray := prog_7_method_5_code
def yX5_performRead : MethodName := ⟨RX5, "performRead", "(LMirrorBytes$Block;I)I"⟩
abbrev cX5_performWrite : ByteArray := prog_7_method_6_code
def yX5_performWrite : MethodName := ⟨RX5, "performWrite", "(LMirrorBytes$Block;II)V"⟩
def RX6 : String := "MirrorBytes$Text"
def TX6 : u_T := fun k => match k with
  | 0 => ("MirrorBytes$Text", "content", "[I", true)
  | _ => ("MirrorBytes$Text", "length", "I", false)
def tyX6 : Nat → FieldType := fun k => match k with
  | 0 => .array .int
  | _ => .int
abbrev wsX60 : List Cond := u_ws RX6 TX6 2
theorem nmX6 : ∀ a, a < 2 → ∀ b, b < 2 → a ≠ b → (TX6 a).2.1 ≠ (TX6 b).2.1 := by decide +kernel
theorem tyX6_ok : ∀ k, k < 2 → parseFieldDescriptor (TX6 k).2.2.1 = some (tyX6 k) := by decide +kernel
abbrev cX6_init : ByteArray := prog_8_method_1_code
def yX6_init : MethodName := ⟨RX6, "<init>", "()V"⟩
abbrev cX6_append : ByteArray := prog_8_method_2_code
def yX6_append : MethodName := ⟨RX6, "append", "(I)V"⟩
abbrev cX6_isLetter : ByteArray := prog_8_method_3_code
def yX6_isLetter : MethodName := ⟨RX6, "isLetter", "(I)Z"⟩
abbrev cX6_isDigit : ByteArray := prog_8_method_4_code
def yX6_isDigit : MethodName := ⟨RX6, "isDigit", "(I)Z"⟩
def RX7 : String := "MirrorBytes$Tokens"
def TX7 : u_T := fun k => match k with
  | 0 => ("MirrorBytes$Tokens", "text", "LMirrorBytes$Text;", true)
  | 1 => ("MirrorBytes$Tokens", "start", "I", false)
  | 2 => ("MirrorBytes$Tokens", "end", "I", false)
  | _ => ("MirrorBytes$Tokens", "sort", "I", false)
def tyX7 : Nat → FieldType := fun k => match k with
  | 0 => .object "MirrorBytes$Text"
  | 1 => .int
  | 2 => .int
  | _ => .int
abbrev wsX70 : List Cond := u_ws RX7 TX7 4
theorem nmX7 : ∀ a, a < 4 → ∀ b, b < 4 → a ≠ b → (TX7 a).2.1 ≠ (TX7 b).2.1 := by decide +kernel
theorem tyX7_ok : ∀ k, k < 4 → parseFieldDescriptor (TX7 k).2.2.1 = some (tyX7 k) := by decide +kernel
abbrev cX7_init : ByteArray := prog_9_method_1_code
def yX7_init : MethodName := ⟨RX7, "<init>", "(LMirrorBytes$Text;)V"⟩
abbrev cX7_rewind : ByteArray := prog_9_method_2_code
def yX7_rewind : MethodName := ⟨RX7, "rewind", "()V"⟩
abbrev cX7_advance : ByteArray := prog_9_method_3_code
def yX7_advance : MethodName := ⟨RX7, "advance", "()V"⟩
abbrev cX7_letter : ByteArray := prog_9_method_4_code
def yX7_letter : MethodName := ⟨RX7, "letter", "()I"⟩
abbrev cX7_kind : ByteArray := prog_9_method_5_code
def yX7_kind : MethodName := ⟨RX7, "kind", "()I"⟩
abbrev cX7_number : ByteArray := prog_9_method_6_code
def yX7_number : MethodName := ⟨RX7, "number", "()I"⟩
def RX8 : String := "MirrorBytes"
def TX8 : u_T := fun k => match k with
  | 0 => ("MirrorBytes", "text", "LMirrorBytes$Text;", true)
  | 1 => ("MirrorBytes", "parser", "LMirrorBytes$Parser;", true)
  | 2 => ("MirrorBytes", "now", "LMirrorBytes$Situation;", true)
  | 3 => ("MirrorBytes", "history", "LMirrorBytes$History;", true)
  | 4 => ("MirrorBytes", "images", "[LMirrorBytes$Situation;", true)
  | 5 => ("MirrorBytes", "imageHeld", "[Z", true)
  | 6 => ("MirrorBytes", "trial", "LMirrorBytes$Device;", true)
  | _ => ("MirrorBytes", "block", "LMirrorBytes$Block;", false)
def tyX8 : Nat → FieldType := fun k => match k with
  | 0 => .object "MirrorBytes$Text"
  | 1 => .object "MirrorBytes$Parser"
  | 2 => .object "MirrorBytes$Situation"
  | 3 => .object "MirrorBytes$History"
  | 4 => .array (.object "MirrorBytes$Situation")
  | 5 => .array .boolean
  | 6 => .object "MirrorBytes$Device"
  | _ => .object "MirrorBytes$Block"
abbrev wsX80 : List Cond := u_ws RX8 TX8 8
theorem nmX8 : ∀ a, a < 8 → ∀ b, b < 8 → a ≠ b → (TX8 a).2.1 ≠ (TX8 b).2.1 := by decide +kernel
theorem tyX8_ok : ∀ k, k < 8 → parseFieldDescriptor (TX8 k).2.2.1 = some (tyX8 k) := by decide +kernel
abbrev cX8_init : ByteArray := prog_1_method_1_code
def yX8_init : MethodName := ⟨RX8, "<init>", "()V"⟩
abbrev cX8_type : ByteArray := prog_1_method_2_code
def yX8_type : MethodName := ⟨RX8, "type", "(I)I"⟩
abbrev cX8_clear : ByteArray := prog_1_method_3_code
def yX8_clear : MethodName := ⟨RX8, "clear", "()I"⟩
abbrev cX8_tells : ByteArray := prog_1_method_4_code
def yX8_tells : MethodName := ⟨RX8, "tells", "()I"⟩
abbrev cX8_resets : ByteArray := prog_1_method_5_code
def yX8_resets : MethodName := ⟨RX8, "resets", "()I"⟩
abbrev cX8_reads : ByteArray := prog_1_method_6_code
def yX8_reads : MethodName := ⟨RX8, "reads", "(I)I"⟩
abbrev cX8_writes : ByteArray := prog_1_method_7_code
def yX8_writes : MethodName := ⟨RX8, "writes", "(II)I"⟩
abbrev cX8_sets : ByteArray := prog_1_method_8_code
def yX8_sets : MethodName := ⟨RX8, "sets", "(II)I"⟩
abbrev cX8_breaks : ByteArray := prog_1_method_9_code
def yX8_breaks : MethodName := ⟨RX8, "breaks", "(II)I"⟩
abbrev cX8_undo : ByteArray := prog_1_method_10_code
def yX8_undo : MethodName := ⟨RX8, "undo", "()I"⟩
abbrev cX8_field : ByteArray := prog_1_method_11_code
def yX8_field : MethodName := ⟨RX8, "field", "(II)I"⟩
abbrev cX8_register : ByteArray := prog_1_method_12_code
def yX8_register : MethodName := ⟨RX8, "register", "(II)I"⟩
abbrev cX8_alias : ByteArray := prog_1_method_13_code
def yX8_alias : MethodName := ⟨RX8, "alias", "(II)I"⟩
abbrev cX8_at : ByteArray := prog_1_method_14_code
def yX8_at : MethodName := ⟨RX8, "at", "(I)I"⟩
abbrev cX8_peek : ByteArray := prog_1_method_15_code
def yX8_peek : MethodName := ⟨RX8, "peek", "(II)I"⟩
abbrev cX8_differed : ByteArray := prog_1_method_16_code
def yX8_differed : MethodName := ⟨RX8, "differed", "(I)I"⟩
abbrev cX8_log : ByteArray := prog_1_method_17_code
def yX8_log : MethodName := ⟨RX8, "log", "(II)I"⟩
abbrev cX8_suspects : ByteArray := prog_1_method_18_code
def yX8_suspects : MethodName := ⟨RX8, "suspects", "(I)I"⟩
abbrev cX8_clashes : ByteArray := prog_1_method_19_code
def yX8_clashes : MethodName := ⟨RX8, "clashes", "(I)I"⟩
abbrev cX8_touched : ByteArray := prog_1_method_20_code
def yX8_touched : MethodName := ⟨RX8, "touched", "(II)I"⟩
abbrev cX8_way : ByteArray := prog_1_method_21_code
def yX8_way : MethodName := ⟨RX8, "way", "(II)I"⟩
abbrev cX8_walk : ByteArray := prog_1_method_22_code
def yX8_walk : MethodName := ⟨RX8, "walk", "(II)I"⟩
abbrev cX8_keep : ByteArray := prog_1_method_23_code
def yX8_keep : MethodName := ⟨RX8, "keep", "(I)I"⟩
abbrev cX8_back : ByteArray := prog_1_method_24_code
def yX8_back : MethodName := ⟨RX8, "back", "(I)I"⟩
abbrev cX8_count : ByteArray := prog_1_method_25_code
def yX8_count : MethodName := ⟨RX8, "count", "(I)I"⟩
abbrev cX8_isWithin : ByteArray := prog_1_method_26_code
def yX8_isWithin : MethodName := ⟨RX8, "isWithin", "(II)Z"⟩
abbrev cX8_changedBy : ByteArray := prog_1_method_27_code
def yX8_changedBy : MethodName := ⟨RX8, "changedBy", "(II)I"⟩
abbrev cX8_byteThatGives : ByteArray := prog_1_method_28_code
def yX8_byteThatGives : MethodName := ⟨RX8, "byteThatGives", "(III)I"⟩
abbrev cX8_wouldReadTheSame : ByteArray := prog_1_method_29_code
def yX8_wouldReadTheSame : MethodName := ⟨RX8, "wouldReadTheSame", "(II)Z"⟩
abbrev cX8_walkedBits : ByteArray := prog_1_method_30_code
def yX8_walkedBits : MethodName := ⟨RX8, "walkedBits", "(I)I"⟩
abbrev cX8_stepOfWalk : ByteArray := prog_1_method_31_code
def yX8_stepOfWalk : MethodName := ⟨RX8, "stepOfWalk", "(III)I"⟩
def RX9 : String := "MirrorBytesModel"
def TX9 : u_T := fun k => match k with
  | 0 => ("MirrorBytesModel", "told", "[I", true)
  | 1 => ("MirrorBytesModel", "draft", "[I", true)
  | 2 => ("MirrorBytesModel", "now", "[I", true)
  | 3 => ("MirrorBytesModel", "past", "[I", true)
  | 4 => ("MirrorBytesModel", "pasts", "I", false)
  | 5 => ("MirrorBytesModel", "images", "[I", true)
  | 6 => ("MirrorBytesModel", "isKept", "[Z", true)
  | 7 => ("MirrorBytesModel", "text", "[I", true)
  | 8 => ("MirrorBytesModel", "typed", "I", false)
  | 9 => ("MirrorBytesModel", "at", "I", false)
  | 10 => ("MirrorBytesModel", "tokenAt", "I", false)
  | 11 => ("MirrorBytesModel", "token", "I", false)
  | 12 => ("MirrorBytesModel", "value", "I", false)
  | _ => ("MirrorBytesModel", "fault", "I", false)
def tyX9 : Nat → FieldType := fun k => match k with
  | 0 => .array .int
  | 1 => .array .int
  | 2 => .array .int
  | 3 => .array .int
  | 4 => .int
  | 5 => .array .int
  | 6 => .array .boolean
  | 7 => .array .int
  | 8 => .int
  | 9 => .int
  | 10 => .int
  | 11 => .int
  | 12 => .int
  | _ => .int
abbrev wsX90 : List Cond := u_ws RX9 TX9 14
theorem nmX9 : ∀ a, a < 14 → ∀ b, b < 14 → a ≠ b → (TX9 a).2.1 ≠ (TX9 b).2.1 := by decide +kernel
theorem tyX9_ok : ∀ k, k < 14 → parseFieldDescriptor (TX9 k).2.2.1 = some (tyX9 k) := by decide +kernel
abbrev cX9_init : ByteArray := prog_11_method_1_code
def yX9_init : MethodName := ⟨RX9, "<init>", "()V"⟩
abbrev cX9_in : ByteArray := prog_11_method_2_code
def yX9_in : MethodName := ⟨RX9, "in", "(III)Z"⟩
abbrev cX9_fields : ByteArray := prog_11_method_3_code
def yX9_fields : MethodName := ⟨RX9, "fields", "()I"⟩
abbrev cX9_registers : ByteArray := prog_11_method_4_code
def yX9_registers : MethodName := ⟨RX9, "registers", "()I"⟩
abbrev cX9_isField : ByteArray := prog_11_method_5_code
def yX9_isField : MethodName := ⟨RX9, "isField", "(I)Z"⟩
abbrev cX9_isRegister : ByteArray := prog_11_method_6_code
def yX9_isRegister : MethodName := ⟨RX9, "isRegister", "(I)Z"⟩
abbrev cX9_most : ByteArray := prog_11_method_7_code
def yX9_most : MethodName := ⟨RX9, "most", "(I)I"⟩
abbrev cX9_bitsOf : ByteArray := prog_11_method_8_code
def yX9_bitsOf : MethodName := ⟨RX9, "bitsOf", "(I)I"⟩
abbrev cX9_reset : ByteArray := prog_11_method_9_code
def yX9_reset : MethodName := ⟨RX9, "reset", "(I)V"⟩
abbrev cX9_repair : ByteArray := prog_11_method_10_code
def yX9_repair : MethodName := ⟨RX9, "repair", "(I)V"⟩
abbrev cX9_begin : ByteArray := prog_11_method_11_code
def yX9_begin : MethodName := ⟨RX9, "begin", "()V"⟩
abbrev cX9_emptyLog : ByteArray := prog_11_method_12_code
def yX9_emptyLog : MethodName := ⟨RX9, "emptyLog", "()V"⟩
abbrev cX9_isLocked : ByteArray := prog_11_method_13_code
def yX9_isLocked : MethodName := ⟨RX9, "isLocked", "(II)Z"⟩
abbrev cX9_goesTo : ByteArray := prog_11_method_14_code
def yX9_goesTo : MethodName := ⟨RX9, "goesTo", "(I)I"⟩
abbrev cX9_registerOf : ByteArray := prog_11_method_15_code
def yX9_registerOf : MethodName := ⟨RX9, "registerOf", "(I)I"⟩
abbrev cX9_tellsOf : ByteArray := prog_11_method_16_code
def yX9_tellsOf : MethodName := ⟨RX9, "tellsOf", "(II)I"⟩
abbrev cX9_peekAt : ByteArray := prog_11_method_17_code
def yX9_peekAt : MethodName := ⟨RX9, "peekAt", "(II)I"⟩
abbrev cX9_clearRead : ByteArray := prog_11_method_18_code
def yX9_clearRead : MethodName := ⟨RX9, "clearRead", "(II)V"⟩
abbrev cX9_readOf : ByteArray := prog_11_method_19_code
def yX9_readOf : MethodName := ⟨RX9, "readOf", "(II)I"⟩
abbrev cX9_by : ByteArray := prog_11_method_20_code
def yX9_by : MethodName := ⟨RX9, "by", "(IIIZ)I"⟩
abbrev cX9_letIn : ByteArray := prog_11_method_21_code
def yX9_letIn : MethodName := ⟨RX9, "letIn", "(IIII)V"⟩
abbrev cX9_openGates : ByteArray := prog_11_method_22_code
def yX9_openGates : MethodName := ⟨RX9, "openGates", "(III)V"⟩
abbrev cX9_writeTo : ByteArray := prog_11_method_23_code
def yX9_writeTo : MethodName := ⟨RX9, "writeTo", "(III)V"⟩
abbrev cX9_copyMachine : ByteArray := prog_11_method_24_code
def yX9_copyMachine : MethodName := ⟨RX9, "copyMachine", "(II)V"⟩
abbrev cX9_otherFields : ByteArray := prog_11_method_25_code
def yX9_otherFields : MethodName := ⟨RX9, "otherFields", "(II)I"⟩
abbrev cX9_note : ByteArray := prog_11_method_26_code
def yX9_note : MethodName := ⟨RX9, "note", "()V"⟩
abbrev cX9_resets : ByteArray := prog_11_method_27_code
def yX9_resets : MethodName := ⟨RX9, "resets", "()I"⟩
abbrev cX9_logs : ByteArray := prog_11_method_28_code
def yX9_logs : MethodName := ⟨RX9, "logs", "(III)V"⟩
abbrev cX9_reads : ByteArray := prog_11_method_29_code
def yX9_reads : MethodName := ⟨RX9, "reads", "(I)I"⟩
abbrev cX9_writes : ByteArray := prog_11_method_30_code
def yX9_writes : MethodName := ⟨RX9, "writes", "(II)I"⟩
abbrev cX9_sets : ByteArray := prog_11_method_31_code
def yX9_sets : MethodName := ⟨RX9, "sets", "(II)I"⟩
abbrev cX9_breaks : ByteArray := prog_11_method_32_code
def yX9_breaks : MethodName := ⟨RX9, "breaks", "(II)I"⟩
abbrev cX9_undo : ByteArray := prog_11_method_33_code
def yX9_undo : MethodName := ⟨RX9, "undo", "()I"⟩
abbrev cX9_field : ByteArray := prog_11_method_34_code
def yX9_field : MethodName := ⟨RX9, "field", "(II)I"⟩
abbrev cX9_register : ByteArray := prog_11_method_35_code
def yX9_register : MethodName := ⟨RX9, "register", "(II)I"⟩
abbrev cX9_alias : ByteArray := prog_11_method_36_code
def yX9_alias : MethodName := ⟨RX9, "alias", "(II)I"⟩
abbrev cX9_at : ByteArray := prog_11_method_37_code
def yX9_at : MethodName := ⟨RX9, "at", "(I)I"⟩
abbrev cX9_peek : ByteArray := prog_11_method_38_code
def yX9_peek : MethodName := ⟨RX9, "peek", "(II)I"⟩
abbrev cX9_differed : ByteArray := prog_11_method_39_code
def yX9_differed : MethodName := ⟨RX9, "differed", "(I)I"⟩
abbrev cX9_log : ByteArray := prog_11_method_40_code
def yX9_log : MethodName := ⟨RX9, "log", "(II)I"⟩
abbrev cX9_wouldTell : ByteArray := prog_11_method_41_code
def yX9_wouldTell : MethodName := ⟨RX9, "wouldTell", "(II)Z"⟩
abbrev cX9_suspects : ByteArray := prog_11_method_42_code
def yX9_suspects : MethodName := ⟨RX9, "suspects", "(I)I"⟩
abbrev cX9_clashes : ByteArray := prog_11_method_43_code
def yX9_clashes : MethodName := ⟨RX9, "clashes", "(I)I"⟩
abbrev cX9_tryWrite : ByteArray := prog_11_method_44_code
def yX9_tryWrite : MethodName := ⟨RX9, "tryWrite", "(II)V"⟩
abbrev cX9_touched : ByteArray := prog_11_method_45_code
def yX9_touched : MethodName := ⟨RX9, "touched", "(II)I"⟩
abbrev cX9_way : ByteArray := prog_11_method_46_code
def yX9_way : MethodName := ⟨RX9, "way", "(II)I"⟩
abbrev cX9_isLockOrGate : ByteArray := prog_11_method_47_code
def yX9_isLockOrGate : MethodName := ⟨RX9, "isLockOrGate", "(II)Z"⟩
abbrev cX9_isWalked : ByteArray := prog_11_method_48_code
def yX9_isWalked : MethodName := ⟨RX9, "isWalked", "(I)Z"⟩
abbrev cX9_bitsBy : ByteArray := prog_11_method_49_code
def yX9_bitsBy : MethodName := ⟨RX9, "bitsBy", "(IZ)I"⟩
abbrev cX9_walk : ByteArray := prog_11_method_50_code
def yX9_walk : MethodName := ⟨RX9, "walk", "(II)I"⟩
abbrev cX9_keep : ByteArray := prog_11_method_51_code
def yX9_keep : MethodName := ⟨RX9, "keep", "(I)I"⟩
abbrev cX9_back : ByteArray := prog_11_method_52_code
def yX9_back : MethodName := ⟨RX9, "back", "(I)I"⟩
abbrev cX9_fieldBits : ByteArray := prog_11_method_53_code
def yX9_fieldBits : MethodName := ⟨RX9, "fieldBits", "()I"⟩
abbrev cX9_brokenMany : ByteArray := prog_11_method_54_code
def yX9_brokenMany : MethodName := ⟨RX9, "brokenMany", "()I"⟩
abbrev cX9_count : ByteArray := prog_11_method_55_code
def yX9_count : MethodName := ⟨RX9, "count", "(I)I"⟩
abbrev cX9_type : ByteArray := prog_11_method_56_code
def yX9_type : MethodName := ⟨RX9, "type", "(I)I"⟩
abbrev cX9_clear : ByteArray := prog_11_method_57_code
def yX9_clear : MethodName := ⟨RX9, "clear", "()I"⟩
abbrev cX9_isHere : ByteArray := prog_11_method_58_code
def yX9_isHere : MethodName := ⟨RX9, "isHere", "(II)Z"⟩
abbrev cX9_kindOf : ByteArray := prog_11_method_59_code
def yX9_kindOf : MethodName := ⟨RX9, "kindOf", "(I)I"⟩
abbrev cX9_next : ByteArray := prog_11_method_60_code
def yX9_next : MethodName := ⟨RX9, "next", "()V"⟩
abbrev cX9_must : ByteArray := prog_11_method_61_code
def yX9_must : MethodName := ⟨RX9, "must", "(Z)I"⟩
abbrev cX9_number : ByteArray := prog_11_method_62_code
def yX9_number : MethodName := ⟨RX9, "number", "(II)I"⟩
abbrev cX9_usedBits : ByteArray := prog_11_method_63_code
def yX9_usedBits : MethodName := ⟨RX9, "usedBits", "(I)I"⟩
abbrev cX9_readRegister : ByteArray := prog_11_method_64_code
def yX9_readRegister : MethodName := ⟨RX9, "readRegister", "()V"⟩
abbrev cX9_readField : ByteArray := prog_11_method_65_code
def yX9_readField : MethodName := ⟨RX9, "readField", "()V"⟩
abbrev cX9_readAlias : ByteArray := prog_11_method_66_code
def yX9_readAlias : MethodName := ⟨RX9, "readAlias", "()V"⟩
abbrev cX9_readLink : ByteArray := prog_11_method_67_code
def yX9_readLink : MethodName := ⟨RX9, "readLink", "(I)V"⟩
abbrev cX9_readItem : ByteArray := prog_11_method_68_code
def yX9_readItem : MethodName := ⟨RX9, "readItem", "()V"⟩
abbrev cX9_tells : ByteArray := prog_11_method_69_code
def yX9_tells : MethodName := ⟨RX9, "tells", "()I"⟩
def RJ6 : String := "java/lang/Integer"
def TJ6 : u_T := fun k => match k with
  | _ => ("", "", "", false)
def tyJ6 : Nat → FieldType := fun k => match k with
  | _ => .int
abbrev wsJ60 : List Cond := u_ws RJ6 TJ6 0
theorem nmJ6 : ∀ a, a < 0 → ∀ b, b < 0 → a ≠ b → (TJ6 a).2.1 ≠ (TJ6 b).2.1 := by decide +kernel
theorem tyJ6_ok : ∀ k, k < 0 → parseFieldDescriptor (TJ6 k).2.2.1 = some (tyJ6 k) := by decide +kernel
abbrev cJ6_bitCount_0f7a4 : ByteArray := prog_12_method_49_code
def yJ6_bitCount_0f7a4 : MethodName := ⟨RJ6, "bitCount", "(I)I"⟩
def RJ9 : String := "java/lang/Math"
def TJ9 : u_T := fun k => match k with
  | _ => ("", "", "", false)
def tyJ9 : Nat → FieldType := fun k => match k with
  | _ => .int
abbrev wsJ90 : List Cond := u_ws RJ9 TJ9 0
theorem nmJ9 : ∀ a, a < 0 → ∀ b, b < 0 → a ≠ b → (TJ9 a).2.1 ≠ (TJ9 b).2.1 := by decide +kernel
theorem tyJ9_ok : ∀ k, k < 0 → parseFieldDescriptor (TJ9 k).2.2.1 = some (tyJ9 k) := by decide +kernel
abbrev cJ9_min_7cf53 : ByteArray := prog_13_method_69_code
def yJ9_min_7cf53 : MethodName := ⟨RJ9, "min", "(II)I"⟩
def RJ10 : String := "java/lang/System"
def TJ10 : u_T := fun k => match k with
  | _ => ("", "", "", false)
def tyJ10 : Nat → FieldType := fun k => match k with
  | _ => .int
abbrev wsJ100 : List Cond := u_ws RJ10 TJ10 0
theorem nmJ10 : ∀ a, a < 0 → ∀ b, b < 0 → a ≠ b → (TJ10 a).2.1 ≠ (TJ10 b).2.1 := by decide +kernel
theorem tyJ10_ok : ∀ k, k < 0 → parseFieldDescriptor (TJ10 k).2.2.1 = some (tyJ10 k) := by decide +kernel
def RL : String := "MirrorBytesLaw"
abbrev cL_law : ByteArray := code
def yL_law : MethodName := ⟨RL, "law", "([I)Z"⟩
abbrev vwCl : List vw_C := [(RX0, TX0, 15), (RX1, TX1, 4), (RX2, TX2, 3), (RX3, TX3, 4), (RX4, TX4, 2), (RX5, TX5, 5), (RX6, TX6, 2), (RX7, TX7, 4), (RX8, TX8, 8), (RX9, TX9, 14)]
theorem inX0 : ∀ w ∈ wsX00, w ∈ lw_tbl := by decide +kernel
theorem inX1 : ∀ w ∈ wsX10, w ∈ lw_tbl := by decide +kernel
theorem inX2 : ∀ w ∈ wsX20, w ∈ lw_tbl := by decide +kernel
theorem inX3 : ∀ w ∈ wsX30, w ∈ lw_tbl := by decide +kernel
theorem inX4 : ∀ w ∈ wsX40, w ∈ lw_tbl := by decide +kernel
theorem inX5 : ∀ w ∈ wsX50, w ∈ lw_tbl := by decide +kernel
theorem inX6 : ∀ w ∈ wsX60, w ∈ lw_tbl := by decide +kernel
theorem inX7 : ∀ w ∈ wsX70, w ∈ lw_tbl := by decide +kernel
theorem inX8 : ∀ w ∈ wsX80, w ∈ lw_tbl := by decide +kernel
theorem inX9 : ∀ w ∈ wsX90, w ∈ lw_tbl := by decide +kernel
end
section
def gt : List Cond := lw_tbl.filter goodWord
theorem gm {w : Cond} {i : Nat} (h : lw_tbl[i]? = some w) (g : goodWord w = true) : w ∈ gt := List.mem_filter.mpr ⟨List.mem_of_getElem? h, g⟩
theorem gt_good {w : Cond} (h : w ∈ gt) : (w.onTables && w.keeps) = true ∨ ∃ ty, w = .arrayClass ty := good_of_word (List.mem_filter.mp h).2
theorem gt_tbl {w : Cond} (h : w ∈ gt) : w ∈ lw_tbl := (List.mem_filter.mp h).1
theorem gt_in {ws : List Cond} (h : ∀ w ∈ ws, w ∈ lw_tbl) (g : ws.all goodWord = true) : ∀ w ∈ ws, w ∈ gt := fun w hw => List.mem_filter.mpr ⟨h w hw, List.all_eq_true.mp g w hw⟩
theorem ig0 : ∀ w ∈ wsX00, w ∈ gt := gt_in inX0 (by decide +kernel)
theorem ig1 : ∀ w ∈ wsX10, w ∈ gt := gt_in inX1 (by decide +kernel)
theorem ig2 : ∀ w ∈ wsX20, w ∈ gt := gt_in inX2 (by decide +kernel)
theorem ig3 : ∀ w ∈ wsX30, w ∈ gt := gt_in inX3 (by decide +kernel)
theorem ig4 : ∀ w ∈ wsX40, w ∈ gt := gt_in inX4 (by decide +kernel)
theorem ig5 : ∀ w ∈ wsX50, w ∈ gt := gt_in inX5 (by decide +kernel)
theorem ig6 : ∀ w ∈ wsX60, w ∈ gt := gt_in inX6 (by decide +kernel)
theorem ig7 : ∀ w ∈ wsX70, w ∈ gt := gt_in inX7 (by decide +kernel)
theorem ig8 : ∀ w ∈ wsX80, w ∈ gt := gt_in inX8 (by decide +kernel)
theorem ig9 : ∀ w ∈ wsX90, w ∈ gt := gt_in inX9 (by decide +kernel)
theorem se_X8_changedBy : Cond.selects RX8 yX8_changedBy yX8_changedBy ∈ gt := gm (i := 0) (by decide +kernel) rfl
theorem se_X8_wouldReadTheSame : Cond.selects RX8 yX8_wouldReadTheSame yX8_wouldReadTheSame ∈ gt := gm (i := 1) (by decide +kernel) rfl
theorem se_X8_byteThatGives : Cond.selects RX8 yX8_byteThatGives yX8_byteThatGives ∈ gt := gm (i := 2) (by decide +kernel) rfl
theorem se_X8_walkedBits : Cond.selects RX8 yX8_walkedBits yX8_walkedBits ∈ gt := gm (i := 3) (by decide +kernel) rfl
theorem se_X8_stepOfWalk : Cond.selects RX8 yX8_stepOfWalk yX8_stepOfWalk ∈ gt := gm (i := 4) (by decide +kernel) rfl
theorem se_X9_begin : Cond.selects RX9 yX9_begin yX9_begin ∈ gt := gm (i := 5) (by decide +kernel) rfl
theorem se_X9_repair : Cond.selects RX9 yX9_repair yX9_repair ∈ gt := gm (i := 6) (by decide +kernel) rfl
theorem se_X9_fields : Cond.selects RX9 yX9_fields yX9_fields ∈ gt := gm (i := 7) (by decide +kernel) rfl
theorem se_X9_reset : Cond.selects RX9 yX9_reset yX9_reset ∈ gt := gm (i := 8) (by decide +kernel) rfl
theorem se_X9_emptyLog : Cond.selects RX9 yX9_emptyLog yX9_emptyLog ∈ gt := gm (i := 9) (by decide +kernel) rfl
theorem se_X9_note : Cond.selects RX9 yX9_note yX9_note ∈ gt := gm (i := 10) (by decide +kernel) rfl
theorem se_X9_goesTo : Cond.selects RX9 yX9_goesTo yX9_goesTo ∈ gt := gm (i := 11) (by decide +kernel) rfl
theorem se_X9_registers : Cond.selects RX9 yX9_registers yX9_registers ∈ gt := gm (i := 12) (by decide +kernel) rfl
theorem se_X9_peekAt : Cond.selects RX9 yX9_peekAt yX9_peekAt ∈ gt := gm (i := 13) (by decide +kernel) rfl
theorem se_X9_registerOf : Cond.selects RX9 yX9_registerOf yX9_registerOf ∈ gt := gm (i := 14) (by decide +kernel) rfl
theorem se_X9_tellsOf : Cond.selects RX9 yX9_tellsOf yX9_tellsOf ∈ gt := gm (i := 15) (by decide +kernel) rfl
theorem se_X9_readOf : Cond.selects RX9 yX9_readOf yX9_readOf ∈ gt := gm (i := 16) (by decide +kernel) rfl
theorem se_X9_clearRead : Cond.selects RX9 yX9_clearRead yX9_clearRead ∈ gt := gm (i := 17) (by decide +kernel) rfl
theorem se_X9_most : Cond.selects RX9 yX9_most yX9_most ∈ gt := gm (i := 18) (by decide +kernel) rfl
theorem se_X9_logs : Cond.selects RX9 yX9_logs yX9_logs ∈ gt := gm (i := 19) (by decide +kernel) rfl
theorem se_X9_copyMachine : Cond.selects RX9 yX9_copyMachine yX9_copyMachine ∈ gt := gm (i := 20) (by decide +kernel) rfl
theorem se_X9_writeTo : Cond.selects RX9 yX9_writeTo yX9_writeTo ∈ gt := gm (i := 21) (by decide +kernel) rfl
theorem se_X9_isLocked : Cond.selects RX9 yX9_isLocked yX9_isLocked ∈ gt := gm (i := 22) (by decide +kernel) rfl
theorem se_X9_letIn : Cond.selects RX9 yX9_letIn yX9_letIn ∈ gt := gm (i := 23) (by decide +kernel) rfl
theorem se_X9_openGates : Cond.selects RX9 yX9_openGates yX9_openGates ∈ gt := gm (i := 24) (by decide +kernel) rfl
theorem se_X9_otherFields : Cond.selects RX9 yX9_otherFields yX9_otherFields ∈ gt := gm (i := 25) (by decide +kernel) rfl
theorem se_X9_isField : Cond.selects RX9 yX9_isField yX9_isField ∈ gt := gm (i := 26) (by decide +kernel) rfl
theorem se_X9_isRegister : Cond.selects RX9 yX9_isRegister yX9_isRegister ∈ gt := gm (i := 27) (by decide +kernel) rfl
theorem se_X9_wouldTell : Cond.selects RX9 yX9_wouldTell yX9_wouldTell ∈ gt := gm (i := 28) (by decide +kernel) rfl
theorem se_X9_tryWrite : Cond.selects RX9 yX9_tryWrite yX9_tryWrite ∈ gt := gm (i := 29) (by decide +kernel) rfl
theorem se_X9_isWalked : Cond.selects RX9 yX9_isWalked yX9_isWalked ∈ gt := gm (i := 30) (by decide +kernel) rfl
theorem se_X9_isLockOrGate : Cond.selects RX9 yX9_isLockOrGate yX9_isLockOrGate ∈ gt := gm (i := 31) (by decide +kernel) rfl
theorem se_X9_bitsBy : Cond.selects RX9 yX9_bitsBy yX9_bitsBy ∈ gt := gm (i := 32) (by decide +kernel) rfl
theorem se_X9_bitsOf : Cond.selects RX9 yX9_bitsOf yX9_bitsOf ∈ gt := gm (i := 33) (by decide +kernel) rfl
theorem se_X9_fieldBits : Cond.selects RX9 yX9_fieldBits yX9_fieldBits ∈ gt := gm (i := 34) (by decide +kernel) rfl
theorem se_X9_brokenMany : Cond.selects RX9 yX9_brokenMany yX9_brokenMany ∈ gt := gm (i := 35) (by decide +kernel) rfl
theorem se_X9_next : Cond.selects RX9 yX9_next yX9_next ∈ gt := gm (i := 36) (by decide +kernel) rfl
theorem se_X9_isHere : Cond.selects RX9 yX9_isHere yX9_isHere ∈ gt := gm (i := 37) (by decide +kernel) rfl
theorem se_X9_readItem : Cond.selects RX9 yX9_readItem yX9_readItem ∈ gt := gm (i := 38) (by decide +kernel) rfl
theorem se_X9_must : Cond.selects RX9 yX9_must yX9_must ∈ gt := gm (i := 39) (by decide +kernel) rfl
theorem se_X9_readRegister : Cond.selects RX9 yX9_readRegister yX9_readRegister ∈ gt := gm (i := 40) (by decide +kernel) rfl
theorem se_X9_number : Cond.selects RX9 yX9_number yX9_number ∈ gt := gm (i := 41) (by decide +kernel) rfl
theorem se_X9_readField : Cond.selects RX9 yX9_readField yX9_readField ∈ gt := gm (i := 42) (by decide +kernel) rfl
theorem se_X9_usedBits : Cond.selects RX9 yX9_usedBits yX9_usedBits ∈ gt := gm (i := 43) (by decide +kernel) rfl
theorem se_X9_readAlias : Cond.selects RX9 yX9_readAlias yX9_readAlias ∈ gt := gm (i := 44) (by decide +kernel) rfl
theorem se_X9_readLink : Cond.selects RX9 yX9_readLink yX9_readLink ∈ gt := gm (i := 45) (by decide +kernel) rfl
theorem ini_L : Cond.initialized RL ∈ gt := gm (i := 46) (by decide +kernel) rfl
theorem ini_X8 : Cond.initialized RX8 ∈ gt := gm (i := 47) (by decide +kernel) rfl
theorem ini_X6 : Cond.initialized RX6 ∈ gt := gm (i := 48) (by decide +kernel) rfl
theorem ini_X4 : Cond.initialized RX4 ∈ gt := gm (i := 49) (by decide +kernel) rfl
theorem ini_X0 : Cond.initialized RX0 ∈ gt := gm (i := 50) (by decide +kernel) rfl
theorem ini_X7 : Cond.initialized RX7 ∈ gt := gm (i := 51) (by decide +kernel) rfl
theorem ini_X5 : Cond.initialized RX5 ∈ gt := gm (i := 52) (by decide +kernel) rfl
theorem ini_X1 : Cond.initialized RX1 ∈ gt := gm (i := 53) (by decide +kernel) rfl
theorem ini_X3 : Cond.initialized RX3 ∈ gt := gm (i := 54) (by decide +kernel) rfl
theorem ini_X2 : Cond.initialized RX2 ∈ gt := gm (i := 55) (by decide +kernel) rfl
theorem ini_X9 : Cond.initialized RX9 ∈ gt := gm (i := 56) (by decide +kernel) rfl
theorem ini_J10 : Cond.initialized RJ10 ∈ gt := gm (i := 57) (by decide +kernel) rfl
theorem ini_J9 : Cond.initialized RJ9 ∈ gt := gm (i := 58) (by decide +kernel) rfl
theorem ini_J6 : Cond.initialized RJ6 ∈ gt := gm (i := 59) (by decide +kernel) rfl
theorem cl_L_7 : Cond.classLink RL 7 RX8 ∈ gt := gm (i := 60) (by decide +kernel) rfl
theorem ia_X8 : Cond.instantiable RX8 8 ∈ gt := gm (i := 61) (by decide +kernel) rfl
theorem ml_L_9 : Cond.methodLink RL 9 yX8_init ∈ gt := gm (i := 62) (by decide +kernel) rfl
theorem im_X8_init : Cond.instanceMethod yX8_init ∈ gt := gm (i := 63) (by decide +kernel) rfl
theorem co_X8_init : Cond.code yX8_init cX8_init 2 none ∈ gt := gm (i := 64) (by decide +kernel) rfl
theorem mo_X8 : Cond.methodLink RX8 1 objectInit ∈ gt := gm (i := 65) (by decide +kernel) rfl
theorem cl_X8_7 : Cond.classLink RX8 7 RX6 ∈ gt := gm (i := 68) (by decide +kernel) rfl
theorem ia_X6 : Cond.instantiable RX6 2 ∈ gt := gm (i := 69) (by decide +kernel) rfl
theorem mn_X8_9 : Cond.methodLinkNest RX8 9 yX6_init "MirrorBytes" ∈ lw_tbl := List.mem_of_getElem? (i := 70) (by decide +kernel)
theorem im_X6_init : Cond.instanceMethod yX6_init ∈ gt := gm (i := 71) (by decide +kernel) rfl
theorem co_X6_init : Cond.code yX6_init cX6_init 1 none ∈ gt := gm (i := 72) (by decide +kernel) rfl
theorem mo_X6 : Cond.methodLink RX6 3 objectInit ∈ gt := gm (i := 73) (by decide +kernel) rfl
theorem fl_X6_9 : Cond.fieldLink RX6 9 "MirrorBytes$Text" "content" "[I" ∈ gt := gm (i := 74) (by decide +kernel) rfl
theorem fl_X7_27 : Cond.fieldLink RX7 27 "MirrorBytes$Text" "content" "[I" ∈ gt := gm (i := 75) (by decide +kernel) rfl
theorem fl_X6_15 : Cond.fieldLink RX6 15 "MirrorBytes$Text" "length" "I" ∈ gt := gm (i := 76) (by decide +kernel) rfl
theorem fl_X8_65 : Cond.fieldLink RX8 65 "MirrorBytes$Text" "length" "I" ∈ gt := gm (i := 77) (by decide +kernel) rfl
theorem fl_X7_22 : Cond.fieldLink RX7 22 "MirrorBytes$Text" "length" "I" ∈ gt := gm (i := 78) (by decide +kernel) rfl
theorem cl_X8_16 : Cond.classLink RX8 16 RX4 ∈ gt := gm (i := 85) (by decide +kernel) rfl
theorem ia_X4 : Cond.instantiable RX4 2 ∈ gt := gm (i := 86) (by decide +kernel) rfl
theorem ml_X8_18 : Cond.methodLink RX8 18 yX4_init ∈ gt := gm (i := 87) (by decide +kernel) rfl
theorem im_X4_init : Cond.instanceMethod yX4_init ∈ gt := gm (i := 88) (by decide +kernel) rfl
theorem co_X4_init : Cond.code yX4_init cX4_init 2 none ∈ gt := gm (i := 89) (by decide +kernel) rfl
theorem mo_X4 : Cond.methodLink RX4 3 objectInit ∈ gt := gm (i := 90) (by decide +kernel) rfl
theorem cl_X4_9 : Cond.classLink RX4 9 RX0 ∈ gt := gm (i := 91) (by decide +kernel) rfl
theorem ia_X0 : Cond.instantiable RX0 15 ∈ gt := gm (i := 92) (by decide +kernel) rfl
theorem mn_X4_11 : Cond.methodLinkNest RX4 11 yX0_init "MirrorBytes" ∈ lw_tbl := List.mem_of_getElem? (i := 93) (by decide +kernel)
theorem im_X0_init : Cond.instanceMethod yX0_init ∈ gt := gm (i := 94) (by decide +kernel) rfl
theorem co_X0_init : Cond.code yX0_init cX0_init 1 none ∈ gt := gm (i := 95) (by decide +kernel) rfl
theorem mo_X0 : Cond.methodLink RX0 3 objectInit ∈ gt := gm (i := 96) (by decide +kernel) rfl
theorem fl_X0_48 : Cond.fieldLink RX0 48 "MirrorBytes$Block" "registers" "I" ∈ gt := gm (i := 97) (by decide +kernel) rfl
theorem fl_X4_66 : Cond.fieldLink RX4 66 "MirrorBytes$Block" "registers" "I" ∈ gt := gm (i := 98) (by decide +kernel) rfl
theorem fl_X8_155 : Cond.fieldLink RX8 155 "MirrorBytes$Block" "registers" "I" ∈ gt := gm (i := 99) (by decide +kernel) rfl
theorem fl_X1_110 : Cond.fieldLink RX1 110 "MirrorBytes$Block" "registers" "I" ∈ gt := gm (i := 100) (by decide +kernel) rfl
theorem fl_X0_52 : Cond.fieldLink RX0 52 "MirrorBytes$Block" "fields" "I" ∈ gt := gm (i := 101) (by decide +kernel) rfl
theorem fl_X1_36 : Cond.fieldLink RX1 36 "MirrorBytes$Block" "fields" "I" ∈ gt := gm (i := 102) (by decide +kernel) rfl
theorem fl_X4_89 : Cond.fieldLink RX4 89 "MirrorBytes$Block" "fields" "I" ∈ gt := gm (i := 103) (by decide +kernel) rfl
theorem fl_X8_126 : Cond.fieldLink RX8 126 "MirrorBytes$Block" "fields" "I" ∈ gt := gm (i := 104) (by decide +kernel) rfl
theorem fl_X0_55 : Cond.fieldLink RX0 55 "MirrorBytes$Block" "aliases" "I" ∈ gt := gm (i := 105) (by decide +kernel) rfl
theorem fl_X4_119 : Cond.fieldLink RX4 119 "MirrorBytes$Block" "aliases" "I" ∈ gt := gm (i := 106) (by decide +kernel) rfl
theorem fl_X8_174 : Cond.fieldLink RX8 174 "MirrorBytes$Block" "aliases" "I" ∈ gt := gm (i := 107) (by decide +kernel) rfl
theorem fl_X0_9 : Cond.fieldLink RX0 9 "MirrorBytes$Block" "address" "[I" ∈ gt := gm (i := 108) (by decide +kernel) rfl
theorem fl_X4_73 : Cond.fieldLink RX4 73 "MirrorBytes$Block" "address" "[I" ∈ gt := gm (i := 109) (by decide +kernel) rfl
theorem fl_X8_158 : Cond.fieldLink RX8 158 "MirrorBytes$Block" "address" "[I" ∈ gt := gm (i := 110) (by decide +kernel) rfl
theorem fl_X0_15 : Cond.fieldLink RX0 15 "MirrorBytes$Block" "lock" "[I" ∈ gt := gm (i := 111) (by decide +kernel) rfl
theorem fl_X4_80 : Cond.fieldLink RX4 80 "MirrorBytes$Block" "lock" "[I" ∈ gt := gm (i := 112) (by decide +kernel) rfl
theorem fl_X1_59 : Cond.fieldLink RX1 59 "MirrorBytes$Block" "lock" "[I" ∈ gt := gm (i := 113) (by decide +kernel) rfl
theorem fl_X8_161 : Cond.fieldLink RX8 161 "MirrorBytes$Block" "lock" "[I" ∈ gt := gm (i := 114) (by decide +kernel) rfl
theorem fl_X0_18 : Cond.fieldLink RX0 18 "MirrorBytes$Block" "gate" "[I" ∈ gt := gm (i := 115) (by decide +kernel) rfl
theorem fl_X4_83 : Cond.fieldLink RX4 83 "MirrorBytes$Block" "gate" "[I" ∈ gt := gm (i := 116) (by decide +kernel) rfl
theorem fl_X8_164 : Cond.fieldLink RX8 164 "MirrorBytes$Block" "gate" "[I" ∈ gt := gm (i := 117) (by decide +kernel) rfl
theorem fl_X1_97 : Cond.fieldLink RX1 97 "MirrorBytes$Block" "gate" "[I" ∈ gt := gm (i := 118) (by decide +kernel) rfl
theorem fl_X0_21 : Cond.fieldLink RX0 21 "MirrorBytes$Block" "owner" "[I" ∈ gt := gm (i := 119) (by decide +kernel) rfl
theorem fl_X1_47 : Cond.fieldLink RX1 47 "MirrorBytes$Block" "owner" "[I" ∈ gt := gm (i := 120) (by decide +kernel) rfl
theorem fl_X4_95 : Cond.fieldLink RX4 95 "MirrorBytes$Block" "owner" "[I" ∈ gt := gm (i := 121) (by decide +kernel) rfl
theorem fl_X8_137 : Cond.fieldLink RX8 137 "MirrorBytes$Block" "owner" "[I" ∈ gt := gm (i := 122) (by decide +kernel) rfl
theorem fl_X0_24 : Cond.fieldLink RX0 24 "MirrorBytes$Block" "kind" "[I" ∈ gt := gm (i := 123) (by decide +kernel) rfl
theorem fl_X1_31 : Cond.fieldLink RX1 31 "MirrorBytes$Block" "kind" "[I" ∈ gt := gm (i := 124) (by decide +kernel) rfl
theorem fl_X4_98 : Cond.fieldLink RX4 98 "MirrorBytes$Block" "kind" "[I" ∈ gt := gm (i := 125) (by decide +kernel) rfl
theorem fl_X8_146 : Cond.fieldLink RX8 146 "MirrorBytes$Block" "kind" "[I" ∈ gt := gm (i := 126) (by decide +kernel) rfl
theorem fl_X0_27 : Cond.fieldLink RX0 27 "MirrorBytes$Block" "low" "[I" ∈ gt := gm (i := 127) (by decide +kernel) rfl
theorem fl_X1_53 : Cond.fieldLink RX1 53 "MirrorBytes$Block" "low" "[I" ∈ gt := gm (i := 128) (by decide +kernel) rfl
theorem fl_X4_107 : Cond.fieldLink RX4 107 "MirrorBytes$Block" "low" "[I" ∈ gt := gm (i := 129) (by decide +kernel) rfl
theorem fl_X8_140 : Cond.fieldLink RX8 140 "MirrorBytes$Block" "low" "[I" ∈ gt := gm (i := 130) (by decide +kernel) rfl
theorem fl_X0_30 : Cond.fieldLink RX0 30 "MirrorBytes$Block" "high" "[I" ∈ gt := gm (i := 131) (by decide +kernel) rfl
theorem fl_X4_110 : Cond.fieldLink RX4 110 "MirrorBytes$Block" "high" "[I" ∈ gt := gm (i := 132) (by decide +kernel) rfl
theorem fl_X8_143 : Cond.fieldLink RX8 143 "MirrorBytes$Block" "high" "[I" ∈ gt := gm (i := 133) (by decide +kernel) rfl
theorem fl_X0_33 : Cond.fieldLink RX0 33 "MirrorBytes$Block" "mask" "[I" ∈ gt := gm (i := 134) (by decide +kernel) rfl
theorem fl_X1_50 : Cond.fieldLink RX1 50 "MirrorBytes$Block" "mask" "[I" ∈ gt := gm (i := 135) (by decide +kernel) rfl
theorem fl_X4_113 : Cond.fieldLink RX4 113 "MirrorBytes$Block" "mask" "[I" ∈ gt := gm (i := 136) (by decide +kernel) rfl
theorem fl_X8_259 : Cond.fieldLink RX8 259 "MirrorBytes$Block" "mask" "[I" ∈ gt := gm (i := 137) (by decide +kernel) rfl
theorem fl_X0_36 : Cond.fieldLink RX0 36 "MirrorBytes$Block" "initial" "[I" ∈ gt := gm (i := 138) (by decide +kernel) rfl
theorem fl_X1_40 : Cond.fieldLink RX1 40 "MirrorBytes$Block" "initial" "[I" ∈ gt := gm (i := 139) (by decide +kernel) rfl
theorem fl_X4_116 : Cond.fieldLink RX4 116 "MirrorBytes$Block" "initial" "[I" ∈ gt := gm (i := 140) (by decide +kernel) rfl
theorem fl_X8_149 : Cond.fieldLink RX8 149 "MirrorBytes$Block" "initial" "[I" ∈ gt := gm (i := 141) (by decide +kernel) rfl
theorem fl_X0_39 : Cond.fieldLink RX0 39 "MirrorBytes$Block" "aliasAddress" "[I" ∈ gt := gm (i := 142) (by decide +kernel) rfl
theorem fl_X4_122 : Cond.fieldLink RX4 122 "MirrorBytes$Block" "aliasAddress" "[I" ∈ gt := gm (i := 143) (by decide +kernel) rfl
theorem fl_X8_177 : Cond.fieldLink RX8 177 "MirrorBytes$Block" "aliasAddress" "[I" ∈ gt := gm (i := 144) (by decide +kernel) rfl
theorem fl_X0_42 : Cond.fieldLink RX0 42 "MirrorBytes$Block" "aliasRegister" "[I" ∈ gt := gm (i := 145) (by decide +kernel) rfl
theorem fl_X4_125 : Cond.fieldLink RX4 125 "MirrorBytes$Block" "aliasRegister" "[I" ∈ gt := gm (i := 146) (by decide +kernel) rfl
theorem fl_X8_180 : Cond.fieldLink RX8 180 "MirrorBytes$Block" "aliasRegister" "[I" ∈ gt := gm (i := 147) (by decide +kernel) rfl
theorem fl_X0_45 : Cond.fieldLink RX0 45 "MirrorBytes$Block" "aliasKind" "[I" ∈ gt := gm (i := 148) (by decide +kernel) rfl
theorem fl_X4_132 : Cond.fieldLink RX4 132 "MirrorBytes$Block" "aliasKind" "[I" ∈ gt := gm (i := 149) (by decide +kernel) rfl
theorem fl_X8_183 : Cond.fieldLink RX8 183 "MirrorBytes$Block" "aliasKind" "[I" ∈ gt := gm (i := 150) (by decide +kernel) rfl
theorem fl_X1_90 : Cond.fieldLink RX1 90 "MirrorBytes$Block" "aliasKind" "[I" ∈ gt := gm (i := 151) (by decide +kernel) rfl
theorem cl_X4_18 : Cond.classLink RX4 18 RX7 ∈ gt := gm (i := 183) (by decide +kernel) rfl
theorem ia_X7 : Cond.instantiable RX7 4 ∈ gt := gm (i := 184) (by decide +kernel) rfl
theorem ml_X4_20 : Cond.methodLink RX4 20 yX7_init ∈ gt := gm (i := 185) (by decide +kernel) rfl
theorem im_X7_init : Cond.instanceMethod yX7_init ∈ gt := gm (i := 186) (by decide +kernel) rfl
theorem co_X7_init : Cond.code yX7_init cX7_init 2 none ∈ gt := gm (i := 187) (by decide +kernel) rfl
theorem mo_X7 : Cond.methodLink RX7 3 objectInit ∈ gt := gm (i := 188) (by decide +kernel) rfl
theorem fl_X7_9 : Cond.fieldLink RX7 9 "MirrorBytes$Tokens" "text" "LMirrorBytes$Text;" ∈ gt := gm (i := 189) (by decide +kernel) rfl
theorem fl_X7_19 : Cond.fieldLink RX7 19 "MirrorBytes$Tokens" "start" "I" ∈ gt := gm (i := 190) (by decide +kernel) rfl
theorem fl_X4_44 : Cond.fieldLink RX4 44 "MirrorBytes$Tokens" "start" "I" ∈ gt := gm (i := 191) (by decide +kernel) rfl
theorem fl_X7_15 : Cond.fieldLink RX7 15 "MirrorBytes$Tokens" "end" "I" ∈ gt := gm (i := 192) (by decide +kernel) rfl
theorem fl_X4_36 : Cond.fieldLink RX4 36 "MirrorBytes$Tokens" "sort" "I" ∈ gt := gm (i := 193) (by decide +kernel) rfl
theorem fl_X7_31 : Cond.fieldLink RX7 31 "MirrorBytes$Tokens" "sort" "I" ∈ gt := gm (i := 194) (by decide +kernel) rfl
theorem fl_X4_23 : Cond.fieldLink RX4 23 "MirrorBytes$Parser" "tokens" "LMirrorBytes$Tokens;" ∈ gt := gm (i := 204) (by decide +kernel) rfl
theorem fl_X4_12 : Cond.fieldLink RX4 12 "MirrorBytes$Parser" "block" "LMirrorBytes$Block;" ∈ gt := gm (i := 205) (by decide +kernel) rfl
theorem cl_X8_25 : Cond.classLink RX8 25 RX5 ∈ gt := gm (i := 211) (by decide +kernel) rfl
theorem ia_X5 : Cond.instantiable RX5 5 ∈ gt := gm (i := 212) (by decide +kernel) rfl
theorem mn_X8_27 : Cond.methodLinkNest RX8 27 yX5_init "MirrorBytes" ∈ lw_tbl := List.mem_of_getElem? (i := 213) (by decide +kernel)
theorem im_X5_init : Cond.instanceMethod yX5_init ∈ gt := gm (i := 214) (by decide +kernel) rfl
theorem co_X5_init : Cond.code yX5_init cX5_init 1 none ∈ gt := gm (i := 215) (by decide +kernel) rfl
theorem mo_X5 : Cond.methodLink RX5 3 objectInit ∈ gt := gm (i := 216) (by decide +kernel) rfl
theorem cl_X5_9 : Cond.classLink RX5 9 RX1 ∈ gt := gm (i := 217) (by decide +kernel) rfl
theorem ia_X1 : Cond.instantiable RX1 4 ∈ gt := gm (i := 218) (by decide +kernel) rfl
theorem mn_X5_11 : Cond.methodLinkNest RX5 11 yX1_init "MirrorBytes" ∈ lw_tbl := List.mem_of_getElem? (i := 219) (by decide +kernel)
theorem im_X1_init : Cond.instanceMethod yX1_init ∈ gt := gm (i := 220) (by decide +kernel) rfl
theorem co_X1_init : Cond.code yX1_init cX1_init 1 none ∈ gt := gm (i := 221) (by decide +kernel) rfl
theorem mo_X1 : Cond.methodLink RX1 3 objectInit ∈ gt := gm (i := 222) (by decide +kernel) rfl
theorem fl_X1_9 : Cond.fieldLink RX1 9 "MirrorBytes$Device" "content" "[I" ∈ gt := gm (i := 223) (by decide +kernel) rfl
theorem fl_X8_262 : Cond.fieldLink RX8 262 "MirrorBytes$Device" "content" "[I" ∈ gt := gm (i := 224) (by decide +kernel) rfl
theorem fl_X1_15 : Cond.fieldLink RX1 15 "MirrorBytes$Device" "held" "[I" ∈ gt := gm (i := 225) (by decide +kernel) rfl
theorem fl_X8_171 : Cond.fieldLink RX8 171 "MirrorBytes$Device" "held" "[I" ∈ gt := gm (i := 226) (by decide +kernel) rfl
theorem fl_X1_18 : Cond.fieldLink RX1 18 "MirrorBytes$Device" "entered" "[Z" ∈ gt := gm (i := 227) (by decide +kernel) rfl
theorem fl_X1_22 : Cond.fieldLink RX1 22 "MirrorBytes$Device" "kinds" "[I" ∈ gt := gm (i := 228) (by decide +kernel) rfl
theorem fl_X8_129 : Cond.fieldLink RX8 129 "MirrorBytes$Device" "kinds" "[I" ∈ gt := gm (i := 229) (by decide +kernel) rfl
theorem cl_X5_21 : Cond.classLink RX5 21 RX3 ∈ gt := gm (i := 240) (by decide +kernel) rfl
theorem ia_X3 : Cond.instantiable RX3 4 ∈ gt := gm (i := 241) (by decide +kernel) rfl
theorem mn_X5_23 : Cond.methodLinkNest RX5 23 yX3_init "MirrorBytes" ∈ lw_tbl := List.mem_of_getElem? (i := 242) (by decide +kernel)
theorem im_X3_init : Cond.instanceMethod yX3_init ∈ gt := gm (i := 243) (by decide +kernel) rfl
theorem co_X3_init : Cond.code yX3_init cX3_init 1 none ∈ gt := gm (i := 244) (by decide +kernel) rfl
theorem mo_X3 : Cond.methodLink RX3 3 objectInit ∈ gt := gm (i := 245) (by decide +kernel) rfl
theorem fl_X3_22 : Cond.fieldLink RX3 22 "MirrorBytes$Journal" "length" "I" ∈ gt := gm (i := 246) (by decide +kernel) rfl
theorem fl_X5_50 : Cond.fieldLink RX5 50 "MirrorBytes$Journal" "length" "I" ∈ gt := gm (i := 247) (by decide +kernel) rfl
theorem fl_X8_96 : Cond.fieldLink RX8 96 "MirrorBytes$Journal" "length" "I" ∈ gt := gm (i := 248) (by decide +kernel) rfl
theorem fl_X3_9 : Cond.fieldLink RX3 9 "MirrorBytes$Journal" "address" "[I" ∈ gt := gm (i := 249) (by decide +kernel) rfl
theorem fl_X8_202 : Cond.fieldLink RX8 202 "MirrorBytes$Journal" "address" "[I" ∈ gt := gm (i := 250) (by decide +kernel) rfl
theorem fl_X3_15 : Cond.fieldLink RX3 15 "MirrorBytes$Journal" "isWrite" "[Z" ∈ gt := gm (i := 251) (by decide +kernel) rfl
theorem fl_X8_203 : Cond.fieldLink RX8 203 "MirrorBytes$Journal" "isWrite" "[Z" ∈ gt := gm (i := 252) (by decide +kernel) rfl
theorem fl_X3_19 : Cond.fieldLink RX3 19 "MirrorBytes$Journal" "content" "[I" ∈ gt := gm (i := 253) (by decide +kernel) rfl
theorem fl_X8_206 : Cond.fieldLink RX8 206 "MirrorBytes$Journal" "content" "[I" ∈ gt := gm (i := 254) (by decide +kernel) rfl
theorem fl_X5_12 : Cond.fieldLink RX5 12 "MirrorBytes$Situation" "device" "LMirrorBytes$Device;" ∈ gt := gm (i := 264) (by decide +kernel) rfl
theorem fl_X8_117 : Cond.fieldLink RX8 117 "MirrorBytes$Situation" "device" "LMirrorBytes$Device;" ∈ gt := gm (i := 265) (by decide +kernel) rfl
theorem fl_X5_18 : Cond.fieldLink RX5 18 "MirrorBytes$Situation" "mirror" "LMirrorBytes$Device;" ∈ gt := gm (i := 266) (by decide +kernel) rfl
theorem fl_X8_152 : Cond.fieldLink RX8 152 "MirrorBytes$Situation" "mirror" "LMirrorBytes$Device;" ∈ gt := gm (i := 267) (by decide +kernel) rfl
theorem fl_X5_24 : Cond.fieldLink RX5 24 "MirrorBytes$Situation" "journal" "LMirrorBytes$Journal;" ∈ gt := gm (i := 268) (by decide +kernel) rfl
theorem fl_X8_92 : Cond.fieldLink RX8 92 "MirrorBytes$Situation" "journal" "LMirrorBytes$Journal;" ∈ gt := gm (i := 269) (by decide +kernel) rfl
theorem fl_X5_39 : Cond.fieldLink RX5 39 "MirrorBytes$Situation" "differing" "I" ∈ gt := gm (i := 270) (by decide +kernel) rfl
theorem fl_X8_196 : Cond.fieldLink RX8 196 "MirrorBytes$Situation" "differing" "I" ∈ gt := gm (i := 271) (by decide +kernel) rfl
theorem fl_X5_28 : Cond.fieldLink RX5 28 "MirrorBytes$Situation" "latestDifference" "I" ∈ gt := gm (i := 272) (by decide +kernel) rfl
theorem fl_X8_199 : Cond.fieldLink RX8 199 "MirrorBytes$Situation" "latestDifference" "I" ∈ gt := gm (i := 273) (by decide +kernel) rfl
theorem cl_X8_32 : Cond.classLink RX8 32 RX2 ∈ gt := gm (i := 285) (by decide +kernel) rfl
theorem ia_X2 : Cond.instantiable RX2 3 ∈ gt := gm (i := 286) (by decide +kernel) rfl
theorem ml_X8_34 : Cond.methodLink RX8 34 yX2_init ∈ gt := gm (i := 287) (by decide +kernel) rfl
theorem im_X2_init : Cond.instanceMethod yX2_init ∈ gt := gm (i := 288) (by decide +kernel) rfl
theorem co_X2_init : Cond.code yX2_init cX2_init 2 none ∈ gt := gm (i := 289) (by decide +kernel) rfl
theorem mo_X2 : Cond.methodLink RX2 3 objectInit ∈ gt := gm (i := 290) (by decide +kernel) rfl
theorem cl_X2_9 : Cond.classLink RX2 9 RX5 ∈ gt := gm (i := 291) (by decide +kernel) rfl
theorem mn_X2_17 : Cond.methodLinkNest RX2 17 yX5_init "MirrorBytes" ∈ lw_tbl := List.mem_of_getElem? (i := 293) (by decide +kernel)
theorem fl_X2_11 : Cond.fieldLink RX2 11 "MirrorBytes$History" "before" "[LMirrorBytes$Situation;" ∈ gt := gm (i := 294) (by decide +kernel) rfl
theorem fl_X2_22 : Cond.fieldLink RX2 22 "MirrorBytes$History" "next" "I" ∈ gt := gm (i := 295) (by decide +kernel) rfl
theorem fl_X2_18 : Cond.fieldLink RX2 18 "MirrorBytes$History" "length" "I" ∈ gt := gm (i := 296) (by decide +kernel) rfl
theorem fl_X8_133 : Cond.fieldLink RX8 133 "MirrorBytes$History" "length" "I" ∈ gt := gm (i := 297) (by decide +kernel) rfl
theorem cl_X8_47 : Cond.classLink RX8 47 RX1 ∈ gt := gm (i := 305) (by decide +kernel) rfl
theorem mn_X8_49 : Cond.methodLinkNest RX8 49 yX1_init "MirrorBytes" ∈ lw_tbl := List.mem_of_getElem? (i := 306) (by decide +kernel)
theorem cl_X8_54 : Cond.classLink RX8 54 RX0 ∈ gt := gm (i := 307) (by decide +kernel) rfl
theorem mn_X8_56 : Cond.methodLinkNest RX8 56 yX0_init "MirrorBytes" ∈ lw_tbl := List.mem_of_getElem? (i := 308) (by decide +kernel)
theorem fl_X8_10 : Cond.fieldLink RX8 10 "MirrorBytes" "text" "LMirrorBytes$Text;" ∈ gt := gm (i := 309) (by decide +kernel) rfl
theorem fl_X8_21 : Cond.fieldLink RX8 21 "MirrorBytes" "parser" "LMirrorBytes$Parser;" ∈ gt := gm (i := 310) (by decide +kernel) rfl
theorem fl_X8_28 : Cond.fieldLink RX8 28 "MirrorBytes" "now" "LMirrorBytes$Situation;" ∈ gt := gm (i := 311) (by decide +kernel) rfl
theorem fl_X8_35 : Cond.fieldLink RX8 35 "MirrorBytes" "history" "LMirrorBytes$History;" ∈ gt := gm (i := 312) (by decide +kernel) rfl
theorem fl_X8_39 : Cond.fieldLink RX8 39 "MirrorBytes" "images" "[LMirrorBytes$Situation;" ∈ gt := gm (i := 313) (by decide +kernel) rfl
theorem fl_X8_43 : Cond.fieldLink RX8 43 "MirrorBytes" "imageHeld" "[Z" ∈ gt := gm (i := 314) (by decide +kernel) rfl
theorem fl_X8_50 : Cond.fieldLink RX8 50 "MirrorBytes" "trial" "LMirrorBytes$Device;" ∈ gt := gm (i := 315) (by decide +kernel) rfl
theorem fl_X8_57 : Cond.fieldLink RX8 57 "MirrorBytes" "block" "LMirrorBytes$Block;" ∈ gt := gm (i := 316) (by decide +kernel) rfl
theorem ml_L_13 : Cond.methodLink RL 13 yX8_type ∈ gt := gm (i := 334) (by decide +kernel) rfl
theorem im_X8_type : Cond.instanceMethod yX8_type ∈ gt := gm (i := 335) (by decide +kernel) rfl
theorem se_X8_type : Cond.selects RX8 yX8_type yX8_type ∈ gt := gm (i := 336) (by decide +kernel) rfl
theorem co_X8_type : Cond.code yX8_type cX8_type 2 (some .int) ∈ gt := gm (i := 337) (by decide +kernel) rfl
theorem ml_X8_61 : Cond.methodLink RX8 61 yX8_isWithin ∈ gt := gm (i := 338) (by decide +kernel) rfl
theorem st_X8_isWithin : Cond.static yX8_isWithin ∈ gt := gm (i := 339) (by decide +kernel) rfl
theorem co_X8_isWithin : Cond.code yX8_isWithin cX8_isWithin 2 (some .boolean) ∈ gt := gm (i := 340) (by decide +kernel) rfl
theorem ml_X8_69 : Cond.methodLink RX8 69 yX6_append ∈ gt := gm (i := 341) (by decide +kernel) rfl
theorem im_X6_append : Cond.instanceMethod yX6_append ∈ gt := gm (i := 342) (by decide +kernel) rfl
theorem se_X6_append : Cond.selects RX6 yX6_append yX6_append ∈ gt := gm (i := 343) (by decide +kernel) rfl
theorem co_X6_append : Cond.code yX6_append cX6_append 2 none ∈ gt := gm (i := 344) (by decide +kernel) rfl
theorem ml_L_18 : Cond.methodLink RL 18 yX8_clear ∈ gt := gm (i := 345) (by decide +kernel) rfl
theorem im_X8_clear : Cond.instanceMethod yX8_clear ∈ gt := gm (i := 346) (by decide +kernel) rfl
theorem se_X8_clear : Cond.selects RX8 yX8_clear yX8_clear ∈ gt := gm (i := 347) (by decide +kernel) rfl
theorem co_X8_clear : Cond.code yX8_clear cX8_clear 2 (some .int) ∈ gt := gm (i := 348) (by decide +kernel) rfl
theorem ml_L_23 : Cond.methodLink RL 23 yX8_tells ∈ gt := gm (i := 349) (by decide +kernel) rfl
theorem im_X8_tells : Cond.instanceMethod yX8_tells ∈ gt := gm (i := 350) (by decide +kernel) rfl
theorem se_X8_tells : Cond.selects RX8 yX8_tells yX8_tells ∈ gt := gm (i := 351) (by decide +kernel) rfl
theorem co_X8_tells : Cond.code yX8_tells cX8_tells 3 (some .int) ∈ gt := gm (i := 352) (by decide +kernel) rfl
theorem ml_X8_73 : Cond.methodLink RX8 73 yX4_parse ∈ gt := gm (i := 353) (by decide +kernel) rfl
theorem im_X4_parse : Cond.instanceMethod yX4_parse ∈ gt := gm (i := 354) (by decide +kernel) rfl
theorem se_X4_parse : Cond.selects RX4 yX4_parse yX4_parse ∈ gt := gm (i := 355) (by decide +kernel) rfl
theorem co_X4_parse : Cond.code yX4_parse cX4_parse 2 (some .int) ∈ gt := gm (i := 356) (by decide +kernel) rfl
theorem ml_X4_27 : Cond.methodLink RX4 27 yX0_empty ∈ gt := gm (i := 357) (by decide +kernel) rfl
theorem im_X0_empty : Cond.instanceMethod yX0_empty ∈ gt := gm (i := 358) (by decide +kernel) rfl
theorem se_X0_empty : Cond.selects RX0 yX0_empty yX0_empty ∈ gt := gm (i := 359) (by decide +kernel) rfl
theorem co_X0_empty : Cond.code yX0_empty cX0_empty 1 none ∈ gt := gm (i := 360) (by decide +kernel) rfl
theorem ml_X4_30 : Cond.methodLink RX4 30 yX7_rewind ∈ gt := gm (i := 361) (by decide +kernel) rfl
theorem im_X7_rewind : Cond.instanceMethod yX7_rewind ∈ gt := gm (i := 362) (by decide +kernel) rfl
theorem se_X7_rewind : Cond.selects RX7 yX7_rewind yX7_rewind ∈ gt := gm (i := 363) (by decide +kernel) rfl
theorem co_X7_rewind : Cond.code yX7_rewind cX7_rewind 1 none ∈ gt := gm (i := 364) (by decide +kernel) rfl
theorem ml_X4_33 : Cond.methodLink RX4 33 yX7_advance ∈ gt := gm (i := 365) (by decide +kernel) rfl
theorem im_X7_advance : Cond.instanceMethod yX7_advance ∈ gt := gm (i := 366) (by decide +kernel) rfl
theorem se_X7_advance : Cond.selects RX7 yX7_advance yX7_advance ∈ gt := gm (i := 367) (by decide +kernel) rfl
theorem co_X7_advance : Cond.code yX7_advance cX7_advance 1 none ∈ gt := gm (i := 368) (by decide +kernel) rfl
theorem ml_X7_34 : Cond.methodLink RX7 34 yX6_isLetter ∈ gt := gm (i := 369) (by decide +kernel) rfl
theorem im_X6_isLetter : Cond.instanceMethod yX6_isLetter ∈ gt := gm (i := 370) (by decide +kernel) rfl
theorem se_X6_isLetter : Cond.selects RX6 yX6_isLetter yX6_isLetter ∈ gt := gm (i := 371) (by decide +kernel) rfl
theorem co_X6_isLetter : Cond.code yX6_isLetter cX6_isLetter 2 (some .boolean) ∈ gt := gm (i := 372) (by decide +kernel) rfl
theorem ml_X7_38 : Cond.methodLink RX7 38 yX6_isDigit ∈ gt := gm (i := 373) (by decide +kernel) rfl
theorem im_X6_isDigit : Cond.instanceMethod yX6_isDigit ∈ gt := gm (i := 374) (by decide +kernel) rfl
theorem se_X6_isDigit : Cond.selects RX6 yX6_isDigit yX6_isDigit ∈ gt := gm (i := 375) (by decide +kernel) rfl
theorem co_X6_isDigit : Cond.code yX6_isDigit cX6_isDigit 2 (some .boolean) ∈ gt := gm (i := 376) (by decide +kernel) rfl
theorem ml_X4_40 : Cond.methodLink RX4 40 yX4_readItem ∈ gt := gm (i := 377) (by decide +kernel) rfl
theorem im_X4_readItem : Cond.instanceMethod yX4_readItem ∈ gt := gm (i := 378) (by decide +kernel) rfl
theorem se_X4_readItem : Cond.selects RX4 yX4_readItem yX4_readItem ∈ gt := gm (i := 379) (by decide +kernel) rfl
theorem co_X4_readItem : Cond.code yX4_readItem cX4_readItem 1 (some .boolean) ∈ gt := gm (i := 380) (by decide +kernel) rfl
theorem ml_X4_47 : Cond.methodLink RX4 47 yX7_letter ∈ gt := gm (i := 381) (by decide +kernel) rfl
theorem im_X7_letter : Cond.instanceMethod yX7_letter ∈ gt := gm (i := 382) (by decide +kernel) rfl
theorem se_X7_letter : Cond.selects RX7 yX7_letter yX7_letter ∈ gt := gm (i := 383) (by decide +kernel) rfl
theorem co_X7_letter : Cond.code yX7_letter cX7_letter 1 (some .int) ∈ gt := gm (i := 384) (by decide +kernel) rfl
theorem ml_X4_51 : Cond.methodLink RX4 51 yX4_readRegister ∈ gt := gm (i := 385) (by decide +kernel) rfl
theorem im_X4_readRegister : Cond.instanceMethod yX4_readRegister ∈ gt := gm (i := 386) (by decide +kernel) rfl
theorem se_X4_readRegister : Cond.selects RX4 yX4_readRegister yX4_readRegister ∈ gt := gm (i := 387) (by decide +kernel) rfl
theorem co_X4_readRegister : Cond.code yX4_readRegister cX4_readRegister 2 (some .boolean) ∈ gt := gm (i := 388) (by decide +kernel) rfl
theorem ml_X4_69 : Cond.methodLink RX4 69 yX4_takeNumber ∈ gt := gm (i := 389) (by decide +kernel) rfl
theorem im_X4_takeNumber : Cond.instanceMethod yX4_takeNumber ∈ gt := gm (i := 390) (by decide +kernel) rfl
theorem se_X4_takeNumber : Cond.selects RX4 yX4_takeNumber yX4_takeNumber ∈ gt := gm (i := 391) (by decide +kernel) rfl
theorem co_X4_takeNumber : Cond.code yX4_takeNumber cX4_takeNumber 4 (some .boolean) ∈ gt := gm (i := 392) (by decide +kernel) rfl
theorem ml_X4_77 : Cond.methodLink RX4 77 yX7_number ∈ gt := gm (i := 393) (by decide +kernel) rfl
theorem im_X7_number : Cond.instanceMethod yX7_number ∈ gt := gm (i := 394) (by decide +kernel) rfl
theorem se_X7_number : Cond.selects RX7 yX7_number yX7_number ∈ gt := gm (i := 395) (by decide +kernel) rfl
theorem co_X7_number : Cond.code yX7_number cX7_number 4 (some .int) ∈ gt := gm (i := 396) (by decide +kernel) rfl
theorem ml_X4_86 : Cond.methodLink RX4 86 yX4_takeSemicolon ∈ gt := gm (i := 397) (by decide +kernel) rfl
theorem im_X4_takeSemicolon : Cond.instanceMethod yX4_takeSemicolon ∈ gt := gm (i := 398) (by decide +kernel) rfl
theorem se_X4_takeSemicolon : Cond.selects RX4 yX4_takeSemicolon yX4_takeSemicolon ∈ gt := gm (i := 399) (by decide +kernel) rfl
theorem co_X4_takeSemicolon : Cond.code yX4_takeSemicolon cX4_takeSemicolon 1 (some .boolean) ∈ gt := gm (i := 400) (by decide +kernel) rfl
theorem ml_X4_54 : Cond.methodLink RX4 54 yX4_readField ∈ gt := gm (i := 401) (by decide +kernel) rfl
theorem im_X4_readField : Cond.instanceMethod yX4_readField ∈ gt := gm (i := 402) (by decide +kernel) rfl
theorem se_X4_readField : Cond.selects RX4 yX4_readField yX4_readField ∈ gt := gm (i := 403) (by decide +kernel) rfl
theorem co_X4_readField : Cond.code yX4_readField cX4_readField 7 (some .boolean) ∈ gt := gm (i := 404) (by decide +kernel) rfl
theorem ml_X4_92 : Cond.methodLink RX4 92 yX4_takeKind ∈ gt := gm (i := 405) (by decide +kernel) rfl
theorem im_X4_takeKind : Cond.instanceMethod yX4_takeKind ∈ gt := gm (i := 406) (by decide +kernel) rfl
theorem se_X4_takeKind : Cond.selects RX4 yX4_takeKind yX4_takeKind ∈ gt := gm (i := 407) (by decide +kernel) rfl
theorem co_X4_takeKind : Cond.code yX4_takeKind cX4_takeKind 1 (some .boolean) ∈ gt := gm (i := 408) (by decide +kernel) rfl
theorem ml_X4_101 : Cond.methodLink RX4 101 yX7_kind ∈ gt := gm (i := 409) (by decide +kernel) rfl
theorem im_X7_kind : Cond.instanceMethod yX7_kind ∈ gt := gm (i := 410) (by decide +kernel) rfl
theorem se_X7_kind : Cond.selects RX7 yX7_kind yX7_kind ∈ gt := gm (i := 411) (by decide +kernel) rfl
theorem co_X7_kind : Cond.code yX7_kind cX7_kind 2 (some .int) ∈ gt := gm (i := 412) (by decide +kernel) rfl
theorem ml_X4_103 : Cond.methodLink RX4 103 yX0_usedBits ∈ gt := gm (i := 415) (by decide +kernel) rfl
theorem im_X0_usedBits : Cond.instanceMethod yX0_usedBits ∈ gt := gm (i := 416) (by decide +kernel) rfl
theorem se_X0_usedBits : Cond.selects RX0 yX0_usedBits yX0_usedBits ∈ gt := gm (i := 417) (by decide +kernel) rfl
theorem co_X0_usedBits : Cond.code yX0_usedBits cX0_usedBits 4 (some .int) ∈ gt := gm (i := 418) (by decide +kernel) rfl
theorem ml_X4_57 : Cond.methodLink RX4 57 yX4_readAlias ∈ gt := gm (i := 419) (by decide +kernel) rfl
theorem im_X4_readAlias : Cond.instanceMethod yX4_readAlias ∈ gt := gm (i := 420) (by decide +kernel) rfl
theorem se_X4_readAlias : Cond.selects RX4 yX4_readAlias yX4_readAlias ∈ gt := gm (i := 421) (by decide +kernel) rfl
theorem co_X4_readAlias : Cond.code yX4_readAlias cX4_readAlias 2 (some .boolean) ∈ gt := gm (i := 422) (by decide +kernel) rfl
theorem ml_X4_128 : Cond.methodLink RX4 128 yX4_suitsAlias ∈ gt := gm (i := 423) (by decide +kernel) rfl
theorem st_X4_suitsAlias : Cond.static yX4_suitsAlias ∈ gt := gm (i := 424) (by decide +kernel) rfl
theorem co_X4_suitsAlias : Cond.code yX4_suitsAlias cX4_suitsAlias 1 (some .boolean) ∈ gt := gm (i := 425) (by decide +kernel) rfl
theorem ml_X4_60 : Cond.methodLink RX4 60 yX4_readLock ∈ gt := gm (i := 426) (by decide +kernel) rfl
theorem im_X4_readLock : Cond.instanceMethod yX4_readLock ∈ gt := gm (i := 427) (by decide +kernel) rfl
theorem se_X4_readLock : Cond.selects RX4 yX4_readLock yX4_readLock ∈ gt := gm (i := 428) (by decide +kernel) rfl
theorem co_X4_readLock : Cond.code yX4_readLock cX4_readLock 2 (some .boolean) ∈ gt := gm (i := 429) (by decide +kernel) rfl
theorem ml_X4_63 : Cond.methodLink RX4 63 yX4_readGate ∈ gt := gm (i := 430) (by decide +kernel) rfl
theorem im_X4_readGate : Cond.instanceMethod yX4_readGate ∈ gt := gm (i := 431) (by decide +kernel) rfl
theorem se_X4_readGate : Cond.selects RX4 yX4_readGate yX4_readGate ∈ gt := gm (i := 432) (by decide +kernel) rfl
theorem co_X4_readGate : Cond.code yX4_readGate cX4_readGate 3 (some .boolean) ∈ gt := gm (i := 433) (by decide +kernel) rfl
theorem ml_X8_77 : Cond.methodLink RX8 77 yX4_exchange ∈ gt := gm (i := 434) (by decide +kernel) rfl
theorem im_X4_exchange : Cond.instanceMethod yX4_exchange ∈ gt := gm (i := 435) (by decide +kernel) rfl
theorem se_X4_exchange : Cond.selects RX4 yX4_exchange yX4_exchange ∈ gt := gm (i := 436) (by decide +kernel) rfl
theorem co_X4_exchange : Cond.code yX4_exchange cX4_exchange 3 (some (.object "MirrorBytes$Block")) ∈ gt := gm (i := 437) (by decide +kernel) rfl
theorem ml_X8_81 : Cond.methodLink RX8 81 yX5_startWith ∈ gt := gm (i := 438) (by decide +kernel) rfl
theorem im_X5_startWith : Cond.instanceMethod yX5_startWith ∈ gt := gm (i := 439) (by decide +kernel) rfl
theorem se_X5_startWith : Cond.selects RX5 yX5_startWith yX5_startWith ∈ gt := gm (i := 440) (by decide +kernel) rfl
theorem co_X5_startWith : Cond.code yX5_startWith cX5_startWith 2 none ∈ gt := gm (i := 441) (by decide +kernel) rfl
theorem ml_X5_42 : Cond.methodLink RX5 42 yX1_mend ∈ gt := gm (i := 442) (by decide +kernel) rfl
theorem im_X1_mend : Cond.instanceMethod yX1_mend ∈ gt := gm (i := 443) (by decide +kernel) rfl
theorem se_X1_mend : Cond.selects RX1 yX1_mend yX1_mend ∈ gt := gm (i := 444) (by decide +kernel) rfl
theorem co_X1_mend : Cond.code yX1_mend cX1_mend 2 none ∈ gt := gm (i := 445) (by decide +kernel) rfl
theorem ml_X5_46 : Cond.methodLink RX5 46 yX5_restart ∈ gt := gm (i := 449) (by decide +kernel) rfl
theorem im_X5_restart : Cond.instanceMethod yX5_restart ∈ gt := gm (i := 450) (by decide +kernel) rfl
theorem se_X5_restart : Cond.selects RX5 yX5_restart yX5_restart ∈ gt := gm (i := 451) (by decide +kernel) rfl
theorem co_X5_restart : Cond.code yX5_restart cX5_restart 2 none ∈ gt := gm (i := 452) (by decide +kernel) rfl
theorem ml_X5_49 : Cond.methodLink RX5 49 yX1_restart ∈ gt := gm (i := 453) (by decide +kernel) rfl
theorem im_X1_restart : Cond.instanceMethod yX1_restart ∈ gt := gm (i := 454) (by decide +kernel) rfl
theorem se_X1_restart : Cond.selects RX1 yX1_restart yX1_restart ∈ gt := gm (i := 455) (by decide +kernel) rfl
theorem co_X1_restart : Cond.code yX1_restart cX1_restart 3 none ∈ gt := gm (i := 456) (by decide +kernel) rfl
theorem ml_X1_43 : Cond.methodLink RX1 43 yX1_putValue ∈ gt := gm (i := 457) (by decide +kernel) rfl
theorem im_X1_putValue : Cond.instanceMethod yX1_putValue ∈ gt := gm (i := 458) (by decide +kernel) rfl
theorem se_X1_putValue : Cond.selects RX1 yX1_putValue yX1_putValue ∈ gt := gm (i := 459) (by decide +kernel) rfl
theorem co_X1_putValue : Cond.code yX1_putValue cX1_putValue 4 none ∈ gt := gm (i := 460) (by decide +kernel) rfl
theorem ml_X1_56 : Cond.methodLink RX1 56 yX1_putBits ∈ gt := gm (i := 461) (by decide +kernel) rfl
theorem im_X1_putBits : Cond.instanceMethod yX1_putBits ∈ gt := gm (i := 462) (by decide +kernel) rfl
theorem se_X1_putBits : Cond.selects RX1 yX1_putBits yX1_putBits ∈ gt := gm (i := 463) (by decide +kernel) rfl
theorem co_X1_putBits : Cond.code yX1_putBits cX1_putBits 5 none ∈ gt := gm (i := 464) (by decide +kernel) rfl
theorem ml_X8_85 : Cond.methodLink RX8 85 yX2_forget ∈ gt := gm (i := 465) (by decide +kernel) rfl
theorem im_X2_forget : Cond.instanceMethod yX2_forget ∈ gt := gm (i := 466) (by decide +kernel) rfl
theorem se_X2_forget : Cond.selects RX2 yX2_forget yX2_forget ∈ gt := gm (i := 467) (by decide +kernel) rfl
theorem co_X2_forget : Cond.code yX2_forget cX2_forget 1 none ∈ gt := gm (i := 468) (by decide +kernel) rfl
theorem ml_L_27 : Cond.methodLink RL 27 yX8_resets ∈ gt := gm (i := 469) (by decide +kernel) rfl
theorem im_X8_resets : Cond.instanceMethod yX8_resets ∈ gt := gm (i := 470) (by decide +kernel) rfl
theorem se_X8_resets : Cond.selects RX8 yX8_resets yX8_resets ∈ gt := gm (i := 471) (by decide +kernel) rfl
theorem co_X8_resets : Cond.code yX8_resets cX8_resets 2 (some .int) ∈ gt := gm (i := 472) (by decide +kernel) rfl
theorem ml_X8_88 : Cond.methodLink RX8 88 yX2_remember ∈ gt := gm (i := 473) (by decide +kernel) rfl
theorem im_X2_remember : Cond.instanceMethod yX2_remember ∈ gt := gm (i := 474) (by decide +kernel) rfl
theorem se_X2_remember : Cond.selects RX2 yX2_remember yX2_remember ∈ gt := gm (i := 475) (by decide +kernel) rfl
theorem co_X2_remember : Cond.code yX2_remember cX2_remember 2 none ∈ gt := gm (i := 476) (by decide +kernel) rfl
theorem ml_X2_25 : Cond.methodLink RX2 25 yX5_copyFrom ∈ gt := gm (i := 477) (by decide +kernel) rfl
theorem im_X5_copyFrom : Cond.instanceMethod yX5_copyFrom ∈ gt := gm (i := 478) (by decide +kernel) rfl
theorem se_X5_copyFrom : Cond.selects RX5 yX5_copyFrom yX5_copyFrom ∈ gt := gm (i := 479) (by decide +kernel) rfl
theorem co_X5_copyFrom : Cond.code yX5_copyFrom cX5_copyFrom 2 none ∈ gt := gm (i := 480) (by decide +kernel) rfl
theorem ml_X5_32 : Cond.methodLink RX5 32 yX1_copyFrom ∈ gt := gm (i := 481) (by decide +kernel) rfl
theorem im_X1_copyFrom : Cond.instanceMethod yX1_copyFrom ∈ gt := gm (i := 482) (by decide +kernel) rfl
theorem se_X1_copyFrom : Cond.selects RX1 yX1_copyFrom yX1_copyFrom ∈ gt := gm (i := 483) (by decide +kernel) rfl
theorem co_X1_copyFrom : Cond.code yX1_copyFrom cX1_copyFrom 3 none ∈ gt := gm (i := 484) (by decide +kernel) rfl
theorem ml_X5_36 : Cond.methodLink RX5 36 yX3_copyFrom ∈ gt := gm (i := 485) (by decide +kernel) rfl
theorem im_X3_copyFrom : Cond.instanceMethod yX3_copyFrom ∈ gt := gm (i := 486) (by decide +kernel) rfl
theorem se_X3_copyFrom : Cond.selects RX3 yX3_copyFrom yX3_copyFrom ∈ gt := gm (i := 487) (by decide +kernel) rfl
theorem co_X3_copyFrom : Cond.code yX3_copyFrom cX3_copyFrom 3 none ∈ gt := gm (i := 488) (by decide +kernel) rfl
theorem ml_X2_29 : Cond.methodLink RX2 29 yJ9_min_7cf53 ∈ gt := gm (i := 489) (by decide +kernel) rfl
theorem st_J9_min_7cf53 : Cond.static yJ9_min_7cf53 ∈ gt := gm (i := 490) (by decide +kernel) rfl
theorem co_J9_min_7cf53 : Cond.code yJ9_min_7cf53 cJ9_min_7cf53 2 (some .int) ∈ gt := gm (i := 491) (by decide +kernel) rfl
theorem ml_X8_99 : Cond.methodLink RX8 99 yX5_restart ∈ gt := gm (i := 492) (by decide +kernel) rfl
theorem ml_L_31 : Cond.methodLink RL 31 yX8_reads ∈ gt := gm (i := 493) (by decide +kernel) rfl
theorem im_X8_reads : Cond.instanceMethod yX8_reads ∈ gt := gm (i := 494) (by decide +kernel) rfl
theorem se_X8_reads : Cond.selects RX8 yX8_reads yX8_reads ∈ gt := gm (i := 495) (by decide +kernel) rfl
theorem co_X8_reads : Cond.code yX8_reads cX8_reads 2 (some .int) ∈ gt := gm (i := 496) (by decide +kernel) rfl
theorem ml_X8_102 : Cond.methodLink RX8 102 yX5_performRead ∈ gt := gm (i := 497) (by decide +kernel) rfl
theorem im_X5_performRead : Cond.instanceMethod yX5_performRead ∈ gt := gm (i := 498) (by decide +kernel) rfl
theorem se_X5_performRead : Cond.selects RX5 yX5_performRead yX5_performRead ∈ gt := gm (i := 499) (by decide +kernel) rfl
theorem co_X5_performRead : Cond.code yX5_performRead cX5_performRead 4 (some .int) ∈ gt := gm (i := 500) (by decide +kernel) rfl
theorem ml_X5_53 : Cond.methodLink RX5 53 yX1_read ∈ gt := gm (i := 501) (by decide +kernel) rfl
theorem im_X1_read : Cond.instanceMethod yX1_read ∈ gt := gm (i := 502) (by decide +kernel) rfl
theorem se_X1_read : Cond.selects RX1 yX1_read yX1_read ∈ gt := gm (i := 503) (by decide +kernel) rfl
theorem co_X1_read : Cond.code yX1_read cX1_read 6 (some .int) ∈ gt := gm (i := 504) (by decide +kernel) rfl
theorem ml_X1_77 : Cond.methodLink RX1 77 yX1_look ∈ gt := gm (i := 505) (by decide +kernel) rfl
theorem im_X1_look : Cond.instanceMethod yX1_look ∈ gt := gm (i := 506) (by decide +kernel) rfl
theorem se_X1_look : Cond.selects RX1 yX1_look yX1_look ∈ gt := gm (i := 507) (by decide +kernel) rfl
theorem co_X1_look : Cond.code yX1_look cX1_look 4 (some .int) ∈ gt := gm (i := 508) (by decide +kernel) rfl
theorem ml_X1_70 : Cond.methodLink RX1 70 yX0_registerBehind ∈ gt := gm (i := 509) (by decide +kernel) rfl
theorem im_X0_registerBehind : Cond.instanceMethod yX0_registerBehind ∈ gt := gm (i := 510) (by decide +kernel) rfl
theorem se_X0_registerBehind : Cond.selects RX0 yX0_registerBehind yX0_registerBehind ∈ gt := gm (i := 511) (by decide +kernel) rfl
theorem co_X0_registerBehind : Cond.code yX0_registerBehind cX0_registerBehind 3 (some .int) ∈ gt := gm (i := 512) (by decide +kernel) rfl
theorem ml_X0_74 : Cond.methodLink RX0 74 yX0_aliasAt ∈ gt := gm (i := 513) (by decide +kernel) rfl
theorem im_X0_aliasAt : Cond.instanceMethod yX0_aliasAt ∈ gt := gm (i := 514) (by decide +kernel) rfl
theorem se_X0_aliasAt : Cond.selects RX0 yX0_aliasAt yX0_aliasAt ∈ gt := gm (i := 515) (by decide +kernel) rfl
theorem co_X0_aliasAt : Cond.code yX0_aliasAt cX0_aliasAt 3 (some .int) ∈ gt := gm (i := 516) (by decide +kernel) rfl
theorem ml_X0_71 : Cond.methodLink RX0 71 yX0_registerAt ∈ gt := gm (i := 517) (by decide +kernel) rfl
theorem im_X0_registerAt : Cond.instanceMethod yX0_registerAt ∈ gt := gm (i := 518) (by decide +kernel) rfl
theorem se_X0_registerAt : Cond.selects RX0 yX0_registerAt yX0_registerAt ∈ gt := gm (i := 519) (by decide +kernel) rfl
theorem co_X0_registerAt : Cond.code yX0_registerAt cX0_registerAt 3 (some .int) ∈ gt := gm (i := 520) (by decide +kernel) rfl
theorem ml_X1_74 : Cond.methodLink RX1 74 yX1_shown ∈ gt := gm (i := 521) (by decide +kernel) rfl
theorem im_X1_shown : Cond.instanceMethod yX1_shown ∈ gt := gm (i := 522) (by decide +kernel) rfl
theorem se_X1_shown : Cond.selects RX1 yX1_shown yX1_shown ∈ gt := gm (i := 523) (by decide +kernel) rfl
theorem co_X1_shown : Cond.code yX1_shown cX1_shown 5 (some .int) ∈ gt := gm (i := 524) (by decide +kernel) rfl
theorem ml_X1_80 : Cond.methodLink RX1 80 yX0_registerAt ∈ gt := gm (i := 525) (by decide +kernel) rfl
theorem ml_X5_57 : Cond.methodLink RX5 57 yX1_look ∈ gt := gm (i := 526) (by decide +kernel) rfl
theorem ml_X5_60 : Cond.methodLink RX5 60 yX1_learn ∈ gt := gm (i := 527) (by decide +kernel) rfl
theorem im_X1_learn : Cond.instanceMethod yX1_learn ∈ gt := gm (i := 528) (by decide +kernel) rfl
theorem se_X1_learn : Cond.selects RX1 yX1_learn yX1_learn ∈ gt := gm (i := 529) (by decide +kernel) rfl
theorem co_X1_learn : Cond.code yX1_learn cX1_learn 6 none ∈ gt := gm (i := 530) (by decide +kernel) rfl
theorem ml_X5_64 : Cond.methodLink RX5 64 yX3_append ∈ gt := gm (i := 531) (by decide +kernel) rfl
theorem im_X3_append : Cond.instanceMethod yX3_append ∈ gt := gm (i := 532) (by decide +kernel) rfl
theorem se_X3_append : Cond.selects RX3 yX3_append yX3_append ∈ gt := gm (i := 533) (by decide +kernel) rfl
theorem co_X3_append : Cond.code yX3_append cX3_append 4 none ∈ gt := gm (i := 534) (by decide +kernel) rfl
theorem ml_L_35 : Cond.methodLink RL 35 yX8_writes ∈ gt := gm (i := 535) (by decide +kernel) rfl
theorem im_X8_writes : Cond.instanceMethod yX8_writes ∈ gt := gm (i := 536) (by decide +kernel) rfl
theorem se_X8_writes : Cond.selects RX8 yX8_writes yX8_writes ∈ gt := gm (i := 537) (by decide +kernel) rfl
theorem co_X8_writes : Cond.code yX8_writes cX8_writes 4 (some .int) ∈ gt := gm (i := 538) (by decide +kernel) rfl
theorem ml_X8_106 : Cond.methodLink RX8 106 yX8_changedBy ∈ gt := gm (i := 539) (by decide +kernel) rfl
theorem im_X8_changedBy : Cond.instanceMethod yX8_changedBy ∈ gt := gm (i := 541) (by decide +kernel) rfl
theorem co_X8_changedBy : Cond.code yX8_changedBy cX8_changedBy 5 (some .int) ∈ gt := gm (i := 542) (by decide +kernel) rfl
theorem ml_X8_235 : Cond.methodLink RX8 235 yX1_copyFrom ∈ gt := gm (i := 543) (by decide +kernel) rfl
theorem ml_X8_238 : Cond.methodLink RX8 238 yX1_write ∈ gt := gm (i := 544) (by decide +kernel) rfl
theorem im_X1_write : Cond.instanceMethod yX1_write ∈ gt := gm (i := 545) (by decide +kernel) rfl
theorem se_X1_write : Cond.selects RX1 yX1_write yX1_write ∈ gt := gm (i := 546) (by decide +kernel) rfl
theorem co_X1_write : Cond.code yX1_write cX1_write 6 none ∈ gt := gm (i := 547) (by decide +kernel) rfl
theorem ml_X1_83 : Cond.methodLink RX1 83 yX1_isLocked ∈ gt := gm (i := 548) (by decide +kernel) rfl
theorem im_X1_isLocked : Cond.instanceMethod yX1_isLocked ∈ gt := gm (i := 549) (by decide +kernel) rfl
theorem se_X1_isLocked : Cond.selects RX1 yX1_isLocked yX1_isLocked ∈ gt := gm (i := 550) (by decide +kernel) rfl
theorem co_X1_isLocked : Cond.code yX1_isLocked cX1_isLocked 4 (some .boolean) ∈ gt := gm (i := 551) (by decide +kernel) rfl
theorem mn_X1_62 : Cond.methodLinkNest RX1 62 yX8_isWithin "MirrorBytes" ∈ lw_tbl := List.mem_of_getElem? (i := 552) (by decide +kernel)
theorem ml_X1_66 : Cond.methodLink RX1 66 yX1_valueOf ∈ gt := gm (i := 553) (by decide +kernel) rfl
theorem im_X1_valueOf : Cond.instanceMethod yX1_valueOf ∈ gt := gm (i := 554) (by decide +kernel) rfl
theorem se_X1_valueOf : Cond.selects RX1 yX1_valueOf yX1_valueOf ∈ gt := gm (i := 555) (by decide +kernel) rfl
theorem co_X1_valueOf : Cond.code yX1_valueOf cX1_valueOf 3 (some .int) ∈ gt := gm (i := 556) (by decide +kernel) rfl
theorem ml_X1_87 : Cond.methodLink RX1 87 yX0_aliasAt ∈ gt := gm (i := 557) (by decide +kernel) rfl
theorem ml_X1_93 : Cond.methodLink RX1 93 yX1_letInByAlias ∈ gt := gm (i := 558) (by decide +kernel) rfl
theorem im_X1_letInByAlias : Cond.instanceMethod yX1_letInByAlias ∈ gt := gm (i := 559) (by decide +kernel) rfl
theorem se_X1_letInByAlias : Cond.selects RX1 yX1_letInByAlias yX1_letInByAlias ∈ gt := gm (i := 560) (by decide +kernel) rfl
theorem co_X1_letInByAlias : Cond.code yX1_letInByAlias cX1_letInByAlias 6 none ∈ gt := gm (i := 561) (by decide +kernel) rfl
theorem ml_X1_106 : Cond.methodLink RX1 106 yX1_bitsAfter ∈ gt := gm (i := 562) (by decide +kernel) rfl
theorem im_X1_bitsAfter : Cond.instanceMethod yX1_bitsAfter ∈ gt := gm (i := 563) (by decide +kernel) rfl
theorem se_X1_bitsAfter : Cond.selects RX1 yX1_bitsAfter yX1_bitsAfter ∈ gt := gm (i := 564) (by decide +kernel) rfl
theorem co_X1_bitsAfter : Cond.code yX1_bitsAfter cX1_bitsAfter 4 (some .int) ∈ gt := gm (i := 565) (by decide +kernel) rfl
theorem ml_X1_100 : Cond.methodLink RX1 100 yX1_letIn ∈ gt := gm (i := 566) (by decide +kernel) rfl
theorem im_X1_letIn : Cond.instanceMethod yX1_letIn ∈ gt := gm (i := 567) (by decide +kernel) rfl
theorem se_X1_letIn : Cond.selects RX1 yX1_letIn yX1_letIn ∈ gt := gm (i := 568) (by decide +kernel) rfl
theorem co_X1_letIn : Cond.code yX1_letIn cX1_letIn 5 none ∈ gt := gm (i := 569) (by decide +kernel) rfl
theorem ml_X1_103 : Cond.methodLink RX1 103 yX1_openGates ∈ gt := gm (i := 570) (by decide +kernel) rfl
theorem im_X1_openGates : Cond.instanceMethod yX1_openGates ∈ gt := gm (i := 571) (by decide +kernel) rfl
theorem se_X1_openGates : Cond.selects RX1 yX1_openGates yX1_openGates ∈ gt := gm (i := 572) (by decide +kernel) rfl
theorem co_X1_openGates : Cond.code yX1_openGates cX1_openGates 5 none ∈ gt := gm (i := 573) (by decide +kernel) rfl
theorem ml_X1_113 : Cond.methodLink RX1 113 yX0_isOpenedBy ∈ gt := gm (i := 574) (by decide +kernel) rfl
theorem im_X0_isOpenedBy : Cond.instanceMethod yX0_isOpenedBy ∈ gt := gm (i := 575) (by decide +kernel) rfl
theorem se_X0_isOpenedBy : Cond.selects RX0 yX0_isOpenedBy yX0_isOpenedBy ∈ gt := gm (i := 576) (by decide +kernel) rfl
theorem co_X0_isOpenedBy : Cond.code yX0_isOpenedBy cX0_isOpenedBy 4 (some .boolean) ∈ gt := gm (i := 577) (by decide +kernel) rfl
theorem mn_X0_58 : Cond.methodLinkNest RX0 58 yX8_isWithin "MirrorBytes" ∈ lw_tbl := List.mem_of_getElem? (i := 578) (by decide +kernel)
theorem ml_X8_120 : Cond.methodLink RX8 120 yX1_valueOf ∈ gt := gm (i := 579) (by decide +kernel) rfl
theorem ml_X8_110 : Cond.methodLink RX8 110 yX5_performWrite ∈ gt := gm (i := 580) (by decide +kernel) rfl
theorem im_X5_performWrite : Cond.instanceMethod yX5_performWrite ∈ gt := gm (i := 581) (by decide +kernel) rfl
theorem se_X5_performWrite : Cond.selects RX5 yX5_performWrite yX5_performWrite ∈ gt := gm (i := 582) (by decide +kernel) rfl
theorem co_X5_performWrite : Cond.code yX5_performWrite cX5_performWrite 4 none ∈ gt := gm (i := 583) (by decide +kernel) rfl
theorem ml_X5_68 : Cond.methodLink RX5 68 yX1_write ∈ gt := gm (i := 584) (by decide +kernel) rfl
theorem ml_L_40 : Cond.methodLink RL 40 yX8_sets ∈ gt := gm (i := 585) (by decide +kernel) rfl
theorem im_X8_sets : Cond.instanceMethod yX8_sets ∈ gt := gm (i := 586) (by decide +kernel) rfl
theorem se_X8_sets : Cond.selects RX8 yX8_sets yX8_sets ∈ gt := gm (i := 587) (by decide +kernel) rfl
theorem co_X8_sets : Cond.code yX8_sets cX8_sets 4 (some .int) ∈ gt := gm (i := 588) (by decide +kernel) rfl
theorem ml_X8_114 : Cond.methodLink RX8 114 yX0_canHold ∈ gt := gm (i := 589) (by decide +kernel) rfl
theorem im_X0_canHold : Cond.instanceMethod yX0_canHold ∈ gt := gm (i := 590) (by decide +kernel) rfl
theorem se_X0_canHold : Cond.selects RX0 yX0_canHold yX0_canHold ∈ gt := gm (i := 591) (by decide +kernel) rfl
theorem co_X0_canHold : Cond.code yX0_canHold cX0_canHold 3 (some .boolean) ∈ gt := gm (i := 592) (by decide +kernel) rfl
theorem ml_X0_62 : Cond.methodLink RX0 62 yX0_greatestValue ∈ gt := gm (i := 593) (by decide +kernel) rfl
theorem im_X0_greatestValue : Cond.instanceMethod yX0_greatestValue ∈ gt := gm (i := 594) (by decide +kernel) rfl
theorem se_X0_greatestValue : Cond.selects RX0 yX0_greatestValue yX0_greatestValue ∈ gt := gm (i := 595) (by decide +kernel) rfl
theorem co_X0_greatestValue : Cond.code yX0_greatestValue cX0_greatestValue 2 (some .int) ∈ gt := gm (i := 596) (by decide +kernel) rfl
theorem ml_X8_123 : Cond.methodLink RX8 123 yX1_putValue ∈ gt := gm (i := 597) (by decide +kernel) rfl
theorem ml_L_44 : Cond.methodLink RL 44 yX8_breaks ∈ gt := gm (i := 598) (by decide +kernel) rfl
theorem im_X8_breaks : Cond.instanceMethod yX8_breaks ∈ gt := gm (i := 599) (by decide +kernel) rfl
theorem se_X8_breaks : Cond.selects RX8 yX8_breaks yX8_breaks ∈ gt := gm (i := 600) (by decide +kernel) rfl
theorem co_X8_breaks : Cond.code yX8_breaks cX8_breaks 4 (some .int) ∈ gt := gm (i := 601) (by decide +kernel) rfl
theorem ml_L_48 : Cond.methodLink RL 48 yX8_undo ∈ gt := gm (i := 602) (by decide +kernel) rfl
theorem im_X8_undo : Cond.instanceMethod yX8_undo ∈ gt := gm (i := 603) (by decide +kernel) rfl
theorem se_X8_undo : Cond.selects RX8 yX8_undo yX8_undo ∈ gt := gm (i := 604) (by decide +kernel) rfl
theorem co_X8_undo : Cond.code yX8_undo cX8_undo 1 (some .int) ∈ gt := gm (i := 605) (by decide +kernel) rfl
theorem ml_X8_134 : Cond.methodLink RX8 134 yX2_recall ∈ gt := gm (i := 606) (by decide +kernel) rfl
theorem im_X2_recall : Cond.instanceMethod yX2_recall ∈ gt := gm (i := 607) (by decide +kernel) rfl
theorem se_X2_recall : Cond.selects RX2 yX2_recall yX2_recall ∈ gt := gm (i := 608) (by decide +kernel) rfl
theorem co_X2_recall : Cond.code yX2_recall cX2_recall 2 none ∈ gt := gm (i := 609) (by decide +kernel) rfl
theorem ml_L_52 : Cond.methodLink RL 52 yX8_field ∈ gt := gm (i := 610) (by decide +kernel) rfl
theorem im_X8_field : Cond.instanceMethod yX8_field ∈ gt := gm (i := 611) (by decide +kernel) rfl
theorem se_X8_field : Cond.selects RX8 yX8_field yX8_field ∈ gt := gm (i := 612) (by decide +kernel) rfl
theorem co_X8_field : Cond.code yX8_field cX8_field 3 (some .int) ∈ gt := gm (i := 613) (by decide +kernel) rfl
theorem ml_L_56 : Cond.methodLink RL 56 yX8_register ∈ gt := gm (i := 614) (by decide +kernel) rfl
theorem im_X8_register : Cond.instanceMethod yX8_register ∈ gt := gm (i := 615) (by decide +kernel) rfl
theorem se_X8_register : Cond.selects RX8 yX8_register yX8_register ∈ gt := gm (i := 616) (by decide +kernel) rfl
theorem co_X8_register : Cond.code yX8_register cX8_register 3 (some .int) ∈ gt := gm (i := 617) (by decide +kernel) rfl
theorem ml_X8_167 : Cond.methodLink RX8 167 yX1_isLocked ∈ gt := gm (i := 618) (by decide +kernel) rfl
theorem ml_L_60 : Cond.methodLink RL 60 yX8_alias ∈ gt := gm (i := 619) (by decide +kernel) rfl
theorem im_X8_alias : Cond.instanceMethod yX8_alias ∈ gt := gm (i := 620) (by decide +kernel) rfl
theorem se_X8_alias : Cond.selects RX8 yX8_alias yX8_alias ∈ gt := gm (i := 621) (by decide +kernel) rfl
theorem co_X8_alias : Cond.code yX8_alias cX8_alias 3 (some .int) ∈ gt := gm (i := 622) (by decide +kernel) rfl
theorem ml_L_64 : Cond.methodLink RL 64 yX8_at ∈ gt := gm (i := 623) (by decide +kernel) rfl
theorem im_X8_at : Cond.instanceMethod yX8_at ∈ gt := gm (i := 624) (by decide +kernel) rfl
theorem se_X8_at : Cond.selects RX8 yX8_at yX8_at ∈ gt := gm (i := 625) (by decide +kernel) rfl
theorem co_X8_at : Cond.code yX8_at cX8_at 3 (some .int) ∈ gt := gm (i := 626) (by decide +kernel) rfl
theorem ml_X8_186 : Cond.methodLink RX8 186 yX0_aliasAt ∈ gt := gm (i := 627) (by decide +kernel) rfl
theorem ml_X8_190 : Cond.methodLink RX8 190 yX0_registerAt ∈ gt := gm (i := 628) (by decide +kernel) rfl
theorem ml_L_68 : Cond.methodLink RL 68 yX8_peek ∈ gt := gm (i := 629) (by decide +kernel) rfl
theorem im_X8_peek : Cond.instanceMethod yX8_peek ∈ gt := gm (i := 630) (by decide +kernel) rfl
theorem se_X8_peek : Cond.selects RX8 yX8_peek yX8_peek ∈ gt := gm (i := 631) (by decide +kernel) rfl
theorem co_X8_peek : Cond.code yX8_peek cX8_peek 3 (some .int) ∈ gt := gm (i := 632) (by decide +kernel) rfl
theorem ml_X8_193 : Cond.methodLink RX8 193 yX1_look ∈ gt := gm (i := 633) (by decide +kernel) rfl
theorem ml_L_72 : Cond.methodLink RL 72 yX8_differed ∈ gt := gm (i := 634) (by decide +kernel) rfl
theorem im_X8_differed : Cond.instanceMethod yX8_differed ∈ gt := gm (i := 635) (by decide +kernel) rfl
theorem se_X8_differed : Cond.selects RX8 yX8_differed yX8_differed ∈ gt := gm (i := 636) (by decide +kernel) rfl
theorem co_X8_differed : Cond.code yX8_differed cX8_differed 2 (some .int) ∈ gt := gm (i := 637) (by decide +kernel) rfl
theorem ml_L_76 : Cond.methodLink RL 76 yX8_log ∈ gt := gm (i := 638) (by decide +kernel) rfl
theorem im_X8_log : Cond.instanceMethod yX8_log ∈ gt := gm (i := 639) (by decide +kernel) rfl
theorem se_X8_log : Cond.selects RX8 yX8_log yX8_log ∈ gt := gm (i := 640) (by decide +kernel) rfl
theorem co_X8_log : Cond.code yX8_log cX8_log 3 (some .int) ∈ gt := gm (i := 641) (by decide +kernel) rfl
theorem ml_L_80 : Cond.methodLink RL 80 yX8_suspects ∈ gt := gm (i := 642) (by decide +kernel) rfl
theorem im_X8_suspects : Cond.instanceMethod yX8_suspects ∈ gt := gm (i := 643) (by decide +kernel) rfl
theorem se_X8_suspects : Cond.selects RX8 yX8_suspects yX8_suspects ∈ gt := gm (i := 644) (by decide +kernel) rfl
theorem co_X8_suspects : Cond.code yX8_suspects cX8_suspects 5 (some .int) ∈ gt := gm (i := 645) (by decide +kernel) rfl
theorem ml_X8_209 : Cond.methodLink RX8 209 yX8_wouldReadTheSame ∈ gt := gm (i := 646) (by decide +kernel) rfl
theorem im_X8_wouldReadTheSame : Cond.instanceMethod yX8_wouldReadTheSame ∈ gt := gm (i := 648) (by decide +kernel) rfl
theorem co_X8_wouldReadTheSame : Cond.code yX8_wouldReadTheSame cX8_wouldReadTheSame 3 (some .boolean) ∈ gt := gm (i := 649) (by decide +kernel) rfl
theorem ml_X8_244 : Cond.methodLink RX8 244 yX1_mend ∈ gt := gm (i := 650) (by decide +kernel) rfl
theorem ml_X8_247 : Cond.methodLink RX8 247 yX1_restart ∈ gt := gm (i := 651) (by decide +kernel) rfl
theorem ml_X8_248 : Cond.methodLink RX8 248 yX3_agreesWith ∈ gt := gm (i := 652) (by decide +kernel) rfl
theorem im_X3_agreesWith : Cond.instanceMethod yX3_agreesWith ∈ gt := gm (i := 653) (by decide +kernel) rfl
theorem se_X3_agreesWith : Cond.selects RX3 yX3_agreesWith yX3_agreesWith ∈ gt := gm (i := 654) (by decide +kernel) rfl
theorem co_X3_agreesWith : Cond.code yX3_agreesWith cX3_agreesWith 4 (some .boolean) ∈ gt := gm (i := 655) (by decide +kernel) rfl
theorem ml_X3_26 : Cond.methodLink RX3 26 yX1_write ∈ gt := gm (i := 656) (by decide +kernel) rfl
theorem ml_X3_32 : Cond.methodLink RX3 32 yX1_read ∈ gt := gm (i := 657) (by decide +kernel) rfl
theorem ml_L_84 : Cond.methodLink RL 84 yX8_clashes ∈ gt := gm (i := 658) (by decide +kernel) rfl
theorem im_X8_clashes : Cond.instanceMethod yX8_clashes ∈ gt := gm (i := 659) (by decide +kernel) rfl
theorem se_X8_clashes : Cond.selects RX8 yX8_clashes yX8_clashes ∈ gt := gm (i := 660) (by decide +kernel) rfl
theorem co_X8_clashes : Cond.code yX8_clashes cX8_clashes 5 (some .int) ∈ gt := gm (i := 661) (by decide +kernel) rfl
theorem ml_X8_212 : Cond.methodLink RX8 212 yX0_holdersOf ∈ gt := gm (i := 662) (by decide +kernel) rfl
theorem im_X0_holdersOf : Cond.instanceMethod yX0_holdersOf ∈ gt := gm (i := 663) (by decide +kernel) rfl
theorem se_X0_holdersOf : Cond.selects RX0 yX0_holdersOf yX0_holdersOf ∈ gt := gm (i := 664) (by decide +kernel) rfl
theorem co_X0_holdersOf : Cond.code yX0_holdersOf cX0_holdersOf 4 (some .int) ∈ gt := gm (i := 665) (by decide +kernel) rfl
theorem ml_L_88 : Cond.methodLink RL 88 yX8_touched ∈ gt := gm (i := 666) (by decide +kernel) rfl
theorem im_X8_touched : Cond.instanceMethod yX8_touched ∈ gt := gm (i := 667) (by decide +kernel) rfl
theorem se_X8_touched : Cond.selects RX8 yX8_touched yX8_touched ∈ gt := gm (i := 668) (by decide +kernel) rfl
theorem co_X8_touched : Cond.code yX8_touched cX8_touched 3 (some .int) ∈ gt := gm (i := 669) (by decide +kernel) rfl
theorem ml_L_92 : Cond.methodLink RL 92 yX8_way ∈ gt := gm (i := 670) (by decide +kernel) rfl
theorem im_X8_way : Cond.instanceMethod yX8_way ∈ gt := gm (i := 671) (by decide +kernel) rfl
theorem se_X8_way : Cond.selects RX8 yX8_way yX8_way ∈ gt := gm (i := 672) (by decide +kernel) rfl
theorem co_X8_way : Cond.code yX8_way cX8_way 5 (some .int) ∈ gt := gm (i := 673) (by decide +kernel) rfl
theorem ml_X8_215 : Cond.methodLink RX8 215 yX8_byteThatGives ∈ gt := gm (i := 674) (by decide +kernel) rfl
theorem im_X8_byteThatGives : Cond.instanceMethod yX8_byteThatGives ∈ gt := gm (i := 676) (by decide +kernel) rfl
theorem co_X8_byteThatGives : Cond.code yX8_byteThatGives cX8_byteThatGives 6 (some .int) ∈ gt := gm (i := 677) (by decide +kernel) rfl
theorem ml_X8_241 : Cond.methodLink RX8 241 yX0_canReach ∈ gt := gm (i := 678) (by decide +kernel) rfl
theorem im_X0_canReach : Cond.instanceMethod yX0_canReach ∈ gt := gm (i := 679) (by decide +kernel) rfl
theorem se_X0_canReach : Cond.selects RX0 yX0_canReach yX0_canReach ∈ gt := gm (i := 680) (by decide +kernel) rfl
theorem co_X0_canReach : Cond.code yX0_canReach cX0_canReach 4 (some .boolean) ∈ gt := gm (i := 681) (by decide +kernel) rfl
theorem ml_X0_77 : Cond.methodLink RX0 77 yX0_registerBehind ∈ gt := gm (i := 682) (by decide +kernel) rfl
theorem ml_X0_80 : Cond.methodLink RX0 80 yX0_isOpenedBy ∈ gt := gm (i := 683) (by decide +kernel) rfl
theorem ml_L_96 : Cond.methodLink RL 96 yX8_walk ∈ gt := gm (i := 684) (by decide +kernel) rfl
theorem im_X8_walk : Cond.instanceMethod yX8_walk ∈ gt := gm (i := 685) (by decide +kernel) rfl
theorem se_X8_walk : Cond.selects RX8 yX8_walk yX8_walk ∈ gt := gm (i := 686) (by decide +kernel) rfl
theorem co_X8_walk : Cond.code yX8_walk cX8_walk 8 (some .int) ∈ gt := gm (i := 687) (by decide +kernel) rfl
theorem ml_X8_219 : Cond.methodLink RX8 219 yX8_walkedBits ∈ gt := gm (i := 688) (by decide +kernel) rfl
theorem im_X8_walkedBits : Cond.instanceMethod yX8_walkedBits ∈ gt := gm (i := 690) (by decide +kernel) rfl
theorem co_X8_walkedBits : Cond.code yX8_walkedBits cX8_walkedBits 5 (some .int) ∈ gt := gm (i := 691) (by decide +kernel) rfl
theorem ml_X8_252 : Cond.methodLink RX8 252 yX0_isGate ∈ gt := gm (i := 692) (by decide +kernel) rfl
theorem im_X0_isGate : Cond.instanceMethod yX0_isGate ∈ gt := gm (i := 693) (by decide +kernel) rfl
theorem se_X0_isGate : Cond.selects RX0 yX0_isGate yX0_isGate ∈ gt := gm (i := 694) (by decide +kernel) rfl
theorem co_X0_isGate : Cond.code yX0_isGate cX0_isGate 3 (some .boolean) ∈ gt := gm (i := 695) (by decide +kernel) rfl
theorem ml_X8_256 : Cond.methodLink RX8 256 yX0_isLock ∈ gt := gm (i := 696) (by decide +kernel) rfl
theorem im_X0_isLock : Cond.instanceMethod yX0_isLock ∈ gt := gm (i := 697) (by decide +kernel) rfl
theorem se_X0_isLock : Cond.selects RX0 yX0_isLock yX0_isLock ∈ gt := gm (i := 698) (by decide +kernel) rfl
theorem co_X0_isLock : Cond.code yX0_isLock cX0_isLock 3 (some .boolean) ∈ gt := gm (i := 699) (by decide +kernel) rfl
theorem ml_X8_222 : Cond.methodLink RX8 222 yX8_stepOfWalk ∈ gt := gm (i := 700) (by decide +kernel) rfl
theorem im_X8_stepOfWalk : Cond.instanceMethod yX8_stepOfWalk ∈ gt := gm (i := 702) (by decide +kernel) rfl
theorem co_X8_stepOfWalk : Cond.code yX8_stepOfWalk cX8_stepOfWalk 4 (some .int) ∈ gt := gm (i := 703) (by decide +kernel) rfl
theorem ml_X8_263 : Cond.methodLink RX8 263 yX0_plainBits ∈ gt := gm (i := 704) (by decide +kernel) rfl
theorem im_X0_plainBits : Cond.instanceMethod yX0_plainBits ∈ gt := gm (i := 705) (by decide +kernel) rfl
theorem se_X0_plainBits : Cond.selects RX0 yX0_plainBits yX0_plainBits ∈ gt := gm (i := 706) (by decide +kernel) rfl
theorem co_X0_plainBits : Cond.code yX0_plainBits cX0_plainBits 4 (some .int) ∈ gt := gm (i := 707) (by decide +kernel) rfl
theorem ml_X8_266 : Cond.methodLink RX8 266 yX1_shown ∈ gt := gm (i := 708) (by decide +kernel) rfl
theorem ml_L_100 : Cond.methodLink RL 100 yX8_keep ∈ gt := gm (i := 709) (by decide +kernel) rfl
theorem im_X8_keep : Cond.instanceMethod yX8_keep ∈ gt := gm (i := 710) (by decide +kernel) rfl
theorem se_X8_keep : Cond.selects RX8 yX8_keep yX8_keep ∈ gt := gm (i := 711) (by decide +kernel) rfl
theorem co_X8_keep : Cond.code yX8_keep cX8_keep 2 (some .int) ∈ gt := gm (i := 712) (by decide +kernel) rfl
theorem ml_X8_225 : Cond.methodLink RX8 225 yX5_copyFrom ∈ gt := gm (i := 713) (by decide +kernel) rfl
theorem ml_L_104 : Cond.methodLink RL 104 yX8_back ∈ gt := gm (i := 714) (by decide +kernel) rfl
theorem im_X8_back : Cond.instanceMethod yX8_back ∈ gt := gm (i := 715) (by decide +kernel) rfl
theorem se_X8_back : Cond.selects RX8 yX8_back yX8_back ∈ gt := gm (i := 716) (by decide +kernel) rfl
theorem co_X8_back : Cond.code yX8_back cX8_back 2 (some .int) ∈ gt := gm (i := 717) (by decide +kernel) rfl
theorem ml_L_108 : Cond.methodLink RL 108 yX8_count ∈ gt := gm (i := 718) (by decide +kernel) rfl
theorem im_X8_count : Cond.instanceMethod yX8_count ∈ gt := gm (i := 719) (by decide +kernel) rfl
theorem se_X8_count : Cond.selects RX8 yX8_count yX8_count ∈ gt := gm (i := 720) (by decide +kernel) rfl
theorem co_X8_count : Cond.code yX8_count cX8_count 2 (some .int) ∈ gt := gm (i := 721) (by decide +kernel) rfl
theorem ml_X8_228 : Cond.methodLink RX8 228 yX0_bitsOfFields ∈ gt := gm (i := 722) (by decide +kernel) rfl
theorem im_X0_bitsOfFields : Cond.instanceMethod yX0_bitsOfFields ∈ gt := gm (i := 723) (by decide +kernel) rfl
theorem se_X0_bitsOfFields : Cond.selects RX0 yX0_bitsOfFields yX0_bitsOfFields ∈ gt := gm (i := 724) (by decide +kernel) rfl
theorem co_X0_bitsOfFields : Cond.code yX0_bitsOfFields cX0_bitsOfFields 3 (some .int) ∈ gt := gm (i := 725) (by decide +kernel) rfl
theorem ml_X0_66 : Cond.methodLink RX0 66 yJ6_bitCount_0f7a4 ∈ gt := gm (i := 726) (by decide +kernel) rfl
theorem st_J6_bitCount_0f7a4 : Cond.static yJ6_bitCount_0f7a4 ∈ gt := gm (i := 727) (by decide +kernel) rfl
theorem co_J6_bitCount_0f7a4 : Cond.code yJ6_bitCount_0f7a4 cJ6_bitCount_0f7a4 1 (some .int) ∈ gt := gm (i := 728) (by decide +kernel) rfl
theorem ml_X8_231 : Cond.methodLink RX8 231 yX1_brokenFields ∈ gt := gm (i := 732) (by decide +kernel) rfl
theorem im_X1_brokenFields : Cond.instanceMethod yX1_brokenFields ∈ gt := gm (i := 733) (by decide +kernel) rfl
theorem se_X1_brokenFields : Cond.selects RX1 yX1_brokenFields yX1_brokenFields ∈ gt := gm (i := 734) (by decide +kernel) rfl
theorem co_X1_brokenFields : Cond.code yX1_brokenFields cX1_brokenFields 4 (some .int) ∈ gt := gm (i := 735) (by decide +kernel) rfl
theorem cl_L_10 : Cond.classLink RL 10 RX9 ∈ gt := gm (i := 736) (by decide +kernel) rfl
theorem ia_X9 : Cond.instantiable RX9 14 ∈ gt := gm (i := 737) (by decide +kernel) rfl
theorem ml_L_12 : Cond.methodLink RL 12 yX9_init ∈ gt := gm (i := 738) (by decide +kernel) rfl
theorem im_X9_init : Cond.instanceMethod yX9_init ∈ gt := gm (i := 739) (by decide +kernel) rfl
theorem co_X9_init : Cond.code yX9_init cX9_init 1 none ∈ gt := gm (i := 740) (by decide +kernel) rfl
theorem mo_X9 : Cond.methodLink RX9 1 objectInit ∈ gt := gm (i := 741) (by decide +kernel) rfl
theorem ml_X9_32 : Cond.methodLink RX9 32 yX9_begin ∈ gt := gm (i := 742) (by decide +kernel) rfl
theorem im_X9_begin : Cond.instanceMethod yX9_begin ∈ gt := gm (i := 744) (by decide +kernel) rfl
theorem co_X9_begin : Cond.code yX9_begin cX9_begin 1 none ∈ gt := gm (i := 745) (by decide +kernel) rfl
theorem ml_X9_50 : Cond.methodLink RX9 50 yX9_repair ∈ gt := gm (i := 746) (by decide +kernel) rfl
theorem im_X9_repair : Cond.instanceMethod yX9_repair ∈ gt := gm (i := 748) (by decide +kernel) rfl
theorem co_X9_repair : Cond.code yX9_repair cX9_repair 3 none ∈ gt := gm (i := 749) (by decide +kernel) rfl
theorem ml_X9_35 : Cond.methodLink RX9 35 yX9_fields ∈ gt := gm (i := 750) (by decide +kernel) rfl
theorem im_X9_fields : Cond.instanceMethod yX9_fields ∈ gt := gm (i := 752) (by decide +kernel) rfl
theorem co_X9_fields : Cond.code yX9_fields cX9_fields 1 (some .int) ∈ gt := gm (i := 753) (by decide +kernel) rfl
theorem ml_X9_54 : Cond.methodLink RX9 54 yX9_reset ∈ gt := gm (i := 754) (by decide +kernel) rfl
theorem im_X9_reset : Cond.instanceMethod yX9_reset ∈ gt := gm (i := 756) (by decide +kernel) rfl
theorem co_X9_reset : Cond.code yX9_reset cX9_reset 3 none ∈ gt := gm (i := 757) (by decide +kernel) rfl
theorem ml_X9_57 : Cond.methodLink RX9 57 yX9_emptyLog ∈ gt := gm (i := 758) (by decide +kernel) rfl
theorem im_X9_emptyLog : Cond.instanceMethod yX9_emptyLog ∈ gt := gm (i := 760) (by decide +kernel) rfl
theorem co_X9_emptyLog : Cond.code yX9_emptyLog cX9_emptyLog 1 none ∈ gt := gm (i := 761) (by decide +kernel) rfl
theorem fl_X9_7 : Cond.fieldLink RX9 7 "MirrorBytesModel" "told" "[I" ∈ gt := gm (i := 762) (by decide +kernel) rfl
theorem fl_X9_13 : Cond.fieldLink RX9 13 "MirrorBytesModel" "draft" "[I" ∈ gt := gm (i := 763) (by decide +kernel) rfl
theorem fl_X9_16 : Cond.fieldLink RX9 16 "MirrorBytesModel" "now" "[I" ∈ gt := gm (i := 764) (by decide +kernel) rfl
theorem fl_X9_19 : Cond.fieldLink RX9 19 "MirrorBytesModel" "past" "[I" ∈ gt := gm (i := 765) (by decide +kernel) rfl
theorem fl_X9_60 : Cond.fieldLink RX9 60 "MirrorBytesModel" "pasts" "I" ∈ gt := gm (i := 766) (by decide +kernel) rfl
theorem fl_X9_22 : Cond.fieldLink RX9 22 "MirrorBytesModel" "images" "[I" ∈ gt := gm (i := 767) (by decide +kernel) rfl
theorem fl_X9_25 : Cond.fieldLink RX9 25 "MirrorBytesModel" "isKept" "[Z" ∈ gt := gm (i := 768) (by decide +kernel) rfl
theorem fl_X9_29 : Cond.fieldLink RX9 29 "MirrorBytesModel" "text" "[I" ∈ gt := gm (i := 769) (by decide +kernel) rfl
theorem fl_X9_147 : Cond.fieldLink RX9 147 "MirrorBytesModel" "typed" "I" ∈ gt := gm (i := 770) (by decide +kernel) rfl
theorem fl_X9_150 : Cond.fieldLink RX9 150 "MirrorBytesModel" "at" "I" ∈ gt := gm (i := 771) (by decide +kernel) rfl
theorem fl_X9_156 : Cond.fieldLink RX9 156 "MirrorBytesModel" "tokenAt" "I" ∈ gt := gm (i := 772) (by decide +kernel) rfl
theorem fl_X9_162 : Cond.fieldLink RX9 162 "MirrorBytesModel" "token" "I" ∈ gt := gm (i := 773) (by decide +kernel) rfl
theorem fl_X9_159 : Cond.fieldLink RX9 159 "MirrorBytesModel" "value" "I" ∈ gt := gm (i := 774) (by decide +kernel) rfl
theorem fl_X9_169 : Cond.fieldLink RX9 169 "MirrorBytesModel" "fault" "I" ∈ gt := gm (i := 775) (by decide +kernel) rfl
theorem ml_L_30 : Cond.methodLink RL 30 yX9_resets ∈ gt := gm (i := 805) (by decide +kernel) rfl
theorem im_X9_resets : Cond.instanceMethod yX9_resets ∈ gt := gm (i := 806) (by decide +kernel) rfl
theorem se_X9_resets : Cond.selects RX9 yX9_resets yX9_resets ∈ gt := gm (i := 807) (by decide +kernel) rfl
theorem co_X9_resets : Cond.code yX9_resets cX9_resets 2 (some .int) ∈ gt := gm (i := 808) (by decide +kernel) rfl
theorem ml_X9_97 : Cond.methodLink RX9 97 yX9_note ∈ gt := gm (i := 809) (by decide +kernel) rfl
theorem im_X9_note : Cond.instanceMethod yX9_note ∈ gt := gm (i := 811) (by decide +kernel) rfl
theorem co_X9_note : Cond.code yX9_note cX9_note 2 none ∈ gt := gm (i := 812) (by decide +kernel) rfl
theorem ml_L_34 : Cond.methodLink RL 34 yX9_reads ∈ gt := gm (i := 813) (by decide +kernel) rfl
theorem im_X9_reads : Cond.instanceMethod yX9_reads ∈ gt := gm (i := 814) (by decide +kernel) rfl
theorem se_X9_reads : Cond.selects RX9 yX9_reads yX9_reads ∈ gt := gm (i := 815) (by decide +kernel) rfl
theorem co_X9_reads : Cond.code yX9_reads cX9_reads 6 (some .int) ∈ gt := gm (i := 816) (by decide +kernel) rfl
theorem ml_X9_39 : Cond.methodLink RX9 39 yX9_in ∈ gt := gm (i := 817) (by decide +kernel) rfl
theorem st_X9_in : Cond.static yX9_in ∈ gt := gm (i := 818) (by decide +kernel) rfl
theorem co_X9_in : Cond.code yX9_in cX9_in 3 (some .boolean) ∈ gt := gm (i := 819) (by decide +kernel) rfl
theorem ml_X9_64 : Cond.methodLink RX9 64 yX9_goesTo ∈ gt := gm (i := 820) (by decide +kernel) rfl
theorem im_X9_goesTo : Cond.instanceMethod yX9_goesTo ∈ gt := gm (i := 822) (by decide +kernel) rfl
theorem co_X9_goesTo : Cond.code yX9_goesTo cX9_goesTo 3 (some .int) ∈ gt := gm (i := 823) (by decide +kernel) rfl
theorem ml_X9_43 : Cond.methodLink RX9 43 yX9_registers ∈ gt := gm (i := 824) (by decide +kernel) rfl
theorem im_X9_registers : Cond.instanceMethod yX9_registers ∈ gt := gm (i := 826) (by decide +kernel) rfl
theorem co_X9_registers : Cond.code yX9_registers cX9_registers 1 (some .int) ∈ gt := gm (i := 827) (by decide +kernel) rfl
theorem ml_X9_74 : Cond.methodLink RX9 74 yX9_peekAt ∈ gt := gm (i := 828) (by decide +kernel) rfl
theorem im_X9_peekAt : Cond.instanceMethod yX9_peekAt ∈ gt := gm (i := 830) (by decide +kernel) rfl
theorem co_X9_peekAt : Cond.code yX9_peekAt cX9_peekAt 4 (some .int) ∈ gt := gm (i := 831) (by decide +kernel) rfl
theorem ml_X9_67 : Cond.methodLink RX9 67 yX9_registerOf ∈ gt := gm (i := 832) (by decide +kernel) rfl
theorem im_X9_registerOf : Cond.instanceMethod yX9_registerOf ∈ gt := gm (i := 834) (by decide +kernel) rfl
theorem co_X9_registerOf : Cond.code yX9_registerOf cX9_registerOf 2 (some .int) ∈ gt := gm (i := 835) (by decide +kernel) rfl
theorem ml_X9_70 : Cond.methodLink RX9 70 yX9_tellsOf ∈ gt := gm (i := 836) (by decide +kernel) rfl
theorem im_X9_tellsOf : Cond.instanceMethod yX9_tellsOf ∈ gt := gm (i := 838) (by decide +kernel) rfl
theorem co_X9_tellsOf : Cond.code yX9_tellsOf cX9_tellsOf 5 (some .int) ∈ gt := gm (i := 839) (by decide +kernel) rfl
theorem ml_X9_100 : Cond.methodLink RX9 100 yX9_readOf ∈ gt := gm (i := 840) (by decide +kernel) rfl
theorem im_X9_readOf : Cond.instanceMethod yX9_readOf ∈ gt := gm (i := 842) (by decide +kernel) rfl
theorem co_X9_readOf : Cond.code yX9_readOf cX9_readOf 5 (some .int) ∈ gt := gm (i := 843) (by decide +kernel) rfl
theorem ml_X9_77 : Cond.methodLink RX9 77 yX9_clearRead ∈ gt := gm (i := 844) (by decide +kernel) rfl
theorem im_X9_clearRead : Cond.instanceMethod yX9_clearRead ∈ gt := gm (i := 846) (by decide +kernel) rfl
theorem co_X9_clearRead : Cond.code yX9_clearRead cX9_clearRead 4 none ∈ gt := gm (i := 847) (by decide +kernel) rfl
theorem ml_X9_46 : Cond.methodLink RX9 46 yX9_most ∈ gt := gm (i := 848) (by decide +kernel) rfl
theorem im_X9_most : Cond.instanceMethod yX9_most ∈ gt := gm (i := 850) (by decide +kernel) rfl
theorem co_X9_most : Cond.code yX9_most cX9_most 2 (some .int) ∈ gt := gm (i := 851) (by decide +kernel) rfl
theorem ml_X9_103 : Cond.methodLink RX9 103 yX9_logs ∈ gt := gm (i := 852) (by decide +kernel) rfl
theorem im_X9_logs : Cond.instanceMethod yX9_logs ∈ gt := gm (i := 854) (by decide +kernel) rfl
theorem co_X9_logs : Cond.code yX9_logs cX9_logs 5 none ∈ gt := gm (i := 855) (by decide +kernel) rfl
theorem ml_L_39 : Cond.methodLink RL 39 yX9_writes ∈ gt := gm (i := 856) (by decide +kernel) rfl
theorem im_X9_writes : Cond.instanceMethod yX9_writes ∈ gt := gm (i := 857) (by decide +kernel) rfl
theorem se_X9_writes : Cond.selects RX9 yX9_writes yX9_writes ∈ gt := gm (i := 858) (by decide +kernel) rfl
theorem co_X9_writes : Cond.code yX9_writes cX9_writes 3 (some .int) ∈ gt := gm (i := 859) (by decide +kernel) rfl
theorem ml_X9_106 : Cond.methodLink RX9 106 yX9_copyMachine ∈ gt := gm (i := 860) (by decide +kernel) rfl
theorem im_X9_copyMachine : Cond.instanceMethod yX9_copyMachine ∈ gt := gm (i := 862) (by decide +kernel) rfl
theorem co_X9_copyMachine : Cond.code yX9_copyMachine cX9_copyMachine 4 none ∈ gt := gm (i := 863) (by decide +kernel) rfl
theorem ml_X9_109 : Cond.methodLink RX9 109 yX9_writeTo ∈ gt := gm (i := 864) (by decide +kernel) rfl
theorem im_X9_writeTo : Cond.instanceMethod yX9_writeTo ∈ gt := gm (i := 866) (by decide +kernel) rfl
theorem co_X9_writeTo : Cond.code yX9_writeTo cX9_writeTo 6 none ∈ gt := gm (i := 867) (by decide +kernel) rfl
theorem ml_X9_85 : Cond.methodLink RX9 85 yX9_isLocked ∈ gt := gm (i := 868) (by decide +kernel) rfl
theorem im_X9_isLocked : Cond.instanceMethod yX9_isLocked ∈ gt := gm (i := 870) (by decide +kernel) rfl
theorem co_X9_isLocked : Cond.code yX9_isLocked cX9_isLocked 3 (some .boolean) ∈ gt := gm (i := 871) (by decide +kernel) rfl
theorem ml_X9_89 : Cond.methodLink RX9 89 yX9_letIn ∈ gt := gm (i := 872) (by decide +kernel) rfl
theorem im_X9_letIn : Cond.instanceMethod yX9_letIn ∈ gt := gm (i := 874) (by decide +kernel) rfl
theorem co_X9_letIn : Cond.code yX9_letIn cX9_letIn 9 none ∈ gt := gm (i := 875) (by decide +kernel) rfl
theorem ml_X9_81 : Cond.methodLink RX9 81 yX9_by ∈ gt := gm (i := 876) (by decide +kernel) rfl
theorem st_X9_by : Cond.static yX9_by ∈ gt := gm (i := 877) (by decide +kernel) rfl
theorem co_X9_by : Cond.code yX9_by cX9_by 4 (some .int) ∈ gt := gm (i := 878) (by decide +kernel) rfl
theorem ml_X9_93 : Cond.methodLink RX9 93 yX9_openGates ∈ gt := gm (i := 879) (by decide +kernel) rfl
theorem im_X9_openGates : Cond.instanceMethod yX9_openGates ∈ gt := gm (i := 881) (by decide +kernel) rfl
theorem co_X9_openGates : Cond.code yX9_openGates cX9_openGates 7 none ∈ gt := gm (i := 882) (by decide +kernel) rfl
theorem ml_X9_112 : Cond.methodLink RX9 112 yX9_otherFields ∈ gt := gm (i := 883) (by decide +kernel) rfl
theorem im_X9_otherFields : Cond.instanceMethod yX9_otherFields ∈ gt := gm (i := 885) (by decide +kernel) rfl
theorem co_X9_otherFields : Cond.code yX9_otherFields cX9_otherFields 5 (some .int) ∈ gt := gm (i := 886) (by decide +kernel) rfl
theorem ml_L_43 : Cond.methodLink RL 43 yX9_sets ∈ gt := gm (i := 887) (by decide +kernel) rfl
theorem im_X9_sets : Cond.instanceMethod yX9_sets ∈ gt := gm (i := 888) (by decide +kernel) rfl
theorem se_X9_sets : Cond.selects RX9 yX9_sets yX9_sets ∈ gt := gm (i := 889) (by decide +kernel) rfl
theorem co_X9_sets : Cond.code yX9_sets cX9_sets 4 (some .int) ∈ gt := gm (i := 890) (by decide +kernel) rfl
theorem ml_X9_115 : Cond.methodLink RX9 115 yX9_isField ∈ gt := gm (i := 891) (by decide +kernel) rfl
theorem im_X9_isField : Cond.instanceMethod yX9_isField ∈ gt := gm (i := 893) (by decide +kernel) rfl
theorem co_X9_isField : Cond.code yX9_isField cX9_isField 2 (some .boolean) ∈ gt := gm (i := 894) (by decide +kernel) rfl
theorem ml_L_47 : Cond.methodLink RL 47 yX9_breaks ∈ gt := gm (i := 895) (by decide +kernel) rfl
theorem im_X9_breaks : Cond.instanceMethod yX9_breaks ∈ gt := gm (i := 896) (by decide +kernel) rfl
theorem se_X9_breaks : Cond.selects RX9 yX9_breaks yX9_breaks ∈ gt := gm (i := 897) (by decide +kernel) rfl
theorem co_X9_breaks : Cond.code yX9_breaks cX9_breaks 4 (some .int) ∈ gt := gm (i := 898) (by decide +kernel) rfl
theorem ml_L_51 : Cond.methodLink RL 51 yX9_undo ∈ gt := gm (i := 899) (by decide +kernel) rfl
theorem im_X9_undo : Cond.instanceMethod yX9_undo ∈ gt := gm (i := 900) (by decide +kernel) rfl
theorem se_X9_undo : Cond.selects RX9 yX9_undo yX9_undo ∈ gt := gm (i := 901) (by decide +kernel) rfl
theorem co_X9_undo : Cond.code yX9_undo cX9_undo 2 (some .int) ∈ gt := gm (i := 902) (by decide +kernel) rfl
theorem ml_L_55 : Cond.methodLink RL 55 yX9_field ∈ gt := gm (i := 903) (by decide +kernel) rfl
theorem im_X9_field : Cond.instanceMethod yX9_field ∈ gt := gm (i := 904) (by decide +kernel) rfl
theorem se_X9_field : Cond.selects RX9 yX9_field yX9_field ∈ gt := gm (i := 905) (by decide +kernel) rfl
theorem co_X9_field : Cond.code yX9_field cX9_field 3 (some .int) ∈ gt := gm (i := 906) (by decide +kernel) rfl
theorem ml_L_59 : Cond.methodLink RL 59 yX9_register ∈ gt := gm (i := 907) (by decide +kernel) rfl
theorem im_X9_register : Cond.instanceMethod yX9_register ∈ gt := gm (i := 908) (by decide +kernel) rfl
theorem se_X9_register : Cond.selects RX9 yX9_register yX9_register ∈ gt := gm (i := 909) (by decide +kernel) rfl
theorem co_X9_register : Cond.code yX9_register cX9_register 3 (some .int) ∈ gt := gm (i := 910) (by decide +kernel) rfl
theorem ml_X9_119 : Cond.methodLink RX9 119 yX9_isRegister ∈ gt := gm (i := 911) (by decide +kernel) rfl
theorem im_X9_isRegister : Cond.instanceMethod yX9_isRegister ∈ gt := gm (i := 913) (by decide +kernel) rfl
theorem co_X9_isRegister : Cond.code yX9_isRegister cX9_isRegister 2 (some .boolean) ∈ gt := gm (i := 914) (by decide +kernel) rfl
theorem ml_L_63 : Cond.methodLink RL 63 yX9_alias ∈ gt := gm (i := 915) (by decide +kernel) rfl
theorem im_X9_alias : Cond.instanceMethod yX9_alias ∈ gt := gm (i := 916) (by decide +kernel) rfl
theorem se_X9_alias : Cond.selects RX9 yX9_alias yX9_alias ∈ gt := gm (i := 917) (by decide +kernel) rfl
theorem co_X9_alias : Cond.code yX9_alias cX9_alias 3 (some .int) ∈ gt := gm (i := 918) (by decide +kernel) rfl
theorem ml_L_67 : Cond.methodLink RL 67 yX9_at ∈ gt := gm (i := 919) (by decide +kernel) rfl
theorem im_X9_at : Cond.instanceMethod yX9_at ∈ gt := gm (i := 920) (by decide +kernel) rfl
theorem se_X9_at : Cond.selects RX9 yX9_at yX9_at ∈ gt := gm (i := 921) (by decide +kernel) rfl
theorem co_X9_at : Cond.code yX9_at cX9_at 2 (some .int) ∈ gt := gm (i := 922) (by decide +kernel) rfl
theorem ml_L_71 : Cond.methodLink RL 71 yX9_peek ∈ gt := gm (i := 923) (by decide +kernel) rfl
theorem im_X9_peek : Cond.instanceMethod yX9_peek ∈ gt := gm (i := 924) (by decide +kernel) rfl
theorem se_X9_peek : Cond.selects RX9 yX9_peek yX9_peek ∈ gt := gm (i := 925) (by decide +kernel) rfl
theorem co_X9_peek : Cond.code yX9_peek cX9_peek 3 (some .int) ∈ gt := gm (i := 926) (by decide +kernel) rfl
theorem ml_L_75 : Cond.methodLink RL 75 yX9_differed ∈ gt := gm (i := 927) (by decide +kernel) rfl
theorem im_X9_differed : Cond.instanceMethod yX9_differed ∈ gt := gm (i := 928) (by decide +kernel) rfl
theorem se_X9_differed : Cond.selects RX9 yX9_differed yX9_differed ∈ gt := gm (i := 929) (by decide +kernel) rfl
theorem co_X9_differed : Cond.code yX9_differed cX9_differed 2 (some .int) ∈ gt := gm (i := 930) (by decide +kernel) rfl
theorem ml_L_79 : Cond.methodLink RL 79 yX9_log ∈ gt := gm (i := 931) (by decide +kernel) rfl
theorem im_X9_log : Cond.instanceMethod yX9_log ∈ gt := gm (i := 932) (by decide +kernel) rfl
theorem se_X9_log : Cond.selects RX9 yX9_log yX9_log ∈ gt := gm (i := 933) (by decide +kernel) rfl
theorem co_X9_log : Cond.code yX9_log cX9_log 3 (some .int) ∈ gt := gm (i := 934) (by decide +kernel) rfl
theorem ml_L_83 : Cond.methodLink RL 83 yX9_suspects ∈ gt := gm (i := 935) (by decide +kernel) rfl
theorem im_X9_suspects : Cond.instanceMethod yX9_suspects ∈ gt := gm (i := 936) (by decide +kernel) rfl
theorem se_X9_suspects : Cond.selects RX9 yX9_suspects yX9_suspects ∈ gt := gm (i := 937) (by decide +kernel) rfl
theorem co_X9_suspects : Cond.code yX9_suspects cX9_suspects 5 (some .int) ∈ gt := gm (i := 938) (by decide +kernel) rfl
theorem ml_X9_122 : Cond.methodLink RX9 122 yX9_wouldTell ∈ gt := gm (i := 939) (by decide +kernel) rfl
theorem im_X9_wouldTell : Cond.instanceMethod yX9_wouldTell ∈ gt := gm (i := 941) (by decide +kernel) rfl
theorem co_X9_wouldTell : Cond.code yX9_wouldTell cX9_wouldTell 6 (some .boolean) ∈ gt := gm (i := 942) (by decide +kernel) rfl
theorem ml_L_87 : Cond.methodLink RL 87 yX9_clashes ∈ gt := gm (i := 943) (by decide +kernel) rfl
theorem im_X9_clashes : Cond.instanceMethod yX9_clashes ∈ gt := gm (i := 944) (by decide +kernel) rfl
theorem se_X9_clashes : Cond.selects RX9 yX9_clashes yX9_clashes ∈ gt := gm (i := 945) (by decide +kernel) rfl
theorem co_X9_clashes : Cond.code yX9_clashes cX9_clashes 7 (some .int) ∈ gt := gm (i := 946) (by decide +kernel) rfl
theorem ml_L_91 : Cond.methodLink RL 91 yX9_touched ∈ gt := gm (i := 947) (by decide +kernel) rfl
theorem im_X9_touched : Cond.instanceMethod yX9_touched ∈ gt := gm (i := 948) (by decide +kernel) rfl
theorem se_X9_touched : Cond.selects RX9 yX9_touched yX9_touched ∈ gt := gm (i := 949) (by decide +kernel) rfl
theorem co_X9_touched : Cond.code yX9_touched cX9_touched 3 (some .int) ∈ gt := gm (i := 950) (by decide +kernel) rfl
theorem ml_X9_125 : Cond.methodLink RX9 125 yX9_tryWrite ∈ gt := gm (i := 951) (by decide +kernel) rfl
theorem im_X9_tryWrite : Cond.instanceMethod yX9_tryWrite ∈ gt := gm (i := 953) (by decide +kernel) rfl
theorem co_X9_tryWrite : Cond.code yX9_tryWrite cX9_tryWrite 3 none ∈ gt := gm (i := 954) (by decide +kernel) rfl
theorem ml_L_95 : Cond.methodLink RL 95 yX9_way ∈ gt := gm (i := 955) (by decide +kernel) rfl
theorem im_X9_way : Cond.instanceMethod yX9_way ∈ gt := gm (i := 956) (by decide +kernel) rfl
theorem se_X9_way : Cond.selects RX9 yX9_way yX9_way ∈ gt := gm (i := 957) (by decide +kernel) rfl
theorem co_X9_way : Cond.code yX9_way cX9_way 4 (some .int) ∈ gt := gm (i := 958) (by decide +kernel) rfl
theorem ml_L_99 : Cond.methodLink RL 99 yX9_walk ∈ gt := gm (i := 959) (by decide +kernel) rfl
theorem im_X9_walk : Cond.instanceMethod yX9_walk ∈ gt := gm (i := 960) (by decide +kernel) rfl
theorem se_X9_walk : Cond.selects RX9 yX9_walk yX9_walk ∈ gt := gm (i := 961) (by decide +kernel) rfl
theorem co_X9_walk : Cond.code yX9_walk cX9_walk 8 (some .int) ∈ gt := gm (i := 962) (by decide +kernel) rfl
theorem ml_X9_134 : Cond.methodLink RX9 134 yX9_isWalked ∈ gt := gm (i := 963) (by decide +kernel) rfl
theorem im_X9_isWalked : Cond.instanceMethod yX9_isWalked ∈ gt := gm (i := 965) (by decide +kernel) rfl
theorem co_X9_isWalked : Cond.code yX9_isWalked cX9_isWalked 5 (some .boolean) ∈ gt := gm (i := 966) (by decide +kernel) rfl
theorem ml_X9_128 : Cond.methodLink RX9 128 yX9_isLockOrGate ∈ gt := gm (i := 967) (by decide +kernel) rfl
theorem im_X9_isLockOrGate : Cond.instanceMethod yX9_isLockOrGate ∈ gt := gm (i := 969) (by decide +kernel) rfl
theorem co_X9_isLockOrGate : Cond.code yX9_isLockOrGate cX9_isLockOrGate 5 (some .boolean) ∈ gt := gm (i := 970) (by decide +kernel) rfl
theorem ml_X9_137 : Cond.methodLink RX9 137 yX9_bitsBy ∈ gt := gm (i := 971) (by decide +kernel) rfl
theorem im_X9_bitsBy : Cond.instanceMethod yX9_bitsBy ∈ gt := gm (i := 973) (by decide +kernel) rfl
theorem co_X9_bitsBy : Cond.code yX9_bitsBy cX9_bitsBy 5 (some .int) ∈ gt := gm (i := 974) (by decide +kernel) rfl
theorem ml_X9_131 : Cond.methodLink RX9 131 yX9_bitsOf ∈ gt := gm (i := 975) (by decide +kernel) rfl
theorem im_X9_bitsOf : Cond.instanceMethod yX9_bitsOf ∈ gt := gm (i := 977) (by decide +kernel) rfl
theorem co_X9_bitsOf : Cond.code yX9_bitsOf cX9_bitsOf 2 (some .int) ∈ gt := gm (i := 978) (by decide +kernel) rfl
theorem ml_L_103 : Cond.methodLink RL 103 yX9_keep ∈ gt := gm (i := 979) (by decide +kernel) rfl
theorem im_X9_keep : Cond.instanceMethod yX9_keep ∈ gt := gm (i := 980) (by decide +kernel) rfl
theorem se_X9_keep : Cond.selects RX9 yX9_keep yX9_keep ∈ gt := gm (i := 981) (by decide +kernel) rfl
theorem co_X9_keep : Cond.code yX9_keep cX9_keep 3 (some .int) ∈ gt := gm (i := 982) (by decide +kernel) rfl
theorem ml_L_107 : Cond.methodLink RL 107 yX9_back ∈ gt := gm (i := 983) (by decide +kernel) rfl
theorem im_X9_back : Cond.instanceMethod yX9_back ∈ gt := gm (i := 984) (by decide +kernel) rfl
theorem se_X9_back : Cond.selects RX9 yX9_back yX9_back ∈ gt := gm (i := 985) (by decide +kernel) rfl
theorem co_X9_back : Cond.code yX9_back cX9_back 3 (some .int) ∈ gt := gm (i := 986) (by decide +kernel) rfl
theorem ml_L_111 : Cond.methodLink RL 111 yX9_count ∈ gt := gm (i := 987) (by decide +kernel) rfl
theorem im_X9_count : Cond.instanceMethod yX9_count ∈ gt := gm (i := 988) (by decide +kernel) rfl
theorem se_X9_count : Cond.selects RX9 yX9_count yX9_count ∈ gt := gm (i := 989) (by decide +kernel) rfl
theorem co_X9_count : Cond.code yX9_count cX9_count 2 (some .int) ∈ gt := gm (i := 990) (by decide +kernel) rfl
theorem ml_X9_141 : Cond.methodLink RX9 141 yX9_fieldBits ∈ gt := gm (i := 991) (by decide +kernel) rfl
theorem im_X9_fieldBits : Cond.instanceMethod yX9_fieldBits ∈ gt := gm (i := 993) (by decide +kernel) rfl
theorem co_X9_fieldBits : Cond.code yX9_fieldBits cX9_fieldBits 3 (some .int) ∈ gt := gm (i := 994) (by decide +kernel) rfl
theorem ml_X9_144 : Cond.methodLink RX9 144 yX9_brokenMany ∈ gt := gm (i := 995) (by decide +kernel) rfl
theorem im_X9_brokenMany : Cond.instanceMethod yX9_brokenMany ∈ gt := gm (i := 997) (by decide +kernel) rfl
theorem co_X9_brokenMany : Cond.code yX9_brokenMany cX9_brokenMany 3 (some .int) ∈ gt := gm (i := 998) (by decide +kernel) rfl
theorem ml_L_17 : Cond.methodLink RL 17 yX9_type ∈ gt := gm (i := 999) (by decide +kernel) rfl
theorem im_X9_type : Cond.instanceMethod yX9_type ∈ gt := gm (i := 1000) (by decide +kernel) rfl
theorem se_X9_type : Cond.selects RX9 yX9_type yX9_type ∈ gt := gm (i := 1001) (by decide +kernel) rfl
theorem co_X9_type : Cond.code yX9_type cX9_type 2 (some .int) ∈ gt := gm (i := 1002) (by decide +kernel) rfl
theorem ml_L_22 : Cond.methodLink RL 22 yX9_clear ∈ gt := gm (i := 1003) (by decide +kernel) rfl
theorem im_X9_clear : Cond.instanceMethod yX9_clear ∈ gt := gm (i := 1004) (by decide +kernel) rfl
theorem se_X9_clear : Cond.selects RX9 yX9_clear yX9_clear ∈ gt := gm (i := 1005) (by decide +kernel) rfl
theorem co_X9_clear : Cond.code yX9_clear cX9_clear 2 (some .int) ∈ gt := gm (i := 1006) (by decide +kernel) rfl
theorem ml_L_26 : Cond.methodLink RL 26 yX9_tells ∈ gt := gm (i := 1007) (by decide +kernel) rfl
theorem im_X9_tells : Cond.instanceMethod yX9_tells ∈ gt := gm (i := 1008) (by decide +kernel) rfl
theorem se_X9_tells : Cond.selects RX9 yX9_tells yX9_tells ∈ gt := gm (i := 1009) (by decide +kernel) rfl
theorem co_X9_tells : Cond.code yX9_tells cX9_tells 3 (some .int) ∈ gt := gm (i := 1010) (by decide +kernel) rfl
theorem ml_X9_172 : Cond.methodLink RX9 172 yX9_next ∈ gt := gm (i := 1011) (by decide +kernel) rfl
theorem im_X9_next : Cond.instanceMethod yX9_next ∈ gt := gm (i := 1013) (by decide +kernel) rfl
theorem co_X9_next : Cond.code yX9_next cX9_next 2 none ∈ gt := gm (i := 1014) (by decide +kernel) rfl
theorem ml_X9_153 : Cond.methodLink RX9 153 yX9_isHere ∈ gt := gm (i := 1015) (by decide +kernel) rfl
theorem im_X9_isHere : Cond.instanceMethod yX9_isHere ∈ gt := gm (i := 1017) (by decide +kernel) rfl
theorem co_X9_isHere : Cond.code yX9_isHere cX9_isHere 3 (some .boolean) ∈ gt := gm (i := 1018) (by decide +kernel) rfl
theorem ml_X9_166 : Cond.methodLink RX9 166 yX9_kindOf ∈ gt := gm (i := 1020) (by decide +kernel) rfl
theorem st_X9_kindOf : Cond.static yX9_kindOf ∈ gt := gm (i := 1021) (by decide +kernel) rfl
theorem co_X9_kindOf : Cond.code yX9_kindOf cX9_kindOf 1 (some .int) ∈ gt := gm (i := 1022) (by decide +kernel) rfl
theorem ml_X9_197 : Cond.methodLink RX9 197 yX9_readItem ∈ gt := gm (i := 1023) (by decide +kernel) rfl
theorem im_X9_readItem : Cond.instanceMethod yX9_readItem ∈ gt := gm (i := 1025) (by decide +kernel) rfl
theorem co_X9_readItem : Cond.code yX9_readItem cX9_readItem 3 none ∈ gt := gm (i := 1026) (by decide +kernel) rfl
theorem ml_X9_175 : Cond.methodLink RX9 175 yX9_must ∈ gt := gm (i := 1027) (by decide +kernel) rfl
theorem im_X9_must : Cond.instanceMethod yX9_must ∈ gt := gm (i := 1029) (by decide +kernel) rfl
theorem co_X9_must : Cond.code yX9_must cX9_must 3 (some .int) ∈ gt := gm (i := 1030) (by decide +kernel) rfl
theorem ml_X9_185 : Cond.methodLink RX9 185 yX9_readRegister ∈ gt := gm (i := 1031) (by decide +kernel) rfl
theorem im_X9_readRegister : Cond.instanceMethod yX9_readRegister ∈ gt := gm (i := 1033) (by decide +kernel) rfl
theorem co_X9_readRegister : Cond.code yX9_readRegister cX9_readRegister 3 none ∈ gt := gm (i := 1034) (by decide +kernel) rfl
theorem ml_X9_179 : Cond.methodLink RX9 179 yX9_number ∈ gt := gm (i := 1035) (by decide +kernel) rfl
theorem im_X9_number : Cond.instanceMethod yX9_number ∈ gt := gm (i := 1037) (by decide +kernel) rfl
theorem co_X9_number : Cond.code yX9_number cX9_number 3 (some .int) ∈ gt := gm (i := 1038) (by decide +kernel) rfl
theorem ml_X9_188 : Cond.methodLink RX9 188 yX9_readField ∈ gt := gm (i := 1039) (by decide +kernel) rfl
theorem im_X9_readField : Cond.instanceMethod yX9_readField ∈ gt := gm (i := 1041) (by decide +kernel) rfl
theorem co_X9_readField : Cond.code yX9_readField cX9_readField 8 none ∈ gt := gm (i := 1042) (by decide +kernel) rfl
theorem ml_X9_182 : Cond.methodLink RX9 182 yX9_usedBits ∈ gt := gm (i := 1043) (by decide +kernel) rfl
theorem im_X9_usedBits : Cond.instanceMethod yX9_usedBits ∈ gt := gm (i := 1045) (by decide +kernel) rfl
theorem co_X9_usedBits : Cond.code yX9_usedBits cX9_usedBits 5 (some .int) ∈ gt := gm (i := 1046) (by decide +kernel) rfl
theorem ml_X9_191 : Cond.methodLink RX9 191 yX9_readAlias ∈ gt := gm (i := 1047) (by decide +kernel) rfl
theorem im_X9_readAlias : Cond.instanceMethod yX9_readAlias ∈ gt := gm (i := 1049) (by decide +kernel) rfl
theorem co_X9_readAlias : Cond.code yX9_readAlias cX9_readAlias 5 none ∈ gt := gm (i := 1050) (by decide +kernel) rfl
theorem ml_X9_194 : Cond.methodLink RX9 194 yX9_readLink ∈ gt := gm (i := 1051) (by decide +kernel) rfl
theorem im_X9_readLink : Cond.instanceMethod yX9_readLink ∈ gt := gm (i := 1053) (by decide +kernel) rfl
theorem co_X9_readLink : Cond.code yX9_readLink cX9_readLink 4 none ∈ gt := gm (i := 1054) (by decide +kernel) rfl
theorem ma_X1_25 : Cond.methodLink RX1 25 arraycopyName ∈ gt := gm (i := 446) (by decide +kernel) rfl
theorem wm_objI : Cond.instanceMethod objectInit ∈ gt := gm (i := 66) (by decide +kernel) rfl
theorem wm_objC : Cond.code objectInit ⟨#[0xb1]⟩ 1 none ∈ gt := gm (i := 67) (by decide +kernel) rfl
theorem wm_arrI : Cond.arrayClass .int ∈ gt := gm (i := 84) (by decide +kernel) rfl
theorem wm_arrZ : Cond.arrayClass .boolean ∈ gt := gm (i := 239) (by decide +kernel) rfl
theorem wm_kl : Cond.fieldLinkNest RX7 41 "MirrorBytes" "KIND_LETTERS" "[C" "MirrorBytes" ∈ lw_tbl := List.mem_of_getElem? (i := 413) (by decide +kernel)
theorem wm_acS : Cond.static arraycopyName ∈ gt := gm (i := 447) (by decide +kernel) rfl
theorem wm_acN : Cond.native arraycopyName ∈ gt := gm (i := 448) (by decide +kernel) rfl
theorem wm_c265 : Cond.constant RJ6 265 1431655765 ∈ gt := gm (i := 729) (by decide +kernel) rfl
theorem wm_c266 : Cond.constant RJ6 266 858993459 ∈ gt := gm (i := 730) (by decide +kernel) rfl
theorem wm_c267 : Cond.constant RJ6 267 252645135 ∈ gt := gm (i := 731) (by decide +kernel) rfl
theorem wm_c165 : Cond.constant RX9 165 65535 ∈ gt := gm (i := 1019) (by decide +kernel) rfl
end
section
/-! My own rows: the world as a function of addresses. -/
abbrev Om : Type := Nat → Option va_E
abbrev Gm : Type := va_G × ClassId × ClassId × ClassId
abbrev Fn : Type := Nat → Int32
def tysG (G : Gm) : List (ClassId × FieldType) := [(G.2.1, .int), (G.2.2.1, .boolean), (G.2.2.2, .object "MirrorBytes$Situation")]
def oK (G : Gm) (U : State) : Prop := va_K G.1 vwCl (tysG G) U
def oW (G : Gm) (A : Nat → Prop) (Ω : Om) (H : Heap) : Prop := ∀ a e, Ω a = some e → va_at G.1 vwCl (a, e) H ∧ A a
/-- the words of nest mates -/
def nestM : List (String × Nat × MethodName) := [(RX8, 9, yX6_init), (RX4, 11, yX0_init), (RX8, 27, yX5_init), (RX5, 11, yX1_init), (RX5, 23, yX3_init), (RX2, 17, yX5_init), (RX8, 49, yX1_init), (RX8, 56, yX0_init), (RX1, 62, yX8_isWithin), (RX0, 58, yX8_isWithin)]
def oN (U : State) : Prop := (∀ q ∈ nestM, va_Nw (.methodLinkNest q.1 q.2.1 q.2.2 "MirrorBytes") U) ∧ va_Nw (.fieldLinkNest RX7 41 "MirrorBytes" "KIND_LETTERS" "[C" "MirrorBytes") U
theorem oN.warm {s U : State} (hW : s.WarmedH U.vm) (h : oN s) : oN U := ⟨fun q hq => va_Nw.warmM hW (h.1 q hq), va_Nw.warmF hW h.2⟩
theorem oN.same {u U : State} (hvm : u.vm = U.vm) (h : oN u) : oN U := ⟨fun q hq => va_Nw.same rfl hvm (h.1 q hq), va_Nw.same rfl hvm h.2⟩
/-- the letters of the kinds, a static row of the class -/
def klL : List Int32 := [114, 119, 114, 111, 119, 111, 119, 99, 119, 115, 119, 116, 114, 99, 111, 110]
def kl (k : Nat) : Int32 := klL.getD k 0
def oZ (A : Nat → Prop) (U : State) (H : Heap) : Prop := ∃ t : Nat, va_Z "MirrorBytes" "KIND_LETTERS" "[C" (.ref t) A U H ∧ va_T .char t 16 (fun k => .int (kl k)) A U H
theorem oZ.moved {A : Nat → Prop} {u U : State} {H : Heap} (hvm : u.vm.Alike U.vm) (h : oZ A u H) : oZ A U H := by
  obtain ⟨t, h1, h2⟩ := h
  exact ⟨t, va_Z.moved hvm h1, va_T.moved hvm h2⟩
theorem oZ.kept {A : Nat → Prop} {U : State} {H H1 : Heap} (h : oZ A U H) (hq : ∀ a : Nat, a < H.size → ¬ A a → H1[a]? = H[a]?) : oZ A U H1 := by
  obtain ⟨t, h1, h2⟩ := h
  exact ⟨t, va_Z.kept h1 hq, va_T.kept h2 hq⟩
theorem oZ.narrow {A B : Nat → Prop} {U : State} {H : Heap} (h : oZ A U H) (hAB : ∀ q, B q → A q) : oZ B U H := by
  obtain ⟨t, h1, h2⟩ := h
  exact ⟨t, va_Z.narrow h1 hAB, va_T.narrow h2 hAB⟩
def oS (G : Gm) (A : Nat → Prop) (Ω : Om) (U : State) : Prop := oW G A Ω U.heap ∧ oK G U ∧ oN U ∧ oZ A U U.heap
def oB (G : Gm) (A : Nat → Prop) (Ω : Om) (U : State) : Prop := oW G A Ω U.heap
def oU (Ω : Om) (a : Nat) (e : va_E) : Om := fun q => if q = a then some e else Ω q
def oF (Ω Ω' : Om) (o k : Nat) : Prop := ∀ q : Nat, (q < o ∨ o + k ≤ q) → Ω' q = Ω q
theorem oU_self {Ω : Om} {a : Nat} {e : va_E} : oU Ω a e a = some e := if_pos rfl
theorem oU_ne {Ω : Om} {a q : Nat} {e : va_E} (h : q ≠ a) : oU Ω a e q = Ω q := if_neg h
theorem oF.rf {Ω : Om} {o k : Nat} : oF Ω Ω o k := fun _ _ => rfl
theorem oF.tr {Ω Ω1 Ω2 : Om} {o k : Nat} (h : oF Ω Ω1 o k) (h2 : oF Ω1 Ω2 o k) : oF Ω Ω2 o k := fun q hq => (h2 q hq).trans (h q hq)
theorem oF.wide {Ω Ω1 : Om} {o k o' k' : Nat} (h : oF Ω Ω1 o k) (h1 : o' ≤ o) (h2 : o + k ≤ o' + k') : oF Ω Ω1 o' k' := fun q hq => h q (by omega)
theorem oF.up {Ω : Om} {a : Nat} {e : va_E} {o k : Nat} (h1 : o ≤ a) (h2 : a < o + k) : oF Ω (oU Ω a e) o k := fun q hq => oU_ne (by omega)
theorem oW.one {G : Gm} {A : Nat → Prop} {Ω : Om} {H : Heap} {a : Nat} {e : va_E} (hW : oW G A Ω H) (he : Ω a = some e) : va_P G.1 vwCl [(a, e)] H := by
  intro k q hk
  have hz : k < 1 := (List.getElem?_eq_some_iff.mp hk).1
  rw [show k = 0 by omega] at hk
  cases hk
  exact (hW a e he).1
theorem oW.put {G : Gm} {A : Nat → Prop} {Ω : Om} {H H1 : Heap} {a : Nat} {e : va_E} (hW : oW G A Ω H) (he : va_at G.1 vwCl (a, e) H1) (oq : ∀ q : Nat, q ≠ a → H1[q]? = H[q]?) (ha : A a) : oW G A (oU Ω a e) H1 := by
  intro q f hq
  by_cases h : q = a
  · subst h
    rw [oU_self] at hq
    cases hq
    exact ⟨he, ha⟩
  · rw [oU_ne h] at hq
    exact ⟨(hW q f hq).1.kept (oq q h), (hW q f hq).2⟩
theorem oK.moved {G : Gm} {u U : State} (hvm : u.vm.Alike U.vm) (h : oK G u) : oK G U := va_K.moved hvm h
theorem oS_blind {G : Gm} {A : Nat → Prop} {Ω : Om} {av : List Value} : FrameBlind (va_Pc av (oS G A Ω)) := fun a U g mk q => ⟨q.1, q.2.1, va_K.moved (u := U) (U := U.calling g mk a) (Vm.Alike.refl U.vm) q.2.2.1, oN.same (u := U) (U := U.calling g mk a) rfl q.2.2.2.1, oZ.moved (u := U) (U := U.calling g mk a) (Vm.Alike.refl U.vm) q.2.2.2.2⟩
theorem oS_ok {G : Gm} {A A0 : Nat → Prop} {Ω : Om} {H : Heap} {locs : List Loc} {av : List Value} {s : State} (hK : oK G s) (hN : oN s) (hZ : oZ A0 s s.heap) (hS : va_S A0 s.heap H locs) (hA : ∀ q, A q → A0 q) (hW : oW G A Ω H) : ∀ U : State, U.heap = H → s.WarmedH U.vm → va_Pc av (oS G A Ω) av.toArray U := fun U hU hw => ⟨rfl, by rw [hU]; exact hW, va_K.moved hw.alike hK, oN.warm hw hN, by rw [hU]; exact oZ.moved hw.alike ((hZ.kept hS.2.1).narrow hA)⟩
/-- the words of a method: its code, and the tables -/
def wz (y : MethodName) (cc : ByteArray) (n : Nat) (ret : Option FieldType) : List Cond := .code y cc n ret :: gt
theorem good_wz {y : MethodName} {cc : ByteArray} {n : Nat} {ret : Option FieldType} (zc : Cond.code y cc n ret ∈ gt) : GoodIn gt (wz y cc n ret) := fun w h => by
  rcases List.mem_cons.mp h with h | h
  · rw [h]; exact ⟨zc, gt_good zc⟩
  · exact ⟨h, gt_good h⟩
theorem good_V {y : MethodName} {cc : ByteArray} {n : Nat} {ret : Option FieldType} {own C : String} {idx : Nat} (z1 : Cond.methodLink own idx y ∈ gt) (z2 : Cond.instanceMethod y ∈ gt) (z3 : Cond.selects C y y ∈ gt) (z4 : Cond.initialized C ∈ gt) (zc : Cond.code y cc n ret ∈ gt) : GoodIn gt (wsV own idx C y (wz y cc n ret)) := fun w h => by
  rcases List.mem_append.mp h with h | h
  · simp only [List.mem_cons, List.not_mem_nil, or_false] at h
    rcases h with h | h | h | h <;> rw [h]
    · exact ⟨z1, gt_good z1⟩
    · exact ⟨z2, gt_good z2⟩
    · exact ⟨z3, gt_good z3⟩
    · exact ⟨z4, gt_good z4⟩
  · exact good_wz zc w h
theorem good_S {y : MethodName} {cc : ByteArray} {n : Nat} {ret : Option FieldType} {own : String} {idx : Nat} (z1 : Cond.methodLink own idx y ∈ gt) (z2 : Cond.static y ∈ gt) (z4 : Cond.initialized own ∈ gt) (zc : Cond.code y cc n ret ∈ gt) : GoodIn gt (wsS own idx y (wz y cc n ret)) := fun w h => by
  rcases List.mem_append.mp h with h | h
  · simp only [List.mem_cons, List.not_mem_nil, or_false] at h
    rcases h with h | h | h <;> rw [h]
    · exact ⟨z1, gt_good z1⟩
    · exact ⟨z2, gt_good z2⟩
    · exact ⟨z4, gt_good z4⟩
  · exact good_wz zc w h
section OR
variable {p : Program} {l : Launch} {e : Env} {R : Room} {s : State} {m : MethodId} {args : Array Value} {below : List Frame} {meth : Method} {c : Code} {H : Heap} {locs : List Loc} {cells slots : Nat} {Q : State → Prop}
variable {cc : ByteArray} {pc : Nat} {ls : Array Slot} {rest : List Value} {G : Gm} {A A0 : Nat → Prop} {Ω : Om} {H0 : Heap} {a : Nat}
theorem o_get (hx : p.tables.exec = Jvm.exec) (hb : c.code = cc) {own C : String} {T : u_T} {N ci index : Nat} (hts : ∀ w ∈ gt, w.before args s = true) (hown : s.vm.findClass own = some m.cls) (hK : oK G s) (hW : oW G A Ω H) {fs : List Value} (he : Ω a = some (.inr (ci, fs))) (hc : vwCl[ci]? = some (C, T, N)) (hin : ∀ w ∈ u_ws C T N, w ∈ gt) (k : Nat) (hk : k < N) (hlink : Cond.fieldLink own index (T k).1 (T k).2.1 (T k).2.2.1 ∈ gt) {v : Value} (hv : fs[k]? = some v) (hdg : decode cc pc = .ok (.getfield index, 3))
    (kk : W p l e R s m args below meth c H locs cells slots Q (F0 m (pc + 3) ls (v :: rest))) : W p l e R s m args below meth c H locs cells slots Q (F0 m pc ls (.ref a :: rest)) :=
  va_get hx hb hts hin hown hK (hW.one he) 0 rfl hc k hk (hts _ hlink) (fun _ h => h) hv hdg kk
theorem o_put (hx : p.tables.exec = Jvm.exec) (hb : c.code = cc) {own C : String} {T : u_T} {N ci index : Nat} (hts : ∀ w ∈ gt, w.before args s = true) (hown : s.vm.findClass own = some m.cls) (hK : oK G s) (hW : oW G A Ω H) (hS0 : va_S A0 H0 H locs) (hA : ∀ q, A q → A0 q) {fs : List Value} (he : Ω a = some (.inr (ci, fs))) (hc : vwCl[ci]? = some (C, T, N)) (hin : ∀ w ∈ u_ws C T N, w ∈ gt) (ty0 : Nat → FieldType) (hty : ∀ k, k < N → parseFieldDescriptor (T k).2.2.1 = some (ty0 k)) (hnm : ∀ a, a < N → ∀ b, b < N → a ≠ b → (T a).2.1 ≠ (T b).2.1) (k : Nat) (hk : k < N) (hlink : Cond.fieldLink own index (T k).1 (T k).2.1 (T k).2.2.1 ∈ gt) (hfin : (T k).2.2.2 = false) {ty : FieldType} {v : Value} (hd : parseFieldDescriptor (T k).2.2.1 = some ty) (hn : narrow ty v = v) (hfit : fits ty v = true) (hl : k < fs.length) (hdg : decode cc pc = .ok (.putfield index, 3))
    (kk : ∀ (H1 : Heap) (locs1 : List Loc), oW G A (oU Ω a (.inr (ci, fs.set k v))) H1 → va_S A0 H0 H1 locs1 → W p l e R s m args below meth c H1 locs1 cells slots Q (F0 m (pc + 3) ls rest)) : W p l e R s m args below meth c H locs cells slots Q (F0 m pc ls (v :: .ref a :: rest)) := by
  have hap := va_apart (own := own) hts hin ty0 hty hnm hK hc
  have hA1 := (hW a _ he).2
  obtain ⟨r, h1, cell, q1, q2, q3, q4⟩ := (hW a _ he).1
  have hr : r = (C, T, N) := Option.some.inj (h1.symm.trans hc)
  subst hr
  obtain ⟨hS, hfc, kC, hkC, hkind⟩ := hK.1 ci _ hc
  obtain ⟨cf, kf, fi, f, hi, hsl⟩ := hS k hk
  have hlay := hts _ (hin _ (u_in_lay hk))
  unfold u_lay at hlay
  rw [if_neg (by rw [hfin]; decide)] at hlay
  have hst := (u_facts hfc hkC (u_lays hts hin hk) hi).1
  have h6 := u_store hfc hkC hkind hlay hi hd hn hfit
  refine W.putK hx hb (f := f) ⟨hown, hts _ hlink, ⟨_, _, _, hi⟩, hst⟩ (by rw [q2]; exact h6) q1 q3 (by rw [hsl]; exact k2_hasslot (q4 k hk)) rfl rfl hdg fun H' e1 e2 e3 => ?_
  rw [hsl] at e1 ⊢
  exact kk H' _ (hW.put ⟨_, hc, t_OB.to (V := updV (vp_V fs) k v) ⟨_, e1, q2, q3, t_set q4 hap hk v⟩ (fun j _ => vp_updV_set hl v j)⟩ e3 hA1) (hS0.put e2 e3 (hA _ hA1))
theorem o_iald (hx : p.tables.exec = Jvm.exec) (hb : c.code = cc) (hK : oK G s) (hW : oW G A Ω H) {n : Nat} {f : Fn} (he : Ω a = some (.inl (G.2.1, n, .inl f))) {i : Int32} (hin : vp_in i n) (hdg : decode cc pc = .ok (.iaload, 1))
    (kk : W p l e R s m args below meth c H locs cells slots Q (F0 m (pc + 1) ls (.int (f i.toNatClampNeg) :: rest))) : W p l e R s m args below meth c H locs cells slots Q (F0 m pc ls (.int i :: .ref a :: rest)) :=
  va_iald hx hb hK (hW.one he) 0 0 rfl rfl hin hdg kk
theorem o_zald (hx : p.tables.exec = Jvm.exec) (hb : c.code = cc) (hK : oK G s) (hW : oW G A Ω H) {n : Nat} {f : Fn} (he : Ω a = some (.inl (G.2.2.1, n, .inl f))) {i : Int32} (hin : vp_in i n) (hdg : decode cc pc = .ok (.baload, 1))
    (kk : W p l e R s m args below meth c H locs cells slots Q (F0 m (pc + 1) ls (.int (f i.toNatClampNeg) :: rest))) : W p l e R s m args below meth c H locs cells slots Q (F0 m pc ls (.int i :: .ref a :: rest)) :=
  va_zald hx hb hK (hW.one he) 0 1 rfl rfl hin hdg kk
theorem o_aldq (hx : p.tables.exec = Jvm.exec) (hb : c.code = cc) (hK : oK G s) (hW : oW G A Ω H) {n : Nat} {f : Nat → Option Nat} (he : Ω a = some (.inl (G.2.2.2, n, .inr (.inr (.inr (.inr f)))))) {i : Int32} (hin : vp_in i n) (hdg : decode cc pc = .ok (.aaload, 1))
    (kk : W p l e R s m args below meth c H locs cells slots Q (F0 m (pc + 1) ls (va_rf (f i.toNatClampNeg) :: rest))) : W p l e R s m args below meth c H locs cells slots Q (F0 m pc ls (.int i :: .ref a :: rest)) :=
  va_aldq hx hb hK (hW.one he) 0 2 rfl rfl hin hdg kk
theorem o_iast (hx : p.tables.exec = Jvm.exec) (hb : c.code = cc) (hK : oK G s) (hW : oW G A Ω H) (hS : va_S A0 H0 H locs) (hA : ∀ q, A q → A0 q) {n : Nat} {f : Fn} (he : Ω a = some (.inl (G.2.1, n, .inl f))) {i x : Int32} (hin : vp_in i n) (hdg : decode cc pc = .ok (.iastore, 1))
    (kk : ∀ (H1 : Heap) (locs1 : List Loc), oW G A (oU Ω a (.inl (G.2.1, n, .inl (upd f i.toNatClampNeg x)))) H1 → va_S A0 H0 H1 locs1 → W p l e R s m args below meth c H1 locs1 cells slots Q (F0 m (pc + 1) ls rest)) : W p l e R s m args below meth c H locs cells slots Q (F0 m pc ls (.int x :: .int i :: .ref a :: rest)) := by
  refine W.iast hx hb (hW a _ he).1 ((hK.2 0 _ rfl).1 n (fun j => .int (f j))) (fun q => by cases q) (by show ¬ (i < 0 ∨ (arrV _ _ _).slots.size ≤ _); rw [arrV_size]; exact hin) rfl rfl hdg fun H1 e z oq => ?_
  refine kk H1 _ (hW.put ?_ oq (hW a _ he).2) (hS.put z oq (hA _ (hW a _ he).2))
  show H1[a]? = some (vp_cell _ _)
  rw [e]
  rw [vp_cell_i, vp_cell_i, arrV_store]
  congr 2
  funext q
  by_cases hq : q = i.toNatClampNeg
  · subst hq
    simp [updV, upd]
  · simp [updV, upd, hq]
theorem o_zast (hx : p.tables.exec = Jvm.exec) (hb : c.code = cc) (hK : oK G s) (hW : oW G A Ω H) (hS : va_S A0 H0 H locs) (hA : ∀ q, A q → A0 q) {n : Nat} {f : Fn} (he : Ω a = some (.inl (G.2.2.1, n, .inl f))) {i x : Int32} (hin : vp_in i n) (hdg : decode cc pc = .ok (.bastore, 1))
    (kk : ∀ (H1 : Heap) (locs1 : List Loc), oW G A (oU Ω a (.inl (G.2.2.1, n, .inl (upd f i.toNatClampNeg (vp_nar .boolean x))))) H1 → va_S A0 H0 H1 locs1 → W p l e R s m args below meth c H1 locs1 cells slots Q (F0 m (pc + 1) ls rest)) : W p l e R s m args below meth c H locs cells slots Q (F0 m pc ls (.int x :: .int i :: .ref a :: rest)) := by
  refine W.zast hx hb (hW a _ he).1 ((hK.2 1 _ rfl).1 n (fun j => .int (f j))) (fun q => by cases q) (by show ¬ (i < 0 ∨ (arrV _ _ _).slots.size ≤ _); rw [arrV_size]; exact hin) rfl rfl hdg fun H1 e z oq => ?_
  refine kk H1 _ (hW.put ?_ oq (hW a _ he).2) (hS.put z oq (hA _ (hW a _ he).2))
  show H1[a]? = some (vp_cell _ _)
  rw [e]
  rw [vp_cell_i, vp_cell_i, arrV_store]
  congr 2
  funext q
  by_cases hq : q = i.toNatClampNeg
  · subst hq
    simp [updV, upd, vp_nar]
    try rfl
  · simp [updV, upd, hq]
/-- System.arraycopy between two int rows, from 0 to 0 -/
theorem o_copy (hx : p.tables.exec = Jvm.exec) (hb : c.code = cc) (hml : c.maxLocals = ls.size) {own : String} {index : Nat} (hown : s.vm.findClass own = some m.cls) (hts : ∀ w ∈ gt, w.before args s = true) (hlink : Cond.methodLink own index arraycopyName ∈ gt) (hini : Cond.initialized "java/lang/System" ∈ gt)
    (hK : oK G s) (hW : oW G A Ω H) (hS : va_S A0 H0 H locs) (hA : ∀ q, A q → A0 q) {a0 : Nat} {n0 n1 : Nat} {f g : Fn} (ha0 : Ω a0 = some (.inl (G.2.1, n0, .inl f))) (ha1 : Ω a = some (.inl (G.2.1, n1, .inl g)))
    {sp dp n : Int32} (h1 : ¬ sp < 0) (h2 : ¬ dp < 0) (h3 : ¬ n < 0) (h4 : sp.toNatClampNeg + n.toNatClampNeg ≤ n0) (h5 : dp.toNatClampNeg + n.toNatClampNeg ≤ n1)
    (hframes : 1 ≤ R.frames) (hlocals : (rest.map fun v => v.category).sum + (nativeFrameWords "java/lang/System" "arraycopy" 5 + 11) ≤ R.locals) (hdg : decode cc pc = .ok (.invokestatic index, 3))
    (kk : ∀ (H1 : Heap) (locs1 : List Loc), oW G A (oU Ω a (.inl (G.2.1, n1, .inl (va_cpy f g sp.toNatClampNeg dp.toNatClampNeg n.toNatClampNeg)))) H1 → va_S A0 H0 H1 locs1 → W p l e R s m args below meth c H1 locs1 cells slots Q (F0 m (pc + 3) ls rest)) : W p l e R s m args below meth c H locs cells slots Q (F0 m pc ls (.int n :: .int dp :: .ref a :: .int sp :: .ref a0 :: rest)) := by
  have nn : ∀ z : Int32, ¬ z < 0 → z.toInt = (z.toNatClampNeg : Int) := by
    intro z hz
    have hz0 : (0 : Int) ≤ z.toInt := by
      have := Int32.not_lt.mp hz
      simpa using Int32.le_iff_toInt_le.mp this
    show z.toInt = ((z.toInt.toNat : Nat) : Int)
    omega
  intro T hT X
  have hc0 := (hW a0 _ ha0).1
  have hc1 := (hW a _ ha1).1
  obtain ⟨-, k0, hk0, cm0, hkk0⟩ := (hK.2 0 _ rfl).1 n0 (fun j => .int (f j))
  obtain ⟨-, k1, hk1, cm1, hkk1⟩ := (hK.2 0 _ rfl).1 n1 (fun j => .int (g j))
  obtain ⟨vm', X', step⟩ := X.arraycopy hx hown (hts _ hlink) (hts _ wm_acN) (hts _ wm_acS) (hts _ hini) (src := a0) (dst := a) (cs := vp_cell G.2.1 (n0, .inl f)) (cd := vp_cell G.2.1 (n1, .inl g)) (srcPos := sp) (destPos := dp) (n := n) (by rw [hT]; exact hc0) (by rw [hT]; exact hc1)
    (fun _ h => by cases h) (fun _ h => by cases h) (fun h => by cases h) (fun h => by cases h) hk0 hk1 hkk0 hkk1 (by simp [refKind]) h1 h2 h3
    (by rw [nn sp h1, nn n h3]; show ¬ _ > ((arrV G.2.1 n0 (fun j => .int (f j))).slots.size : Int); rw [arrV_size]; omega)
    (by rw [nn dp h2, nn n h3]; show ¬ _ > ((arrV G.2.1 n1 (fun j => .int (g j))).slots.size : Int); rw [arrV_size]; omega)
    (fun vm₁ _ i hi => by
      have e : (vp_cell G.2.1 (n0, .inl f)).slots.getD (sp.toNatClampNeg + i) .null = .int (f (sp.toNatClampNeg + i)) := by
        show (arrV G.2.1 n0 (fun j => .int (f j))).slots.getD _ _ = _
        rw [Array.getD_eq_getD_getElem?, arrV_read _ _ (by omega)]
        rfl
      refine ⟨?_, ?_⟩
      · rw [e]
        rfl
      · rw [e]
        exact trivial)
    (g := F0 m pc ls (.int n :: .int dp :: .ref a :: .int sp :: .ref a0 :: rest)) rfl (by rw [hml]) (rest := rest) rfl (by rw [hb]; exact hdg) hframes (by show 2 * 0 + _ + _ ≤ _; omega)
  have e1 : copied (vp_cell G.2.1 (n0, .inl f)) (vp_cell G.2.1 (n1, .inl g)) sp dp n = vp_cell G.2.1 (n1, .inl (va_cpy f g sp.toNatClampNeg dp.toNatClampNeg n.toNatClampNeg)) := va_copied (fun z => .int z) G.2.1 G.2.1 f g h4
  rw [e1] at X' step
  have hl : a < H.size := (Array.getElem?_eq_some_iff.mp hc1).1
  have hheap : ((T.setVm vm').setCell a (vp_cell G.2.1 (n1, .inl (va_cpy f g sp.toNatClampNeg dp.toNatClampNeg n.toNatClampNeg)))).heap = H.setIfInBounds a (vp_cell G.2.1 (n1, .inl (va_cpy f g sp.toNatClampNeg dp.toNatClampNeg n.toNatClampNeg))) := by rw [← hT]; rfl
  have oq : ∀ q : Nat, q ≠ a → (H.setIfInBounds a (vp_cell G.2.1 (n1, .inl (va_cpy f g sp.toNatClampNeg dp.toNatClampNeg n.toNatClampNeg))))[q]? = H[q]? := fun q hq => by simp [Array.getElem?_setIfInBounds, Ne.symm hq]
  have hAa := (hW a _ ha1).2
  obtain ⟨t, a1, b1⟩ := kk _ _ (hW.put (show (H.setIfInBounds a _)[a]? = some _ by simp [Array.getElem?_setIfInBounds, hl]) oq hAa) ⟨by simp; exact hS.1, fun q g1 g2 => by
      rw [oq q (fun e => g2 (by rw [e]; exact hA _ hAa))]
      exact hS.2.1 q g1 g2, fun q hq => by
      rcases List.mem_append.mp hq with h | h
      · exact hS.2.2 q h
      · obtain ⟨z, -, hz⟩ := List.mem_map.mp h
        rw [← hz]
        exact hA _ hAa⟩ _ hheap X'
  exact ⟨t, step t a1, b1⟩
/-- the side facts of a call, by numbers alone -/
def o_num (y : MethodName) (n : Nat) (rm R : Room) (maxL : Nat) : Bool := decide (y.cls ≠ "java/lang/invoke/MethodHandle") && decide (y.cls ≠ "java/lang/invoke/VarHandle") && decide ((parseMethodDescriptor y.desc).map (fun d => d.parameters.length) = some n) && Nat.ble (rm.frames + 1) R.frames && Nat.ble (8 + (maxL + 11) + rm.locals) R.locals && Nat.beq rm.cells 0 && Nat.beq rm.slots 0
theorem o_num_ok {y : MethodName} {n : Nat} {rm R : Room} {maxL : Nat} (h : o_num y n rm R maxL = true) : (y.cls ≠ "java/lang/invoke/MethodHandle" ∧ y.cls ≠ "java/lang/invoke/VarHandle" ∧ (parseMethodDescriptor y.desc).map (fun d => d.parameters.length) = some n) ∧ (rm.frames + 1 ≤ R.frames ∧ 8 + (maxL + 11) + rm.locals ≤ R.locals) ∧ rm.cells = 0 ∧ rm.slots = 0 := by
  simp only [o_num, Bool.and_eq_true, decide_eq_true_eq, Nat.ble_eq, Nat.beq_eq] at h
  obtain ⟨⟨⟨⟨⟨⟨h1, h2⟩, h3⟩, h4⟩, h5⟩, h6⟩, h7⟩ := h
  exact ⟨⟨h1, h2, h3⟩, ⟨h4, h5⟩, h6, h7⟩
theorem o_Vi {y : MethodName} {bytes : ByteArray} {maxL nL index ci N n : Nat} {ret : Option FieldType} {own : String} {T : u_T} {As st0 : List Value} {rm : Room} {fs : List Value} {post : Int32 → Om → Prop} (hx : p.tables.exec = Jvm.exec) (hb : c.code = cc) (hml : c.maxLocals = nL) (hown : s.vm.findClass own = some m.cls) (hts : ∀ w ∈ gt, w.before args s = true) (hK : oK G s) (hN : oN s) (hZ : oZ A0 s s.heap) (hW : oW G A Ω H) (hS : va_S A0 s.heap H locs) (hA : ∀ q, A q → A0 q)
    (hM : Met l y (wz y bytes maxL ret) rm (va_Pc (.ref a :: As) (oS G A Ω)) (va_Qi post (oB G A) A) 0 0 A) (he : Ω a = some (.inr (ci, fs))) (hc : vwCl[ci]? = some (y.cls, T, N)) (hg : GoodIn gt (wsV own index y.cls y (wz y bytes maxL ret))) (hn : o_num y n rm R maxL = true) (hcs : cells ≤ R.cells ∧ slots ≤ R.slots) (hls : ls.size = nL) (hcat : (rest.map fun v => v.category).sum ≤ 8) (hlen : As.length = n) (hst : st0 = As.reverse ++ .ref a :: rest) (hdg : decode cc pc = .ok (.invokevirtual index, 3))
    (kk : ∀ (r : Int32) (Ω1 : Om) (H1 : Heap) (locs1 : List Loc), post r Ω1 → oW G A Ω1 H1 → va_S A0 s.heap H1 locs1 → W p l e R s m args below meth c H1 locs1 cells slots Q (F0 m (pc + 3) ls (.int r :: rest))) : W p l e R s m args below meth c H locs cells slots Q (F0 m pc ls st0) := by
  obtain ⟨h1, h2, h3, h4⟩ := o_num_ok hn
  subst hlen
  refine va_calli (va_runV (As := As) (rest := rest) ⟨hx, hb, hml, hown, hts⟩ hM (cwV _ hts hg rfl h3 h4 ⟨rfl, h1⟩ h2) ⟨oS_blind, va_recv hK (hW.one he) (q0 := 0) hc rfl, oS_ok hK hN hZ hS hA hW⟩ rfl rfl hls hst (lv_room hcat) hdg ⟨hcs.1, hcs.2⟩) hS (fun q _ h => hA q h) hA (fun r u t H1 locs1 ht hvm hw hB _ _ hS => ?_)
  exact kk r u H1 locs1 hw (by rw [← ht]; exact hB) hS
theorem o_ViR {y : MethodName} {bytes : ByteArray} {maxL nL index ci N n : Nat} {ret : Option FieldType} {own : String} {T : u_T} {As st0 : List Value} {rm : Room} {fs : List Value} {post : Int32 → Prop} (hx : p.tables.exec = Jvm.exec) (hb : c.code = cc) (hml : c.maxLocals = nL) (hown : s.vm.findClass own = some m.cls) (hts : ∀ w ∈ gt, w.before args s = true) (hK : oK G s) (hN : oN s) (hZ : oZ A0 s s.heap) (hW : oW G A Ω H) (hS : va_S A0 s.heap H locs) (hA : ∀ q, A q → A0 q)
    (hM : Met l y (wz y bytes maxL ret) rm (va_Pc (.ref a :: As) (oS G A Ω)) (va_Qi (fun r Ω1 => post r ∧ Ω1 = Ω) (oB G A) A) 0 0 A) (he : Ω a = some (.inr (ci, fs))) (hc : vwCl[ci]? = some (y.cls, T, N)) (hg : GoodIn gt (wsV own index y.cls y (wz y bytes maxL ret))) (hn : o_num y n rm R maxL = true) (hcs : cells ≤ R.cells ∧ slots ≤ R.slots) (hls : ls.size = nL) (hcat : (rest.map fun v => v.category).sum ≤ 8) (hlen : As.length = n) (hst : st0 = As.reverse ++ .ref a :: rest) (hdg : decode cc pc = .ok (.invokevirtual index, 3))
    (kk : ∀ (r : Int32) (H1 : Heap) (locs1 : List Loc), post r → oW G A Ω H1 → va_S A0 s.heap H1 locs1 → W p l e R s m args below meth c H1 locs1 cells slots Q (F0 m (pc + 3) ls (.int r :: rest))) : W p l e R s m args below meth c H locs cells slots Q (F0 m pc ls st0) :=
  o_Vi hx hb hml hown hts hK hN hZ hW hS hA hM he hc hg hn hcs hls hcat hlen hst hdg (fun r Ω1 H1 locs1 hp hW hS => by
    obtain ⟨hp, hΩ⟩ := hp
    rw [hΩ] at hW
    exact kk r H1 locs1 hp hW hS)
theorem o_Vv {y : MethodName} {bytes : ByteArray} {maxL nL index ci N n : Nat} {ret : Option FieldType} {own : String} {T : u_T} {As st0 : List Value} {rm : Room} {fs : List Value} {post : Om → Prop} (hx : p.tables.exec = Jvm.exec) (hb : c.code = cc) (hml : c.maxLocals = nL) (hown : s.vm.findClass own = some m.cls) (hts : ∀ w ∈ gt, w.before args s = true) (hK : oK G s) (hN : oN s) (hZ : oZ A0 s s.heap) (hW : oW G A Ω H) (hS : va_S A0 s.heap H locs) (hA : ∀ q, A q → A0 q)
    (hM : Met l y (wz y bytes maxL ret) rm (va_Pc (.ref a :: As) (oS G A Ω)) (va_Qv post (oB G A) A) 0 0 A) (he : Ω a = some (.inr (ci, fs))) (hc : vwCl[ci]? = some (y.cls, T, N)) (hg : GoodIn gt (wsV own index y.cls y (wz y bytes maxL ret))) (hn : o_num y n rm R maxL = true) (hcs : cells ≤ R.cells ∧ slots ≤ R.slots) (hls : ls.size = nL) (hcat : (rest.map fun v => v.category).sum ≤ 8) (hlen : As.length = n) (hst : st0 = As.reverse ++ .ref a :: rest) (hdg : decode cc pc = .ok (.invokevirtual index, 3))
    (kk : ∀ (Ω1 : Om) (H1 : Heap) (locs1 : List Loc), post Ω1 → oW G A Ω1 H1 → va_S A0 s.heap H1 locs1 → W p l e R s m args below meth c H1 locs1 cells slots Q (F0 m (pc + 3) ls rest)) : W p l e R s m args below meth c H locs cells slots Q (F0 m pc ls st0) := by
  obtain ⟨h1, h2, h3, h4⟩ := o_num_ok hn
  subst hlen
  refine va_callv (va_runV (As := As) (rest := rest) ⟨hx, hb, hml, hown, hts⟩ hM (cwV _ hts hg rfl h3 h4 ⟨rfl, h1⟩ h2) ⟨oS_blind, va_recv hK (hW.one he) (q0 := 0) hc rfl, oS_ok hK hN hZ hS hA hW⟩ rfl rfl hls hst (lv_room hcat) hdg ⟨hcs.1, hcs.2⟩) hS (fun q _ h => hA q h) hA (fun u t H1 locs1 ht hvm hw hB _ _ hS => ?_)
  exact kk u H1 locs1 hw (by rw [← ht]; exact hB) hS
theorem o_Si {y : MethodName} {bytes : ByteArray} {maxL nL index n : Nat} {ret : Option FieldType} {own : String} {As st0 : List Value} {rm : Room} {post : Int32 → Om → Prop} (hx : p.tables.exec = Jvm.exec) (hb : c.code = cc) (hml : c.maxLocals = nL) (hown : s.vm.findClass own = some m.cls) (hts : ∀ w ∈ gt, w.before args s = true) (hK : oK G s) (hN : oN s) (hZ : oZ A0 s s.heap) (hW : oW G A Ω H) (hS : va_S A0 s.heap H locs) (hA : ∀ q, A q → A0 q)
    (hM : Met l y (wz y bytes maxL ret) rm (va_Pc As (oS G A Ω)) (va_Qi post (oB G A) A) 0 0 A) (z1 : Cond.methodLink own index y ∈ gt) (z2 : Cond.static y ∈ gt) (z3 : Cond.initialized y.cls ∈ gt) (zc : Cond.code y bytes maxL ret ∈ gt) (hn : o_num y n rm R maxL = true) (hcs : cells ≤ R.cells ∧ slots ≤ R.slots) (hls : ls.size = nL) (hcat : (rest.map fun v => v.category).sum ≤ 8) (hlen : As.length = n) (hst : st0 = As.reverse ++ rest) (hdg : decode cc pc = .ok (.invokestatic index, 3))
    (kk : ∀ (r : Int32) (Ω1 : Om) (H1 : Heap) (locs1 : List Loc), post r Ω1 → oW G A Ω1 H1 → va_S A0 s.heap H1 locs1 → W p l e R s m args below meth c H1 locs1 cells slots Q (F0 m (pc + 3) ls (.int r :: rest))) : W p l e R s m args below meth c H locs cells slots Q (F0 m pc ls st0) := by
  obtain ⟨h1, h2, h3, h4⟩ := o_num_ok hn
  subst hlen
  refine va_calli (va_runS (As := As) (rest := rest) ⟨hx, hb, hml, hown, hts⟩ hM ⟨callB_of _ hts (good_wz zc) rfl h3 h4 (hts _ z3) (hts _ z1) h1 h2, hts _ z2⟩ ⟨oS_blind, oS_ok hK hN hZ hS hA hW⟩ rfl rfl hls hst (lv_room hcat) hdg ⟨hcs.1, hcs.2⟩) hS (fun q _ h => hA q h) hA (fun r u t H1 locs1 ht hvm hw hB _ _ hS => ?_)
  exact kk r u H1 locs1 hw (by rw [← ht]; exact hB) hS
theorem o_SiR {y : MethodName} {bytes : ByteArray} {maxL nL index n : Nat} {ret : Option FieldType} {own : String} {As st0 : List Value} {rm : Room} {post : Int32 → Prop} (hx : p.tables.exec = Jvm.exec) (hb : c.code = cc) (hml : c.maxLocals = nL) (hown : s.vm.findClass own = some m.cls) (hts : ∀ w ∈ gt, w.before args s = true) (hK : oK G s) (hN : oN s) (hZ : oZ A0 s s.heap) (hW : oW G A Ω H) (hS : va_S A0 s.heap H locs) (hA : ∀ q, A q → A0 q)
    (hM : Met l y (wz y bytes maxL ret) rm (va_Pc As (oS G A Ω)) (va_Qi (fun r Ω1 => post r ∧ Ω1 = Ω) (oB G A) A) 0 0 A) (z1 : Cond.methodLink own index y ∈ gt) (z2 : Cond.static y ∈ gt) (z3 : Cond.initialized y.cls ∈ gt) (zc : Cond.code y bytes maxL ret ∈ gt) (hn : o_num y n rm R maxL = true) (hcs : cells ≤ R.cells ∧ slots ≤ R.slots) (hls : ls.size = nL) (hcat : (rest.map fun v => v.category).sum ≤ 8) (hlen : As.length = n) (hst : st0 = As.reverse ++ rest) (hdg : decode cc pc = .ok (.invokestatic index, 3))
    (kk : ∀ (r : Int32) (H1 : Heap) (locs1 : List Loc), post r → oW G A Ω H1 → va_S A0 s.heap H1 locs1 → W p l e R s m args below meth c H1 locs1 cells slots Q (F0 m (pc + 3) ls (.int r :: rest))) : W p l e R s m args below meth c H locs cells slots Q (F0 m pc ls st0) :=
  o_Si hx hb hml hown hts hK hN hZ hW hS hA hM z1 z2 z3 zc hn hcs hls hcat hlen hst hdg (fun r Ω1 H1 locs1 hp hW hS => by
    obtain ⟨hp, hΩ⟩ := hp
    rw [hΩ] at hW
    exact kk r H1 locs1 hp hW hS)
theorem o_SNi {y : MethodName} {bytes : ByteArray} {maxL nL index n : Nat} {ret : Option FieldType} {own : String} {As st0 : List Value} {rm : Room} {post : Int32 → Om → Prop} (hx : p.tables.exec = Jvm.exec) (hb : c.code = cc) (hml : c.maxLocals = nL) (hown : s.vm.findClass own = some m.cls) (hts : ∀ w ∈ gt, w.before args s = true) (hK : oK G s) (hN : oN s) (hZ : oZ A0 s s.heap) (hW : oW G A Ω H) (hS : va_S A0 s.heap H locs) (hA : ∀ q, A q → A0 q)
    (hM : Met l y (wz y bytes maxL ret) rm (va_Pc As (oS G A Ω)) (va_Qi post (oB G A) A) 0 0 A) (z1 : (own, index, y) ∈ nestM) (z2 : Cond.static y ∈ gt) (z3 : Cond.initialized y.cls ∈ gt) (zc : Cond.code y bytes maxL ret ∈ gt) (hn : o_num y n rm R maxL = true) (hcs : cells ≤ R.cells ∧ slots ≤ R.slots) (hls : ls.size = nL) (hcat : (rest.map fun v => v.category).sum ≤ 8) (hlen : As.length = n) (hst : st0 = As.reverse ++ rest) (hdg : decode cc pc = .ok (.invokestatic index, 3))
    (kk : ∀ (r : Int32) (Ω1 : Om) (H1 : Heap) (locs1 : List Loc), post r Ω1 → oW G A Ω1 H1 → va_S A0 s.heap H1 locs1 → W p l e R s m args below meth c H1 locs1 cells slots Q (F0 m (pc + 3) ls (.int r :: rest))) : W p l e R s m args below meth c H locs cells slots Q (F0 m pc ls st0) := by
  obtain ⟨h1, h2, h3, h4⟩ := o_num_ok hn
  subst hlen
  refine va_calli (va_runSN (As := As) (rest := rest) ⟨hx, hb, hml, hown, hts⟩ hM ⟨va_cnB _ hts (good_wz zc) rfl h3 h4 (hN.1 _ z1) (hts _ z3) h1 h2, hts _ z2, trivial⟩ ⟨oS_blind, oS_ok hK hN hZ hS hA hW⟩ rfl rfl hls hst (lv_room hcat) hdg ⟨hcs.1, hcs.2⟩) hS (fun q _ h => hA q h) hA (fun r u t H1 locs1 ht hvm hw hB _ _ hS => ?_)
  exact kk r u H1 locs1 hw (by rw [← ht]; exact hB) hS
theorem o_SNiR {y : MethodName} {bytes : ByteArray} {maxL nL index n : Nat} {ret : Option FieldType} {own : String} {As st0 : List Value} {rm : Room} {post : Int32 → Prop} (hx : p.tables.exec = Jvm.exec) (hb : c.code = cc) (hml : c.maxLocals = nL) (hown : s.vm.findClass own = some m.cls) (hts : ∀ w ∈ gt, w.before args s = true) (hK : oK G s) (hN : oN s) (hZ : oZ A0 s s.heap) (hW : oW G A Ω H) (hS : va_S A0 s.heap H locs) (hA : ∀ q, A q → A0 q)
    (hM : Met l y (wz y bytes maxL ret) rm (va_Pc As (oS G A Ω)) (va_Qi (fun r Ω1 => post r ∧ Ω1 = Ω) (oB G A) A) 0 0 A) (z1 : (own, index, y) ∈ nestM) (z2 : Cond.static y ∈ gt) (z3 : Cond.initialized y.cls ∈ gt) (zc : Cond.code y bytes maxL ret ∈ gt) (hn : o_num y n rm R maxL = true) (hcs : cells ≤ R.cells ∧ slots ≤ R.slots) (hls : ls.size = nL) (hcat : (rest.map fun v => v.category).sum ≤ 8) (hlen : As.length = n) (hst : st0 = As.reverse ++ rest) (hdg : decode cc pc = .ok (.invokestatic index, 3))
    (kk : ∀ (r : Int32) (H1 : Heap) (locs1 : List Loc), post r → oW G A Ω H1 → va_S A0 s.heap H1 locs1 → W p l e R s m args below meth c H1 locs1 cells slots Q (F0 m (pc + 3) ls (.int r :: rest))) : W p l e R s m args below meth c H locs cells slots Q (F0 m pc ls st0) :=
  o_SNi hx hb hml hown hts hK hN hZ hW hS hA hM z1 z2 z3 zc hn hcs hls hcat hlen hst hdg (fun r Ω1 H1 locs1 hp hW hS => by
    obtain ⟨hp, hΩ⟩ := hp
    rw [hΩ] at hW
    exact kk r H1 locs1 hp hW hS)
end OR
end
section
/-! pictures, by program -/
abbrev Blk : Type := Nat → Nat → Int32
def bs (u : Blk) (k : Nat) (f : Fn) : Blk := fun q => if q = k then f else u q
def bw (u : Blk) (k i : Nat) (x : Int32) : Blk := bs u k (upd (u k) i x)
def inDev (G : Gm) (Ω : Om) (o : Nat) (c0 : Fn) (c1 : Fn) (c2 : Fn) (c3 : Fn) : Prop := Ω o = some (.inr (1, [.ref (o + 1), .ref (o + 2), .ref (o + 3), .ref (o + 4)])) ∧ Ω (o + 1) = some (.inl (G.2.1, 6, .inl c0)) ∧ Ω (o + 2) = some (.inl (G.2.1, 6, .inl c1)) ∧ Ω (o + 3) = some (.inl (G.2.2.1, 6, .inl c2)) ∧ Ω (o + 4) = some (.inl (G.2.1, 12, .inl c3))
theorem inDev_o {G : Gm} {Ω : Om} {o : Nat} {c0 : Fn} {c1 : Fn} {c2 : Fn} {c3 : Fn} (h : inDev G Ω o c0 c1 c2 c3) : Ω o = some (.inr (1, [.ref (o + 1), .ref (o + 2), .ref (o + 3), .ref (o + 4)])) := h.1
theorem inDev_a0 {G : Gm} {Ω : Om} {o : Nat} {c0 : Fn} {c1 : Fn} {c2 : Fn} {c3 : Fn} (h : inDev G Ω o c0 c1 c2 c3) : Ω (o + 1) = some (.inl (G.2.1, 6, .inl c0)) := h.2.1
theorem inDev_a1 {G : Gm} {Ω : Om} {o : Nat} {c0 : Fn} {c1 : Fn} {c2 : Fn} {c3 : Fn} (h : inDev G Ω o c0 c1 c2 c3) : Ω (o + 2) = some (.inl (G.2.1, 6, .inl c1)) := h.2.2.1
theorem inDev_a2 {G : Gm} {Ω : Om} {o : Nat} {c0 : Fn} {c1 : Fn} {c2 : Fn} {c3 : Fn} (h : inDev G Ω o c0 c1 c2 c3) : Ω (o + 3) = some (.inl (G.2.2.1, 6, .inl c2)) := h.2.2.2.1
theorem inDev_a3 {G : Gm} {Ω : Om} {o : Nat} {c0 : Fn} {c1 : Fn} {c2 : Fn} {c3 : Fn} (h : inDev G Ω o c0 c1 c2 c3) : Ω (o + 4) = some (.inl (G.2.1, 12, .inl c3)) := h.2.2.2.2
theorem inDev.keep {G : Gm} {Ω : Om} {o : Nat} {c0 : Fn} {c1 : Fn} {c2 : Fn} {c3 : Fn} {Ω1 : Om} (h : inDev G Ω o c0 c1 c2 c3) (hq : ∀ q : Nat, o ≤ q → q < o + 5 → Ω1 q = Ω q) : inDev G Ω1 o c0 c1 c2 c3 := ⟨(hq _ (by omega) (by omega)).trans (inDev_o h), (hq _ (by omega) (by omega)).trans (inDev_a0 h), (hq _ (by omega) (by omega)).trans (inDev_a1 h), (hq _ (by omega) (by omega)).trans (inDev_a2 h), (hq _ (by omega) (by omega)).trans (inDev_a3 h)⟩
theorem sDev_0 {G : Gm} {Ω : Om} {o : Nat} {c0 : Fn} {c1 : Fn} {c2 : Fn} {c3 : Fn} {f : Fn} (h : inDev G Ω o c0 c1 c2 c3) : inDev G (oU Ω (o + 1) (.inl (G.2.1, 6, .inl f))) o f c1 c2 c3 := ⟨(oU_ne (by omega)).trans (inDev_o h), oU_self, (oU_ne (by omega)).trans (inDev_a1 h), (oU_ne (by omega)).trans (inDev_a2 h), (oU_ne (by omega)).trans (inDev_a3 h)⟩
theorem wDev_0 {p : Program} {l : Launch} {e : Env} {R : Room} {s : State} {m : MethodId} {args : Array Value} {below : List Frame} {meth : Method} {c : Code} {H : Heap} {locs : List Loc} {cells slots : Nat} {Q : State → Prop} {cc : ByteArray} {pc : Nat} {ls : Array Slot} {rest : List Value} {G : Gm} {A A0 : Nat → Prop} {Ω : Om} {H0 : Heap} {o : Nat} {c0 : Fn} {c1 : Fn} {c2 : Fn} {c3 : Fn} (hx : p.tables.exec = Jvm.exec) (hb : c.code = cc) (hK : oK G s) (hW : oW G A Ω H) (hS : va_S A0 H0 H locs) (hA : ∀ q, A q → A0 q) (h : inDev G Ω o c0 c1 c2 c3) {i x : Int32} (hin : vp_in i 6) (hdg : decode cc pc = .ok (.iastore, 1)) (kk : ∀ (Ω1 : Om) (H1 : Heap) (locs1 : List Loc), inDev G Ω1 o (upd c0 i.toNatClampNeg x) c1 c2 c3 → oF Ω Ω1 o 5 → oW G A Ω1 H1 → va_S A0 H0 H1 locs1 → W p l e R s m args below meth c H1 locs1 cells slots Q (F0 m (pc + 1) ls rest)) : W p l e R s m args below meth c H locs cells slots Q (F0 m pc ls (.int x :: .int i :: .ref (o + 1) :: rest)) := o_iast hx hb hK hW hS hA (inDev_a0 h) hin hdg (fun H1 locs1 hW1 hS1 => kk _ H1 locs1 (sDev_0 h) (oF.up (by omega) (by omega)) hW1 hS1)
theorem sDev_1 {G : Gm} {Ω : Om} {o : Nat} {c0 : Fn} {c1 : Fn} {c2 : Fn} {c3 : Fn} {f : Fn} (h : inDev G Ω o c0 c1 c2 c3) : inDev G (oU Ω (o + 2) (.inl (G.2.1, 6, .inl f))) o c0 f c2 c3 := ⟨(oU_ne (by omega)).trans (inDev_o h), (oU_ne (by omega)).trans (inDev_a0 h), oU_self, (oU_ne (by omega)).trans (inDev_a2 h), (oU_ne (by omega)).trans (inDev_a3 h)⟩
theorem wDev_1 {p : Program} {l : Launch} {e : Env} {R : Room} {s : State} {m : MethodId} {args : Array Value} {below : List Frame} {meth : Method} {c : Code} {H : Heap} {locs : List Loc} {cells slots : Nat} {Q : State → Prop} {cc : ByteArray} {pc : Nat} {ls : Array Slot} {rest : List Value} {G : Gm} {A A0 : Nat → Prop} {Ω : Om} {H0 : Heap} {o : Nat} {c0 : Fn} {c1 : Fn} {c2 : Fn} {c3 : Fn} (hx : p.tables.exec = Jvm.exec) (hb : c.code = cc) (hK : oK G s) (hW : oW G A Ω H) (hS : va_S A0 H0 H locs) (hA : ∀ q, A q → A0 q) (h : inDev G Ω o c0 c1 c2 c3) {i x : Int32} (hin : vp_in i 6) (hdg : decode cc pc = .ok (.iastore, 1)) (kk : ∀ (Ω1 : Om) (H1 : Heap) (locs1 : List Loc), inDev G Ω1 o c0 (upd c1 i.toNatClampNeg x) c2 c3 → oF Ω Ω1 o 5 → oW G A Ω1 H1 → va_S A0 H0 H1 locs1 → W p l e R s m args below meth c H1 locs1 cells slots Q (F0 m (pc + 1) ls rest)) : W p l e R s m args below meth c H locs cells slots Q (F0 m pc ls (.int x :: .int i :: .ref (o + 2) :: rest)) := o_iast hx hb hK hW hS hA (inDev_a1 h) hin hdg (fun H1 locs1 hW1 hS1 => kk _ H1 locs1 (sDev_1 h) (oF.up (by omega) (by omega)) hW1 hS1)
theorem sDev_2 {G : Gm} {Ω : Om} {o : Nat} {c0 : Fn} {c1 : Fn} {c2 : Fn} {c3 : Fn} {f : Fn} (h : inDev G Ω o c0 c1 c2 c3) : inDev G (oU Ω (o + 3) (.inl (G.2.2.1, 6, .inl f))) o c0 c1 f c3 := ⟨(oU_ne (by omega)).trans (inDev_o h), (oU_ne (by omega)).trans (inDev_a0 h), (oU_ne (by omega)).trans (inDev_a1 h), oU_self, (oU_ne (by omega)).trans (inDev_a3 h)⟩
theorem wDev_2 {p : Program} {l : Launch} {e : Env} {R : Room} {s : State} {m : MethodId} {args : Array Value} {below : List Frame} {meth : Method} {c : Code} {H : Heap} {locs : List Loc} {cells slots : Nat} {Q : State → Prop} {cc : ByteArray} {pc : Nat} {ls : Array Slot} {rest : List Value} {G : Gm} {A A0 : Nat → Prop} {Ω : Om} {H0 : Heap} {o : Nat} {c0 : Fn} {c1 : Fn} {c2 : Fn} {c3 : Fn} (hx : p.tables.exec = Jvm.exec) (hb : c.code = cc) (hK : oK G s) (hW : oW G A Ω H) (hS : va_S A0 H0 H locs) (hA : ∀ q, A q → A0 q) (h : inDev G Ω o c0 c1 c2 c3) {i x : Int32} (hin : vp_in i 6) (hdg : decode cc pc = .ok (.bastore, 1)) (kk : ∀ (Ω1 : Om) (H1 : Heap) (locs1 : List Loc), inDev G Ω1 o c0 c1 (upd c2 i.toNatClampNeg (vp_nar .boolean x)) c3 → oF Ω Ω1 o 5 → oW G A Ω1 H1 → va_S A0 H0 H1 locs1 → W p l e R s m args below meth c H1 locs1 cells slots Q (F0 m (pc + 1) ls rest)) : W p l e R s m args below meth c H locs cells slots Q (F0 m pc ls (.int x :: .int i :: .ref (o + 3) :: rest)) := o_zast hx hb hK hW hS hA (inDev_a2 h) hin hdg (fun H1 locs1 hW1 hS1 => kk _ H1 locs1 (sDev_2 h) (oF.up (by omega) (by omega)) hW1 hS1)
theorem sDev_3 {G : Gm} {Ω : Om} {o : Nat} {c0 : Fn} {c1 : Fn} {c2 : Fn} {c3 : Fn} {f : Fn} (h : inDev G Ω o c0 c1 c2 c3) : inDev G (oU Ω (o + 4) (.inl (G.2.1, 12, .inl f))) o c0 c1 c2 f := ⟨(oU_ne (by omega)).trans (inDev_o h), (oU_ne (by omega)).trans (inDev_a0 h), (oU_ne (by omega)).trans (inDev_a1 h), (oU_ne (by omega)).trans (inDev_a2 h), oU_self⟩
theorem wDev_3 {p : Program} {l : Launch} {e : Env} {R : Room} {s : State} {m : MethodId} {args : Array Value} {below : List Frame} {meth : Method} {c : Code} {H : Heap} {locs : List Loc} {cells slots : Nat} {Q : State → Prop} {cc : ByteArray} {pc : Nat} {ls : Array Slot} {rest : List Value} {G : Gm} {A A0 : Nat → Prop} {Ω : Om} {H0 : Heap} {o : Nat} {c0 : Fn} {c1 : Fn} {c2 : Fn} {c3 : Fn} (hx : p.tables.exec = Jvm.exec) (hb : c.code = cc) (hK : oK G s) (hW : oW G A Ω H) (hS : va_S A0 H0 H locs) (hA : ∀ q, A q → A0 q) (h : inDev G Ω o c0 c1 c2 c3) {i x : Int32} (hin : vp_in i 12) (hdg : decode cc pc = .ok (.iastore, 1)) (kk : ∀ (Ω1 : Om) (H1 : Heap) (locs1 : List Loc), inDev G Ω1 o c0 c1 c2 (upd c3 i.toNatClampNeg x) → oF Ω Ω1 o 5 → oW G A Ω1 H1 → va_S A0 H0 H1 locs1 → W p l e R s m args below meth c H1 locs1 cells slots Q (F0 m (pc + 1) ls rest)) : W p l e R s m args below meth c H locs cells slots Q (F0 m pc ls (.int x :: .int i :: .ref (o + 4) :: rest)) := o_iast hx hb hK hW hS hA (inDev_a3 h) hin hdg (fun H1 locs1 hW1 hS1 => kk _ H1 locs1 (sDev_3 h) (oF.up (by omega) (by omega)) hW1 hS1)
def inJou (G : Gm) (Ω : Om) (o : Nat) (c0 : Int32) (c1 : Fn) (c2 : Fn) (c3 : Fn) : Prop := Ω o = some (.inr (3, [.int c0, .ref (o + 1), .ref (o + 2), .ref (o + 3)])) ∧ Ω (o + 1) = some (.inl (G.2.1, 20, .inl c1)) ∧ Ω (o + 2) = some (.inl (G.2.2.1, 20, .inl c2)) ∧ Ω (o + 3) = some (.inl (G.2.1, 20, .inl c3))
theorem inJou_o {G : Gm} {Ω : Om} {o : Nat} {c0 : Int32} {c1 : Fn} {c2 : Fn} {c3 : Fn} (h : inJou G Ω o c0 c1 c2 c3) : Ω o = some (.inr (3, [.int c0, .ref (o + 1), .ref (o + 2), .ref (o + 3)])) := h.1
theorem inJou_a0 {G : Gm} {Ω : Om} {o : Nat} {c0 : Int32} {c1 : Fn} {c2 : Fn} {c3 : Fn} (h : inJou G Ω o c0 c1 c2 c3) : Ω (o + 1) = some (.inl (G.2.1, 20, .inl c1)) := h.2.1
theorem inJou_a1 {G : Gm} {Ω : Om} {o : Nat} {c0 : Int32} {c1 : Fn} {c2 : Fn} {c3 : Fn} (h : inJou G Ω o c0 c1 c2 c3) : Ω (o + 2) = some (.inl (G.2.2.1, 20, .inl c2)) := h.2.2.1
theorem inJou_a2 {G : Gm} {Ω : Om} {o : Nat} {c0 : Int32} {c1 : Fn} {c2 : Fn} {c3 : Fn} (h : inJou G Ω o c0 c1 c2 c3) : Ω (o + 3) = some (.inl (G.2.1, 20, .inl c3)) := h.2.2.2
theorem inJou.keep {G : Gm} {Ω : Om} {o : Nat} {c0 : Int32} {c1 : Fn} {c2 : Fn} {c3 : Fn} {Ω1 : Om} (h : inJou G Ω o c0 c1 c2 c3) (hq : ∀ q : Nat, o ≤ q → q < o + 4 → Ω1 q = Ω q) : inJou G Ω1 o c0 c1 c2 c3 := ⟨(hq _ (by omega) (by omega)).trans (inJou_o h), (hq _ (by omega) (by omega)).trans (inJou_a0 h), (hq _ (by omega) (by omega)).trans (inJou_a1 h), (hq _ (by omega) (by omega)).trans (inJou_a2 h)⟩
theorem sJou_0 {G : Gm} {Ω : Om} {o : Nat} {c0 : Int32} {c1 : Fn} {c2 : Fn} {c3 : Fn} {f : Fn} (h : inJou G Ω o c0 c1 c2 c3) : inJou G (oU Ω (o + 1) (.inl (G.2.1, 20, .inl f))) o c0 f c2 c3 := ⟨(oU_ne (by omega)).trans (inJou_o h), oU_self, (oU_ne (by omega)).trans (inJou_a1 h), (oU_ne (by omega)).trans (inJou_a2 h)⟩
theorem wJou_0 {p : Program} {l : Launch} {e : Env} {R : Room} {s : State} {m : MethodId} {args : Array Value} {below : List Frame} {meth : Method} {c : Code} {H : Heap} {locs : List Loc} {cells slots : Nat} {Q : State → Prop} {cc : ByteArray} {pc : Nat} {ls : Array Slot} {rest : List Value} {G : Gm} {A A0 : Nat → Prop} {Ω : Om} {H0 : Heap} {o : Nat} {c0 : Int32} {c1 : Fn} {c2 : Fn} {c3 : Fn} (hx : p.tables.exec = Jvm.exec) (hb : c.code = cc) (hK : oK G s) (hW : oW G A Ω H) (hS : va_S A0 H0 H locs) (hA : ∀ q, A q → A0 q) (h : inJou G Ω o c0 c1 c2 c3) {i x : Int32} (hin : vp_in i 20) (hdg : decode cc pc = .ok (.iastore, 1)) (kk : ∀ (Ω1 : Om) (H1 : Heap) (locs1 : List Loc), inJou G Ω1 o c0 (upd c1 i.toNatClampNeg x) c2 c3 → oF Ω Ω1 o 4 → oW G A Ω1 H1 → va_S A0 H0 H1 locs1 → W p l e R s m args below meth c H1 locs1 cells slots Q (F0 m (pc + 1) ls rest)) : W p l e R s m args below meth c H locs cells slots Q (F0 m pc ls (.int x :: .int i :: .ref (o + 1) :: rest)) := o_iast hx hb hK hW hS hA (inJou_a0 h) hin hdg (fun H1 locs1 hW1 hS1 => kk _ H1 locs1 (sJou_0 h) (oF.up (by omega) (by omega)) hW1 hS1)
theorem sJou_1 {G : Gm} {Ω : Om} {o : Nat} {c0 : Int32} {c1 : Fn} {c2 : Fn} {c3 : Fn} {f : Fn} (h : inJou G Ω o c0 c1 c2 c3) : inJou G (oU Ω (o + 2) (.inl (G.2.2.1, 20, .inl f))) o c0 c1 f c3 := ⟨(oU_ne (by omega)).trans (inJou_o h), (oU_ne (by omega)).trans (inJou_a0 h), oU_self, (oU_ne (by omega)).trans (inJou_a2 h)⟩
theorem wJou_1 {p : Program} {l : Launch} {e : Env} {R : Room} {s : State} {m : MethodId} {args : Array Value} {below : List Frame} {meth : Method} {c : Code} {H : Heap} {locs : List Loc} {cells slots : Nat} {Q : State → Prop} {cc : ByteArray} {pc : Nat} {ls : Array Slot} {rest : List Value} {G : Gm} {A A0 : Nat → Prop} {Ω : Om} {H0 : Heap} {o : Nat} {c0 : Int32} {c1 : Fn} {c2 : Fn} {c3 : Fn} (hx : p.tables.exec = Jvm.exec) (hb : c.code = cc) (hK : oK G s) (hW : oW G A Ω H) (hS : va_S A0 H0 H locs) (hA : ∀ q, A q → A0 q) (h : inJou G Ω o c0 c1 c2 c3) {i x : Int32} (hin : vp_in i 20) (hdg : decode cc pc = .ok (.bastore, 1)) (kk : ∀ (Ω1 : Om) (H1 : Heap) (locs1 : List Loc), inJou G Ω1 o c0 c1 (upd c2 i.toNatClampNeg (vp_nar .boolean x)) c3 → oF Ω Ω1 o 4 → oW G A Ω1 H1 → va_S A0 H0 H1 locs1 → W p l e R s m args below meth c H1 locs1 cells slots Q (F0 m (pc + 1) ls rest)) : W p l e R s m args below meth c H locs cells slots Q (F0 m pc ls (.int x :: .int i :: .ref (o + 2) :: rest)) := o_zast hx hb hK hW hS hA (inJou_a1 h) hin hdg (fun H1 locs1 hW1 hS1 => kk _ H1 locs1 (sJou_1 h) (oF.up (by omega) (by omega)) hW1 hS1)
theorem sJou_2 {G : Gm} {Ω : Om} {o : Nat} {c0 : Int32} {c1 : Fn} {c2 : Fn} {c3 : Fn} {f : Fn} (h : inJou G Ω o c0 c1 c2 c3) : inJou G (oU Ω (o + 3) (.inl (G.2.1, 20, .inl f))) o c0 c1 c2 f := ⟨(oU_ne (by omega)).trans (inJou_o h), (oU_ne (by omega)).trans (inJou_a0 h), (oU_ne (by omega)).trans (inJou_a1 h), oU_self⟩
theorem wJou_2 {p : Program} {l : Launch} {e : Env} {R : Room} {s : State} {m : MethodId} {args : Array Value} {below : List Frame} {meth : Method} {c : Code} {H : Heap} {locs : List Loc} {cells slots : Nat} {Q : State → Prop} {cc : ByteArray} {pc : Nat} {ls : Array Slot} {rest : List Value} {G : Gm} {A A0 : Nat → Prop} {Ω : Om} {H0 : Heap} {o : Nat} {c0 : Int32} {c1 : Fn} {c2 : Fn} {c3 : Fn} (hx : p.tables.exec = Jvm.exec) (hb : c.code = cc) (hK : oK G s) (hW : oW G A Ω H) (hS : va_S A0 H0 H locs) (hA : ∀ q, A q → A0 q) (h : inJou G Ω o c0 c1 c2 c3) {i x : Int32} (hin : vp_in i 20) (hdg : decode cc pc = .ok (.iastore, 1)) (kk : ∀ (Ω1 : Om) (H1 : Heap) (locs1 : List Loc), inJou G Ω1 o c0 c1 c2 (upd c3 i.toNatClampNeg x) → oF Ω Ω1 o 4 → oW G A Ω1 H1 → va_S A0 H0 H1 locs1 → W p l e R s m args below meth c H1 locs1 cells slots Q (F0 m (pc + 1) ls rest)) : W p l e R s m args below meth c H locs cells slots Q (F0 m pc ls (.int x :: .int i :: .ref (o + 3) :: rest)) := o_iast hx hb hK hW hS hA (inJou_a2 h) hin hdg (fun H1 locs1 hW1 hS1 => kk _ H1 locs1 (sJou_2 h) (oF.up (by omega) (by omega)) hW1 hS1)
theorem vJou_0 {p : Program} {l : Launch} {e : Env} {R : Room} {s : State} {m : MethodId} {args : Array Value} {below : List Frame} {meth : Method} {c : Code} {H : Heap} {locs : List Loc} {cells slots : Nat} {Q : State → Prop} {cc : ByteArray} {pc : Nat} {ls : Array Slot} {rest : List Value} {G : Gm} {A A0 : Nat → Prop} {Ω : Om} {H0 : Heap} {o : Nat} {c0 : Int32} {c1 : Fn} {c2 : Fn} {c3 : Fn} (hx : p.tables.exec = Jvm.exec) (hb : c.code = cc) (hts : ∀ w ∈ gt, w.before args s = true) {own : String} {index : Nat} (hown : s.vm.findClass own = some m.cls) (hK : oK G s) (hW : oW G A Ω H) (hS : va_S A0 H0 H locs) (hA : ∀ q, A q → A0 q) (h : inJou G Ω o c0 c1 c2 c3) {x : Int32} (hlink : Cond.fieldLink own index (TX3 0).1 (TX3 0).2.1 (TX3 0).2.2.1 ∈ gt) (hdg : decode cc pc = .ok (.putfield index, 3)) (kk : ∀ (Ω1 : Om) (H1 : Heap) (locs1 : List Loc), inJou G Ω1 o x c1 c2 c3 → oF Ω Ω1 o 4 → oW G A Ω1 H1 → va_S A0 H0 H1 locs1 → W p l e R s m args below meth c H1 locs1 cells slots Q (F0 m (pc + 3) ls rest)) : W p l e R s m args below meth c H locs cells slots Q (F0 m pc ls (.int x :: .ref o :: rest)) := o_put hx hb hts hown hK hW hS hA (inJou_o h) rfl ig3 tyX3 tyX3_ok nmX3 0 (by decide) hlink rfl (ty := .int) (by decide +kernel) rfl rfl (Nat.le_of_ble_eq_true rfl) hdg (fun H1 locs1 hW1 hS1 => kk _ H1 locs1 (show inJou G _ o x c1 c2 c3 from ⟨oU_self, (oU_ne (by omega)).trans (inJou_a0 h), (oU_ne (by omega)).trans (inJou_a1 h), (oU_ne (by omega)).trans (inJou_a2 h)⟩) (oF.up (by omega) (by omega)) hW1 hS1)
def inTxt (G : Gm) (Ω : Om) (o : Nat) (c0 : Fn) (c1 : Int32) : Prop := Ω o = some (.inr (6, [.ref (o + 1), .int c1])) ∧ Ω (o + 1) = some (.inl (G.2.1, 160, .inl c0))
theorem inTxt_o {G : Gm} {Ω : Om} {o : Nat} {c0 : Fn} {c1 : Int32} (h : inTxt G Ω o c0 c1) : Ω o = some (.inr (6, [.ref (o + 1), .int c1])) := h.1
theorem inTxt_a0 {G : Gm} {Ω : Om} {o : Nat} {c0 : Fn} {c1 : Int32} (h : inTxt G Ω o c0 c1) : Ω (o + 1) = some (.inl (G.2.1, 160, .inl c0)) := h.2
theorem inTxt.keep {G : Gm} {Ω : Om} {o : Nat} {c0 : Fn} {c1 : Int32} {Ω1 : Om} (h : inTxt G Ω o c0 c1) (hq : ∀ q : Nat, o ≤ q → q < o + 2 → Ω1 q = Ω q) : inTxt G Ω1 o c0 c1 := ⟨(hq _ (by omega) (by omega)).trans (inTxt_o h), (hq _ (by omega) (by omega)).trans (inTxt_a0 h)⟩
theorem sTxt_0 {G : Gm} {Ω : Om} {o : Nat} {c0 : Fn} {c1 : Int32} {f : Fn} (h : inTxt G Ω o c0 c1) : inTxt G (oU Ω (o + 1) (.inl (G.2.1, 160, .inl f))) o f c1 := ⟨(oU_ne (by omega)).trans (inTxt_o h), oU_self⟩
theorem wTxt_0 {p : Program} {l : Launch} {e : Env} {R : Room} {s : State} {m : MethodId} {args : Array Value} {below : List Frame} {meth : Method} {c : Code} {H : Heap} {locs : List Loc} {cells slots : Nat} {Q : State → Prop} {cc : ByteArray} {pc : Nat} {ls : Array Slot} {rest : List Value} {G : Gm} {A A0 : Nat → Prop} {Ω : Om} {H0 : Heap} {o : Nat} {c0 : Fn} {c1 : Int32} (hx : p.tables.exec = Jvm.exec) (hb : c.code = cc) (hK : oK G s) (hW : oW G A Ω H) (hS : va_S A0 H0 H locs) (hA : ∀ q, A q → A0 q) (h : inTxt G Ω o c0 c1) {i x : Int32} (hin : vp_in i 160) (hdg : decode cc pc = .ok (.iastore, 1)) (kk : ∀ (Ω1 : Om) (H1 : Heap) (locs1 : List Loc), inTxt G Ω1 o (upd c0 i.toNatClampNeg x) c1 → oF Ω Ω1 o 2 → oW G A Ω1 H1 → va_S A0 H0 H1 locs1 → W p l e R s m args below meth c H1 locs1 cells slots Q (F0 m (pc + 1) ls rest)) : W p l e R s m args below meth c H locs cells slots Q (F0 m pc ls (.int x :: .int i :: .ref (o + 1) :: rest)) := o_iast hx hb hK hW hS hA (inTxt_a0 h) hin hdg (fun H1 locs1 hW1 hS1 => kk _ H1 locs1 (sTxt_0 h) (oF.up (by omega) (by omega)) hW1 hS1)
theorem vTxt_1 {p : Program} {l : Launch} {e : Env} {R : Room} {s : State} {m : MethodId} {args : Array Value} {below : List Frame} {meth : Method} {c : Code} {H : Heap} {locs : List Loc} {cells slots : Nat} {Q : State → Prop} {cc : ByteArray} {pc : Nat} {ls : Array Slot} {rest : List Value} {G : Gm} {A A0 : Nat → Prop} {Ω : Om} {H0 : Heap} {o : Nat} {c0 : Fn} {c1 : Int32} (hx : p.tables.exec = Jvm.exec) (hb : c.code = cc) (hts : ∀ w ∈ gt, w.before args s = true) {own : String} {index : Nat} (hown : s.vm.findClass own = some m.cls) (hK : oK G s) (hW : oW G A Ω H) (hS : va_S A0 H0 H locs) (hA : ∀ q, A q → A0 q) (h : inTxt G Ω o c0 c1) {x : Int32} (hlink : Cond.fieldLink own index (TX6 1).1 (TX6 1).2.1 (TX6 1).2.2.1 ∈ gt) (hdg : decode cc pc = .ok (.putfield index, 3)) (kk : ∀ (Ω1 : Om) (H1 : Heap) (locs1 : List Loc), inTxt G Ω1 o c0 x → oF Ω Ω1 o 2 → oW G A Ω1 H1 → va_S A0 H0 H1 locs1 → W p l e R s m args below meth c H1 locs1 cells slots Q (F0 m (pc + 3) ls rest)) : W p l e R s m args below meth c H locs cells slots Q (F0 m pc ls (.int x :: .ref o :: rest)) := o_put hx hb hts hown hK hW hS hA (inTxt_o h) rfl ig6 tyX6 tyX6_ok nmX6 1 (by decide) hlink rfl (ty := .int) (by decide +kernel) rfl rfl (Nat.le_of_ble_eq_true rfl) hdg (fun H1 locs1 hW1 hS1 => kk _ H1 locs1 (show inTxt G _ o c0 x from ⟨oU_self, (oU_ne (by omega)).trans (inTxt_a0 h)⟩) (oF.up (by omega) (by omega)) hW1 hS1)
def inTok (G : Gm) (Ω : Om) (o : Nat) (tx : Nat) (c0 : Int32) (c1 : Int32) (c2 : Int32) : Prop := Ω o = some (.inr (7, [.ref tx, .int c0, .int c1, .int c2]))
theorem inTok_o {G : Gm} {Ω : Om} {o tx : Nat} {c0 : Int32} {c1 : Int32} {c2 : Int32} (h : inTok G Ω o tx c0 c1 c2) : Ω o = some (.inr (7, [.ref tx, .int c0, .int c1, .int c2])) := h
theorem inTok.keep {G : Gm} {Ω : Om} {o tx : Nat} {c0 : Int32} {c1 : Int32} {c2 : Int32} {Ω1 : Om} (h : inTok G Ω o tx c0 c1 c2) (hq : ∀ q : Nat, o ≤ q → q < o + 1 → Ω1 q = Ω q) : inTok G Ω1 o tx c0 c1 c2 := (hq _ (by omega) (by omega)).trans (inTok_o h)
theorem vTok_1 {p : Program} {l : Launch} {e : Env} {R : Room} {s : State} {m : MethodId} {args : Array Value} {below : List Frame} {meth : Method} {c : Code} {H : Heap} {locs : List Loc} {cells slots : Nat} {Q : State → Prop} {cc : ByteArray} {pc : Nat} {ls : Array Slot} {rest : List Value} {G : Gm} {A A0 : Nat → Prop} {Ω : Om} {H0 : Heap} {o tx : Nat} {c0 : Int32} {c1 : Int32} {c2 : Int32} (hx : p.tables.exec = Jvm.exec) (hb : c.code = cc) (hts : ∀ w ∈ gt, w.before args s = true) {own : String} {index : Nat} (hown : s.vm.findClass own = some m.cls) (hK : oK G s) (hW : oW G A Ω H) (hS : va_S A0 H0 H locs) (hA : ∀ q, A q → A0 q) (h : inTok G Ω o tx c0 c1 c2) {x : Int32} (hlink : Cond.fieldLink own index (TX7 1).1 (TX7 1).2.1 (TX7 1).2.2.1 ∈ gt) (hdg : decode cc pc = .ok (.putfield index, 3)) (kk : ∀ (Ω1 : Om) (H1 : Heap) (locs1 : List Loc), inTok G Ω1 o tx x c1 c2 → oF Ω Ω1 o 1 → oW G A Ω1 H1 → va_S A0 H0 H1 locs1 → W p l e R s m args below meth c H1 locs1 cells slots Q (F0 m (pc + 3) ls rest)) : W p l e R s m args below meth c H locs cells slots Q (F0 m pc ls (.int x :: .ref o :: rest)) := o_put hx hb hts hown hK hW hS hA (inTok_o h) rfl ig7 tyX7 tyX7_ok nmX7 1 (by decide) hlink rfl (ty := .int) (by decide +kernel) rfl rfl (Nat.le_of_ble_eq_true rfl) hdg (fun H1 locs1 hW1 hS1 => kk _ H1 locs1 (show inTok G _ o tx x c1 c2 from oU_self) (oF.up (by omega) (by omega)) hW1 hS1)
theorem vTok_2 {p : Program} {l : Launch} {e : Env} {R : Room} {s : State} {m : MethodId} {args : Array Value} {below : List Frame} {meth : Method} {c : Code} {H : Heap} {locs : List Loc} {cells slots : Nat} {Q : State → Prop} {cc : ByteArray} {pc : Nat} {ls : Array Slot} {rest : List Value} {G : Gm} {A A0 : Nat → Prop} {Ω : Om} {H0 : Heap} {o tx : Nat} {c0 : Int32} {c1 : Int32} {c2 : Int32} (hx : p.tables.exec = Jvm.exec) (hb : c.code = cc) (hts : ∀ w ∈ gt, w.before args s = true) {own : String} {index : Nat} (hown : s.vm.findClass own = some m.cls) (hK : oK G s) (hW : oW G A Ω H) (hS : va_S A0 H0 H locs) (hA : ∀ q, A q → A0 q) (h : inTok G Ω o tx c0 c1 c2) {x : Int32} (hlink : Cond.fieldLink own index (TX7 2).1 (TX7 2).2.1 (TX7 2).2.2.1 ∈ gt) (hdg : decode cc pc = .ok (.putfield index, 3)) (kk : ∀ (Ω1 : Om) (H1 : Heap) (locs1 : List Loc), inTok G Ω1 o tx c0 x c2 → oF Ω Ω1 o 1 → oW G A Ω1 H1 → va_S A0 H0 H1 locs1 → W p l e R s m args below meth c H1 locs1 cells slots Q (F0 m (pc + 3) ls rest)) : W p l e R s m args below meth c H locs cells slots Q (F0 m pc ls (.int x :: .ref o :: rest)) := o_put hx hb hts hown hK hW hS hA (inTok_o h) rfl ig7 tyX7 tyX7_ok nmX7 2 (by decide) hlink rfl (ty := .int) (by decide +kernel) rfl rfl (Nat.le_of_ble_eq_true rfl) hdg (fun H1 locs1 hW1 hS1 => kk _ H1 locs1 (show inTok G _ o tx c0 x c2 from oU_self) (oF.up (by omega) (by omega)) hW1 hS1)
theorem vTok_3 {p : Program} {l : Launch} {e : Env} {R : Room} {s : State} {m : MethodId} {args : Array Value} {below : List Frame} {meth : Method} {c : Code} {H : Heap} {locs : List Loc} {cells slots : Nat} {Q : State → Prop} {cc : ByteArray} {pc : Nat} {ls : Array Slot} {rest : List Value} {G : Gm} {A A0 : Nat → Prop} {Ω : Om} {H0 : Heap} {o tx : Nat} {c0 : Int32} {c1 : Int32} {c2 : Int32} (hx : p.tables.exec = Jvm.exec) (hb : c.code = cc) (hts : ∀ w ∈ gt, w.before args s = true) {own : String} {index : Nat} (hown : s.vm.findClass own = some m.cls) (hK : oK G s) (hW : oW G A Ω H) (hS : va_S A0 H0 H locs) (hA : ∀ q, A q → A0 q) (h : inTok G Ω o tx c0 c1 c2) {x : Int32} (hlink : Cond.fieldLink own index (TX7 3).1 (TX7 3).2.1 (TX7 3).2.2.1 ∈ gt) (hdg : decode cc pc = .ok (.putfield index, 3)) (kk : ∀ (Ω1 : Om) (H1 : Heap) (locs1 : List Loc), inTok G Ω1 o tx c0 c1 x → oF Ω Ω1 o 1 → oW G A Ω1 H1 → va_S A0 H0 H1 locs1 → W p l e R s m args below meth c H1 locs1 cells slots Q (F0 m (pc + 3) ls rest)) : W p l e R s m args below meth c H locs cells slots Q (F0 m pc ls (.int x :: .ref o :: rest)) := o_put hx hb hts hown hK hW hS hA (inTok_o h) rfl ig7 tyX7 tyX7_ok nmX7 3 (by decide) hlink rfl (ty := .int) (by decide +kernel) rfl rfl (Nat.le_of_ble_eq_true rfl) hdg (fun H1 locs1 hW1 hS1 => kk _ H1 locs1 (show inTok G _ o tx c0 c1 x from oU_self) (oF.up (by omega) (by omega)) hW1 hS1)
def inPar (G : Gm) (Ω : Om) (o : Nat) (tk bl : Nat) : Prop := Ω o = some (.inr (4, [.ref tk, .ref bl]))
theorem inPar_o {G : Gm} {Ω : Om} {o tk bl : Nat} (h : inPar G Ω o tk bl) : Ω o = some (.inr (4, [.ref tk, .ref bl])) := h
theorem inPar.keep {G : Gm} {Ω : Om} {o tk bl : Nat} {Ω1 : Om} (h : inPar G Ω o tk bl) (hq : ∀ q : Nat, o ≤ q → q < o + 1 → Ω1 q = Ω q) : inPar G Ω1 o tk bl := (hq _ (by omega) (by omega)).trans (inPar_o h)
def inSitO (G : Gm) (Ω : Om) (o : Nat) (c0 : Int32) (c1 : Int32) : Prop := Ω o = some (.inr (5, [.ref (o + 1), .ref (o + 6), .ref (o + 11), .int c0, .int c1]))
theorem inSitO_o {G : Gm} {Ω : Om} {o : Nat} {c0 : Int32} {c1 : Int32} (h : inSitO G Ω o c0 c1) : Ω o = some (.inr (5, [.ref (o + 1), .ref (o + 6), .ref (o + 11), .int c0, .int c1])) := h
theorem inSitO.keep {G : Gm} {Ω : Om} {o : Nat} {c0 : Int32} {c1 : Int32} {Ω1 : Om} (h : inSitO G Ω o c0 c1) (hq : ∀ q : Nat, o ≤ q → q < o + 1 → Ω1 q = Ω q) : inSitO G Ω1 o c0 c1 := (hq _ (by omega) (by omega)).trans (inSitO_o h)
theorem vSitO_3 {p : Program} {l : Launch} {e : Env} {R : Room} {s : State} {m : MethodId} {args : Array Value} {below : List Frame} {meth : Method} {c : Code} {H : Heap} {locs : List Loc} {cells slots : Nat} {Q : State → Prop} {cc : ByteArray} {pc : Nat} {ls : Array Slot} {rest : List Value} {G : Gm} {A A0 : Nat → Prop} {Ω : Om} {H0 : Heap} {o : Nat} {c0 : Int32} {c1 : Int32} (hx : p.tables.exec = Jvm.exec) (hb : c.code = cc) (hts : ∀ w ∈ gt, w.before args s = true) {own : String} {index : Nat} (hown : s.vm.findClass own = some m.cls) (hK : oK G s) (hW : oW G A Ω H) (hS : va_S A0 H0 H locs) (hA : ∀ q, A q → A0 q) (h : inSitO G Ω o c0 c1) {x : Int32} (hlink : Cond.fieldLink own index (TX5 3).1 (TX5 3).2.1 (TX5 3).2.2.1 ∈ gt) (hdg : decode cc pc = .ok (.putfield index, 3)) (kk : ∀ (Ω1 : Om) (H1 : Heap) (locs1 : List Loc), inSitO G Ω1 o x c1 → oF Ω Ω1 o 1 → oW G A Ω1 H1 → va_S A0 H0 H1 locs1 → W p l e R s m args below meth c H1 locs1 cells slots Q (F0 m (pc + 3) ls rest)) : W p l e R s m args below meth c H locs cells slots Q (F0 m pc ls (.int x :: .ref o :: rest)) := o_put hx hb hts hown hK hW hS hA (inSitO_o h) rfl ig5 tyX5 tyX5_ok nmX5 3 (by decide) hlink rfl (ty := .int) (by decide +kernel) rfl rfl (Nat.le_of_ble_eq_true rfl) hdg (fun H1 locs1 hW1 hS1 => kk _ H1 locs1 (show inSitO G _ o x c1 from oU_self) (oF.up (by omega) (by omega)) hW1 hS1)
theorem vSitO_4 {p : Program} {l : Launch} {e : Env} {R : Room} {s : State} {m : MethodId} {args : Array Value} {below : List Frame} {meth : Method} {c : Code} {H : Heap} {locs : List Loc} {cells slots : Nat} {Q : State → Prop} {cc : ByteArray} {pc : Nat} {ls : Array Slot} {rest : List Value} {G : Gm} {A A0 : Nat → Prop} {Ω : Om} {H0 : Heap} {o : Nat} {c0 : Int32} {c1 : Int32} (hx : p.tables.exec = Jvm.exec) (hb : c.code = cc) (hts : ∀ w ∈ gt, w.before args s = true) {own : String} {index : Nat} (hown : s.vm.findClass own = some m.cls) (hK : oK G s) (hW : oW G A Ω H) (hS : va_S A0 H0 H locs) (hA : ∀ q, A q → A0 q) (h : inSitO G Ω o c0 c1) {x : Int32} (hlink : Cond.fieldLink own index (TX5 4).1 (TX5 4).2.1 (TX5 4).2.2.1 ∈ gt) (hdg : decode cc pc = .ok (.putfield index, 3)) (kk : ∀ (Ω1 : Om) (H1 : Heap) (locs1 : List Loc), inSitO G Ω1 o c0 x → oF Ω Ω1 o 1 → oW G A Ω1 H1 → va_S A0 H0 H1 locs1 → W p l e R s m args below meth c H1 locs1 cells slots Q (F0 m (pc + 3) ls rest)) : W p l e R s m args below meth c H locs cells slots Q (F0 m pc ls (.int x :: .ref o :: rest)) := o_put hx hb hts hown hK hW hS hA (inSitO_o h) rfl ig5 tyX5 tyX5_ok nmX5 4 (by decide) hlink rfl (ty := .int) (by decide +kernel) rfl rfl (Nat.le_of_ble_eq_true rfl) hdg (fun H1 locs1 hW1 hS1 => kk _ H1 locs1 (show inSitO G _ o c0 x from oU_self) (oF.up (by omega) (by omega)) hW1 hS1)
def inMBO (G : Gm) (Ω : Om) (o : Nat) (bc : Nat) : Prop := Ω o = some (.inr (8, [.ref (o + 1), .ref (o + 3), .ref (o + 18), .ref (o + 33), .ref (o + 125), .ref (o + 126), .ref (o + 127), .ref bc]))
theorem inMBO_o {G : Gm} {Ω : Om} {o bc : Nat} (h : inMBO G Ω o bc) : Ω o = some (.inr (8, [.ref (o + 1), .ref (o + 3), .ref (o + 18), .ref (o + 33), .ref (o + 125), .ref (o + 126), .ref (o + 127), .ref bc])) := h
theorem inMBO.keep {G : Gm} {Ω : Om} {o bc : Nat} {Ω1 : Om} (h : inMBO G Ω o bc) (hq : ∀ q : Nat, o ≤ q → q < o + 1 → Ω1 q = Ω q) : inMBO G Ω1 o bc := (hq _ (by omega) (by omega)).trans (inMBO_o h)
def inMod (G : Gm) (Ω : Om) (o : Nat) (c0 : Fn) (c1 : Fn) (c2 : Fn) (c3 : Fn) (c4 : Int32) (c5 : Fn) (c6 : Fn) (c7 : Fn) (c8 : Int32) (c9 : Int32) (c10 : Int32) (c11 : Int32) (c12 : Int32) (c13 : Int32) : Prop := Ω o = some (.inr (9, [.ref (o + 1), .ref (o + 2), .ref (o + 3), .ref (o + 4), .int c4, .ref (o + 5), .ref (o + 6), .ref (o + 7), .int c8, .int c9, .int c10, .int c11, .int c12, .int c13])) ∧ Ω (o + 1) = some (.inl (G.2.1, 93, .inl c0)) ∧ Ω (o + 2) = some (.inl (G.2.1, 93, .inl c1)) ∧ Ω (o + 3) = some (.inl (G.2.1, 171, .inl c2)) ∧ Ω (o + 4) = some (.inl (G.2.1, 810, .inl c3)) ∧ Ω (o + 5) = some (.inl (G.2.1, 270, .inl c5)) ∧ Ω (o + 6) = some (.inl (G.2.2.1, 2, .inl c6)) ∧ Ω (o + 7) = some (.inl (G.2.1, 160, .inl c7))
theorem inMod_o {G : Gm} {Ω : Om} {o : Nat} {c0 : Fn} {c1 : Fn} {c2 : Fn} {c3 : Fn} {c4 : Int32} {c5 : Fn} {c6 : Fn} {c7 : Fn} {c8 : Int32} {c9 : Int32} {c10 : Int32} {c11 : Int32} {c12 : Int32} {c13 : Int32} (h : inMod G Ω o c0 c1 c2 c3 c4 c5 c6 c7 c8 c9 c10 c11 c12 c13) : Ω o = some (.inr (9, [.ref (o + 1), .ref (o + 2), .ref (o + 3), .ref (o + 4), .int c4, .ref (o + 5), .ref (o + 6), .ref (o + 7), .int c8, .int c9, .int c10, .int c11, .int c12, .int c13])) := h.1
theorem inMod_a0 {G : Gm} {Ω : Om} {o : Nat} {c0 : Fn} {c1 : Fn} {c2 : Fn} {c3 : Fn} {c4 : Int32} {c5 : Fn} {c6 : Fn} {c7 : Fn} {c8 : Int32} {c9 : Int32} {c10 : Int32} {c11 : Int32} {c12 : Int32} {c13 : Int32} (h : inMod G Ω o c0 c1 c2 c3 c4 c5 c6 c7 c8 c9 c10 c11 c12 c13) : Ω (o + 1) = some (.inl (G.2.1, 93, .inl c0)) := h.2.1
theorem inMod_a1 {G : Gm} {Ω : Om} {o : Nat} {c0 : Fn} {c1 : Fn} {c2 : Fn} {c3 : Fn} {c4 : Int32} {c5 : Fn} {c6 : Fn} {c7 : Fn} {c8 : Int32} {c9 : Int32} {c10 : Int32} {c11 : Int32} {c12 : Int32} {c13 : Int32} (h : inMod G Ω o c0 c1 c2 c3 c4 c5 c6 c7 c8 c9 c10 c11 c12 c13) : Ω (o + 2) = some (.inl (G.2.1, 93, .inl c1)) := h.2.2.1
theorem inMod_a2 {G : Gm} {Ω : Om} {o : Nat} {c0 : Fn} {c1 : Fn} {c2 : Fn} {c3 : Fn} {c4 : Int32} {c5 : Fn} {c6 : Fn} {c7 : Fn} {c8 : Int32} {c9 : Int32} {c10 : Int32} {c11 : Int32} {c12 : Int32} {c13 : Int32} (h : inMod G Ω o c0 c1 c2 c3 c4 c5 c6 c7 c8 c9 c10 c11 c12 c13) : Ω (o + 3) = some (.inl (G.2.1, 171, .inl c2)) := h.2.2.2.1
theorem inMod_a3 {G : Gm} {Ω : Om} {o : Nat} {c0 : Fn} {c1 : Fn} {c2 : Fn} {c3 : Fn} {c4 : Int32} {c5 : Fn} {c6 : Fn} {c7 : Fn} {c8 : Int32} {c9 : Int32} {c10 : Int32} {c11 : Int32} {c12 : Int32} {c13 : Int32} (h : inMod G Ω o c0 c1 c2 c3 c4 c5 c6 c7 c8 c9 c10 c11 c12 c13) : Ω (o + 4) = some (.inl (G.2.1, 810, .inl c3)) := h.2.2.2.2.1
theorem inMod_a4 {G : Gm} {Ω : Om} {o : Nat} {c0 : Fn} {c1 : Fn} {c2 : Fn} {c3 : Fn} {c4 : Int32} {c5 : Fn} {c6 : Fn} {c7 : Fn} {c8 : Int32} {c9 : Int32} {c10 : Int32} {c11 : Int32} {c12 : Int32} {c13 : Int32} (h : inMod G Ω o c0 c1 c2 c3 c4 c5 c6 c7 c8 c9 c10 c11 c12 c13) : Ω (o + 5) = some (.inl (G.2.1, 270, .inl c5)) := h.2.2.2.2.2.1
theorem inMod_a5 {G : Gm} {Ω : Om} {o : Nat} {c0 : Fn} {c1 : Fn} {c2 : Fn} {c3 : Fn} {c4 : Int32} {c5 : Fn} {c6 : Fn} {c7 : Fn} {c8 : Int32} {c9 : Int32} {c10 : Int32} {c11 : Int32} {c12 : Int32} {c13 : Int32} (h : inMod G Ω o c0 c1 c2 c3 c4 c5 c6 c7 c8 c9 c10 c11 c12 c13) : Ω (o + 6) = some (.inl (G.2.2.1, 2, .inl c6)) := h.2.2.2.2.2.2.1
theorem inMod_a6 {G : Gm} {Ω : Om} {o : Nat} {c0 : Fn} {c1 : Fn} {c2 : Fn} {c3 : Fn} {c4 : Int32} {c5 : Fn} {c6 : Fn} {c7 : Fn} {c8 : Int32} {c9 : Int32} {c10 : Int32} {c11 : Int32} {c12 : Int32} {c13 : Int32} (h : inMod G Ω o c0 c1 c2 c3 c4 c5 c6 c7 c8 c9 c10 c11 c12 c13) : Ω (o + 7) = some (.inl (G.2.1, 160, .inl c7)) := h.2.2.2.2.2.2.2
theorem inMod.keep {G : Gm} {Ω : Om} {o : Nat} {c0 : Fn} {c1 : Fn} {c2 : Fn} {c3 : Fn} {c4 : Int32} {c5 : Fn} {c6 : Fn} {c7 : Fn} {c8 : Int32} {c9 : Int32} {c10 : Int32} {c11 : Int32} {c12 : Int32} {c13 : Int32} {Ω1 : Om} (h : inMod G Ω o c0 c1 c2 c3 c4 c5 c6 c7 c8 c9 c10 c11 c12 c13) (hq : ∀ q : Nat, o ≤ q → q < o + 8 → Ω1 q = Ω q) : inMod G Ω1 o c0 c1 c2 c3 c4 c5 c6 c7 c8 c9 c10 c11 c12 c13 := ⟨(hq _ (by omega) (by omega)).trans (inMod_o h), (hq _ (by omega) (by omega)).trans (inMod_a0 h), (hq _ (by omega) (by omega)).trans (inMod_a1 h), (hq _ (by omega) (by omega)).trans (inMod_a2 h), (hq _ (by omega) (by omega)).trans (inMod_a3 h), (hq _ (by omega) (by omega)).trans (inMod_a4 h), (hq _ (by omega) (by omega)).trans (inMod_a5 h), (hq _ (by omega) (by omega)).trans (inMod_a6 h)⟩
theorem sMod_0 {G : Gm} {Ω : Om} {o : Nat} {c0 : Fn} {c1 : Fn} {c2 : Fn} {c3 : Fn} {c4 : Int32} {c5 : Fn} {c6 : Fn} {c7 : Fn} {c8 : Int32} {c9 : Int32} {c10 : Int32} {c11 : Int32} {c12 : Int32} {c13 : Int32} {f : Fn} (h : inMod G Ω o c0 c1 c2 c3 c4 c5 c6 c7 c8 c9 c10 c11 c12 c13) : inMod G (oU Ω (o + 1) (.inl (G.2.1, 93, .inl f))) o f c1 c2 c3 c4 c5 c6 c7 c8 c9 c10 c11 c12 c13 := ⟨(oU_ne (by omega)).trans (inMod_o h), oU_self, (oU_ne (by omega)).trans (inMod_a1 h), (oU_ne (by omega)).trans (inMod_a2 h), (oU_ne (by omega)).trans (inMod_a3 h), (oU_ne (by omega)).trans (inMod_a4 h), (oU_ne (by omega)).trans (inMod_a5 h), (oU_ne (by omega)).trans (inMod_a6 h)⟩
theorem wMod_0 {p : Program} {l : Launch} {e : Env} {R : Room} {s : State} {m : MethodId} {args : Array Value} {below : List Frame} {meth : Method} {c : Code} {H : Heap} {locs : List Loc} {cells slots : Nat} {Q : State → Prop} {cc : ByteArray} {pc : Nat} {ls : Array Slot} {rest : List Value} {G : Gm} {A A0 : Nat → Prop} {Ω : Om} {H0 : Heap} {o : Nat} {c0 : Fn} {c1 : Fn} {c2 : Fn} {c3 : Fn} {c4 : Int32} {c5 : Fn} {c6 : Fn} {c7 : Fn} {c8 : Int32} {c9 : Int32} {c10 : Int32} {c11 : Int32} {c12 : Int32} {c13 : Int32} (hx : p.tables.exec = Jvm.exec) (hb : c.code = cc) (hK : oK G s) (hW : oW G A Ω H) (hS : va_S A0 H0 H locs) (hA : ∀ q, A q → A0 q) (h : inMod G Ω o c0 c1 c2 c3 c4 c5 c6 c7 c8 c9 c10 c11 c12 c13) {i x : Int32} (hin : vp_in i 93) (hdg : decode cc pc = .ok (.iastore, 1)) (kk : ∀ (Ω1 : Om) (H1 : Heap) (locs1 : List Loc), inMod G Ω1 o (upd c0 i.toNatClampNeg x) c1 c2 c3 c4 c5 c6 c7 c8 c9 c10 c11 c12 c13 → oF Ω Ω1 o 8 → oW G A Ω1 H1 → va_S A0 H0 H1 locs1 → W p l e R s m args below meth c H1 locs1 cells slots Q (F0 m (pc + 1) ls rest)) : W p l e R s m args below meth c H locs cells slots Q (F0 m pc ls (.int x :: .int i :: .ref (o + 1) :: rest)) := o_iast hx hb hK hW hS hA (inMod_a0 h) hin hdg (fun H1 locs1 hW1 hS1 => kk _ H1 locs1 (sMod_0 h) (oF.up (by omega) (by omega)) hW1 hS1)
theorem sMod_1 {G : Gm} {Ω : Om} {o : Nat} {c0 : Fn} {c1 : Fn} {c2 : Fn} {c3 : Fn} {c4 : Int32} {c5 : Fn} {c6 : Fn} {c7 : Fn} {c8 : Int32} {c9 : Int32} {c10 : Int32} {c11 : Int32} {c12 : Int32} {c13 : Int32} {f : Fn} (h : inMod G Ω o c0 c1 c2 c3 c4 c5 c6 c7 c8 c9 c10 c11 c12 c13) : inMod G (oU Ω (o + 2) (.inl (G.2.1, 93, .inl f))) o c0 f c2 c3 c4 c5 c6 c7 c8 c9 c10 c11 c12 c13 := ⟨(oU_ne (by omega)).trans (inMod_o h), (oU_ne (by omega)).trans (inMod_a0 h), oU_self, (oU_ne (by omega)).trans (inMod_a2 h), (oU_ne (by omega)).trans (inMod_a3 h), (oU_ne (by omega)).trans (inMod_a4 h), (oU_ne (by omega)).trans (inMod_a5 h), (oU_ne (by omega)).trans (inMod_a6 h)⟩
theorem wMod_1 {p : Program} {l : Launch} {e : Env} {R : Room} {s : State} {m : MethodId} {args : Array Value} {below : List Frame} {meth : Method} {c : Code} {H : Heap} {locs : List Loc} {cells slots : Nat} {Q : State → Prop} {cc : ByteArray} {pc : Nat} {ls : Array Slot} {rest : List Value} {G : Gm} {A A0 : Nat → Prop} {Ω : Om} {H0 : Heap} {o : Nat} {c0 : Fn} {c1 : Fn} {c2 : Fn} {c3 : Fn} {c4 : Int32} {c5 : Fn} {c6 : Fn} {c7 : Fn} {c8 : Int32} {c9 : Int32} {c10 : Int32} {c11 : Int32} {c12 : Int32} {c13 : Int32} (hx : p.tables.exec = Jvm.exec) (hb : c.code = cc) (hK : oK G s) (hW : oW G A Ω H) (hS : va_S A0 H0 H locs) (hA : ∀ q, A q → A0 q) (h : inMod G Ω o c0 c1 c2 c3 c4 c5 c6 c7 c8 c9 c10 c11 c12 c13) {i x : Int32} (hin : vp_in i 93) (hdg : decode cc pc = .ok (.iastore, 1)) (kk : ∀ (Ω1 : Om) (H1 : Heap) (locs1 : List Loc), inMod G Ω1 o c0 (upd c1 i.toNatClampNeg x) c2 c3 c4 c5 c6 c7 c8 c9 c10 c11 c12 c13 → oF Ω Ω1 o 8 → oW G A Ω1 H1 → va_S A0 H0 H1 locs1 → W p l e R s m args below meth c H1 locs1 cells slots Q (F0 m (pc + 1) ls rest)) : W p l e R s m args below meth c H locs cells slots Q (F0 m pc ls (.int x :: .int i :: .ref (o + 2) :: rest)) := o_iast hx hb hK hW hS hA (inMod_a1 h) hin hdg (fun H1 locs1 hW1 hS1 => kk _ H1 locs1 (sMod_1 h) (oF.up (by omega) (by omega)) hW1 hS1)
theorem sMod_2 {G : Gm} {Ω : Om} {o : Nat} {c0 : Fn} {c1 : Fn} {c2 : Fn} {c3 : Fn} {c4 : Int32} {c5 : Fn} {c6 : Fn} {c7 : Fn} {c8 : Int32} {c9 : Int32} {c10 : Int32} {c11 : Int32} {c12 : Int32} {c13 : Int32} {f : Fn} (h : inMod G Ω o c0 c1 c2 c3 c4 c5 c6 c7 c8 c9 c10 c11 c12 c13) : inMod G (oU Ω (o + 3) (.inl (G.2.1, 171, .inl f))) o c0 c1 f c3 c4 c5 c6 c7 c8 c9 c10 c11 c12 c13 := ⟨(oU_ne (by omega)).trans (inMod_o h), (oU_ne (by omega)).trans (inMod_a0 h), (oU_ne (by omega)).trans (inMod_a1 h), oU_self, (oU_ne (by omega)).trans (inMod_a3 h), (oU_ne (by omega)).trans (inMod_a4 h), (oU_ne (by omega)).trans (inMod_a5 h), (oU_ne (by omega)).trans (inMod_a6 h)⟩
theorem wMod_2 {p : Program} {l : Launch} {e : Env} {R : Room} {s : State} {m : MethodId} {args : Array Value} {below : List Frame} {meth : Method} {c : Code} {H : Heap} {locs : List Loc} {cells slots : Nat} {Q : State → Prop} {cc : ByteArray} {pc : Nat} {ls : Array Slot} {rest : List Value} {G : Gm} {A A0 : Nat → Prop} {Ω : Om} {H0 : Heap} {o : Nat} {c0 : Fn} {c1 : Fn} {c2 : Fn} {c3 : Fn} {c4 : Int32} {c5 : Fn} {c6 : Fn} {c7 : Fn} {c8 : Int32} {c9 : Int32} {c10 : Int32} {c11 : Int32} {c12 : Int32} {c13 : Int32} (hx : p.tables.exec = Jvm.exec) (hb : c.code = cc) (hK : oK G s) (hW : oW G A Ω H) (hS : va_S A0 H0 H locs) (hA : ∀ q, A q → A0 q) (h : inMod G Ω o c0 c1 c2 c3 c4 c5 c6 c7 c8 c9 c10 c11 c12 c13) {i x : Int32} (hin : vp_in i 171) (hdg : decode cc pc = .ok (.iastore, 1)) (kk : ∀ (Ω1 : Om) (H1 : Heap) (locs1 : List Loc), inMod G Ω1 o c0 c1 (upd c2 i.toNatClampNeg x) c3 c4 c5 c6 c7 c8 c9 c10 c11 c12 c13 → oF Ω Ω1 o 8 → oW G A Ω1 H1 → va_S A0 H0 H1 locs1 → W p l e R s m args below meth c H1 locs1 cells slots Q (F0 m (pc + 1) ls rest)) : W p l e R s m args below meth c H locs cells slots Q (F0 m pc ls (.int x :: .int i :: .ref (o + 3) :: rest)) := o_iast hx hb hK hW hS hA (inMod_a2 h) hin hdg (fun H1 locs1 hW1 hS1 => kk _ H1 locs1 (sMod_2 h) (oF.up (by omega) (by omega)) hW1 hS1)
theorem sMod_3 {G : Gm} {Ω : Om} {o : Nat} {c0 : Fn} {c1 : Fn} {c2 : Fn} {c3 : Fn} {c4 : Int32} {c5 : Fn} {c6 : Fn} {c7 : Fn} {c8 : Int32} {c9 : Int32} {c10 : Int32} {c11 : Int32} {c12 : Int32} {c13 : Int32} {f : Fn} (h : inMod G Ω o c0 c1 c2 c3 c4 c5 c6 c7 c8 c9 c10 c11 c12 c13) : inMod G (oU Ω (o + 4) (.inl (G.2.1, 810, .inl f))) o c0 c1 c2 f c4 c5 c6 c7 c8 c9 c10 c11 c12 c13 := ⟨(oU_ne (by omega)).trans (inMod_o h), (oU_ne (by omega)).trans (inMod_a0 h), (oU_ne (by omega)).trans (inMod_a1 h), (oU_ne (by omega)).trans (inMod_a2 h), oU_self, (oU_ne (by omega)).trans (inMod_a4 h), (oU_ne (by omega)).trans (inMod_a5 h), (oU_ne (by omega)).trans (inMod_a6 h)⟩
theorem wMod_3 {p : Program} {l : Launch} {e : Env} {R : Room} {s : State} {m : MethodId} {args : Array Value} {below : List Frame} {meth : Method} {c : Code} {H : Heap} {locs : List Loc} {cells slots : Nat} {Q : State → Prop} {cc : ByteArray} {pc : Nat} {ls : Array Slot} {rest : List Value} {G : Gm} {A A0 : Nat → Prop} {Ω : Om} {H0 : Heap} {o : Nat} {c0 : Fn} {c1 : Fn} {c2 : Fn} {c3 : Fn} {c4 : Int32} {c5 : Fn} {c6 : Fn} {c7 : Fn} {c8 : Int32} {c9 : Int32} {c10 : Int32} {c11 : Int32} {c12 : Int32} {c13 : Int32} (hx : p.tables.exec = Jvm.exec) (hb : c.code = cc) (hK : oK G s) (hW : oW G A Ω H) (hS : va_S A0 H0 H locs) (hA : ∀ q, A q → A0 q) (h : inMod G Ω o c0 c1 c2 c3 c4 c5 c6 c7 c8 c9 c10 c11 c12 c13) {i x : Int32} (hin : vp_in i 810) (hdg : decode cc pc = .ok (.iastore, 1)) (kk : ∀ (Ω1 : Om) (H1 : Heap) (locs1 : List Loc), inMod G Ω1 o c0 c1 c2 (upd c3 i.toNatClampNeg x) c4 c5 c6 c7 c8 c9 c10 c11 c12 c13 → oF Ω Ω1 o 8 → oW G A Ω1 H1 → va_S A0 H0 H1 locs1 → W p l e R s m args below meth c H1 locs1 cells slots Q (F0 m (pc + 1) ls rest)) : W p l e R s m args below meth c H locs cells slots Q (F0 m pc ls (.int x :: .int i :: .ref (o + 4) :: rest)) := o_iast hx hb hK hW hS hA (inMod_a3 h) hin hdg (fun H1 locs1 hW1 hS1 => kk _ H1 locs1 (sMod_3 h) (oF.up (by omega) (by omega)) hW1 hS1)
theorem sMod_4 {G : Gm} {Ω : Om} {o : Nat} {c0 : Fn} {c1 : Fn} {c2 : Fn} {c3 : Fn} {c4 : Int32} {c5 : Fn} {c6 : Fn} {c7 : Fn} {c8 : Int32} {c9 : Int32} {c10 : Int32} {c11 : Int32} {c12 : Int32} {c13 : Int32} {f : Fn} (h : inMod G Ω o c0 c1 c2 c3 c4 c5 c6 c7 c8 c9 c10 c11 c12 c13) : inMod G (oU Ω (o + 5) (.inl (G.2.1, 270, .inl f))) o c0 c1 c2 c3 c4 f c6 c7 c8 c9 c10 c11 c12 c13 := ⟨(oU_ne (by omega)).trans (inMod_o h), (oU_ne (by omega)).trans (inMod_a0 h), (oU_ne (by omega)).trans (inMod_a1 h), (oU_ne (by omega)).trans (inMod_a2 h), (oU_ne (by omega)).trans (inMod_a3 h), oU_self, (oU_ne (by omega)).trans (inMod_a5 h), (oU_ne (by omega)).trans (inMod_a6 h)⟩
theorem wMod_4 {p : Program} {l : Launch} {e : Env} {R : Room} {s : State} {m : MethodId} {args : Array Value} {below : List Frame} {meth : Method} {c : Code} {H : Heap} {locs : List Loc} {cells slots : Nat} {Q : State → Prop} {cc : ByteArray} {pc : Nat} {ls : Array Slot} {rest : List Value} {G : Gm} {A A0 : Nat → Prop} {Ω : Om} {H0 : Heap} {o : Nat} {c0 : Fn} {c1 : Fn} {c2 : Fn} {c3 : Fn} {c4 : Int32} {c5 : Fn} {c6 : Fn} {c7 : Fn} {c8 : Int32} {c9 : Int32} {c10 : Int32} {c11 : Int32} {c12 : Int32} {c13 : Int32} (hx : p.tables.exec = Jvm.exec) (hb : c.code = cc) (hK : oK G s) (hW : oW G A Ω H) (hS : va_S A0 H0 H locs) (hA : ∀ q, A q → A0 q) (h : inMod G Ω o c0 c1 c2 c3 c4 c5 c6 c7 c8 c9 c10 c11 c12 c13) {i x : Int32} (hin : vp_in i 270) (hdg : decode cc pc = .ok (.iastore, 1)) (kk : ∀ (Ω1 : Om) (H1 : Heap) (locs1 : List Loc), inMod G Ω1 o c0 c1 c2 c3 c4 (upd c5 i.toNatClampNeg x) c6 c7 c8 c9 c10 c11 c12 c13 → oF Ω Ω1 o 8 → oW G A Ω1 H1 → va_S A0 H0 H1 locs1 → W p l e R s m args below meth c H1 locs1 cells slots Q (F0 m (pc + 1) ls rest)) : W p l e R s m args below meth c H locs cells slots Q (F0 m pc ls (.int x :: .int i :: .ref (o + 5) :: rest)) := o_iast hx hb hK hW hS hA (inMod_a4 h) hin hdg (fun H1 locs1 hW1 hS1 => kk _ H1 locs1 (sMod_4 h) (oF.up (by omega) (by omega)) hW1 hS1)
theorem sMod_5 {G : Gm} {Ω : Om} {o : Nat} {c0 : Fn} {c1 : Fn} {c2 : Fn} {c3 : Fn} {c4 : Int32} {c5 : Fn} {c6 : Fn} {c7 : Fn} {c8 : Int32} {c9 : Int32} {c10 : Int32} {c11 : Int32} {c12 : Int32} {c13 : Int32} {f : Fn} (h : inMod G Ω o c0 c1 c2 c3 c4 c5 c6 c7 c8 c9 c10 c11 c12 c13) : inMod G (oU Ω (o + 6) (.inl (G.2.2.1, 2, .inl f))) o c0 c1 c2 c3 c4 c5 f c7 c8 c9 c10 c11 c12 c13 := ⟨(oU_ne (by omega)).trans (inMod_o h), (oU_ne (by omega)).trans (inMod_a0 h), (oU_ne (by omega)).trans (inMod_a1 h), (oU_ne (by omega)).trans (inMod_a2 h), (oU_ne (by omega)).trans (inMod_a3 h), (oU_ne (by omega)).trans (inMod_a4 h), oU_self, (oU_ne (by omega)).trans (inMod_a6 h)⟩
theorem wMod_5 {p : Program} {l : Launch} {e : Env} {R : Room} {s : State} {m : MethodId} {args : Array Value} {below : List Frame} {meth : Method} {c : Code} {H : Heap} {locs : List Loc} {cells slots : Nat} {Q : State → Prop} {cc : ByteArray} {pc : Nat} {ls : Array Slot} {rest : List Value} {G : Gm} {A A0 : Nat → Prop} {Ω : Om} {H0 : Heap} {o : Nat} {c0 : Fn} {c1 : Fn} {c2 : Fn} {c3 : Fn} {c4 : Int32} {c5 : Fn} {c6 : Fn} {c7 : Fn} {c8 : Int32} {c9 : Int32} {c10 : Int32} {c11 : Int32} {c12 : Int32} {c13 : Int32} (hx : p.tables.exec = Jvm.exec) (hb : c.code = cc) (hK : oK G s) (hW : oW G A Ω H) (hS : va_S A0 H0 H locs) (hA : ∀ q, A q → A0 q) (h : inMod G Ω o c0 c1 c2 c3 c4 c5 c6 c7 c8 c9 c10 c11 c12 c13) {i x : Int32} (hin : vp_in i 2) (hdg : decode cc pc = .ok (.bastore, 1)) (kk : ∀ (Ω1 : Om) (H1 : Heap) (locs1 : List Loc), inMod G Ω1 o c0 c1 c2 c3 c4 c5 (upd c6 i.toNatClampNeg (vp_nar .boolean x)) c7 c8 c9 c10 c11 c12 c13 → oF Ω Ω1 o 8 → oW G A Ω1 H1 → va_S A0 H0 H1 locs1 → W p l e R s m args below meth c H1 locs1 cells slots Q (F0 m (pc + 1) ls rest)) : W p l e R s m args below meth c H locs cells slots Q (F0 m pc ls (.int x :: .int i :: .ref (o + 6) :: rest)) := o_zast hx hb hK hW hS hA (inMod_a5 h) hin hdg (fun H1 locs1 hW1 hS1 => kk _ H1 locs1 (sMod_5 h) (oF.up (by omega) (by omega)) hW1 hS1)
theorem sMod_6 {G : Gm} {Ω : Om} {o : Nat} {c0 : Fn} {c1 : Fn} {c2 : Fn} {c3 : Fn} {c4 : Int32} {c5 : Fn} {c6 : Fn} {c7 : Fn} {c8 : Int32} {c9 : Int32} {c10 : Int32} {c11 : Int32} {c12 : Int32} {c13 : Int32} {f : Fn} (h : inMod G Ω o c0 c1 c2 c3 c4 c5 c6 c7 c8 c9 c10 c11 c12 c13) : inMod G (oU Ω (o + 7) (.inl (G.2.1, 160, .inl f))) o c0 c1 c2 c3 c4 c5 c6 f c8 c9 c10 c11 c12 c13 := ⟨(oU_ne (by omega)).trans (inMod_o h), (oU_ne (by omega)).trans (inMod_a0 h), (oU_ne (by omega)).trans (inMod_a1 h), (oU_ne (by omega)).trans (inMod_a2 h), (oU_ne (by omega)).trans (inMod_a3 h), (oU_ne (by omega)).trans (inMod_a4 h), (oU_ne (by omega)).trans (inMod_a5 h), oU_self⟩
theorem wMod_6 {p : Program} {l : Launch} {e : Env} {R : Room} {s : State} {m : MethodId} {args : Array Value} {below : List Frame} {meth : Method} {c : Code} {H : Heap} {locs : List Loc} {cells slots : Nat} {Q : State → Prop} {cc : ByteArray} {pc : Nat} {ls : Array Slot} {rest : List Value} {G : Gm} {A A0 : Nat → Prop} {Ω : Om} {H0 : Heap} {o : Nat} {c0 : Fn} {c1 : Fn} {c2 : Fn} {c3 : Fn} {c4 : Int32} {c5 : Fn} {c6 : Fn} {c7 : Fn} {c8 : Int32} {c9 : Int32} {c10 : Int32} {c11 : Int32} {c12 : Int32} {c13 : Int32} (hx : p.tables.exec = Jvm.exec) (hb : c.code = cc) (hK : oK G s) (hW : oW G A Ω H) (hS : va_S A0 H0 H locs) (hA : ∀ q, A q → A0 q) (h : inMod G Ω o c0 c1 c2 c3 c4 c5 c6 c7 c8 c9 c10 c11 c12 c13) {i x : Int32} (hin : vp_in i 160) (hdg : decode cc pc = .ok (.iastore, 1)) (kk : ∀ (Ω1 : Om) (H1 : Heap) (locs1 : List Loc), inMod G Ω1 o c0 c1 c2 c3 c4 c5 c6 (upd c7 i.toNatClampNeg x) c8 c9 c10 c11 c12 c13 → oF Ω Ω1 o 8 → oW G A Ω1 H1 → va_S A0 H0 H1 locs1 → W p l e R s m args below meth c H1 locs1 cells slots Q (F0 m (pc + 1) ls rest)) : W p l e R s m args below meth c H locs cells slots Q (F0 m pc ls (.int x :: .int i :: .ref (o + 7) :: rest)) := o_iast hx hb hK hW hS hA (inMod_a6 h) hin hdg (fun H1 locs1 hW1 hS1 => kk _ H1 locs1 (sMod_6 h) (oF.up (by omega) (by omega)) hW1 hS1)
theorem vMod_4 {p : Program} {l : Launch} {e : Env} {R : Room} {s : State} {m : MethodId} {args : Array Value} {below : List Frame} {meth : Method} {c : Code} {H : Heap} {locs : List Loc} {cells slots : Nat} {Q : State → Prop} {cc : ByteArray} {pc : Nat} {ls : Array Slot} {rest : List Value} {G : Gm} {A A0 : Nat → Prop} {Ω : Om} {H0 : Heap} {o : Nat} {c0 : Fn} {c1 : Fn} {c2 : Fn} {c3 : Fn} {c4 : Int32} {c5 : Fn} {c6 : Fn} {c7 : Fn} {c8 : Int32} {c9 : Int32} {c10 : Int32} {c11 : Int32} {c12 : Int32} {c13 : Int32} (hx : p.tables.exec = Jvm.exec) (hb : c.code = cc) (hts : ∀ w ∈ gt, w.before args s = true) {own : String} {index : Nat} (hown : s.vm.findClass own = some m.cls) (hK : oK G s) (hW : oW G A Ω H) (hS : va_S A0 H0 H locs) (hA : ∀ q, A q → A0 q) (h : inMod G Ω o c0 c1 c2 c3 c4 c5 c6 c7 c8 c9 c10 c11 c12 c13) {x : Int32} (hlink : Cond.fieldLink own index (TX9 4).1 (TX9 4).2.1 (TX9 4).2.2.1 ∈ gt) (hdg : decode cc pc = .ok (.putfield index, 3)) (kk : ∀ (Ω1 : Om) (H1 : Heap) (locs1 : List Loc), inMod G Ω1 o c0 c1 c2 c3 x c5 c6 c7 c8 c9 c10 c11 c12 c13 → oF Ω Ω1 o 8 → oW G A Ω1 H1 → va_S A0 H0 H1 locs1 → W p l e R s m args below meth c H1 locs1 cells slots Q (F0 m (pc + 3) ls rest)) : W p l e R s m args below meth c H locs cells slots Q (F0 m pc ls (.int x :: .ref o :: rest)) := o_put hx hb hts hown hK hW hS hA (inMod_o h) rfl ig9 tyX9 tyX9_ok nmX9 4 (by decide) hlink rfl (ty := .int) (by decide +kernel) rfl rfl (Nat.le_of_ble_eq_true rfl) hdg (fun H1 locs1 hW1 hS1 => kk _ H1 locs1 (show inMod G _ o c0 c1 c2 c3 x c5 c6 c7 c8 c9 c10 c11 c12 c13 from ⟨oU_self, (oU_ne (by omega)).trans (inMod_a0 h), (oU_ne (by omega)).trans (inMod_a1 h), (oU_ne (by omega)).trans (inMod_a2 h), (oU_ne (by omega)).trans (inMod_a3 h), (oU_ne (by omega)).trans (inMod_a4 h), (oU_ne (by omega)).trans (inMod_a5 h), (oU_ne (by omega)).trans (inMod_a6 h)⟩) (oF.up (by omega) (by omega)) hW1 hS1)
theorem vMod_8 {p : Program} {l : Launch} {e : Env} {R : Room} {s : State} {m : MethodId} {args : Array Value} {below : List Frame} {meth : Method} {c : Code} {H : Heap} {locs : List Loc} {cells slots : Nat} {Q : State → Prop} {cc : ByteArray} {pc : Nat} {ls : Array Slot} {rest : List Value} {G : Gm} {A A0 : Nat → Prop} {Ω : Om} {H0 : Heap} {o : Nat} {c0 : Fn} {c1 : Fn} {c2 : Fn} {c3 : Fn} {c4 : Int32} {c5 : Fn} {c6 : Fn} {c7 : Fn} {c8 : Int32} {c9 : Int32} {c10 : Int32} {c11 : Int32} {c12 : Int32} {c13 : Int32} (hx : p.tables.exec = Jvm.exec) (hb : c.code = cc) (hts : ∀ w ∈ gt, w.before args s = true) {own : String} {index : Nat} (hown : s.vm.findClass own = some m.cls) (hK : oK G s) (hW : oW G A Ω H) (hS : va_S A0 H0 H locs) (hA : ∀ q, A q → A0 q) (h : inMod G Ω o c0 c1 c2 c3 c4 c5 c6 c7 c8 c9 c10 c11 c12 c13) {x : Int32} (hlink : Cond.fieldLink own index (TX9 8).1 (TX9 8).2.1 (TX9 8).2.2.1 ∈ gt) (hdg : decode cc pc = .ok (.putfield index, 3)) (kk : ∀ (Ω1 : Om) (H1 : Heap) (locs1 : List Loc), inMod G Ω1 o c0 c1 c2 c3 c4 c5 c6 c7 x c9 c10 c11 c12 c13 → oF Ω Ω1 o 8 → oW G A Ω1 H1 → va_S A0 H0 H1 locs1 → W p l e R s m args below meth c H1 locs1 cells slots Q (F0 m (pc + 3) ls rest)) : W p l e R s m args below meth c H locs cells slots Q (F0 m pc ls (.int x :: .ref o :: rest)) := o_put hx hb hts hown hK hW hS hA (inMod_o h) rfl ig9 tyX9 tyX9_ok nmX9 8 (by decide) hlink rfl (ty := .int) (by decide +kernel) rfl rfl (Nat.le_of_ble_eq_true rfl) hdg (fun H1 locs1 hW1 hS1 => kk _ H1 locs1 (show inMod G _ o c0 c1 c2 c3 c4 c5 c6 c7 x c9 c10 c11 c12 c13 from ⟨oU_self, (oU_ne (by omega)).trans (inMod_a0 h), (oU_ne (by omega)).trans (inMod_a1 h), (oU_ne (by omega)).trans (inMod_a2 h), (oU_ne (by omega)).trans (inMod_a3 h), (oU_ne (by omega)).trans (inMod_a4 h), (oU_ne (by omega)).trans (inMod_a5 h), (oU_ne (by omega)).trans (inMod_a6 h)⟩) (oF.up (by omega) (by omega)) hW1 hS1)
theorem vMod_9 {p : Program} {l : Launch} {e : Env} {R : Room} {s : State} {m : MethodId} {args : Array Value} {below : List Frame} {meth : Method} {c : Code} {H : Heap} {locs : List Loc} {cells slots : Nat} {Q : State → Prop} {cc : ByteArray} {pc : Nat} {ls : Array Slot} {rest : List Value} {G : Gm} {A A0 : Nat → Prop} {Ω : Om} {H0 : Heap} {o : Nat} {c0 : Fn} {c1 : Fn} {c2 : Fn} {c3 : Fn} {c4 : Int32} {c5 : Fn} {c6 : Fn} {c7 : Fn} {c8 : Int32} {c9 : Int32} {c10 : Int32} {c11 : Int32} {c12 : Int32} {c13 : Int32} (hx : p.tables.exec = Jvm.exec) (hb : c.code = cc) (hts : ∀ w ∈ gt, w.before args s = true) {own : String} {index : Nat} (hown : s.vm.findClass own = some m.cls) (hK : oK G s) (hW : oW G A Ω H) (hS : va_S A0 H0 H locs) (hA : ∀ q, A q → A0 q) (h : inMod G Ω o c0 c1 c2 c3 c4 c5 c6 c7 c8 c9 c10 c11 c12 c13) {x : Int32} (hlink : Cond.fieldLink own index (TX9 9).1 (TX9 9).2.1 (TX9 9).2.2.1 ∈ gt) (hdg : decode cc pc = .ok (.putfield index, 3)) (kk : ∀ (Ω1 : Om) (H1 : Heap) (locs1 : List Loc), inMod G Ω1 o c0 c1 c2 c3 c4 c5 c6 c7 c8 x c10 c11 c12 c13 → oF Ω Ω1 o 8 → oW G A Ω1 H1 → va_S A0 H0 H1 locs1 → W p l e R s m args below meth c H1 locs1 cells slots Q (F0 m (pc + 3) ls rest)) : W p l e R s m args below meth c H locs cells slots Q (F0 m pc ls (.int x :: .ref o :: rest)) := o_put hx hb hts hown hK hW hS hA (inMod_o h) rfl ig9 tyX9 tyX9_ok nmX9 9 (by decide) hlink rfl (ty := .int) (by decide +kernel) rfl rfl (Nat.le_of_ble_eq_true rfl) hdg (fun H1 locs1 hW1 hS1 => kk _ H1 locs1 (show inMod G _ o c0 c1 c2 c3 c4 c5 c6 c7 c8 x c10 c11 c12 c13 from ⟨oU_self, (oU_ne (by omega)).trans (inMod_a0 h), (oU_ne (by omega)).trans (inMod_a1 h), (oU_ne (by omega)).trans (inMod_a2 h), (oU_ne (by omega)).trans (inMod_a3 h), (oU_ne (by omega)).trans (inMod_a4 h), (oU_ne (by omega)).trans (inMod_a5 h), (oU_ne (by omega)).trans (inMod_a6 h)⟩) (oF.up (by omega) (by omega)) hW1 hS1)
theorem vMod_10 {p : Program} {l : Launch} {e : Env} {R : Room} {s : State} {m : MethodId} {args : Array Value} {below : List Frame} {meth : Method} {c : Code} {H : Heap} {locs : List Loc} {cells slots : Nat} {Q : State → Prop} {cc : ByteArray} {pc : Nat} {ls : Array Slot} {rest : List Value} {G : Gm} {A A0 : Nat → Prop} {Ω : Om} {H0 : Heap} {o : Nat} {c0 : Fn} {c1 : Fn} {c2 : Fn} {c3 : Fn} {c4 : Int32} {c5 : Fn} {c6 : Fn} {c7 : Fn} {c8 : Int32} {c9 : Int32} {c10 : Int32} {c11 : Int32} {c12 : Int32} {c13 : Int32} (hx : p.tables.exec = Jvm.exec) (hb : c.code = cc) (hts : ∀ w ∈ gt, w.before args s = true) {own : String} {index : Nat} (hown : s.vm.findClass own = some m.cls) (hK : oK G s) (hW : oW G A Ω H) (hS : va_S A0 H0 H locs) (hA : ∀ q, A q → A0 q) (h : inMod G Ω o c0 c1 c2 c3 c4 c5 c6 c7 c8 c9 c10 c11 c12 c13) {x : Int32} (hlink : Cond.fieldLink own index (TX9 10).1 (TX9 10).2.1 (TX9 10).2.2.1 ∈ gt) (hdg : decode cc pc = .ok (.putfield index, 3)) (kk : ∀ (Ω1 : Om) (H1 : Heap) (locs1 : List Loc), inMod G Ω1 o c0 c1 c2 c3 c4 c5 c6 c7 c8 c9 x c11 c12 c13 → oF Ω Ω1 o 8 → oW G A Ω1 H1 → va_S A0 H0 H1 locs1 → W p l e R s m args below meth c H1 locs1 cells slots Q (F0 m (pc + 3) ls rest)) : W p l e R s m args below meth c H locs cells slots Q (F0 m pc ls (.int x :: .ref o :: rest)) := o_put hx hb hts hown hK hW hS hA (inMod_o h) rfl ig9 tyX9 tyX9_ok nmX9 10 (by decide) hlink rfl (ty := .int) (by decide +kernel) rfl rfl (Nat.le_of_ble_eq_true rfl) hdg (fun H1 locs1 hW1 hS1 => kk _ H1 locs1 (show inMod G _ o c0 c1 c2 c3 c4 c5 c6 c7 c8 c9 x c11 c12 c13 from ⟨oU_self, (oU_ne (by omega)).trans (inMod_a0 h), (oU_ne (by omega)).trans (inMod_a1 h), (oU_ne (by omega)).trans (inMod_a2 h), (oU_ne (by omega)).trans (inMod_a3 h), (oU_ne (by omega)).trans (inMod_a4 h), (oU_ne (by omega)).trans (inMod_a5 h), (oU_ne (by omega)).trans (inMod_a6 h)⟩) (oF.up (by omega) (by omega)) hW1 hS1)
theorem vMod_11 {p : Program} {l : Launch} {e : Env} {R : Room} {s : State} {m : MethodId} {args : Array Value} {below : List Frame} {meth : Method} {c : Code} {H : Heap} {locs : List Loc} {cells slots : Nat} {Q : State → Prop} {cc : ByteArray} {pc : Nat} {ls : Array Slot} {rest : List Value} {G : Gm} {A A0 : Nat → Prop} {Ω : Om} {H0 : Heap} {o : Nat} {c0 : Fn} {c1 : Fn} {c2 : Fn} {c3 : Fn} {c4 : Int32} {c5 : Fn} {c6 : Fn} {c7 : Fn} {c8 : Int32} {c9 : Int32} {c10 : Int32} {c11 : Int32} {c12 : Int32} {c13 : Int32} (hx : p.tables.exec = Jvm.exec) (hb : c.code = cc) (hts : ∀ w ∈ gt, w.before args s = true) {own : String} {index : Nat} (hown : s.vm.findClass own = some m.cls) (hK : oK G s) (hW : oW G A Ω H) (hS : va_S A0 H0 H locs) (hA : ∀ q, A q → A0 q) (h : inMod G Ω o c0 c1 c2 c3 c4 c5 c6 c7 c8 c9 c10 c11 c12 c13) {x : Int32} (hlink : Cond.fieldLink own index (TX9 11).1 (TX9 11).2.1 (TX9 11).2.2.1 ∈ gt) (hdg : decode cc pc = .ok (.putfield index, 3)) (kk : ∀ (Ω1 : Om) (H1 : Heap) (locs1 : List Loc), inMod G Ω1 o c0 c1 c2 c3 c4 c5 c6 c7 c8 c9 c10 x c12 c13 → oF Ω Ω1 o 8 → oW G A Ω1 H1 → va_S A0 H0 H1 locs1 → W p l e R s m args below meth c H1 locs1 cells slots Q (F0 m (pc + 3) ls rest)) : W p l e R s m args below meth c H locs cells slots Q (F0 m pc ls (.int x :: .ref o :: rest)) := o_put hx hb hts hown hK hW hS hA (inMod_o h) rfl ig9 tyX9 tyX9_ok nmX9 11 (by decide) hlink rfl (ty := .int) (by decide +kernel) rfl rfl (Nat.le_of_ble_eq_true rfl) hdg (fun H1 locs1 hW1 hS1 => kk _ H1 locs1 (show inMod G _ o c0 c1 c2 c3 c4 c5 c6 c7 c8 c9 c10 x c12 c13 from ⟨oU_self, (oU_ne (by omega)).trans (inMod_a0 h), (oU_ne (by omega)).trans (inMod_a1 h), (oU_ne (by omega)).trans (inMod_a2 h), (oU_ne (by omega)).trans (inMod_a3 h), (oU_ne (by omega)).trans (inMod_a4 h), (oU_ne (by omega)).trans (inMod_a5 h), (oU_ne (by omega)).trans (inMod_a6 h)⟩) (oF.up (by omega) (by omega)) hW1 hS1)
theorem vMod_12 {p : Program} {l : Launch} {e : Env} {R : Room} {s : State} {m : MethodId} {args : Array Value} {below : List Frame} {meth : Method} {c : Code} {H : Heap} {locs : List Loc} {cells slots : Nat} {Q : State → Prop} {cc : ByteArray} {pc : Nat} {ls : Array Slot} {rest : List Value} {G : Gm} {A A0 : Nat → Prop} {Ω : Om} {H0 : Heap} {o : Nat} {c0 : Fn} {c1 : Fn} {c2 : Fn} {c3 : Fn} {c4 : Int32} {c5 : Fn} {c6 : Fn} {c7 : Fn} {c8 : Int32} {c9 : Int32} {c10 : Int32} {c11 : Int32} {c12 : Int32} {c13 : Int32} (hx : p.tables.exec = Jvm.exec) (hb : c.code = cc) (hts : ∀ w ∈ gt, w.before args s = true) {own : String} {index : Nat} (hown : s.vm.findClass own = some m.cls) (hK : oK G s) (hW : oW G A Ω H) (hS : va_S A0 H0 H locs) (hA : ∀ q, A q → A0 q) (h : inMod G Ω o c0 c1 c2 c3 c4 c5 c6 c7 c8 c9 c10 c11 c12 c13) {x : Int32} (hlink : Cond.fieldLink own index (TX9 12).1 (TX9 12).2.1 (TX9 12).2.2.1 ∈ gt) (hdg : decode cc pc = .ok (.putfield index, 3)) (kk : ∀ (Ω1 : Om) (H1 : Heap) (locs1 : List Loc), inMod G Ω1 o c0 c1 c2 c3 c4 c5 c6 c7 c8 c9 c10 c11 x c13 → oF Ω Ω1 o 8 → oW G A Ω1 H1 → va_S A0 H0 H1 locs1 → W p l e R s m args below meth c H1 locs1 cells slots Q (F0 m (pc + 3) ls rest)) : W p l e R s m args below meth c H locs cells slots Q (F0 m pc ls (.int x :: .ref o :: rest)) := o_put hx hb hts hown hK hW hS hA (inMod_o h) rfl ig9 tyX9 tyX9_ok nmX9 12 (by decide) hlink rfl (ty := .int) (by decide +kernel) rfl rfl (Nat.le_of_ble_eq_true rfl) hdg (fun H1 locs1 hW1 hS1 => kk _ H1 locs1 (show inMod G _ o c0 c1 c2 c3 c4 c5 c6 c7 c8 c9 c10 c11 x c13 from ⟨oU_self, (oU_ne (by omega)).trans (inMod_a0 h), (oU_ne (by omega)).trans (inMod_a1 h), (oU_ne (by omega)).trans (inMod_a2 h), (oU_ne (by omega)).trans (inMod_a3 h), (oU_ne (by omega)).trans (inMod_a4 h), (oU_ne (by omega)).trans (inMod_a5 h), (oU_ne (by omega)).trans (inMod_a6 h)⟩) (oF.up (by omega) (by omega)) hW1 hS1)
theorem vMod_13 {p : Program} {l : Launch} {e : Env} {R : Room} {s : State} {m : MethodId} {args : Array Value} {below : List Frame} {meth : Method} {c : Code} {H : Heap} {locs : List Loc} {cells slots : Nat} {Q : State → Prop} {cc : ByteArray} {pc : Nat} {ls : Array Slot} {rest : List Value} {G : Gm} {A A0 : Nat → Prop} {Ω : Om} {H0 : Heap} {o : Nat} {c0 : Fn} {c1 : Fn} {c2 : Fn} {c3 : Fn} {c4 : Int32} {c5 : Fn} {c6 : Fn} {c7 : Fn} {c8 : Int32} {c9 : Int32} {c10 : Int32} {c11 : Int32} {c12 : Int32} {c13 : Int32} (hx : p.tables.exec = Jvm.exec) (hb : c.code = cc) (hts : ∀ w ∈ gt, w.before args s = true) {own : String} {index : Nat} (hown : s.vm.findClass own = some m.cls) (hK : oK G s) (hW : oW G A Ω H) (hS : va_S A0 H0 H locs) (hA : ∀ q, A q → A0 q) (h : inMod G Ω o c0 c1 c2 c3 c4 c5 c6 c7 c8 c9 c10 c11 c12 c13) {x : Int32} (hlink : Cond.fieldLink own index (TX9 13).1 (TX9 13).2.1 (TX9 13).2.2.1 ∈ gt) (hdg : decode cc pc = .ok (.putfield index, 3)) (kk : ∀ (Ω1 : Om) (H1 : Heap) (locs1 : List Loc), inMod G Ω1 o c0 c1 c2 c3 c4 c5 c6 c7 c8 c9 c10 c11 c12 x → oF Ω Ω1 o 8 → oW G A Ω1 H1 → va_S A0 H0 H1 locs1 → W p l e R s m args below meth c H1 locs1 cells slots Q (F0 m (pc + 3) ls rest)) : W p l e R s m args below meth c H locs cells slots Q (F0 m pc ls (.int x :: .ref o :: rest)) := o_put hx hb hts hown hK hW hS hA (inMod_o h) rfl ig9 tyX9 tyX9_ok nmX9 13 (by decide) hlink rfl (ty := .int) (by decide +kernel) rfl rfl (Nat.le_of_ble_eq_true rfl) hdg (fun H1 locs1 hW1 hS1 => kk _ H1 locs1 (show inMod G _ o c0 c1 c2 c3 c4 c5 c6 c7 c8 c9 c10 c11 c12 x from ⟨oU_self, (oU_ne (by omega)).trans (inMod_a0 h), (oU_ne (by omega)).trans (inMod_a1 h), (oU_ne (by omega)).trans (inMod_a2 h), (oU_ne (by omega)).trans (inMod_a3 h), (oU_ne (by omega)).trans (inMod_a4 h), (oU_ne (by omega)).trans (inMod_a5 h), (oU_ne (by omega)).trans (inMod_a6 h)⟩) (oF.up (by omega) (by omega)) hW1 hS1)
def inBlk (G : Gm) (Ω : Om) (o : Nat) (u : Blk) : Prop := Ω o = some (.inr (0, [.int (u 0 0), .int (u 0 1), .int (u 0 2), .ref (o + 1), .ref (o + 2), .ref (o + 3), .ref (o + 4), .ref (o + 5), .ref (o + 6), .ref (o + 7), .ref (o + 8), .ref (o + 9), .ref (o + 10), .ref (o + 11), .ref (o + 12)])) ∧ Ω (o + 1) = some (.inl (G.2.1, 6, .inl (u 1))) ∧ Ω (o + 2) = some (.inl (G.2.1, 6, .inl (u 2))) ∧ Ω (o + 3) = some (.inl (G.2.1, 6, .inl (u 3))) ∧ Ω (o + 4) = some (.inl (G.2.1, 12, .inl (u 4))) ∧ Ω (o + 5) = some (.inl (G.2.1, 12, .inl (u 5))) ∧ Ω (o + 6) = some (.inl (G.2.1, 12, .inl (u 6))) ∧ Ω (o + 7) = some (.inl (G.2.1, 12, .inl (u 7))) ∧ Ω (o + 8) = some (.inl (G.2.1, 12, .inl (u 8))) ∧ Ω (o + 9) = some (.inl (G.2.1, 12, .inl (u 9))) ∧ Ω (o + 10) = some (.inl (G.2.1, 4, .inl (u 10))) ∧ Ω (o + 11) = some (.inl (G.2.1, 4, .inl (u 11))) ∧ Ω (o + 12) = some (.inl (G.2.1, 4, .inl (u 12)))
theorem inBlk_o {G : Gm} {Ω : Om} {o : Nat} {u : Blk} (h : inBlk G Ω o u) : Ω o = some (.inr (0, [.int (u 0 0), .int (u 0 1), .int (u 0 2), .ref (o + 1), .ref (o + 2), .ref (o + 3), .ref (o + 4), .ref (o + 5), .ref (o + 6), .ref (o + 7), .ref (o + 8), .ref (o + 9), .ref (o + 10), .ref (o + 11), .ref (o + 12)])) := h.1
theorem inBlk_a0 {G : Gm} {Ω : Om} {o : Nat} {u : Blk} (h : inBlk G Ω o u) : Ω (o + 1) = some (.inl (G.2.1, 6, .inl (u 1))) := h.2.1
theorem inBlk_a1 {G : Gm} {Ω : Om} {o : Nat} {u : Blk} (h : inBlk G Ω o u) : Ω (o + 2) = some (.inl (G.2.1, 6, .inl (u 2))) := h.2.2.1
theorem inBlk_a2 {G : Gm} {Ω : Om} {o : Nat} {u : Blk} (h : inBlk G Ω o u) : Ω (o + 3) = some (.inl (G.2.1, 6, .inl (u 3))) := h.2.2.2.1
theorem inBlk_a3 {G : Gm} {Ω : Om} {o : Nat} {u : Blk} (h : inBlk G Ω o u) : Ω (o + 4) = some (.inl (G.2.1, 12, .inl (u 4))) := h.2.2.2.2.1
theorem inBlk_a4 {G : Gm} {Ω : Om} {o : Nat} {u : Blk} (h : inBlk G Ω o u) : Ω (o + 5) = some (.inl (G.2.1, 12, .inl (u 5))) := h.2.2.2.2.2.1
theorem inBlk_a5 {G : Gm} {Ω : Om} {o : Nat} {u : Blk} (h : inBlk G Ω o u) : Ω (o + 6) = some (.inl (G.2.1, 12, .inl (u 6))) := h.2.2.2.2.2.2.1
theorem inBlk_a6 {G : Gm} {Ω : Om} {o : Nat} {u : Blk} (h : inBlk G Ω o u) : Ω (o + 7) = some (.inl (G.2.1, 12, .inl (u 7))) := h.2.2.2.2.2.2.2.1
theorem inBlk_a7 {G : Gm} {Ω : Om} {o : Nat} {u : Blk} (h : inBlk G Ω o u) : Ω (o + 8) = some (.inl (G.2.1, 12, .inl (u 8))) := h.2.2.2.2.2.2.2.2.1
theorem inBlk_a8 {G : Gm} {Ω : Om} {o : Nat} {u : Blk} (h : inBlk G Ω o u) : Ω (o + 9) = some (.inl (G.2.1, 12, .inl (u 9))) := h.2.2.2.2.2.2.2.2.2.1
theorem inBlk_a9 {G : Gm} {Ω : Om} {o : Nat} {u : Blk} (h : inBlk G Ω o u) : Ω (o + 10) = some (.inl (G.2.1, 4, .inl (u 10))) := h.2.2.2.2.2.2.2.2.2.2.1
theorem inBlk_a10 {G : Gm} {Ω : Om} {o : Nat} {u : Blk} (h : inBlk G Ω o u) : Ω (o + 11) = some (.inl (G.2.1, 4, .inl (u 11))) := h.2.2.2.2.2.2.2.2.2.2.2.1
theorem inBlk_a11 {G : Gm} {Ω : Om} {o : Nat} {u : Blk} (h : inBlk G Ω o u) : Ω (o + 12) = some (.inl (G.2.1, 4, .inl (u 12))) := h.2.2.2.2.2.2.2.2.2.2.2.2
theorem inBlk.keep {G : Gm} {Ω : Om} {o : Nat} {u : Blk} {Ω1 : Om} (h : inBlk G Ω o u) (hq : ∀ q : Nat, o ≤ q → q < o + 13 → Ω1 q = Ω q) : inBlk G Ω1 o u := ⟨(hq _ (by omega) (by omega)).trans (inBlk_o h), (hq _ (by omega) (by omega)).trans (inBlk_a0 h), (hq _ (by omega) (by omega)).trans (inBlk_a1 h), (hq _ (by omega) (by omega)).trans (inBlk_a2 h), (hq _ (by omega) (by omega)).trans (inBlk_a3 h), (hq _ (by omega) (by omega)).trans (inBlk_a4 h), (hq _ (by omega) (by omega)).trans (inBlk_a5 h), (hq _ (by omega) (by omega)).trans (inBlk_a6 h), (hq _ (by omega) (by omega)).trans (inBlk_a7 h), (hq _ (by omega) (by omega)).trans (inBlk_a8 h), (hq _ (by omega) (by omega)).trans (inBlk_a9 h), (hq _ (by omega) (by omega)).trans (inBlk_a10 h), (hq _ (by omega) (by omega)).trans (inBlk_a11 h)⟩
theorem sBlk_0 {G : Gm} {Ω : Om} {o : Nat} {u : Blk} {f : Fn} (h : inBlk G Ω o u) : inBlk G (oU Ω (o + 1) (.inl (G.2.1, 6, .inl f))) o (bs u 1 f) := ⟨(oU_ne (by omega)).trans (inBlk_o (u := u) h), oU_self, (oU_ne (by omega)).trans (inBlk_a1 (u := u) h), (oU_ne (by omega)).trans (inBlk_a2 (u := u) h), (oU_ne (by omega)).trans (inBlk_a3 (u := u) h), (oU_ne (by omega)).trans (inBlk_a4 (u := u) h), (oU_ne (by omega)).trans (inBlk_a5 (u := u) h), (oU_ne (by omega)).trans (inBlk_a6 (u := u) h), (oU_ne (by omega)).trans (inBlk_a7 (u := u) h), (oU_ne (by omega)).trans (inBlk_a8 (u := u) h), (oU_ne (by omega)).trans (inBlk_a9 (u := u) h), (oU_ne (by omega)).trans (inBlk_a10 (u := u) h), (oU_ne (by omega)).trans (inBlk_a11 (u := u) h)⟩
theorem wBlk_0 {p : Program} {l : Launch} {e : Env} {R : Room} {s : State} {m : MethodId} {args : Array Value} {below : List Frame} {meth : Method} {c : Code} {H : Heap} {locs : List Loc} {cells slots : Nat} {Q : State → Prop} {cc : ByteArray} {pc : Nat} {ls : Array Slot} {rest : List Value} {G : Gm} {A A0 : Nat → Prop} {Ω : Om} {H0 : Heap} {o : Nat} {u : Blk} (hx : p.tables.exec = Jvm.exec) (hb : c.code = cc) (hK : oK G s) (hW : oW G A Ω H) (hS : va_S A0 H0 H locs) (hA : ∀ q, A q → A0 q) (h : inBlk G Ω o u) {i x : Int32} (hin : vp_in i 6) (hdg : decode cc pc = .ok (.iastore, 1)) (kk : ∀ (Ω1 : Om) (H1 : Heap) (locs1 : List Loc), inBlk G Ω1 o (bw u 1 i.toNatClampNeg x) → oF Ω Ω1 o 13 → oW G A Ω1 H1 → va_S A0 H0 H1 locs1 → W p l e R s m args below meth c H1 locs1 cells slots Q (F0 m (pc + 1) ls rest)) : W p l e R s m args below meth c H locs cells slots Q (F0 m pc ls (.int x :: .int i :: .ref (o + 1) :: rest)) := o_iast hx hb hK hW hS hA (inBlk_a0 h) hin hdg (fun H1 locs1 hW1 hS1 => kk _ H1 locs1 (sBlk_0 h) (oF.up (by omega) (by omega)) hW1 hS1)
theorem sBlk_1 {G : Gm} {Ω : Om} {o : Nat} {u : Blk} {f : Fn} (h : inBlk G Ω o u) : inBlk G (oU Ω (o + 2) (.inl (G.2.1, 6, .inl f))) o (bs u 2 f) := ⟨(oU_ne (by omega)).trans (inBlk_o (u := u) h), (oU_ne (by omega)).trans (inBlk_a0 (u := u) h), oU_self, (oU_ne (by omega)).trans (inBlk_a2 (u := u) h), (oU_ne (by omega)).trans (inBlk_a3 (u := u) h), (oU_ne (by omega)).trans (inBlk_a4 (u := u) h), (oU_ne (by omega)).trans (inBlk_a5 (u := u) h), (oU_ne (by omega)).trans (inBlk_a6 (u := u) h), (oU_ne (by omega)).trans (inBlk_a7 (u := u) h), (oU_ne (by omega)).trans (inBlk_a8 (u := u) h), (oU_ne (by omega)).trans (inBlk_a9 (u := u) h), (oU_ne (by omega)).trans (inBlk_a10 (u := u) h), (oU_ne (by omega)).trans (inBlk_a11 (u := u) h)⟩
theorem wBlk_1 {p : Program} {l : Launch} {e : Env} {R : Room} {s : State} {m : MethodId} {args : Array Value} {below : List Frame} {meth : Method} {c : Code} {H : Heap} {locs : List Loc} {cells slots : Nat} {Q : State → Prop} {cc : ByteArray} {pc : Nat} {ls : Array Slot} {rest : List Value} {G : Gm} {A A0 : Nat → Prop} {Ω : Om} {H0 : Heap} {o : Nat} {u : Blk} (hx : p.tables.exec = Jvm.exec) (hb : c.code = cc) (hK : oK G s) (hW : oW G A Ω H) (hS : va_S A0 H0 H locs) (hA : ∀ q, A q → A0 q) (h : inBlk G Ω o u) {i x : Int32} (hin : vp_in i 6) (hdg : decode cc pc = .ok (.iastore, 1)) (kk : ∀ (Ω1 : Om) (H1 : Heap) (locs1 : List Loc), inBlk G Ω1 o (bw u 2 i.toNatClampNeg x) → oF Ω Ω1 o 13 → oW G A Ω1 H1 → va_S A0 H0 H1 locs1 → W p l e R s m args below meth c H1 locs1 cells slots Q (F0 m (pc + 1) ls rest)) : W p l e R s m args below meth c H locs cells slots Q (F0 m pc ls (.int x :: .int i :: .ref (o + 2) :: rest)) := o_iast hx hb hK hW hS hA (inBlk_a1 h) hin hdg (fun H1 locs1 hW1 hS1 => kk _ H1 locs1 (sBlk_1 h) (oF.up (by omega) (by omega)) hW1 hS1)
theorem sBlk_2 {G : Gm} {Ω : Om} {o : Nat} {u : Blk} {f : Fn} (h : inBlk G Ω o u) : inBlk G (oU Ω (o + 3) (.inl (G.2.1, 6, .inl f))) o (bs u 3 f) := ⟨(oU_ne (by omega)).trans (inBlk_o (u := u) h), (oU_ne (by omega)).trans (inBlk_a0 (u := u) h), (oU_ne (by omega)).trans (inBlk_a1 (u := u) h), oU_self, (oU_ne (by omega)).trans (inBlk_a3 (u := u) h), (oU_ne (by omega)).trans (inBlk_a4 (u := u) h), (oU_ne (by omega)).trans (inBlk_a5 (u := u) h), (oU_ne (by omega)).trans (inBlk_a6 (u := u) h), (oU_ne (by omega)).trans (inBlk_a7 (u := u) h), (oU_ne (by omega)).trans (inBlk_a8 (u := u) h), (oU_ne (by omega)).trans (inBlk_a9 (u := u) h), (oU_ne (by omega)).trans (inBlk_a10 (u := u) h), (oU_ne (by omega)).trans (inBlk_a11 (u := u) h)⟩
theorem wBlk_2 {p : Program} {l : Launch} {e : Env} {R : Room} {s : State} {m : MethodId} {args : Array Value} {below : List Frame} {meth : Method} {c : Code} {H : Heap} {locs : List Loc} {cells slots : Nat} {Q : State → Prop} {cc : ByteArray} {pc : Nat} {ls : Array Slot} {rest : List Value} {G : Gm} {A A0 : Nat → Prop} {Ω : Om} {H0 : Heap} {o : Nat} {u : Blk} (hx : p.tables.exec = Jvm.exec) (hb : c.code = cc) (hK : oK G s) (hW : oW G A Ω H) (hS : va_S A0 H0 H locs) (hA : ∀ q, A q → A0 q) (h : inBlk G Ω o u) {i x : Int32} (hin : vp_in i 6) (hdg : decode cc pc = .ok (.iastore, 1)) (kk : ∀ (Ω1 : Om) (H1 : Heap) (locs1 : List Loc), inBlk G Ω1 o (bw u 3 i.toNatClampNeg x) → oF Ω Ω1 o 13 → oW G A Ω1 H1 → va_S A0 H0 H1 locs1 → W p l e R s m args below meth c H1 locs1 cells slots Q (F0 m (pc + 1) ls rest)) : W p l e R s m args below meth c H locs cells slots Q (F0 m pc ls (.int x :: .int i :: .ref (o + 3) :: rest)) := o_iast hx hb hK hW hS hA (inBlk_a2 h) hin hdg (fun H1 locs1 hW1 hS1 => kk _ H1 locs1 (sBlk_2 h) (oF.up (by omega) (by omega)) hW1 hS1)
theorem sBlk_3 {G : Gm} {Ω : Om} {o : Nat} {u : Blk} {f : Fn} (h : inBlk G Ω o u) : inBlk G (oU Ω (o + 4) (.inl (G.2.1, 12, .inl f))) o (bs u 4 f) := ⟨(oU_ne (by omega)).trans (inBlk_o (u := u) h), (oU_ne (by omega)).trans (inBlk_a0 (u := u) h), (oU_ne (by omega)).trans (inBlk_a1 (u := u) h), (oU_ne (by omega)).trans (inBlk_a2 (u := u) h), oU_self, (oU_ne (by omega)).trans (inBlk_a4 (u := u) h), (oU_ne (by omega)).trans (inBlk_a5 (u := u) h), (oU_ne (by omega)).trans (inBlk_a6 (u := u) h), (oU_ne (by omega)).trans (inBlk_a7 (u := u) h), (oU_ne (by omega)).trans (inBlk_a8 (u := u) h), (oU_ne (by omega)).trans (inBlk_a9 (u := u) h), (oU_ne (by omega)).trans (inBlk_a10 (u := u) h), (oU_ne (by omega)).trans (inBlk_a11 (u := u) h)⟩
theorem wBlk_3 {p : Program} {l : Launch} {e : Env} {R : Room} {s : State} {m : MethodId} {args : Array Value} {below : List Frame} {meth : Method} {c : Code} {H : Heap} {locs : List Loc} {cells slots : Nat} {Q : State → Prop} {cc : ByteArray} {pc : Nat} {ls : Array Slot} {rest : List Value} {G : Gm} {A A0 : Nat → Prop} {Ω : Om} {H0 : Heap} {o : Nat} {u : Blk} (hx : p.tables.exec = Jvm.exec) (hb : c.code = cc) (hK : oK G s) (hW : oW G A Ω H) (hS : va_S A0 H0 H locs) (hA : ∀ q, A q → A0 q) (h : inBlk G Ω o u) {i x : Int32} (hin : vp_in i 12) (hdg : decode cc pc = .ok (.iastore, 1)) (kk : ∀ (Ω1 : Om) (H1 : Heap) (locs1 : List Loc), inBlk G Ω1 o (bw u 4 i.toNatClampNeg x) → oF Ω Ω1 o 13 → oW G A Ω1 H1 → va_S A0 H0 H1 locs1 → W p l e R s m args below meth c H1 locs1 cells slots Q (F0 m (pc + 1) ls rest)) : W p l e R s m args below meth c H locs cells slots Q (F0 m pc ls (.int x :: .int i :: .ref (o + 4) :: rest)) := o_iast hx hb hK hW hS hA (inBlk_a3 h) hin hdg (fun H1 locs1 hW1 hS1 => kk _ H1 locs1 (sBlk_3 h) (oF.up (by omega) (by omega)) hW1 hS1)
theorem sBlk_4 {G : Gm} {Ω : Om} {o : Nat} {u : Blk} {f : Fn} (h : inBlk G Ω o u) : inBlk G (oU Ω (o + 5) (.inl (G.2.1, 12, .inl f))) o (bs u 5 f) := ⟨(oU_ne (by omega)).trans (inBlk_o (u := u) h), (oU_ne (by omega)).trans (inBlk_a0 (u := u) h), (oU_ne (by omega)).trans (inBlk_a1 (u := u) h), (oU_ne (by omega)).trans (inBlk_a2 (u := u) h), (oU_ne (by omega)).trans (inBlk_a3 (u := u) h), oU_self, (oU_ne (by omega)).trans (inBlk_a5 (u := u) h), (oU_ne (by omega)).trans (inBlk_a6 (u := u) h), (oU_ne (by omega)).trans (inBlk_a7 (u := u) h), (oU_ne (by omega)).trans (inBlk_a8 (u := u) h), (oU_ne (by omega)).trans (inBlk_a9 (u := u) h), (oU_ne (by omega)).trans (inBlk_a10 (u := u) h), (oU_ne (by omega)).trans (inBlk_a11 (u := u) h)⟩
theorem wBlk_4 {p : Program} {l : Launch} {e : Env} {R : Room} {s : State} {m : MethodId} {args : Array Value} {below : List Frame} {meth : Method} {c : Code} {H : Heap} {locs : List Loc} {cells slots : Nat} {Q : State → Prop} {cc : ByteArray} {pc : Nat} {ls : Array Slot} {rest : List Value} {G : Gm} {A A0 : Nat → Prop} {Ω : Om} {H0 : Heap} {o : Nat} {u : Blk} (hx : p.tables.exec = Jvm.exec) (hb : c.code = cc) (hK : oK G s) (hW : oW G A Ω H) (hS : va_S A0 H0 H locs) (hA : ∀ q, A q → A0 q) (h : inBlk G Ω o u) {i x : Int32} (hin : vp_in i 12) (hdg : decode cc pc = .ok (.iastore, 1)) (kk : ∀ (Ω1 : Om) (H1 : Heap) (locs1 : List Loc), inBlk G Ω1 o (bw u 5 i.toNatClampNeg x) → oF Ω Ω1 o 13 → oW G A Ω1 H1 → va_S A0 H0 H1 locs1 → W p l e R s m args below meth c H1 locs1 cells slots Q (F0 m (pc + 1) ls rest)) : W p l e R s m args below meth c H locs cells slots Q (F0 m pc ls (.int x :: .int i :: .ref (o + 5) :: rest)) := o_iast hx hb hK hW hS hA (inBlk_a4 h) hin hdg (fun H1 locs1 hW1 hS1 => kk _ H1 locs1 (sBlk_4 h) (oF.up (by omega) (by omega)) hW1 hS1)
theorem sBlk_5 {G : Gm} {Ω : Om} {o : Nat} {u : Blk} {f : Fn} (h : inBlk G Ω o u) : inBlk G (oU Ω (o + 6) (.inl (G.2.1, 12, .inl f))) o (bs u 6 f) := ⟨(oU_ne (by omega)).trans (inBlk_o (u := u) h), (oU_ne (by omega)).trans (inBlk_a0 (u := u) h), (oU_ne (by omega)).trans (inBlk_a1 (u := u) h), (oU_ne (by omega)).trans (inBlk_a2 (u := u) h), (oU_ne (by omega)).trans (inBlk_a3 (u := u) h), (oU_ne (by omega)).trans (inBlk_a4 (u := u) h), oU_self, (oU_ne (by omega)).trans (inBlk_a6 (u := u) h), (oU_ne (by omega)).trans (inBlk_a7 (u := u) h), (oU_ne (by omega)).trans (inBlk_a8 (u := u) h), (oU_ne (by omega)).trans (inBlk_a9 (u := u) h), (oU_ne (by omega)).trans (inBlk_a10 (u := u) h), (oU_ne (by omega)).trans (inBlk_a11 (u := u) h)⟩
theorem wBlk_5 {p : Program} {l : Launch} {e : Env} {R : Room} {s : State} {m : MethodId} {args : Array Value} {below : List Frame} {meth : Method} {c : Code} {H : Heap} {locs : List Loc} {cells slots : Nat} {Q : State → Prop} {cc : ByteArray} {pc : Nat} {ls : Array Slot} {rest : List Value} {G : Gm} {A A0 : Nat → Prop} {Ω : Om} {H0 : Heap} {o : Nat} {u : Blk} (hx : p.tables.exec = Jvm.exec) (hb : c.code = cc) (hK : oK G s) (hW : oW G A Ω H) (hS : va_S A0 H0 H locs) (hA : ∀ q, A q → A0 q) (h : inBlk G Ω o u) {i x : Int32} (hin : vp_in i 12) (hdg : decode cc pc = .ok (.iastore, 1)) (kk : ∀ (Ω1 : Om) (H1 : Heap) (locs1 : List Loc), inBlk G Ω1 o (bw u 6 i.toNatClampNeg x) → oF Ω Ω1 o 13 → oW G A Ω1 H1 → va_S A0 H0 H1 locs1 → W p l e R s m args below meth c H1 locs1 cells slots Q (F0 m (pc + 1) ls rest)) : W p l e R s m args below meth c H locs cells slots Q (F0 m pc ls (.int x :: .int i :: .ref (o + 6) :: rest)) := o_iast hx hb hK hW hS hA (inBlk_a5 h) hin hdg (fun H1 locs1 hW1 hS1 => kk _ H1 locs1 (sBlk_5 h) (oF.up (by omega) (by omega)) hW1 hS1)
theorem sBlk_6 {G : Gm} {Ω : Om} {o : Nat} {u : Blk} {f : Fn} (h : inBlk G Ω o u) : inBlk G (oU Ω (o + 7) (.inl (G.2.1, 12, .inl f))) o (bs u 7 f) := ⟨(oU_ne (by omega)).trans (inBlk_o (u := u) h), (oU_ne (by omega)).trans (inBlk_a0 (u := u) h), (oU_ne (by omega)).trans (inBlk_a1 (u := u) h), (oU_ne (by omega)).trans (inBlk_a2 (u := u) h), (oU_ne (by omega)).trans (inBlk_a3 (u := u) h), (oU_ne (by omega)).trans (inBlk_a4 (u := u) h), (oU_ne (by omega)).trans (inBlk_a5 (u := u) h), oU_self, (oU_ne (by omega)).trans (inBlk_a7 (u := u) h), (oU_ne (by omega)).trans (inBlk_a8 (u := u) h), (oU_ne (by omega)).trans (inBlk_a9 (u := u) h), (oU_ne (by omega)).trans (inBlk_a10 (u := u) h), (oU_ne (by omega)).trans (inBlk_a11 (u := u) h)⟩
theorem wBlk_6 {p : Program} {l : Launch} {e : Env} {R : Room} {s : State} {m : MethodId} {args : Array Value} {below : List Frame} {meth : Method} {c : Code} {H : Heap} {locs : List Loc} {cells slots : Nat} {Q : State → Prop} {cc : ByteArray} {pc : Nat} {ls : Array Slot} {rest : List Value} {G : Gm} {A A0 : Nat → Prop} {Ω : Om} {H0 : Heap} {o : Nat} {u : Blk} (hx : p.tables.exec = Jvm.exec) (hb : c.code = cc) (hK : oK G s) (hW : oW G A Ω H) (hS : va_S A0 H0 H locs) (hA : ∀ q, A q → A0 q) (h : inBlk G Ω o u) {i x : Int32} (hin : vp_in i 12) (hdg : decode cc pc = .ok (.iastore, 1)) (kk : ∀ (Ω1 : Om) (H1 : Heap) (locs1 : List Loc), inBlk G Ω1 o (bw u 7 i.toNatClampNeg x) → oF Ω Ω1 o 13 → oW G A Ω1 H1 → va_S A0 H0 H1 locs1 → W p l e R s m args below meth c H1 locs1 cells slots Q (F0 m (pc + 1) ls rest)) : W p l e R s m args below meth c H locs cells slots Q (F0 m pc ls (.int x :: .int i :: .ref (o + 7) :: rest)) := o_iast hx hb hK hW hS hA (inBlk_a6 h) hin hdg (fun H1 locs1 hW1 hS1 => kk _ H1 locs1 (sBlk_6 h) (oF.up (by omega) (by omega)) hW1 hS1)
theorem sBlk_7 {G : Gm} {Ω : Om} {o : Nat} {u : Blk} {f : Fn} (h : inBlk G Ω o u) : inBlk G (oU Ω (o + 8) (.inl (G.2.1, 12, .inl f))) o (bs u 8 f) := ⟨(oU_ne (by omega)).trans (inBlk_o (u := u) h), (oU_ne (by omega)).trans (inBlk_a0 (u := u) h), (oU_ne (by omega)).trans (inBlk_a1 (u := u) h), (oU_ne (by omega)).trans (inBlk_a2 (u := u) h), (oU_ne (by omega)).trans (inBlk_a3 (u := u) h), (oU_ne (by omega)).trans (inBlk_a4 (u := u) h), (oU_ne (by omega)).trans (inBlk_a5 (u := u) h), (oU_ne (by omega)).trans (inBlk_a6 (u := u) h), oU_self, (oU_ne (by omega)).trans (inBlk_a8 (u := u) h), (oU_ne (by omega)).trans (inBlk_a9 (u := u) h), (oU_ne (by omega)).trans (inBlk_a10 (u := u) h), (oU_ne (by omega)).trans (inBlk_a11 (u := u) h)⟩
theorem wBlk_7 {p : Program} {l : Launch} {e : Env} {R : Room} {s : State} {m : MethodId} {args : Array Value} {below : List Frame} {meth : Method} {c : Code} {H : Heap} {locs : List Loc} {cells slots : Nat} {Q : State → Prop} {cc : ByteArray} {pc : Nat} {ls : Array Slot} {rest : List Value} {G : Gm} {A A0 : Nat → Prop} {Ω : Om} {H0 : Heap} {o : Nat} {u : Blk} (hx : p.tables.exec = Jvm.exec) (hb : c.code = cc) (hK : oK G s) (hW : oW G A Ω H) (hS : va_S A0 H0 H locs) (hA : ∀ q, A q → A0 q) (h : inBlk G Ω o u) {i x : Int32} (hin : vp_in i 12) (hdg : decode cc pc = .ok (.iastore, 1)) (kk : ∀ (Ω1 : Om) (H1 : Heap) (locs1 : List Loc), inBlk G Ω1 o (bw u 8 i.toNatClampNeg x) → oF Ω Ω1 o 13 → oW G A Ω1 H1 → va_S A0 H0 H1 locs1 → W p l e R s m args below meth c H1 locs1 cells slots Q (F0 m (pc + 1) ls rest)) : W p l e R s m args below meth c H locs cells slots Q (F0 m pc ls (.int x :: .int i :: .ref (o + 8) :: rest)) := o_iast hx hb hK hW hS hA (inBlk_a7 h) hin hdg (fun H1 locs1 hW1 hS1 => kk _ H1 locs1 (sBlk_7 h) (oF.up (by omega) (by omega)) hW1 hS1)
theorem sBlk_8 {G : Gm} {Ω : Om} {o : Nat} {u : Blk} {f : Fn} (h : inBlk G Ω o u) : inBlk G (oU Ω (o + 9) (.inl (G.2.1, 12, .inl f))) o (bs u 9 f) := ⟨(oU_ne (by omega)).trans (inBlk_o (u := u) h), (oU_ne (by omega)).trans (inBlk_a0 (u := u) h), (oU_ne (by omega)).trans (inBlk_a1 (u := u) h), (oU_ne (by omega)).trans (inBlk_a2 (u := u) h), (oU_ne (by omega)).trans (inBlk_a3 (u := u) h), (oU_ne (by omega)).trans (inBlk_a4 (u := u) h), (oU_ne (by omega)).trans (inBlk_a5 (u := u) h), (oU_ne (by omega)).trans (inBlk_a6 (u := u) h), (oU_ne (by omega)).trans (inBlk_a7 (u := u) h), oU_self, (oU_ne (by omega)).trans (inBlk_a9 (u := u) h), (oU_ne (by omega)).trans (inBlk_a10 (u := u) h), (oU_ne (by omega)).trans (inBlk_a11 (u := u) h)⟩
theorem wBlk_8 {p : Program} {l : Launch} {e : Env} {R : Room} {s : State} {m : MethodId} {args : Array Value} {below : List Frame} {meth : Method} {c : Code} {H : Heap} {locs : List Loc} {cells slots : Nat} {Q : State → Prop} {cc : ByteArray} {pc : Nat} {ls : Array Slot} {rest : List Value} {G : Gm} {A A0 : Nat → Prop} {Ω : Om} {H0 : Heap} {o : Nat} {u : Blk} (hx : p.tables.exec = Jvm.exec) (hb : c.code = cc) (hK : oK G s) (hW : oW G A Ω H) (hS : va_S A0 H0 H locs) (hA : ∀ q, A q → A0 q) (h : inBlk G Ω o u) {i x : Int32} (hin : vp_in i 12) (hdg : decode cc pc = .ok (.iastore, 1)) (kk : ∀ (Ω1 : Om) (H1 : Heap) (locs1 : List Loc), inBlk G Ω1 o (bw u 9 i.toNatClampNeg x) → oF Ω Ω1 o 13 → oW G A Ω1 H1 → va_S A0 H0 H1 locs1 → W p l e R s m args below meth c H1 locs1 cells slots Q (F0 m (pc + 1) ls rest)) : W p l e R s m args below meth c H locs cells slots Q (F0 m pc ls (.int x :: .int i :: .ref (o + 9) :: rest)) := o_iast hx hb hK hW hS hA (inBlk_a8 h) hin hdg (fun H1 locs1 hW1 hS1 => kk _ H1 locs1 (sBlk_8 h) (oF.up (by omega) (by omega)) hW1 hS1)
theorem sBlk_9 {G : Gm} {Ω : Om} {o : Nat} {u : Blk} {f : Fn} (h : inBlk G Ω o u) : inBlk G (oU Ω (o + 10) (.inl (G.2.1, 4, .inl f))) o (bs u 10 f) := ⟨(oU_ne (by omega)).trans (inBlk_o (u := u) h), (oU_ne (by omega)).trans (inBlk_a0 (u := u) h), (oU_ne (by omega)).trans (inBlk_a1 (u := u) h), (oU_ne (by omega)).trans (inBlk_a2 (u := u) h), (oU_ne (by omega)).trans (inBlk_a3 (u := u) h), (oU_ne (by omega)).trans (inBlk_a4 (u := u) h), (oU_ne (by omega)).trans (inBlk_a5 (u := u) h), (oU_ne (by omega)).trans (inBlk_a6 (u := u) h), (oU_ne (by omega)).trans (inBlk_a7 (u := u) h), (oU_ne (by omega)).trans (inBlk_a8 (u := u) h), oU_self, (oU_ne (by omega)).trans (inBlk_a10 (u := u) h), (oU_ne (by omega)).trans (inBlk_a11 (u := u) h)⟩
theorem wBlk_9 {p : Program} {l : Launch} {e : Env} {R : Room} {s : State} {m : MethodId} {args : Array Value} {below : List Frame} {meth : Method} {c : Code} {H : Heap} {locs : List Loc} {cells slots : Nat} {Q : State → Prop} {cc : ByteArray} {pc : Nat} {ls : Array Slot} {rest : List Value} {G : Gm} {A A0 : Nat → Prop} {Ω : Om} {H0 : Heap} {o : Nat} {u : Blk} (hx : p.tables.exec = Jvm.exec) (hb : c.code = cc) (hK : oK G s) (hW : oW G A Ω H) (hS : va_S A0 H0 H locs) (hA : ∀ q, A q → A0 q) (h : inBlk G Ω o u) {i x : Int32} (hin : vp_in i 4) (hdg : decode cc pc = .ok (.iastore, 1)) (kk : ∀ (Ω1 : Om) (H1 : Heap) (locs1 : List Loc), inBlk G Ω1 o (bw u 10 i.toNatClampNeg x) → oF Ω Ω1 o 13 → oW G A Ω1 H1 → va_S A0 H0 H1 locs1 → W p l e R s m args below meth c H1 locs1 cells slots Q (F0 m (pc + 1) ls rest)) : W p l e R s m args below meth c H locs cells slots Q (F0 m pc ls (.int x :: .int i :: .ref (o + 10) :: rest)) := o_iast hx hb hK hW hS hA (inBlk_a9 h) hin hdg (fun H1 locs1 hW1 hS1 => kk _ H1 locs1 (sBlk_9 h) (oF.up (by omega) (by omega)) hW1 hS1)
theorem sBlk_10 {G : Gm} {Ω : Om} {o : Nat} {u : Blk} {f : Fn} (h : inBlk G Ω o u) : inBlk G (oU Ω (o + 11) (.inl (G.2.1, 4, .inl f))) o (bs u 11 f) := ⟨(oU_ne (by omega)).trans (inBlk_o (u := u) h), (oU_ne (by omega)).trans (inBlk_a0 (u := u) h), (oU_ne (by omega)).trans (inBlk_a1 (u := u) h), (oU_ne (by omega)).trans (inBlk_a2 (u := u) h), (oU_ne (by omega)).trans (inBlk_a3 (u := u) h), (oU_ne (by omega)).trans (inBlk_a4 (u := u) h), (oU_ne (by omega)).trans (inBlk_a5 (u := u) h), (oU_ne (by omega)).trans (inBlk_a6 (u := u) h), (oU_ne (by omega)).trans (inBlk_a7 (u := u) h), (oU_ne (by omega)).trans (inBlk_a8 (u := u) h), (oU_ne (by omega)).trans (inBlk_a9 (u := u) h), oU_self, (oU_ne (by omega)).trans (inBlk_a11 (u := u) h)⟩
theorem wBlk_10 {p : Program} {l : Launch} {e : Env} {R : Room} {s : State} {m : MethodId} {args : Array Value} {below : List Frame} {meth : Method} {c : Code} {H : Heap} {locs : List Loc} {cells slots : Nat} {Q : State → Prop} {cc : ByteArray} {pc : Nat} {ls : Array Slot} {rest : List Value} {G : Gm} {A A0 : Nat → Prop} {Ω : Om} {H0 : Heap} {o : Nat} {u : Blk} (hx : p.tables.exec = Jvm.exec) (hb : c.code = cc) (hK : oK G s) (hW : oW G A Ω H) (hS : va_S A0 H0 H locs) (hA : ∀ q, A q → A0 q) (h : inBlk G Ω o u) {i x : Int32} (hin : vp_in i 4) (hdg : decode cc pc = .ok (.iastore, 1)) (kk : ∀ (Ω1 : Om) (H1 : Heap) (locs1 : List Loc), inBlk G Ω1 o (bw u 11 i.toNatClampNeg x) → oF Ω Ω1 o 13 → oW G A Ω1 H1 → va_S A0 H0 H1 locs1 → W p l e R s m args below meth c H1 locs1 cells slots Q (F0 m (pc + 1) ls rest)) : W p l e R s m args below meth c H locs cells slots Q (F0 m pc ls (.int x :: .int i :: .ref (o + 11) :: rest)) := o_iast hx hb hK hW hS hA (inBlk_a10 h) hin hdg (fun H1 locs1 hW1 hS1 => kk _ H1 locs1 (sBlk_10 h) (oF.up (by omega) (by omega)) hW1 hS1)
theorem sBlk_11 {G : Gm} {Ω : Om} {o : Nat} {u : Blk} {f : Fn} (h : inBlk G Ω o u) : inBlk G (oU Ω (o + 12) (.inl (G.2.1, 4, .inl f))) o (bs u 12 f) := ⟨(oU_ne (by omega)).trans (inBlk_o (u := u) h), (oU_ne (by omega)).trans (inBlk_a0 (u := u) h), (oU_ne (by omega)).trans (inBlk_a1 (u := u) h), (oU_ne (by omega)).trans (inBlk_a2 (u := u) h), (oU_ne (by omega)).trans (inBlk_a3 (u := u) h), (oU_ne (by omega)).trans (inBlk_a4 (u := u) h), (oU_ne (by omega)).trans (inBlk_a5 (u := u) h), (oU_ne (by omega)).trans (inBlk_a6 (u := u) h), (oU_ne (by omega)).trans (inBlk_a7 (u := u) h), (oU_ne (by omega)).trans (inBlk_a8 (u := u) h), (oU_ne (by omega)).trans (inBlk_a9 (u := u) h), (oU_ne (by omega)).trans (inBlk_a10 (u := u) h), oU_self⟩
theorem wBlk_11 {p : Program} {l : Launch} {e : Env} {R : Room} {s : State} {m : MethodId} {args : Array Value} {below : List Frame} {meth : Method} {c : Code} {H : Heap} {locs : List Loc} {cells slots : Nat} {Q : State → Prop} {cc : ByteArray} {pc : Nat} {ls : Array Slot} {rest : List Value} {G : Gm} {A A0 : Nat → Prop} {Ω : Om} {H0 : Heap} {o : Nat} {u : Blk} (hx : p.tables.exec = Jvm.exec) (hb : c.code = cc) (hK : oK G s) (hW : oW G A Ω H) (hS : va_S A0 H0 H locs) (hA : ∀ q, A q → A0 q) (h : inBlk G Ω o u) {i x : Int32} (hin : vp_in i 4) (hdg : decode cc pc = .ok (.iastore, 1)) (kk : ∀ (Ω1 : Om) (H1 : Heap) (locs1 : List Loc), inBlk G Ω1 o (bw u 12 i.toNatClampNeg x) → oF Ω Ω1 o 13 → oW G A Ω1 H1 → va_S A0 H0 H1 locs1 → W p l e R s m args below meth c H1 locs1 cells slots Q (F0 m (pc + 1) ls rest)) : W p l e R s m args below meth c H locs cells slots Q (F0 m pc ls (.int x :: .int i :: .ref (o + 12) :: rest)) := o_iast hx hb hK hW hS hA (inBlk_a11 h) hin hdg (fun H1 locs1 hW1 hS1 => kk _ H1 locs1 (sBlk_11 h) (oF.up (by omega) (by omega)) hW1 hS1)
theorem vBlk_0 {p : Program} {l : Launch} {e : Env} {R : Room} {s : State} {m : MethodId} {args : Array Value} {below : List Frame} {meth : Method} {c : Code} {H : Heap} {locs : List Loc} {cells slots : Nat} {Q : State → Prop} {cc : ByteArray} {pc : Nat} {ls : Array Slot} {rest : List Value} {G : Gm} {A A0 : Nat → Prop} {Ω : Om} {H0 : Heap} {o : Nat} {u : Blk} (hx : p.tables.exec = Jvm.exec) (hb : c.code = cc) (hts : ∀ w ∈ gt, w.before args s = true) {own : String} {index : Nat} (hown : s.vm.findClass own = some m.cls) (hK : oK G s) (hW : oW G A Ω H) (hS : va_S A0 H0 H locs) (hA : ∀ q, A q → A0 q) (h : inBlk G Ω o u) {x : Int32} (hlink : Cond.fieldLink own index (TX0 0).1 (TX0 0).2.1 (TX0 0).2.2.1 ∈ gt) (hdg : decode cc pc = .ok (.putfield index, 3)) (kk : ∀ (Ω1 : Om) (H1 : Heap) (locs1 : List Loc), inBlk G Ω1 o (bw u 0 0 x) → oF Ω Ω1 o 13 → oW G A Ω1 H1 → va_S A0 H0 H1 locs1 → W p l e R s m args below meth c H1 locs1 cells slots Q (F0 m (pc + 3) ls rest)) : W p l e R s m args below meth c H locs cells slots Q (F0 m pc ls (.int x :: .ref o :: rest)) := o_put hx hb hts hown hK hW hS hA (inBlk_o h) rfl ig0 tyX0 tyX0_ok nmX0 0 (by decide) hlink rfl (ty := .int) (by decide +kernel) rfl rfl (Nat.le_of_ble_eq_true rfl) hdg (fun H1 locs1 hW1 hS1 => kk _ H1 locs1 (show inBlk G _ o (bw u 0 0 x) from ⟨oU_self, (oU_ne (by omega)).trans (inBlk_a0 (u := u) h), (oU_ne (by omega)).trans (inBlk_a1 (u := u) h), (oU_ne (by omega)).trans (inBlk_a2 (u := u) h), (oU_ne (by omega)).trans (inBlk_a3 (u := u) h), (oU_ne (by omega)).trans (inBlk_a4 (u := u) h), (oU_ne (by omega)).trans (inBlk_a5 (u := u) h), (oU_ne (by omega)).trans (inBlk_a6 (u := u) h), (oU_ne (by omega)).trans (inBlk_a7 (u := u) h), (oU_ne (by omega)).trans (inBlk_a8 (u := u) h), (oU_ne (by omega)).trans (inBlk_a9 (u := u) h), (oU_ne (by omega)).trans (inBlk_a10 (u := u) h), (oU_ne (by omega)).trans (inBlk_a11 (u := u) h)⟩) (oF.up (by omega) (by omega)) hW1 hS1)
theorem vBlk_1 {p : Program} {l : Launch} {e : Env} {R : Room} {s : State} {m : MethodId} {args : Array Value} {below : List Frame} {meth : Method} {c : Code} {H : Heap} {locs : List Loc} {cells slots : Nat} {Q : State → Prop} {cc : ByteArray} {pc : Nat} {ls : Array Slot} {rest : List Value} {G : Gm} {A A0 : Nat → Prop} {Ω : Om} {H0 : Heap} {o : Nat} {u : Blk} (hx : p.tables.exec = Jvm.exec) (hb : c.code = cc) (hts : ∀ w ∈ gt, w.before args s = true) {own : String} {index : Nat} (hown : s.vm.findClass own = some m.cls) (hK : oK G s) (hW : oW G A Ω H) (hS : va_S A0 H0 H locs) (hA : ∀ q, A q → A0 q) (h : inBlk G Ω o u) {x : Int32} (hlink : Cond.fieldLink own index (TX0 1).1 (TX0 1).2.1 (TX0 1).2.2.1 ∈ gt) (hdg : decode cc pc = .ok (.putfield index, 3)) (kk : ∀ (Ω1 : Om) (H1 : Heap) (locs1 : List Loc), inBlk G Ω1 o (bw u 0 1 x) → oF Ω Ω1 o 13 → oW G A Ω1 H1 → va_S A0 H0 H1 locs1 → W p l e R s m args below meth c H1 locs1 cells slots Q (F0 m (pc + 3) ls rest)) : W p l e R s m args below meth c H locs cells slots Q (F0 m pc ls (.int x :: .ref o :: rest)) := o_put hx hb hts hown hK hW hS hA (inBlk_o h) rfl ig0 tyX0 tyX0_ok nmX0 1 (by decide) hlink rfl (ty := .int) (by decide +kernel) rfl rfl (Nat.le_of_ble_eq_true rfl) hdg (fun H1 locs1 hW1 hS1 => kk _ H1 locs1 (show inBlk G _ o (bw u 0 1 x) from ⟨oU_self, (oU_ne (by omega)).trans (inBlk_a0 (u := u) h), (oU_ne (by omega)).trans (inBlk_a1 (u := u) h), (oU_ne (by omega)).trans (inBlk_a2 (u := u) h), (oU_ne (by omega)).trans (inBlk_a3 (u := u) h), (oU_ne (by omega)).trans (inBlk_a4 (u := u) h), (oU_ne (by omega)).trans (inBlk_a5 (u := u) h), (oU_ne (by omega)).trans (inBlk_a6 (u := u) h), (oU_ne (by omega)).trans (inBlk_a7 (u := u) h), (oU_ne (by omega)).trans (inBlk_a8 (u := u) h), (oU_ne (by omega)).trans (inBlk_a9 (u := u) h), (oU_ne (by omega)).trans (inBlk_a10 (u := u) h), (oU_ne (by omega)).trans (inBlk_a11 (u := u) h)⟩) (oF.up (by omega) (by omega)) hW1 hS1)
theorem vBlk_2 {p : Program} {l : Launch} {e : Env} {R : Room} {s : State} {m : MethodId} {args : Array Value} {below : List Frame} {meth : Method} {c : Code} {H : Heap} {locs : List Loc} {cells slots : Nat} {Q : State → Prop} {cc : ByteArray} {pc : Nat} {ls : Array Slot} {rest : List Value} {G : Gm} {A A0 : Nat → Prop} {Ω : Om} {H0 : Heap} {o : Nat} {u : Blk} (hx : p.tables.exec = Jvm.exec) (hb : c.code = cc) (hts : ∀ w ∈ gt, w.before args s = true) {own : String} {index : Nat} (hown : s.vm.findClass own = some m.cls) (hK : oK G s) (hW : oW G A Ω H) (hS : va_S A0 H0 H locs) (hA : ∀ q, A q → A0 q) (h : inBlk G Ω o u) {x : Int32} (hlink : Cond.fieldLink own index (TX0 2).1 (TX0 2).2.1 (TX0 2).2.2.1 ∈ gt) (hdg : decode cc pc = .ok (.putfield index, 3)) (kk : ∀ (Ω1 : Om) (H1 : Heap) (locs1 : List Loc), inBlk G Ω1 o (bw u 0 2 x) → oF Ω Ω1 o 13 → oW G A Ω1 H1 → va_S A0 H0 H1 locs1 → W p l e R s m args below meth c H1 locs1 cells slots Q (F0 m (pc + 3) ls rest)) : W p l e R s m args below meth c H locs cells slots Q (F0 m pc ls (.int x :: .ref o :: rest)) := o_put hx hb hts hown hK hW hS hA (inBlk_o h) rfl ig0 tyX0 tyX0_ok nmX0 2 (by decide) hlink rfl (ty := .int) (by decide +kernel) rfl rfl (Nat.le_of_ble_eq_true rfl) hdg (fun H1 locs1 hW1 hS1 => kk _ H1 locs1 (show inBlk G _ o (bw u 0 2 x) from ⟨oU_self, (oU_ne (by omega)).trans (inBlk_a0 (u := u) h), (oU_ne (by omega)).trans (inBlk_a1 (u := u) h), (oU_ne (by omega)).trans (inBlk_a2 (u := u) h), (oU_ne (by omega)).trans (inBlk_a3 (u := u) h), (oU_ne (by omega)).trans (inBlk_a4 (u := u) h), (oU_ne (by omega)).trans (inBlk_a5 (u := u) h), (oU_ne (by omega)).trans (inBlk_a6 (u := u) h), (oU_ne (by omega)).trans (inBlk_a7 (u := u) h), (oU_ne (by omega)).trans (inBlk_a8 (u := u) h), (oU_ne (by omega)).trans (inBlk_a9 (u := u) h), (oU_ne (by omega)).trans (inBlk_a10 (u := u) h), (oU_ne (by omega)).trans (inBlk_a11 (u := u) h)⟩) (oF.up (by omega) (by omega)) hW1 hS1)
def inHisV (G : Gm) (Ω : Om) (o : Nat) (c0 : Nat → Option Nat) (c1 : Int32) (c2 : Int32) : Prop := Ω o = some (.inr (2, [.ref (o + 1), .int c1, .int c2])) ∧ Ω (o + 1) = some (.inl (G.2.2.2, 6, .inr (.inr (.inr (.inr c0)))))
theorem inHisV_o {G : Gm} {Ω : Om} {o : Nat} {c0 : Nat → Option Nat} {c1 : Int32} {c2 : Int32} (h : inHisV G Ω o c0 c1 c2) : Ω o = some (.inr (2, [.ref (o + 1), .int c1, .int c2])) := h.1
theorem inHisV_a0 {G : Gm} {Ω : Om} {o : Nat} {c0 : Nat → Option Nat} {c1 : Int32} {c2 : Int32} (h : inHisV G Ω o c0 c1 c2) : Ω (o + 1) = some (.inl (G.2.2.2, 6, .inr (.inr (.inr (.inr c0))))) := h.2
theorem inHisV.keep {G : Gm} {Ω : Om} {o : Nat} {c0 : Nat → Option Nat} {c1 : Int32} {c2 : Int32} {Ω1 : Om} (h : inHisV G Ω o c0 c1 c2) (hq : ∀ q : Nat, o ≤ q → q < o + 2 → Ω1 q = Ω q) : inHisV G Ω1 o c0 c1 c2 := ⟨(hq _ (by omega) (by omega)).trans (inHisV_o h), (hq _ (by omega) (by omega)).trans (inHisV_a0 h)⟩
theorem vHisV_1 {p : Program} {l : Launch} {e : Env} {R : Room} {s : State} {m : MethodId} {args : Array Value} {below : List Frame} {meth : Method} {c : Code} {H : Heap} {locs : List Loc} {cells slots : Nat} {Q : State → Prop} {cc : ByteArray} {pc : Nat} {ls : Array Slot} {rest : List Value} {G : Gm} {A A0 : Nat → Prop} {Ω : Om} {H0 : Heap} {o : Nat} {c0 : Nat → Option Nat} {c1 : Int32} {c2 : Int32} (hx : p.tables.exec = Jvm.exec) (hb : c.code = cc) (hts : ∀ w ∈ gt, w.before args s = true) {own : String} {index : Nat} (hown : s.vm.findClass own = some m.cls) (hK : oK G s) (hW : oW G A Ω H) (hS : va_S A0 H0 H locs) (hA : ∀ q, A q → A0 q) (h : inHisV G Ω o c0 c1 c2) {x : Int32} (hlink : Cond.fieldLink own index (TX2 1).1 (TX2 1).2.1 (TX2 1).2.2.1 ∈ gt) (hdg : decode cc pc = .ok (.putfield index, 3)) (kk : ∀ (Ω1 : Om) (H1 : Heap) (locs1 : List Loc), inHisV G Ω1 o c0 x c2 → oF Ω Ω1 o 2 → oW G A Ω1 H1 → va_S A0 H0 H1 locs1 → W p l e R s m args below meth c H1 locs1 cells slots Q (F0 m (pc + 3) ls rest)) : W p l e R s m args below meth c H locs cells slots Q (F0 m pc ls (.int x :: .ref o :: rest)) := o_put hx hb hts hown hK hW hS hA (inHisV_o h) rfl ig2 tyX2 tyX2_ok nmX2 1 (by decide) hlink rfl (ty := .int) (by decide +kernel) rfl rfl (Nat.le_of_ble_eq_true rfl) hdg (fun H1 locs1 hW1 hS1 => kk _ H1 locs1 (show inHisV G _ o c0 x c2 from ⟨oU_self, (oU_ne (by omega)).trans (inHisV_a0 h)⟩) (oF.up (by omega) (by omega)) hW1 hS1)
theorem vHisV_2 {p : Program} {l : Launch} {e : Env} {R : Room} {s : State} {m : MethodId} {args : Array Value} {below : List Frame} {meth : Method} {c : Code} {H : Heap} {locs : List Loc} {cells slots : Nat} {Q : State → Prop} {cc : ByteArray} {pc : Nat} {ls : Array Slot} {rest : List Value} {G : Gm} {A A0 : Nat → Prop} {Ω : Om} {H0 : Heap} {o : Nat} {c0 : Nat → Option Nat} {c1 : Int32} {c2 : Int32} (hx : p.tables.exec = Jvm.exec) (hb : c.code = cc) (hts : ∀ w ∈ gt, w.before args s = true) {own : String} {index : Nat} (hown : s.vm.findClass own = some m.cls) (hK : oK G s) (hW : oW G A Ω H) (hS : va_S A0 H0 H locs) (hA : ∀ q, A q → A0 q) (h : inHisV G Ω o c0 c1 c2) {x : Int32} (hlink : Cond.fieldLink own index (TX2 2).1 (TX2 2).2.1 (TX2 2).2.2.1 ∈ gt) (hdg : decode cc pc = .ok (.putfield index, 3)) (kk : ∀ (Ω1 : Om) (H1 : Heap) (locs1 : List Loc), inHisV G Ω1 o c0 c1 x → oF Ω Ω1 o 2 → oW G A Ω1 H1 → va_S A0 H0 H1 locs1 → W p l e R s m args below meth c H1 locs1 cells slots Q (F0 m (pc + 3) ls rest)) : W p l e R s m args below meth c H locs cells slots Q (F0 m pc ls (.int x :: .ref o :: rest)) := o_put hx hb hts hown hK hW hS hA (inHisV_o h) rfl ig2 tyX2 tyX2_ok nmX2 2 (by decide) hlink rfl (ty := .int) (by decide +kernel) rfl rfl (Nat.le_of_ble_eq_true rfl) hdg (fun H1 locs1 hW1 hS1 => kk _ H1 locs1 (show inHisV G _ o c0 c1 x from ⟨oU_self, (oU_ne (by omega)).trans (inHisV_a0 h)⟩) (oF.up (by omega) (by omega)) hW1 hS1)
def inImA (G : Gm) (Ω : Om) (o : Nat) (c0 : Nat → Option Nat) : Prop := Ω o = some (.inl (G.2.2.2, 2, .inr (.inr (.inr (.inr c0)))))
theorem inImA_a0 {G : Gm} {Ω : Om} {o : Nat} {c0 : Nat → Option Nat} (h : inImA G Ω o c0) : Ω o = some (.inl (G.2.2.2, 2, .inr (.inr (.inr (.inr c0))))) := h
theorem inImA.keep {G : Gm} {Ω : Om} {o : Nat} {c0 : Nat → Option Nat} {Ω1 : Om} (h : inImA G Ω o c0) (hq : ∀ q : Nat, o ≤ q → q < o + 1 → Ω1 q = Ω q) : inImA G Ω1 o c0 := (hq _ (by omega) (by omega)).trans (inImA_a0 h)
def inImH (G : Gm) (Ω : Om) (o : Nat) (c0 : Fn) : Prop := Ω o = some (.inl (G.2.2.1, 2, .inl c0))
theorem inImH_a0 {G : Gm} {Ω : Om} {o : Nat} {c0 : Fn} (h : inImH G Ω o c0) : Ω o = some (.inl (G.2.2.1, 2, .inl c0)) := h
theorem inImH.keep {G : Gm} {Ω : Om} {o : Nat} {c0 : Fn} {Ω1 : Om} (h : inImH G Ω o c0) (hq : ∀ q : Nat, o ≤ q → q < o + 1 → Ω1 q = Ω q) : inImH G Ω1 o c0 := (hq _ (by omega) (by omega)).trans (inImH_a0 h)
theorem sImH_0 {G : Gm} {Ω : Om} {o : Nat} {c0 : Fn} {f : Fn} (h : inImH G Ω o c0) : inImH G (oU Ω o (.inl (G.2.2.1, 2, .inl f))) o f := oU_self
theorem wImH_0 {p : Program} {l : Launch} {e : Env} {R : Room} {s : State} {m : MethodId} {args : Array Value} {below : List Frame} {meth : Method} {c : Code} {H : Heap} {locs : List Loc} {cells slots : Nat} {Q : State → Prop} {cc : ByteArray} {pc : Nat} {ls : Array Slot} {rest : List Value} {G : Gm} {A A0 : Nat → Prop} {Ω : Om} {H0 : Heap} {o : Nat} {c0 : Fn} (hx : p.tables.exec = Jvm.exec) (hb : c.code = cc) (hK : oK G s) (hW : oW G A Ω H) (hS : va_S A0 H0 H locs) (hA : ∀ q, A q → A0 q) (h : inImH G Ω o c0) {i x : Int32} (hin : vp_in i 2) (hdg : decode cc pc = .ok (.bastore, 1)) (kk : ∀ (Ω1 : Om) (H1 : Heap) (locs1 : List Loc), inImH G Ω1 o (upd c0 i.toNatClampNeg (vp_nar .boolean x)) → oF Ω Ω1 o 1 → oW G A Ω1 H1 → va_S A0 H0 H1 locs1 → W p l e R s m args below meth c H1 locs1 cells slots Q (F0 m (pc + 1) ls rest)) : W p l e R s m args below meth c H locs cells slots Q (F0 m pc ls (.int x :: .int i :: .ref o :: rest)) := o_zast hx hb hK hW hS hA (inImH_a0 h) hin hdg (fun H1 locs1 hW1 hS1 => kk _ H1 locs1 (sImH_0 h) (oF.up (by omega) (by omega)) hW1 hS1)
abbrev Dv : Type := Fn × Fn × Fn × Fn
abbrev Jo : Type := Int32 × Fn × Fn × Fn
abbrev Sit : Type := Int32 × Int32 × Dv × Dv × Jo
def inSit (G : Gm) (Ω : Om) (o : Nat) (v : Sit) : Prop := inSitO G Ω o v.1 v.2.1 ∧ inDev G Ω (o + 1) v.2.2.1.1 v.2.2.1.2.1 v.2.2.1.2.2.1 v.2.2.1.2.2.2 ∧ inDev G Ω (o + 6) v.2.2.2.1.1 v.2.2.2.1.2.1 v.2.2.2.1.2.2.1 v.2.2.2.1.2.2.2 ∧ inJou G Ω (o + 11) v.2.2.2.2.1 v.2.2.2.2.2.1 v.2.2.2.2.2.2.1 v.2.2.2.2.2.2.2
theorem inSit.keep {G : Gm} {Ω : Om} {o : Nat} {v : Sit} {Ω1 : Om} (h : inSit G Ω o v) (hq : ∀ q : Nat, o ≤ q → q < o + 15 → Ω1 q = Ω q) : inSit G Ω1 o v := ⟨h.1.keep (fun q h1 h2 => hq q (by omega) (by omega)), h.2.1.keep (fun q h1 h2 => hq q (by omega) (by omega)), h.2.2.1.keep (fun q h1 h2 => hq q (by omega) (by omega)), h.2.2.2.keep (fun q h1 h2 => hq q (by omega) (by omega))⟩
def inHis (G : Gm) (Ω : Om) (o : Nat) (c0 : Nat → Sit) (c1 c2 : Int32) : Prop := inHisV G Ω o (fun i => some (o + 2 + 15 * i)) c1 c2 ∧ ∀ i, i < 6 → inSit G Ω (o + 2 + 15 * i) (c0 i)
theorem inHis_o {G : Gm} {Ω : Om} {o : Nat} {c0 : Nat → Sit} {c1 c2 : Int32} (h : inHis G Ω o c0 c1 c2) : Ω o = some (.inr (2, [.ref (o + 1), .int c1, .int c2])) := inHisV_o h.1
theorem inHis.keep {G : Gm} {Ω : Om} {o : Nat} {c0 : Nat → Sit} {c1 c2 : Int32} {Ω1 : Om} (h : inHis G Ω o c0 c1 c2) (hq : ∀ q : Nat, o ≤ q → q < o + 92 → Ω1 q = Ω q) : inHis G Ω1 o c0 c1 c2 := ⟨h.1.keep (fun q h1 h2 => hq q (by omega) (by omega)), fun i hi => (h.2 i hi).keep (fun q h1 h2 => hq q (by omega) (by omega))⟩
theorem vHis_2 {p : Program} {l : Launch} {e : Env} {R : Room} {s : State} {m : MethodId} {args : Array Value} {below : List Frame} {meth : Method} {c : Code} {H : Heap} {locs : List Loc} {cells slots : Nat} {Q : State → Prop} {cc : ByteArray} {pc : Nat} {ls : Array Slot} {rest : List Value} {G : Gm} {A A0 : Nat → Prop} {Ω : Om} {H0 : Heap} {o : Nat} {c0 : Nat → Sit} {c1 c2 : Int32} (hx : p.tables.exec = Jvm.exec) (hb : c.code = cc) (hts : ∀ w ∈ gt, w.before args s = true) {own : String} {index : Nat} (hown : s.vm.findClass own = some m.cls) (hK : oK G s) (hW : oW G A Ω H) (hS : va_S A0 H0 H locs) (hA : ∀ q, A q → A0 q) (h : inHis G Ω o c0 c1 c2) {x : Int32} (hlink : Cond.fieldLink own index (TX2 2).1 (TX2 2).2.1 (TX2 2).2.2.1 ∈ gt) (hdg : decode cc pc = .ok (.putfield index, 3)) (kk : ∀ (Ω1 : Om) (H1 : Heap) (locs1 : List Loc), inHis G Ω1 o c0 c1 x → oF Ω Ω1 o 92 → oW G A Ω1 H1 → va_S A0 H0 H1 locs1 → W p l e R s m args below meth c H1 locs1 cells slots Q (F0 m (pc + 3) ls rest)) : W p l e R s m args below meth c H locs cells slots Q (F0 m pc ls (.int x :: .ref o :: rest)) := o_put hx hb hts hown hK hW hS hA (inHis_o h) rfl ig2 tyX2 tyX2_ok nmX2 2 (by decide) hlink rfl (ty := .int) (by decide +kernel) rfl rfl (Nat.le_of_ble_eq_true rfl) hdg (fun H1 locs1 hW1 hS1 => kk _ H1 locs1 ⟨⟨oU_self, (oU_ne (by omega)).trans (inHisV_a0 h.1)⟩, fun i hi => (h.2 i hi).keep (fun q h1 h2 => oU_ne (by omega))⟩ (oF.up (by omega) (by omega)) hW1 hS1)
theorem o_aldq2 {p : Program} {l : Launch} {e : Env} {R : Room} {s : State} {m : MethodId} {args : Array Value} {below : List Frame} {meth : Method} {c : Code} {H : Heap} {locs : List Loc} {cells slots : Nat} {Q : State → Prop} {cc : ByteArray} {pc : Nat} {ls : Array Slot} {rest : List Value} {G : Gm} {A : Nat → Prop} {Ω : Om} {a a2 : Nat} (hx : p.tables.exec = Jvm.exec) (hb : c.code = cc) (hK : oK G s) (hW : oW G A Ω H) {n : Nat} {f : Nat → Option Nat} (he : Ω a = some (.inl (G.2.2.2, n, .inr (.inr (.inr (.inr f)))))) {i : Int32} (hf : f i.toNatClampNeg = some a2) (hin : vp_in i n) (hdg : decode cc pc = .ok (.aaload, 1)) (kk : W p l e R s m args below meth c H locs cells slots Q (F0 m (pc + 1) ls (.ref a2 :: rest))) : W p l e R s m args below meth c H locs cells slots Q (F0 m pc ls (.int i :: .ref a :: rest)) := o_aldq hx hb hK hW he hin hdg (by rw [hf]; exact kk)
theorem Met.post {l : Launch} {y : MethodName} {ws : List Cond} {rm : Room} {Pc : Array Value → State → Prop} {Qc Qc' : Array Value → State → Outcome → State → Prop} {mc ms : Nat} {free : Addr → Prop} (h : Met l y ws rm Pc Qc mc ms free) (hq : ∀ a s o t, Qc a s o t → Qc' a s o t) : Met l y ws rm Pc Qc' mc ms free := by
  intro p e ha hc hk s m args below hf happ hP hK
  obtain ⟨n, o, h1, h2, h3, h4, h5⟩ := h p e ha hc hk s m args below hf happ hP hK
  exact ⟨n, o, h1, h2, h3, hq _ _ _ _ h4, h5⟩
theorem va_Qv.post {S : Type} {post post' : S → Prop} {B : S → State → Prop} {A : Nat → Prop} (h : ∀ u, post u → post' u) (a : Array Value) (s : State) (o : Outcome) (t : State) (q : va_Qv post B A a s o t) : va_Qv post' B A a s o t := by
  obtain ⟨⟨u, h1, h2, h3⟩, h4⟩ := q
  exact ⟨⟨u, h1, h _ h2, h3⟩, h4⟩
theorem va_Qi.post {S : Type} {post post' : Int32 → S → Prop} {B : S → State → Prop} {A : Nat → Prop} (h : ∀ r u, post r u → post' r u) (a : Array Value) (s : State) (o : Outcome) (t : State) (q : va_Qi post B A a s o t) : va_Qi post' B A a s o t := by
  obtain ⟨⟨r, u, h1, h2, h3⟩, h4⟩ := q
  exact ⟨⟨r, u, h1, h _ _ h2, h3⟩, h4⟩
theorem wcDev_3 {p : Program} {l : Launch} {e : Env} {R : Room} {s : State} {m : MethodId} {args : Array Value} {below : List Frame} {meth : Method} {c : Code} {H : Heap} {locs : List Loc} {cells slots : Nat} {Q : State → Prop} {cc : ByteArray} {pc : Nat} {ls : Array Slot} {rest : List Value} {G : Gm} {A A0 : Nat → Prop} {Ω : Om} {H0 : Heap} {o a0 : Nat} {c0 : Fn} {c1 : Fn} {c2 : Fn} {c3 : Fn} (hx : p.tables.exec = Jvm.exec) (hb : c.code = cc) (hml : c.maxLocals = ls.size) {own : String} {index n0 : Nat} (hown : s.vm.findClass own = some m.cls) (hts : ∀ w ∈ gt, w.before args s = true) (hlink : Cond.methodLink own index arraycopyName ∈ gt) (hK : oK G s) (hW : oW G A Ω H) (hS : va_S A0 H0 H locs) (hA : ∀ q, A q → A0 q) {f : Fn} (ha0 : Ω a0 = some (.inl (G.2.1, n0, .inl f))) (hn0 : 12 ≤ n0) (h : inDev G Ω o c0 c1 c2 c3) (hframes : 1 ≤ R.frames) (hlocals : (rest.map fun v => v.category).sum + (nativeFrameWords "java/lang/System" "arraycopy" 5 + 11) ≤ R.locals) (hdg : decode cc pc = .ok (.invokestatic index, 3)) (kk : ∀ (Ω1 : Om) (H1 : Heap) (locs1 : List Loc), inDev G Ω1 o c0 c1 c2 (va_cpy f c3 0 0 12) → oF Ω Ω1 o 5 → oW G A Ω1 H1 → va_S A0 H0 H1 locs1 → W p l e R s m args below meth c H1 locs1 cells slots Q (F0 m (pc + 3) ls rest)) : W p l e R s m args below meth c H locs cells slots Q (F0 m pc ls (.int (12 : Int32) :: .int (0 : Int32) :: .ref (o + 4) :: .int (0 : Int32) :: .ref a0 :: rest)) := o_copy hx hb hml hown hts hlink ini_J10 hK hW hS hA ha0 (inDev_a3 h) (by decide) (by decide) (by decide) (show 0 + 12 ≤ n0 by omega) (show 0 + 12 ≤ 12 by omega) hframes hlocals hdg (fun H1 locs1 hW1 hS1 => kk _ H1 locs1 (sDev_3 h) (oF.up (by omega) (by omega)) hW1 hS1)
end
section
/-! numbers (fb_ rows out of the kit's COUNTS), what holds of a block's rows -/
theorem fb_rng (x : Int32) : -2147483648 ≤ x.toInt ∧ x.toInt < 2147483648 := ⟨by have := Int32.le_toInt x; omega, by have := Int32.toInt_lt x; omega⟩
theorem fb_bmod {z : Int} (h1 : -2147483648 ≤ z) (h2 : z < 2147483648) : z.bmod (2 ^ 32) = z := by
  rw [Int.bmod_eq_of_le] <;> omega
theorem fb_addI {x y : Int32} (h1 : -2147483648 ≤ x.toInt + y.toInt) (h2 : x.toInt + y.toInt < 2147483648) : (x + y).toInt = x.toInt + y.toInt := by
  rw [Int32.toInt_add, fb_bmod h1 h2]
theorem fb_subI {x y : Int32} (h1 : -2147483648 ≤ x.toInt - y.toInt) (h2 : x.toInt - y.toInt < 2147483648) : (x - y).toInt = x.toInt - y.toInt := by
  rw [Int32.toInt_sub, fb_bmod h1 h2]
theorem fb_mulI {x y : Int32} (h1 : -2147483648 ≤ x.toInt * y.toInt) (h2 : x.toInt * y.toInt < 2147483648) : (x * y).toInt = x.toInt * y.toInt := by
  rw [Int32.toInt_mul, fb_bmod h1 h2]
theorem rg_mul {x c : Int32} {n : Int} (hc : c.toInt = n) (h1 : -2147483648 ≤ x.toInt * n) (h2 : x.toInt * n < 2147483648) : (x * c).toInt = x.toInt * n := by
  subst hc; exact fb_mulI h1 h2
theorem rg_mul2 {x c : Int32} {n : Int} (hc : c.toInt = n) (h1 : -2147483648 ≤ n * x.toInt) (h2 : n * x.toInt < 2147483648) : (c * x).toInt = n * x.toInt := by
  subst hc; exact fb_mulI h1 h2
theorem rlt {x y : Int32} (h : x < y) : x.toInt < y.toInt := Int32.lt_iff_toInt_lt.mp h
theorem rle {x y : Int32} (h : x ≤ y) : x.toInt ≤ y.toInt := Int32.le_iff_toInt_le.mp h
theorem rnlt {x y : Int32} (h : ¬ x < y) : y.toInt ≤ x.toInt := by
  have := mt Int32.lt_iff_toInt_lt.mpr h
  omega
theorem rnle {x y : Int32} (h : ¬ x ≤ y) : y.toInt < x.toInt := by
  have := mt Int32.le_iff_toInt_le.mpr h
  omega
theorem rne {x y : Int32} (h : ¬ x = y) : x.toInt ≠ y.toInt := fun q => h (Int32.toInt_inj.mp q)
theorem nb01 {v : Int32} (h : v = 0 ∨ v = 1) : narrow .boolean (.int v) = .int v := by rcases h with rfl | rfl <;> rfl
def BlkInv (u : Blk) : Prop := (0 ≤ (u 0 0).toInt ∧ (u 0 0).toInt ≤ 6) ∧ (0 ≤ (u 0 1).toInt ∧ (u 0 1).toInt ≤ 12) ∧ (0 ≤ (u 0 2).toInt ∧ (u 0 2).toInt ≤ 4) ∧ (∀ k, 0 ≤ (u 4 k).toInt ∧ (u 4 k).toInt < 6) ∧ (∀ k, 0 ≤ (u 11 k).toInt ∧ (u 11 k).toInt < 6)
theorem BI_regs {u : Blk} (h : BlkInv u) : 0 ≤ (u 0 0).toInt ∧ (u 0 0).toInt ≤ 6 := h.1
theorem BI_flds {u : Blk} (h : BlkInv u) : 0 ≤ (u 0 1).toInt ∧ (u 0 1).toInt ≤ 12 := h.2.1
theorem BI_als {u : Blk} (h : BlkInv u) : 0 ≤ (u 0 2).toInt ∧ (u 0 2).toInt ≤ 4 := h.2.2.1
theorem BI_owner {u : Blk} (h : BlkInv u) (k : Nat) : 0 ≤ (u 4 k).toInt ∧ (u 4 k).toInt < 6 := h.2.2.2.1 k
theorem BI_areg {u : Blk} (h : BlkInv u) (k : Nat) : 0 ≤ (u 11 k).toInt ∧ (u 11 k).toInt < 6 := h.2.2.2.2 k
/-- what holds of the model's rows of what was told -/
def ToldInv (t : Fn) : Prop := (0 ≤ (t (90 : Int32).toNatClampNeg).toInt ∧ (t (90 : Int32).toNatClampNeg).toInt ≤ 6) ∧ (0 ≤ (t (91 : Int32).toNatClampNeg).toInt ∧ (t (91 : Int32).toNatClampNeg).toInt ≤ 12) ∧ (0 ≤ (t (92 : Int32).toNatClampNeg).toInt ∧ (t (92 : Int32).toNatClampNeg).toInt ≤ 4) ∧ (∀ x : Int32, 0 ≤ x.toInt → x.toInt < 12 → 0 ≤ (t ((18 : Int32) + x).toNatClampNeg).toInt ∧ (t ((18 : Int32) + x).toNatClampNeg).toInt < 6) ∧ (∀ x : Int32, 0 ≤ x.toInt → x.toInt < 6 → (t ((6 : Int32) + x).toNatClampNeg).toInt = -9 ∨ (0 ≤ (t ((6 : Int32) + x).toNatClampNeg).toInt ∧ (t ((6 : Int32) + x).toNatClampNeg).toInt < 12)) ∧ (∀ x : Int32, 0 ≤ x.toInt → x.toInt < 6 → (t ((12 : Int32) + x).toNatClampNeg).toInt = -9 ∨ (0 ≤ (t ((12 : Int32) + x).toNatClampNeg).toInt ∧ (t ((12 : Int32) + x).toNatClampNeg).toInt < 12)) ∧ (∀ x : Int32, 100 ≤ x.toInt → x.toInt < 104 → 0 ≤ (t (((82 : Int32) + x) - (100 : Int32)).toNatClampNeg).toInt ∧ (t (((82 : Int32) + x) - (100 : Int32)).toNatClampNeg).toInt < 6)
theorem TI_90 {t : Fn} (h : ToldInv t) : 0 ≤ (t (90 : Int32).toNatClampNeg).toInt ∧ (t (90 : Int32).toNatClampNeg).toInt ≤ 6 := h.1
theorem TI_91 {t : Fn} (h : ToldInv t) : 0 ≤ (t (91 : Int32).toNatClampNeg).toInt ∧ (t (91 : Int32).toNatClampNeg).toInt ≤ 12 := h.2.1
theorem TI_92 {t : Fn} (h : ToldInv t) : 0 ≤ (t (92 : Int32).toNatClampNeg).toInt ∧ (t (92 : Int32).toNatClampNeg).toInt ≤ 4 := h.2.2.1
theorem TI_18 {t : Fn} {x : Int32} (h : ToldInv t) (h0 : 0 ≤ x.toInt) (h1 : x.toInt < 12) : 0 ≤ (t ((18 : Int32) + x).toNatClampNeg).toInt ∧ (t ((18 : Int32) + x).toNatClampNeg).toInt < 6 := h.2.2.2.1 x h0 h1
theorem TI_6 {t : Fn} {x : Int32} (h : ToldInv t) (h0 : 0 ≤ x.toInt) (h1 : x.toInt < 6) : (t ((6 : Int32) + x).toNatClampNeg).toInt = -9 ∨ (0 ≤ (t ((6 : Int32) + x).toNatClampNeg).toInt ∧ (t ((6 : Int32) + x).toNatClampNeg).toInt < 12) := h.2.2.2.2.1 x h0 h1
theorem TI_12 {t : Fn} {x : Int32} (h : ToldInv t) (h0 : 0 ≤ x.toInt) (h1 : x.toInt < 6) : (t ((12 : Int32) + x).toNatClampNeg).toInt = -9 ∨ (0 ≤ (t ((12 : Int32) + x).toNatClampNeg).toInt ∧ (t ((12 : Int32) + x).toNatClampNeg).toInt < 12) := h.2.2.2.2.2.1 x h0 h1
theorem TI_82 {t : Fn} {x : Int32} (h : ToldInv t) (h0 : 100 ≤ x.toInt) (h1 : x.toInt < 104) : 0 ≤ (t (((82 : Int32) + x) - (100 : Int32)).toNatClampNeg).toInt ∧ (t (((82 : Int32) + x) - (100 : Int32)).toNatClampNeg).toInt < 6 := h.2.2.2.2.2.2 x h0 h1
theorem rg_div {x c : Int32} {n : Int} (hc : c.toInt = n) (h0 : 0 ≤ x.toInt) (hn : 0 < n ∧ n < 100000) : (x / c).toInt = x.toInt / n := by
  have hx := fb_rng x
  have h1 : 0 ≤ x.toInt / n := Int.ediv_nonneg h0 (by omega)
  have h2 : x.toInt / n ≤ x.toInt := Int.ediv_le_self _ h0
  rw [Int32.toInt_div, hc, Int.tdiv_eq_ediv_of_nonneg h0, fb_bmod (by omega) (by omega)]
theorem rg_rem {x c : Int32} {n : Int} (hc : c.toInt = n) (h0 : 0 ≤ x.toInt) (hn : 0 < n ∧ n < 100000) : (x - x / c * c).toInt = x.toInt - x.toInt / n * n := by
  have hx := fb_rng x
  have e := rg_div hc h0 hn
  have h1 : 0 ≤ x.toInt / n := Int.ediv_nonneg h0 (by omega)
  have h2 : x.toInt / n * n ≤ x.toInt := Int.ediv_mul_le _ (by omega)
  have h3 : 0 ≤ x.toInt / n * n := Int.mul_nonneg h1 (by omega)
  have e2 : (x / c * c).toInt = x.toInt / n * n := by
    rw [fb_mulI (by rw [e, hc]; omega) (by rw [e, hc]; omega), e, hc]
  rw [fb_subI (by rw [e2]; omega) (by rw [e2]; omega), e2]
theorem upd_o {f : Fn} {k : Nat} {x : Int32} {j : Nat} (h : j ≠ k) : upd f k x j = f j := if_neg h
theorem ixn (x : Int32) : x.toNatClampNeg = x.toInt.toNat := rfl
theorem n72 {i : Int32} (h0 : 0 ≤ i.toInt) (h1 : i.toInt ≠ 72) : (72 : Int32).toNatClampNeg ≠ i.toNatClampNeg := by
  rw [ixn i, show (72 : Int32).toNatClampNeg = 72 by decide]
  omega
theorem ine {j : Nat} {i : Int32} (h0 : 0 ≤ i.toInt) (h1 : i.toInt ≠ j) : j ≠ i.toNatClampNeg := by
  rw [ixn i]
  omega
end
section
/-! twin functions, by program -/
def f_X8_isWithin (x0 : Int32) (x1 : Int32) : Int32 := 
  if x0 < 0 then (0 : Int32)
  else 
   if x1 ≤ x0 then (0 : Int32)
   else (1 : Int32)
def f_X6_append (p0_0 : Fn) (p0_1 : Int32) (x1 : Int32) : Fn × Int32 := 
  if (160 : Int32) ≤ p0_1 then (p0_0, p0_1)
  else ((upd p0_0 p0_1.toNatClampNeg x1), (p0_1 + (1 : Int32)))
def f_X1_putBits (p0_0 : Fn) (p1_0 : Blk) (x2 : Int32) (x3 : Int32) : Fn := (upd p0_0 ((p1_0 4) x2.toNatClampNeg).toNatClampNeg (((p0_0 ((p1_0 4) x2.toNatClampNeg).toNatClampNeg) &&& (((p1_0 8) x2.toNatClampNeg) ^^^ (-1 : Int32))) ||| (x3 &&& ((p1_0 8) x2.toNatClampNeg))))
def f_X1_putValue (p0_0 : Fn) (p1_0 : Blk) (x2 : Int32) (x3 : Int32) : Fn := (f_X1_putBits p0_0 p1_0 x2 (x3 <<< (((p1_0 6) x2.toNatClampNeg) &&& 31)))
def f_X1_restart_L38 (p0_1 : Fn) (p0_2 : Fn) (p1_0 : Blk) : Nat → Int32 → Fn → Fn × Fn × Fn
  | 0, _, p0_0 => (p0_0, p0_1, p0_2)
  | n + 1, x2, p0_0 => 
    if (p1_0 0 1) ≤ x2 then (p0_0, p0_1, p0_2)
    else ((f_X1_restart_L38 p0_1 p0_2 p1_0 n) (x2 + (1 : Int32)) (f_X1_putValue p0_0 p1_0 x2 ((p1_0 9) x2.toNatClampNeg)))
def f_X1_restart_L2 (p1_0 : Blk) : Nat → Int32 → Fn → Fn → Fn → Fn × Fn × Fn
  | 0, _, p0_0, p0_1, p0_2 => (p0_0, p0_1, p0_2)
  | n + 1, x2, p0_0, p0_1, p0_2 => 
    if (6 : Int32) ≤ x2 then (f_X1_restart_L38 p0_1 p0_2 p1_0 4000 (0 : Int32) p0_0)
    else ((f_X1_restart_L2 p1_0 n) (x2 + (1 : Int32)) (upd p0_0 x2.toNatClampNeg (0 : Int32)) (upd p0_1 x2.toNatClampNeg (-9 : Int32)) (upd p0_2 x2.toNatClampNeg (vp_nar .boolean (0 : Int32))))
def f_X1_restart (p0_0 : Fn) (p0_1 : Fn) (p0_2 : Fn) (p1_0 : Blk) : Fn × Fn × Fn := (f_X1_restart_L2 p1_0 4000 (0 : Int32) p0_0 p0_1 p0_2)
def f_X5_restart_C16 (p0d_0 : Fn) (p0d_1 : Fn) (p0d_2 : Fn) (p0m_0 : Fn) (p0m_1 : Fn) (p0m_2 : Fn) : Int32 × Int32 × Fn × Fn × Fn × Fn × Fn × Fn × Int32 := ((0 : Int32), (-9 : Int32), p0d_0, p0d_1, p0d_2, p0m_0, p0m_1, p0m_2, (0 : Int32))
def f_X5_restart_C8 (p0m_0 : Fn) (p0m_1 : Fn) (p0m_2 : Fn) (p1_0 : Blk) (p0d_0 : Fn) (p0d_1 : Fn) (p0d_2 : Fn) : Int32 × Int32 × Fn × Fn × Fn × Fn × Fn × Fn × Int32 := (f_X5_restart_C16 p0d_0 p0d_1 p0d_2 ((f_X1_restart p0m_0 p0m_1 p0m_2 p1_0).1) ((f_X1_restart p0m_0 p0m_1 p0m_2 p1_0).2.1) ((f_X1_restart p0m_0 p0m_1 p0m_2 p1_0).2.2))
def f_X5_restart (p0d_0 : Fn) (p0d_1 : Fn) (p0d_2 : Fn) (p0m_0 : Fn) (p0m_1 : Fn) (p0m_2 : Fn) (p1_0 : Blk) : Int32 × Int32 × Fn × Fn × Fn × Fn × Fn × Fn × Int32 := (f_X5_restart_C8 p0m_0 p0m_1 p0m_2 p1_0 ((f_X1_restart p0d_0 p0d_1 p0d_2 p1_0).1) ((f_X1_restart p0d_0 p0d_1 p0d_2 p1_0).2.1) ((f_X1_restart p0d_0 p0d_1 p0d_2 p1_0).2.2))
def f_X0_registerAt_L2 (p0_0 : Blk) (x1 : Int32) : Nat → Int32 → Int32
  | 0, _ => 0
  | n + 1, x2 => 
    if (p0_0 0 0) ≤ x2 then (-9 : Int32)
    else 
     if ((p0_0 1) x2.toNatClampNeg) = x1 then x2
     else ((f_X0_registerAt_L2 p0_0 x1 n) (x2 + (1 : Int32)))
def f_X0_registerAt (p0_0 : Blk) (x1 : Int32) : Int32 := (f_X0_registerAt_L2 p0_0 x1 4000 (0 : Int32))
def f_X0_aliasAt_L15 (p0_0 : Blk) (x1 : Int32) : Nat → Int32 → Int32
  | 0, _ => 0
  | n + 1, x2 => 
    if (p0_0 0 2) ≤ x2 then (-9 : Int32)
    else 
     if ((p0_0 10) x2.toNatClampNeg) = x1 then x2
     else ((f_X0_aliasAt_L15 p0_0 x1 n) (x2 + (1 : Int32)))
def f_X0_aliasAt (p0_0 : Blk) (x1 : Int32) : Int32 := 
  if (f_X0_registerAt p0_0 x1) = (-9 : Int32) then (f_X0_aliasAt_L15 p0_0 x1 4000 (0 : Int32))
  else (-9 : Int32)
def f_X0_registerBehind (p0_0 : Blk) (x1 : Int32) : Int32 := 
  if (f_X0_aliasAt p0_0 x1) = (-9 : Int32) then (f_X0_registerAt p0_0 x1)
  else ((p0_0 11) (f_X0_aliasAt p0_0 x1).toNatClampNeg)
def f_X1_shown_L10 (p0_3 : Fn) (p1_0 : Blk) (x2 : Int32) : Nat → Int32 → Int32 → Int32
  | 0, _, _ => 0
  | n + 1, x3, x4 => 
    if (p1_0 0 1) ≤ x4 then x3
    else 
     if ((p1_0 4) x4.toNatClampNeg) = x2 then 
      if (p0_3 x4.toNatClampNeg) = (2 : Int32) then ((f_X1_shown_L10 p0_3 p1_0 x2 n) (x3 &&& (((p1_0 8) x4.toNatClampNeg) ^^^ (-1 : Int32))) (x4 + (1 : Int32)))
      else ((f_X1_shown_L10 p0_3 p1_0 x2 n) x3 (x4 + (1 : Int32)))
     else ((f_X1_shown_L10 p0_3 p1_0 x2 n) x3 (x4 + (1 : Int32)))
def f_X1_shown (p0_0 : Fn) (p0_3 : Fn) (p1_0 : Blk) (x2 : Int32) : Int32 := (f_X1_shown_L10 p0_3 p1_0 x2 4000 (p0_0 x2.toNatClampNeg) (0 : Int32))
def f_X1_look (p0_0 : Fn) (p0_3 : Fn) (p1_0 : Blk) (x2 : Int32) : Int32 := 
  if (f_X0_registerBehind p1_0 x2) = (-9 : Int32) then (0 : Int32)
  else (f_X1_shown p0_0 p0_3 p1_0 (f_X0_registerBehind p1_0 x2))
def f_X1_read_L17 (p0_3 : Fn) (p1_0 : Blk) (x3 : Int32) (x4 : Int32) : Nat → Int32 → Fn → Int32 × Fn
  | 0, _, p0_0 => (0, p0_0)
  | n + 1, x5, p0_0 => 
    if (p1_0 0 1) ≤ x5 then (x3, p0_0)
    else 
     if ((p1_0 4) x5.toNatClampNeg) = x4 then 
      if (p0_3 x5.toNatClampNeg) = (6 : Int32) then ((f_X1_read_L17 p0_3 p1_0 x3 x4 n) (x5 + (1 : Int32)) (f_X1_putBits p0_0 p1_0 x5 (0 : Int32)))
      else ((f_X1_read_L17 p0_3 p1_0 x3 x4 n) (x5 + (1 : Int32)) p0_0)
     else ((f_X1_read_L17 p0_3 p1_0 x3 x4 n) (x5 + (1 : Int32)) p0_0)
def f_X1_read (p0_0 : Fn) (p0_3 : Fn) (p1_0 : Blk) (x2 : Int32) : Int32 × Fn := (f_X1_read_L17 p0_3 p1_0 (f_X1_look p0_0 p0_3 p1_0 x2) (f_X0_registerAt p1_0 x2) 4000 (0 : Int32) p0_0)
def f_X1_learn_L10 (p0_3 : Fn) (p1_0 : Blk) (x3 : Int32) (x4 : Int32) : Nat → Int32 → Fn → Fn
  | 0, _, p0_0 => p0_0
  | n + 1, x5, p0_0 => 
    if (p1_0 0 1) ≤ x5 then p0_0
    else 
     if ((p1_0 4) x5.toNatClampNeg) = x4 then 
      if (p0_3 x5.toNatClampNeg) = (2 : Int32) then ((f_X1_learn_L10 p0_3 p1_0 x3 x4 n) (x5 + (1 : Int32)) p0_0)
      else ((f_X1_learn_L10 p0_3 p1_0 x3 x4 n) (x5 + (1 : Int32)) (f_X1_putBits p0_0 p1_0 x5 x3))
     else ((f_X1_learn_L10 p0_3 p1_0 x3 x4 n) (x5 + (1 : Int32)) p0_0)
def f_X1_learn (p0_0 : Fn) (p0_3 : Fn) (p1_0 : Blk) (x2 : Int32) (x3 : Int32) : Fn := (f_X1_learn_L10 p0_3 p1_0 x3 (f_X0_registerBehind p1_0 x2) 4000 (0 : Int32) p0_0)
def f_X3_append (p0_0 : Int32) (p0_1 : Fn) (p0_2 : Fn) (p0_3 : Fn) (x1 : Int32) (x2 : Int32) (x3 : Int32) : Int32 × Fn × Fn × Fn := 
  if p0_0 < (20 : Int32) then ((p0_0 + (1 : Int32)), (upd p0_1 p0_0.toNatClampNeg x1), (upd p0_2 p0_0.toNatClampNeg (vp_nar .boolean x2)), (upd p0_3 p0_0.toNatClampNeg x3))
  else (p0_0, p0_1, p0_2, p0_3)
def f_X5_performRead_C72 (p0_0 : Int32) (p0_1 : Int32) (p0d_0 : Fn) (p0m_0 : Fn) (x3 : Int32) (p0j_0 : Int32) (p0j_1 : Fn) (p0j_2 : Fn) (p0j_3 : Fn) : Int32 × Int32 × Int32 × Fn × Fn × Int32 × Fn × Fn × Fn := (x3, p0_0, p0_1, p0d_0, p0m_0, p0j_0, p0j_1, p0j_2, p0j_3)
def f_X5_performRead_C61 (p0_0 : Int32) (p0_1 : Int32) (p0d_0 : Fn) (p0j_0 : Int32) (p0j_1 : Fn) (p0j_2 : Fn) (p0j_3 : Fn) (x2 : Int32) (x3 : Int32) (s0 : Int32) (p0m_0 : Fn) : Int32 × Int32 × Int32 × Fn × Fn × Int32 × Fn × Fn × Fn := (f_X5_performRead_C72 p0_0 p0_1 p0d_0 p0m_0 x3 ((f_X3_append p0j_0 p0j_1 p0j_2 p0j_3 x2 (0 : Int32) x3).1) ((f_X3_append p0j_0 p0j_1 p0j_2 p0j_3 x2 (0 : Int32) x3).2.1) ((f_X3_append p0j_0 p0j_1 p0j_2 p0j_3 x2 (0 : Int32) x3).2.2.1) ((f_X3_append p0j_0 p0j_1 p0j_2 p0j_3 x2 (0 : Int32) x3).2.2.2))
def f_X5_performRead_J42 (p0_1 : Int32) (p0d_0 : Fn) (p0m_0 : Fn) (p0m_3 : Fn) (p0j_0 : Int32) (p0j_1 : Fn) (p0j_2 : Fn) (p0j_3 : Fn) (p1_0 : Blk) (x2 : Int32) (x3 : Int32) (p0_0 : Int32) : Int32 × Int32 × Int32 × Fn × Fn × Int32 × Fn × Fn × Fn := (f_X5_performRead_C61 p0_0 p0_1 p0d_0 p0j_0 p0j_1 p0j_2 p0j_3 x2 x3 (f_X1_read (f_X1_learn p0m_0 p0m_3 p1_0 x2 x3) p0m_3 p1_0 x2).1 ((f_X1_read (f_X1_learn p0m_0 p0m_3 p1_0 x2 x3) p0m_3 p1_0 x2).2))
def f_X5_performRead_C9 (p0_0 : Int32) (p0m_0 : Fn) (p0m_3 : Fn) (p0j_0 : Int32) (p0j_1 : Fn) (p0j_2 : Fn) (p0j_3 : Fn) (p1_0 : Blk) (x2 : Int32) (s0 : Int32) (p0d_0 : Fn) : Int32 × Int32 × Int32 × Fn × Fn × Int32 × Fn × Fn × Fn := 
    if (s0 ^^^ (f_X1_look p0m_0 p0m_3 p1_0 x2)) = 0 then (f_X5_performRead_J42 (s0 ^^^ (f_X1_look p0m_0 p0m_3 p1_0 x2)) p0d_0 p0m_0 p0m_3 p0j_0 p0j_1 p0j_2 p0j_3 p1_0 x2 s0 p0_0)
    else (f_X5_performRead_J42 (s0 ^^^ (f_X1_look p0m_0 p0m_3 p1_0 x2)) p0d_0 p0m_0 p0m_3 p0j_0 p0j_1 p0j_2 p0j_3 p1_0 x2 s0 (p0_0 + (1 : Int32)))
def f_X5_performRead (p0_0 : Int32) (p0d_0 : Fn) (p0d_3 : Fn) (p0m_0 : Fn) (p0m_3 : Fn) (p0j_0 : Int32) (p0j_1 : Fn) (p0j_2 : Fn) (p0j_3 : Fn) (p1_0 : Blk) (x2 : Int32) : Int32 × Int32 × Int32 × Fn × Fn × Int32 × Fn × Fn × Fn := (f_X5_performRead_C9 p0_0 p0m_0 p0m_3 p0j_0 p0j_1 p0j_2 p0j_3 p1_0 x2 (f_X1_read p0d_0 p0d_3 p1_0 x2).1 ((f_X1_read p0d_0 p0d_3 p1_0 x2).2))
def f_X1_copyFrom_L2 (p0_3 : Fn) (p1_0 : Fn) (p1_1 : Fn) (p1_2 : Fn) (p1_3 : Fn) : Nat → Int32 → Fn → Fn → Fn → Fn × Fn × Fn × Fn
  | 0, _, p0_0, p0_1, p0_2 => (p0_0, p0_1, p0_2, p0_3)
  | n + 1, x2, p0_0, p0_1, p0_2 => 
    if (6 : Int32) ≤ x2 then (p0_0, p0_1, p0_2, (va_cpy p1_3 p0_3 0 0 12))
    else ((f_X1_copyFrom_L2 p0_3 p1_0 p1_1 p1_2 p1_3 n) (x2 + (1 : Int32)) (upd p0_0 x2.toNatClampNeg (p1_0 x2.toNatClampNeg)) (upd p0_1 x2.toNatClampNeg (p1_1 x2.toNatClampNeg)) (upd p0_2 x2.toNatClampNeg (vp_nar .boolean (p1_2 x2.toNatClampNeg))))
def f_X1_copyFrom (p0_0 : Fn) (p0_1 : Fn) (p0_2 : Fn) (p0_3 : Fn) (p1_0 : Fn) (p1_1 : Fn) (p1_2 : Fn) (p1_3 : Fn) : Fn × Fn × Fn × Fn := (f_X1_copyFrom_L2 p0_3 p1_0 p1_1 p1_2 p1_3 4000 (0 : Int32) p0_0 p0_1 p0_2)
def f_X1_valueOf (p0_0 : Fn) (p1_0 : Blk) (x2 : Int32) : Int32 := (((p0_0 ((p1_0 4) x2.toNatClampNeg).toNatClampNeg) &&& ((p1_0 8) x2.toNatClampNeg)) >>> (((p1_0 6) x2.toNatClampNeg) &&& 31))
def f_X1_isLocked (p0_0 : Fn) (p1_0 : Blk) (x2 : Int32) : Int32 := 
  if (f_X8_isWithin ((p1_0 2) x2.toNatClampNeg) (p1_0 0 1)) = 0 then (0 : Int32)
  else 
   if (f_X1_valueOf p0_0 p1_0 ((p1_0 2) x2.toNatClampNeg)) = 0 then (0 : Int32)
   else (1 : Int32)
def f_X1_bitsAfter (p0_0 : Fn) (p0_2 : Fn) (x1 : Int32) (x2 : Int32) (x3 : Int32) : Int32 := 
  if x3 = (0 : Int32) then x2
  else 
   if x3 = (1 : Int32) then (p0_0 x1.toNatClampNeg)
   else 
    if x3 = (2 : Int32) then x2
    else 
     if x3 = (3 : Int32) then ((p0_0 x1.toNatClampNeg) &&& (x2 ^^^ (-1 : Int32)))
     else 
      if x3 = (4 : Int32) then ((p0_0 x1.toNatClampNeg) ||| x2)
      else 
       if x3 = (5 : Int32) then ((p0_0 x1.toNatClampNeg) ^^^ x2)
       else 
        if x3 = (6 : Int32) then (p0_0 x1.toNatClampNeg)
        else 
         if x3 = (7 : Int32) then 
          if (p0_2 x1.toNatClampNeg) = 0 then x2
          else (p0_0 x1.toNatClampNeg)
         else (p0_0 x1.toNatClampNeg)
def f_X1_letInByAlias_L3 (p0_2 : Fn) (p0_3 : Fn) (p1_0 : Blk) (x2 : Int32) (x3 : Int32) (x4 : Int32) : Nat → Int32 → Fn → Fn
  | 0, _, p0_0 => p0_0
  | n + 1, x5, p0_0 => 
    if (p1_0 0 1) ≤ x5 then p0_0
    else 
     if ((p1_0 4) x5.toNatClampNeg) = x2 then 
      if (p0_3 x5.toNatClampNeg) = (1 : Int32) then ((f_X1_letInByAlias_L3 p0_2 p0_3 p1_0 x2 x3 x4 n) (x5 + (1 : Int32)) p0_0)
      else 
       if (p0_3 x5.toNatClampNeg) = (6 : Int32) then ((f_X1_letInByAlias_L3 p0_2 p0_3 p1_0 x2 x3 x4 n) (x5 + (1 : Int32)) p0_0)
       else ((f_X1_letInByAlias_L3 p0_2 p0_3 p1_0 x2 x3 x4 n) (x5 + (1 : Int32)) (f_X1_putBits p0_0 p1_0 x5 (f_X1_bitsAfter p0_0 p0_2 x2 x3 x4)))
     else ((f_X1_letInByAlias_L3 p0_2 p0_3 p1_0 x2 x3 x4 n) (x5 + (1 : Int32)) p0_0)
def f_X1_letInByAlias (p0_0 : Fn) (p0_2 : Fn) (p0_3 : Fn) (p1_0 : Blk) (x2 : Int32) (x3 : Int32) (x4 : Int32) : Fn := (f_X1_letInByAlias_L3 p0_2 p0_3 p1_0 x2 x3 x4 4000 (0 : Int32) p0_0)
def f_X0_isOpenedBy (p0_0 : Blk) (x1 : Int32) (x2 : Int32) : Int32 := 
  if (f_X8_isWithin ((p0_0 3) x1.toNatClampNeg) (p0_0 0 1)) = 0 then (0 : Int32)
  else 
   if ((p0_0 4) ((p0_0 3) x1.toNatClampNeg).toNatClampNeg) = x2 then (1 : Int32)
   else (0 : Int32)
def f_X1_letIn_L3 (p0_2 : Fn) (p0_3 : Fn) (p1_0 : Blk) (x2 : Int32) (x3 : Int32) : Nat → Int32 → Fn → Fn × Fn
  | 0, _, p0_0 => (p0_0, p0_2)
  | n + 1, x4, p0_0 => 
    if (p1_0 0 1) ≤ x4 then (p0_0, (upd p0_2 x2.toNatClampNeg (vp_nar .boolean (1 : Int32))))
    else 
     if ((p1_0 4) x4.toNatClampNeg) = x2 then ((f_X1_letIn_L3 p0_2 p0_3 p1_0 x2 x3 n) (x4 + (1 : Int32)) (f_X1_putBits p0_0 p1_0 x4 (f_X1_bitsAfter p0_0 p0_2 x2 x3 (p0_3 x4.toNatClampNeg))))
     else ((f_X1_letIn_L3 p0_2 p0_3 p1_0 x2 x3 n) (x4 + (1 : Int32)) p0_0)
def f_X1_letIn (p0_0 : Fn) (p0_2 : Fn) (p0_3 : Fn) (p1_0 : Blk) (x2 : Int32) (x3 : Int32) : Fn × Fn := (f_X1_letIn_L3 p0_2 p0_3 p1_0 x2 x3 4000 (0 : Int32) p0_0)
def f_X1_openGates_J80 (p0_1 : Fn) (x4 : Int32) (k3 : Int32 → Fn → Fn → Fn → (Fn × Fn × Fn)) (p0_0 : Fn) (p0_2 : Fn) : Fn × Fn × Fn := (k3 (x4 + (1 : Int32)) p0_0 (upd p0_1 x4.toNatClampNeg (-9 : Int32)) p0_2)
def f_X1_openGates_L3 (p0_3 : Fn) (p1_0 : Blk) (x2 : Int32) (x3 : Int32) : Nat → Int32 → Fn → Fn → Fn → Fn × Fn × Fn
  | 0, _, p0_0, p0_1, p0_2 => (p0_0, p0_1, p0_2)
  | n + 1, x4, p0_0, p0_1, p0_2 => 
    if (p1_0 0 0) ≤ x4 then (p0_0, p0_1, p0_2)
    else 
     if (p0_1 x4.toNatClampNeg) = (-9 : Int32) then ((f_X1_openGates_L3 p0_3 p1_0 x2 x3 n) (x4 + (1 : Int32)) p0_0 p0_1 p0_2)
     else 
      if (f_X0_isOpenedBy p1_0 x4 x2) = 0 then ((f_X1_openGates_L3 p0_3 p1_0 x2 x3 n) (x4 + (1 : Int32)) p0_0 p0_1 p0_2)
      else 
       if ((x3 >>> (((p1_0 6) ((p1_0 3) x4.toNatClampNeg).toNatClampNeg) &&& 31)) &&& (1 : Int32)) = 0 then ((f_X1_openGates_L3 p0_3 p1_0 x2 x3 n) (x4 + (1 : Int32)) p0_0 p0_1 p0_2)
       else 
        if (f_X1_isLocked p0_0 p1_0 x4) = 0 then (f_X1_openGates_J80 p0_1 x4 (f_X1_openGates_L3 p0_3 p1_0 x2 x3 n) ((f_X1_letIn p0_0 p0_2 p0_3 p1_0 x4 (p0_1 x4.toNatClampNeg)).1) ((f_X1_letIn p0_0 p0_2 p0_3 p1_0 x4 (p0_1 x4.toNatClampNeg)).2))
        else (f_X1_openGates_J80 p0_1 x4 (f_X1_openGates_L3 p0_3 p1_0 x2 x3 n) p0_0 p0_2)
def f_X1_openGates (p0_0 : Fn) (p0_1 : Fn) (p0_2 : Fn) (p0_3 : Fn) (p1_0 : Blk) (x2 : Int32) (x3 : Int32) : Fn × Fn × Fn := (f_X1_openGates_L3 p0_3 p1_0 x2 x3 4000 (0 : Int32) p0_0 p0_1 p0_2)
def f_X1_write_C97 (p0_0 : Fn) (p0_1 : Fn) (p0_2 : Fn) : Fn × Fn × Fn := (p0_0, p0_1, p0_2)
def f_X1_write_J89 (p0_1 : Fn) (p0_3 : Fn) (p1_0 : Blk) (x3 : Int32) (x4 : Int32) (p0_0 : Fn) (p0_2 : Fn) : Fn × Fn × Fn := (f_X1_write_C97 ((f_X1_openGates p0_0 p0_1 p0_2 p0_3 p1_0 x4 x3).1) ((f_X1_openGates p0_0 p0_1 p0_2 p0_3 p1_0 x4 x3).2.1) ((f_X1_openGates p0_0 p0_1 p0_2 p0_3 p1_0 x4 x3).2.2))
def f_X1_write_C77 (p0_1 : Fn) (p0_3 : Fn) (p1_0 : Blk) (x3 : Int32) (x4 : Int32) (p0_0 : Fn) (p0_2 : Fn) : Fn × Fn × Fn := (f_X1_write_J89 p0_1 p0_3 p1_0 x3 x4 p0_0 p0_2)
def f_X1_write (p0_0 : Fn) (p0_1 : Fn) (p0_2 : Fn) (p0_3 : Fn) (p1_0 : Blk) (x2 : Int32) (x3 : Int32) : Fn × Fn × Fn := 
  if (f_X0_registerBehind p1_0 x2) = (-9 : Int32) then (p0_0, p0_1, p0_2)
  else 
   if (f_X1_isLocked p0_0 p1_0 (f_X0_registerBehind p1_0 x2)) = 0 then 
    if (f_X0_aliasAt p1_0 x2) = (-9 : Int32) then 
     if ((p1_0 3) (f_X0_registerBehind p1_0 x2).toNatClampNeg) = (-9 : Int32) then (f_X1_write_C77 p0_1 p0_3 p1_0 x3 (f_X0_registerBehind p1_0 x2) ((f_X1_letIn p0_0 p0_2 p0_3 p1_0 (f_X0_registerBehind p1_0 x2) x3).1) ((f_X1_letIn p0_0 p0_2 p0_3 p1_0 (f_X0_registerBehind p1_0 x2) x3).2))
     else (p0_0, (upd p0_1 (f_X0_registerBehind p1_0 x2).toNatClampNeg x3), p0_2)
    else (f_X1_write_J89 p0_1 p0_3 p1_0 x3 (f_X0_registerBehind p1_0 x2) (f_X1_letInByAlias p0_0 p0_2 p0_3 p1_0 (f_X0_registerBehind p1_0 x2) x3 ((p1_0 12) (f_X0_aliasAt p1_0 x2).toNatClampNeg)) p0_2)
   else (p0_0, p0_1, p0_2)
def f_X5_performWrite_C30 (p0d_0 : Fn) (p0d_1 : Fn) (p0d_2 : Fn) (p0m_0 : Fn) (p0m_1 : Fn) (p0m_2 : Fn) (p0j_0 : Int32) (p0j_1 : Fn) (p0j_2 : Fn) (p0j_3 : Fn) : Fn × Fn × Fn × Fn × Fn × Fn × Int32 × Fn × Fn × Fn := (p0d_0, p0d_1, p0d_2, p0m_0, p0m_1, p0m_2, p0j_0, p0j_1, p0j_2, p0j_3)
def f_X5_performWrite_C20 (p0d_0 : Fn) (p0d_1 : Fn) (p0d_2 : Fn) (p0j_0 : Int32) (p0j_1 : Fn) (p0j_2 : Fn) (p0j_3 : Fn) (x2 : Int32) (x3 : Int32) (p0m_0 : Fn) (p0m_1 : Fn) (p0m_2 : Fn) : Fn × Fn × Fn × Fn × Fn × Fn × Int32 × Fn × Fn × Fn := (f_X5_performWrite_C30 p0d_0 p0d_1 p0d_2 p0m_0 p0m_1 p0m_2 ((f_X3_append p0j_0 p0j_1 p0j_2 p0j_3 x2 (1 : Int32) x3).1) ((f_X3_append p0j_0 p0j_1 p0j_2 p0j_3 x2 (1 : Int32) x3).2.1) ((f_X3_append p0j_0 p0j_1 p0j_2 p0j_3 x2 (1 : Int32) x3).2.2.1) ((f_X3_append p0j_0 p0j_1 p0j_2 p0j_3 x2 (1 : Int32) x3).2.2.2))
def f_X5_performWrite_C10 (p0m_0 : Fn) (p0m_1 : Fn) (p0m_2 : Fn) (p0m_3 : Fn) (p0j_0 : Int32) (p0j_1 : Fn) (p0j_2 : Fn) (p0j_3 : Fn) (p1_0 : Blk) (x2 : Int32) (x3 : Int32) (p0d_0 : Fn) (p0d_1 : Fn) (p0d_2 : Fn) : Fn × Fn × Fn × Fn × Fn × Fn × Int32 × Fn × Fn × Fn := (f_X5_performWrite_C20 p0d_0 p0d_1 p0d_2 p0j_0 p0j_1 p0j_2 p0j_3 x2 x3 ((f_X1_write p0m_0 p0m_1 p0m_2 p0m_3 p1_0 x2 x3).1) ((f_X1_write p0m_0 p0m_1 p0m_2 p0m_3 p1_0 x2 x3).2.1) ((f_X1_write p0m_0 p0m_1 p0m_2 p0m_3 p1_0 x2 x3).2.2))
def f_X5_performWrite (p0d_0 : Fn) (p0d_1 : Fn) (p0d_2 : Fn) (p0d_3 : Fn) (p0m_0 : Fn) (p0m_1 : Fn) (p0m_2 : Fn) (p0m_3 : Fn) (p0j_0 : Int32) (p0j_1 : Fn) (p0j_2 : Fn) (p0j_3 : Fn) (p1_0 : Blk) (x2 : Int32) (x3 : Int32) : Fn × Fn × Fn × Fn × Fn × Fn × Int32 × Fn × Fn × Fn := (f_X5_performWrite_C10 p0m_0 p0m_1 p0m_2 p0m_3 p0j_0 p0j_1 p0j_2 p0j_3 p1_0 x2 x3 ((f_X1_write p0d_0 p0d_1 p0d_2 p0d_3 p1_0 x2 x3).1) ((f_X1_write p0d_0 p0d_1 p0d_2 p0d_3 p1_0 x2 x3).2.1) ((f_X1_write p0d_0 p0d_1 p0d_2 p0d_3 p1_0 x2 x3).2.2))
def f_X0_greatestValue (p0_0 : Blk) (x1 : Int32) : Int32 := (((p0_0 8) x1.toNatClampNeg) >>> (((p0_0 6) x1.toNatClampNeg) &&& 31))
def f_X0_canHold (p0_0 : Blk) (x1 : Int32) (x2 : Int32) : Int32 := 
  if (f_X8_isWithin x1 (p0_0 0 1)) = 0 then (0 : Int32)
  else 
   if x2 < 0 then (0 : Int32)
   else 
    if (f_X0_greatestValue p0_0 x1) < x2 then (0 : Int32)
    else (1 : Int32)
def f_X1_mend (p0_3 : Fn) (p1_0 : Blk) : Fn := (va_cpy (p1_0 5) p0_3 0 0 12)
def f_X3_agreesWith_C36 (x3 : Int32) (k2 : Int32 → Fn → Fn → Fn → (Int32 × Fn × Fn × Fn)) (p1_0 : Fn) (p1_1 : Fn) (p1_2 : Fn) : Int32 × Fn × Fn × Fn := (k2 (x3 + (1 : Int32)) p1_0 p1_1 p1_2)
def f_X3_agreesWith_C50 (p0_3 : Fn) (p1_1 : Fn) (p1_2 : Fn) (x3 : Int32) (k2 : Int32 → Fn → Fn → Fn → (Int32 × Fn × Fn × Fn)) (s0 : Int32) (p1_0 : Fn) : Int32 × Fn × Fn × Fn := 
    if s0 = (p0_3 x3.toNatClampNeg) then (k2 (x3 + (1 : Int32)) p1_0 p1_1 p1_2)
    else ((0 : Int32), p1_0, p1_1, p1_2)
def f_X3_agreesWith_L2 (p0_0 : Int32) (p0_1 : Fn) (p0_2 : Fn) (p0_3 : Fn) (p1_3 : Fn) (p2_0 : Blk) : Nat → Int32 → Fn → Fn → Fn → Int32 × Fn × Fn × Fn
  | 0, _, p1_0, p1_1, p1_2 => (0, p1_0, p1_1, p1_2)
  | n + 1, x3, p1_0, p1_1, p1_2 => 
    if p0_0 ≤ x3 then ((1 : Int32), p1_0, p1_1, p1_2)
    else 
     if (p0_2 x3.toNatClampNeg) = 0 then (f_X3_agreesWith_C50 p0_3 p1_1 p1_2 x3 (f_X3_agreesWith_L2 p0_0 p0_1 p0_2 p0_3 p1_3 p2_0 n) (f_X1_read p1_0 p1_3 p2_0 (p0_1 x3.toNatClampNeg)).1 ((f_X1_read p1_0 p1_3 p2_0 (p0_1 x3.toNatClampNeg)).2))
     else (f_X3_agreesWith_C36 x3 (f_X3_agreesWith_L2 p0_0 p0_1 p0_2 p0_3 p1_3 p2_0 n) ((f_X1_write p1_0 p1_1 p1_2 p1_3 p2_0 (p0_1 x3.toNatClampNeg) (p0_3 x3.toNatClampNeg)).1) ((f_X1_write p1_0 p1_1 p1_2 p1_3 p2_0 (p0_1 x3.toNatClampNeg) (p0_3 x3.toNatClampNeg)).2.1) ((f_X1_write p1_0 p1_1 p1_2 p1_3 p2_0 (p0_1 x3.toNatClampNeg) (p0_3 x3.toNatClampNeg)).2.2))
def f_X3_agreesWith (p0_0 : Int32) (p0_1 : Fn) (p0_2 : Fn) (p0_3 : Fn) (p1_0 : Fn) (p1_1 : Fn) (p1_2 : Fn) (p1_3 : Fn) (p2_0 : Blk) : Int32 × Fn × Fn × Fn := (f_X3_agreesWith_L2 p0_0 p0_1 p0_2 p0_3 p1_3 p2_0 4000 (0 : Int32) p1_0 p1_1 p1_2)
def f_X0_holdersOf_L33 (p0_0 : Blk) (x1 : Int32) : Nat → Int32 → Int32 → Int32
  | 0, _, _ => 0
  | n + 1, x2, x3 => 
    if (p0_0 0 2) ≤ x3 then x2
    else 
     if ((p0_0 10) x3.toNatClampNeg) = x1 then ((f_X0_holdersOf_L33 p0_0 x1 n) (x2 + (1 : Int32)) (x3 + (1 : Int32)))
     else ((f_X0_holdersOf_L33 p0_0 x1 n) x2 (x3 + (1 : Int32)))
def f_X0_holdersOf_L4 (p0_0 : Blk) (x1 : Int32) : Nat → Int32 → Int32 → Int32
  | 0, _, _ => 0
  | n + 1, x2, x3 => 
    if (p0_0 0 0) ≤ x3 then (f_X0_holdersOf_L33 p0_0 x1 4000 x2 (0 : Int32))
    else 
     if ((p0_0 1) x3.toNatClampNeg) = x1 then ((f_X0_holdersOf_L4 p0_0 x1 n) (x2 + (1 : Int32)) (x3 + (1 : Int32)))
     else ((f_X0_holdersOf_L4 p0_0 x1 n) x2 (x3 + (1 : Int32)))
def f_X0_holdersOf (p0_0 : Blk) (x1 : Int32) : Int32 := (f_X0_holdersOf_L4 p0_0 x1 4000 (0 : Int32) (0 : Int32))
def f_X0_canReach (p0_0 : Blk) (x1 : Int32) (x2 : Int32) : Int32 := 
  if (f_X0_registerBehind p0_0 x1) = (-9 : Int32) then (0 : Int32)
  else 
   if (f_X0_registerBehind p0_0 x1) = ((p0_0 4) x2.toNatClampNeg) then (1 : Int32)
   else 
    if (f_X0_isOpenedBy p0_0 ((p0_0 4) x2.toNatClampNeg) (f_X0_registerBehind p0_0 x1)) = 0 then (0 : Int32)
    else (1 : Int32)
def f_X0_isGate_L2 (p0_0 : Blk) (x1 : Int32) : Nat → Int32 → Int32
  | 0, _ => 0
  | n + 1, x2 => 
    if (p0_0 0 0) ≤ x2 then (0 : Int32)
    else 
     if ((p0_0 3) x2.toNatClampNeg) = x1 then (1 : Int32)
     else ((f_X0_isGate_L2 p0_0 x1 n) (x2 + (1 : Int32)))
def f_X0_isGate (p0_0 : Blk) (x1 : Int32) : Int32 := (f_X0_isGate_L2 p0_0 x1 4000 (0 : Int32))
def f_X0_isLock_L2 (p0_0 : Blk) (x1 : Int32) : Nat → Int32 → Int32
  | 0, _ => 0
  | n + 1, x2 => 
    if (p0_0 0 0) ≤ x2 then (0 : Int32)
    else 
     if ((p0_0 2) x2.toNatClampNeg) = x1 then (1 : Int32)
     else ((f_X0_isLock_L2 p0_0 x1 n) (x2 + (1 : Int32)))
def f_X0_isLock (p0_0 : Blk) (x1 : Int32) : Int32 := (f_X0_isLock_L2 p0_0 x1 4000 (0 : Int32))
def f_X0_plainBits_L4 (p0_0 : Blk) (x1 : Int32) : Nat → Int32 → Int32 → Int32
  | 0, _, _ => 0
  | n + 1, x2, x3 => 
    if (p0_0 0 1) ≤ x3 then x2
    else 
     if ((p0_0 4) x3.toNatClampNeg) = x1 then 
      if ((p0_0 5) x3.toNatClampNeg) = 0 then ((f_X0_plainBits_L4 p0_0 x1 n) (x2 ||| ((p0_0 8) x3.toNatClampNeg)) (x3 + (1 : Int32)))
      else ((f_X0_plainBits_L4 p0_0 x1 n) x2 (x3 + (1 : Int32)))
     else ((f_X0_plainBits_L4 p0_0 x1 n) x2 (x3 + (1 : Int32)))
def f_X0_plainBits (p0_0 : Blk) (x1 : Int32) : Int32 := (f_X0_plainBits_L4 p0_0 x1 4000 (0 : Int32) (0 : Int32))
def f_X1_brokenFields_L4 (p0_3 : Fn) (p1_0 : Blk) : Nat → Int32 → Int32 → Int32
  | 0, _, _ => 0
  | n + 1, x2, x3 => 
    if (p1_0 0 1) ≤ x3 then x2
    else 
     if (p0_3 x3.toNatClampNeg) = ((p1_0 5) x3.toNatClampNeg) then ((f_X1_brokenFields_L4 p0_3 p1_0 n) x2 (x3 + (1 : Int32)))
     else ((f_X1_brokenFields_L4 p0_3 p1_0 n) (x2 + (1 : Int32)) (x3 + (1 : Int32)))
def f_X1_brokenFields (p0_3 : Fn) (p1_0 : Blk) : Int32 := (f_X1_brokenFields_L4 p0_3 p1_0 4000 (0 : Int32) (0 : Int32))
def f_J6_bitCount_0f7a4 (x0 : Int32) : Int32 := ((((((((x0 - ((x0.toUInt32 >>> ((1 : Int32).toUInt32 &&& Int32.toUInt32 31)).toInt32 &&& (1431655765 : Int32))) &&& (858993459 : Int32)) + (((x0 - ((x0.toUInt32 >>> ((1 : Int32).toUInt32 &&& Int32.toUInt32 31)).toInt32 &&& (1431655765 : Int32))).toUInt32 >>> ((2 : Int32).toUInt32 &&& Int32.toUInt32 31)).toInt32 &&& (858993459 : Int32))) + ((((x0 - ((x0.toUInt32 >>> ((1 : Int32).toUInt32 &&& Int32.toUInt32 31)).toInt32 &&& (1431655765 : Int32))) &&& (858993459 : Int32)) + (((x0 - ((x0.toUInt32 >>> ((1 : Int32).toUInt32 &&& Int32.toUInt32 31)).toInt32 &&& (1431655765 : Int32))).toUInt32 >>> ((2 : Int32).toUInt32 &&& Int32.toUInt32 31)).toInt32 &&& (858993459 : Int32))).toUInt32 >>> ((4 : Int32).toUInt32 &&& Int32.toUInt32 31)).toInt32) &&& (252645135 : Int32)) + ((((((x0 - ((x0.toUInt32 >>> ((1 : Int32).toUInt32 &&& Int32.toUInt32 31)).toInt32 &&& (1431655765 : Int32))) &&& (858993459 : Int32)) + (((x0 - ((x0.toUInt32 >>> ((1 : Int32).toUInt32 &&& Int32.toUInt32 31)).toInt32 &&& (1431655765 : Int32))).toUInt32 >>> ((2 : Int32).toUInt32 &&& Int32.toUInt32 31)).toInt32 &&& (858993459 : Int32))) + ((((x0 - ((x0.toUInt32 >>> ((1 : Int32).toUInt32 &&& Int32.toUInt32 31)).toInt32 &&& (1431655765 : Int32))) &&& (858993459 : Int32)) + (((x0 - ((x0.toUInt32 >>> ((1 : Int32).toUInt32 &&& Int32.toUInt32 31)).toInt32 &&& (1431655765 : Int32))).toUInt32 >>> ((2 : Int32).toUInt32 &&& Int32.toUInt32 31)).toInt32 &&& (858993459 : Int32))).toUInt32 >>> ((4 : Int32).toUInt32 &&& Int32.toUInt32 31)).toInt32) &&& (252645135 : Int32)).toUInt32 >>> ((8 : Int32).toUInt32 &&& Int32.toUInt32 31)).toInt32) + (((((((x0 - ((x0.toUInt32 >>> ((1 : Int32).toUInt32 &&& Int32.toUInt32 31)).toInt32 &&& (1431655765 : Int32))) &&& (858993459 : Int32)) + (((x0 - ((x0.toUInt32 >>> ((1 : Int32).toUInt32 &&& Int32.toUInt32 31)).toInt32 &&& (1431655765 : Int32))).toUInt32 >>> ((2 : Int32).toUInt32 &&& Int32.toUInt32 31)).toInt32 &&& (858993459 : Int32))) + ((((x0 - ((x0.toUInt32 >>> ((1 : Int32).toUInt32 &&& Int32.toUInt32 31)).toInt32 &&& (1431655765 : Int32))) &&& (858993459 : Int32)) + (((x0 - ((x0.toUInt32 >>> ((1 : Int32).toUInt32 &&& Int32.toUInt32 31)).toInt32 &&& (1431655765 : Int32))).toUInt32 >>> ((2 : Int32).toUInt32 &&& Int32.toUInt32 31)).toInt32 &&& (858993459 : Int32))).toUInt32 >>> ((4 : Int32).toUInt32 &&& Int32.toUInt32 31)).toInt32) &&& (252645135 : Int32)) + ((((((x0 - ((x0.toUInt32 >>> ((1 : Int32).toUInt32 &&& Int32.toUInt32 31)).toInt32 &&& (1431655765 : Int32))) &&& (858993459 : Int32)) + (((x0 - ((x0.toUInt32 >>> ((1 : Int32).toUInt32 &&& Int32.toUInt32 31)).toInt32 &&& (1431655765 : Int32))).toUInt32 >>> ((2 : Int32).toUInt32 &&& Int32.toUInt32 31)).toInt32 &&& (858993459 : Int32))) + ((((x0 - ((x0.toUInt32 >>> ((1 : Int32).toUInt32 &&& Int32.toUInt32 31)).toInt32 &&& (1431655765 : Int32))) &&& (858993459 : Int32)) + (((x0 - ((x0.toUInt32 >>> ((1 : Int32).toUInt32 &&& Int32.toUInt32 31)).toInt32 &&& (1431655765 : Int32))).toUInt32 >>> ((2 : Int32).toUInt32 &&& Int32.toUInt32 31)).toInt32 &&& (858993459 : Int32))).toUInt32 >>> ((4 : Int32).toUInt32 &&& Int32.toUInt32 31)).toInt32) &&& (252645135 : Int32)).toUInt32 >>> ((8 : Int32).toUInt32 &&& Int32.toUInt32 31)).toInt32).toUInt32 >>> ((16 : Int32).toUInt32 &&& Int32.toUInt32 31)).toInt32) &&& (63 : Int32))
def f_X0_bitsOfFields_L4 (p0_0 : Blk) : Nat → Int32 → Int32 → Int32
  | 0, _, _ => 0
  | n + 1, x1, x2 => 
    if (p0_0 0 1) ≤ x2 then x1
    else ((f_X0_bitsOfFields_L4 p0_0 n) (x1 + (f_J6_bitCount_0f7a4 ((p0_0 8) x2.toNatClampNeg))) (x2 + (1 : Int32)))
def f_X0_bitsOfFields (p0_0 : Blk) : Int32 := (f_X0_bitsOfFields_L4 p0_0 4000 (0 : Int32) (0 : Int32))
def f_X9_in (x0 : Int32) (x1 : Int32) (x2 : Int32) : Int32 := 
  if x0 < x1 then (0 : Int32)
  else 
   if x2 < x0 then (0 : Int32)
   else (1 : Int32)
def f_X9_fields (p0_0 : Fn) : Int32 := (p0_0 (91 : Int32).toNatClampNeg)
def f_X9_registers (p0_0 : Fn) : Int32 := (p0_0 (90 : Int32).toNatClampNeg)
def f_X9_isField (p0_0 : Fn) (x1 : Int32) : Int32 := (f_X9_in x1 (0 : Int32) ((f_X9_fields p0_0) - (1 : Int32)))
def f_X9_isRegister (p0_0 : Fn) (x1 : Int32) : Int32 := (f_X9_in x1 (0 : Int32) ((f_X9_registers p0_0) - (1 : Int32)))
def f_X9_most (p0_0 : Fn) (x1 : Int32) : Int32 := (((1 : Int32) <<< ((((p0_0 ((42 : Int32) + x1).toNatClampNeg) - (p0_0 ((30 : Int32) + x1).toNatClampNeg)) + (1 : Int32)) &&& 31)) - (1 : Int32))
def f_X9_bitsOf (p0_0 : Fn) (x1 : Int32) : Int32 := ((f_X9_most p0_0 x1) <<< ((p0_0 ((30 : Int32) + x1).toNatClampNeg) &&& 31))
def f_X9_reset_L45 (x1 : Int32) : Nat → Int32 → Fn → Fn
  | 0, _, p0_2 => p0_2
  | n + 1, x2, p0_2 => 
    if (6 : Int32) ≤ x2 then p0_2
    else ((f_X9_reset_L45 x1 n) (x2 + (1 : Int32)) (upd (upd p0_2 ((x1 + (24 : Int32)) + x2).toNatClampNeg (-9 : Int32)) ((x1 + (30 : Int32)) + x2).toNatClampNeg (0 : Int32)))
def f_X9_reset_L2 (p0_0 : Fn) (x1 : Int32) : Nat → Int32 → Fn → Fn
  | 0, _, p0_2 => p0_2
  | n + 1, x2, p0_2 => 
    if (12 : Int32) ≤ x2 then (f_X9_reset_L45 x1 4000 (0 : Int32) p0_2)
    else 
     if (f_X9_fields p0_0) ≤ x2 then ((f_X9_reset_L2 p0_0 x1 n) (x2 + (1 : Int32)) (upd p0_2 (x1 + x2).toNatClampNeg (0 : Int32)))
     else ((f_X9_reset_L2 p0_0 x1 n) (x2 + (1 : Int32)) (upd p0_2 (x1 + x2).toNatClampNeg (p0_0 ((66 : Int32) + x2).toNatClampNeg)))
def f_X9_reset (p0_0 : Fn) (p0_2 : Fn) (x1 : Int32) : Fn := (f_X9_reset_L2 p0_0 x1 4000 (0 : Int32) p0_2)
def f_X9_repair_L2 (p0_0 : Fn) (x1 : Int32) : Nat → Int32 → Fn → Fn
  | 0, _, p0_2 => p0_2
  | n + 1, x2, p0_2 => 
    if (12 : Int32) ≤ x2 then p0_2
    else 
     if (f_X9_fields p0_0) ≤ x2 then ((f_X9_repair_L2 p0_0 x1 n) (x2 + (1 : Int32)) (upd p0_2 ((x1 + (12 : Int32)) + x2).toNatClampNeg (0 : Int32)))
     else ((f_X9_repair_L2 p0_0 x1 n) (x2 + (1 : Int32)) (upd p0_2 ((x1 + (12 : Int32)) + x2).toNatClampNeg (p0_0 ((54 : Int32) + x2).toNatClampNeg)))
def f_X9_repair (p0_0 : Fn) (p0_2 : Fn) (x1 : Int32) : Fn := (f_X9_repair_L2 p0_0 x1 4000 (0 : Int32) p0_2)
def f_X9_emptyLog (p0_2 : Fn) : Fn := (upd (upd (upd p0_2 (72 : Int32).toNatClampNeg (0 : Int32)) (133 : Int32).toNatClampNeg (0 : Int32)) (134 : Int32).toNatClampNeg (-9 : Int32))
def f_X9_begin (p0_0 : Fn) (p0_2 : Fn) (p0_6 : Fn) : Fn × Int32 × Fn := ((f_X9_emptyLog (f_X9_reset p0_0 (f_X9_reset p0_0 (f_X9_repair p0_0 (f_X9_repair p0_0 p0_2 (0 : Int32)) (36 : Int32)) (0 : Int32)) (36 : Int32))), (0 : Int32), (upd (upd p0_6 (0 : Int32).toNatClampNeg (vp_nar .boolean (0 : Int32))) (1 : Int32).toNatClampNeg (vp_nar .boolean (0 : Int32))))
def f_X9_isLocked (p0_0 : Fn) (p0_2 : Fn) (x1 : Int32) (x2 : Int32) : Int32 := 
  if (p0_0 ((6 : Int32) + x2).toNatClampNeg) = (-9 : Int32) then (0 : Int32)
  else 
   if (p0_2 (x1 + (p0_0 ((6 : Int32) + x2).toNatClampNeg)).toNatClampNeg) = 0 then (0 : Int32)
   else (1 : Int32)
def f_X9_goesTo_L32 (p0_0 : Fn) (x1 : Int32) : Nat → Int32 → Int32
  | 0, _ => 0
  | n + 1, x2 => 
    if (p0_0 (92 : Int32).toNatClampNeg) ≤ x2 then (-9 : Int32)
    else 
     if (p0_0 ((78 : Int32) + x2).toNatClampNeg) = x1 then ((100 : Int32) + x2)
     else ((f_X9_goesTo_L32 p0_0 x1 n) (x2 + (1 : Int32)))
def f_X9_goesTo_L2 (p0_0 : Fn) (x1 : Int32) : Nat → Int32 → Int32
  | 0, _ => 0
  | n + 1, x2 => 
    if (f_X9_registers p0_0) ≤ x2 then (f_X9_goesTo_L32 p0_0 x1 4000 (0 : Int32))
    else 
     if (p0_0 ((0 : Int32) + x2).toNatClampNeg) = x1 then x2
     else ((f_X9_goesTo_L2 p0_0 x1 n) (x2 + (1 : Int32)))
def f_X9_goesTo (p0_0 : Fn) (x1 : Int32) : Int32 := (f_X9_goesTo_L2 p0_0 x1 4000 (0 : Int32))
def f_X9_registerOf (p0_0 : Fn) (x1 : Int32) : Int32 := 
  if (100 : Int32) ≤ x1 then (p0_0 (((82 : Int32) + x1) - (100 : Int32)).toNatClampNeg)
  else x1
def f_X9_tellsOf_L5 (p0_0 : Fn) (p0_2 : Fn) (x1 : Int32) (x2 : Int32) : Nat → Int32 → Int32 → Int32
  | 0, _, _ => 0
  | n + 1, x3, x4 => 
    if (f_X9_fields p0_0) ≤ x4 then x3
    else 
     if (p0_0 ((18 : Int32) + x4).toNatClampNeg) = x2 then 
      if (p0_2 ((x1 + (12 : Int32)) + x4).toNatClampNeg) = (2 : Int32) then ((f_X9_tellsOf_L5 p0_0 p0_2 x1 x2 n) x3 (x4 + (1 : Int32)))
      else ((f_X9_tellsOf_L5 p0_0 p0_2 x1 x2 n) (x3 ||| ((p0_2 (x1 + x4).toNatClampNeg) <<< ((p0_0 ((30 : Int32) + x4).toNatClampNeg) &&& 31))) (x4 + (1 : Int32)))
     else ((f_X9_tellsOf_L5 p0_0 p0_2 x1 x2 n) x3 (x4 + (1 : Int32)))
def f_X9_tellsOf (p0_0 : Fn) (p0_2 : Fn) (x1 : Int32) (x2 : Int32) : Int32 := (f_X9_tellsOf_L5 p0_0 p0_2 x1 x2 4000 (0 : Int32) (0 : Int32))
def f_X9_peekAt (p0_0 : Fn) (p0_2 : Fn) (x1 : Int32) (x2 : Int32) : Int32 := 
  if (f_X9_goesTo p0_0 x2) = (-9 : Int32) then (0 : Int32)
  else (f_X9_tellsOf p0_0 p0_2 x1 (f_X9_registerOf p0_0 (f_X9_goesTo p0_0 x2)))
def f_X9_clearRead_L2 (p0_0 : Fn) (x1 : Int32) (x2 : Int32) : Nat → Int32 → Fn → Fn
  | 0, _, p0_2 => p0_2
  | n + 1, x3, p0_2 => 
    if (f_X9_fields p0_0) ≤ x3 then p0_2
    else 
     if (100 : Int32) ≤ x2 then p0_2
     else 
      if (p0_0 ((18 : Int32) + x3).toNatClampNeg) = x2 then 
       if (p0_2 ((x1 + (12 : Int32)) + x3).toNatClampNeg) = (6 : Int32) then ((f_X9_clearRead_L2 p0_0 x1 x2 n) (x3 + (1 : Int32)) (upd p0_2 (x1 + x3).toNatClampNeg (0 : Int32)))
       else ((f_X9_clearRead_L2 p0_0 x1 x2 n) (x3 + (1 : Int32)) p0_2)
      else ((f_X9_clearRead_L2 p0_0 x1 x2 n) (x3 + (1 : Int32)) p0_2)
def f_X9_clearRead (p0_0 : Fn) (p0_2 : Fn) (x1 : Int32) (x2 : Int32) : Fn := (f_X9_clearRead_L2 p0_0 x1 x2 4000 (0 : Int32) p0_2)
def f_X9_readOf (p0_0 : Fn) (p0_2 : Fn) (x1 : Int32) (x2 : Int32) : Int32 × Fn := 
  if (f_X9_goesTo p0_0 x2) = (-9 : Int32) then ((f_X9_peekAt p0_0 p0_2 x1 x2), p0_2)
  else ((f_X9_peekAt p0_0 p0_2 x1 x2), (f_X9_clearRead p0_0 p0_2 x1 (f_X9_goesTo p0_0 x2)))
def f_X9_by (x0 : Int32) (x1 : Int32) (x2 : Int32) (x3 : Int32) : Int32 := 
  if x0 = (0 : Int32) then x2
  else 
   if x0 = (1 : Int32) then x1
   else 
    if x0 = (2 : Int32) then x2
    else 
     if x0 = (3 : Int32) then (x1 &&& (x2 ^^^ (-1 : Int32)))
     else 
      if x0 = (4 : Int32) then (x1 ||| x2)
      else 
       if x0 = (5 : Int32) then (x1 ^^^ x2)
       else 
        if x0 = (6 : Int32) then x1
        else 
         if x0 = (7 : Int32) then 
          if x3 = 0 then x1
          else x2
         else x1
def f_X9_letIn_J138 (p0_2 : Fn) (s1 : Int32) (s2 : Int32) (s3 : Int32) (s4 : Int32) (x5 : Int32) (k3 : Int32 → Fn → Fn) (s5 : Int32) : Fn := (k3 (x5 + (1 : Int32)) (upd p0_2 s1.toNatClampNeg (f_X9_by s2 s3 s4 s5)))
def f_X9_letIn_J108 (p0_2 : Fn) (s1 : Int32) (x1 : Int32) (x2 : Int32) (x5 : Int32) (x7 : Int32) (k3 : Int32 → Fn → Fn) (s2 : Int32) : Fn := 
    if (p0_2 ((x1 + (30 : Int32)) + x2).toNatClampNeg) = 0 then (f_X9_letIn_J138 p0_2 s1 s2 (p0_2 (x1 + x5).toNatClampNeg) x7 x5 k3 (1 : Int32))
    else (f_X9_letIn_J138 p0_2 s1 s2 (p0_2 (x1 + x5).toNatClampNeg) x7 x5 k3 (0 : Int32))
def f_X9_letIn_J86 (p0_2 : Fn) (x1 : Int32) (x2 : Int32) (x4 : Int32) (x5 : Int32) (x6 : Int32) (x7 : Int32) (k3 : Int32 → Fn → Fn) (s0 : Int32) : Fn := 
    if s0 = 0 then (f_X9_letIn_J108 p0_2 (x1 + x5) x1 x2 x5 x7 k3 x4)
    else (f_X9_letIn_J108 p0_2 (x1 + x5) x1 x2 x5 x7 k3 x6)
def f_X9_letIn_J81 (p0_2 : Fn) (x1 : Int32) (x2 : Int32) (x4 : Int32) (x5 : Int32) (x6 : Int32) (x7 : Int32) (k3 : Int32 → Fn → Fn) : Fn := (f_X9_letIn_J86 p0_2 x1 x2 x4 x5 x6 x7 k3 (1 : Int32))
def f_X9_letIn_L3 (p0_0 : Fn) (x1 : Int32) (x2 : Int32) (x3 : Int32) (x4 : Int32) : Nat → Int32 → Fn → Fn
  | 0, _, p0_2 => p0_2
  | n + 1, x5, p0_2 => 
    if (f_X9_fields p0_0) ≤ x5 then 
     if x4 = (-9 : Int32) then (upd p0_2 ((x1 + (30 : Int32)) + x2).toNatClampNeg (1 : Int32))
     else p0_2
    else 
     if (p0_0 ((18 : Int32) + x5).toNatClampNeg) = x2 then 
      if x4 = (-9 : Int32) then (f_X9_letIn_J81 p0_2 x1 x2 x4 x5 (p0_2 ((x1 + (12 : Int32)) + x5).toNatClampNeg) ((x3 >>> ((p0_0 ((30 : Int32) + x5).toNatClampNeg) &&& 31)) &&& (f_X9_most p0_0 x5)) (f_X9_letIn_L3 p0_0 x1 x2 x3 x4 n))
      else 
       if (p0_2 ((x1 + (12 : Int32)) + x5).toNatClampNeg) = (1 : Int32) then (f_X9_letIn_J81 p0_2 x1 x2 x4 x5 (p0_2 ((x1 + (12 : Int32)) + x5).toNatClampNeg) ((x3 >>> ((p0_0 ((30 : Int32) + x5).toNatClampNeg) &&& 31)) &&& (f_X9_most p0_0 x5)) (f_X9_letIn_L3 p0_0 x1 x2 x3 x4 n))
       else 
        if (p0_2 ((x1 + (12 : Int32)) + x5).toNatClampNeg) = (6 : Int32) then (f_X9_letIn_J81 p0_2 x1 x2 x4 x5 (p0_2 ((x1 + (12 : Int32)) + x5).toNatClampNeg) ((x3 >>> ((p0_0 ((30 : Int32) + x5).toNatClampNeg) &&& 31)) &&& (f_X9_most p0_0 x5)) (f_X9_letIn_L3 p0_0 x1 x2 x3 x4 n))
        else (f_X9_letIn_J86 p0_2 x1 x2 x4 x5 (p0_2 ((x1 + (12 : Int32)) + x5).toNatClampNeg) ((x3 >>> ((p0_0 ((30 : Int32) + x5).toNatClampNeg) &&& 31)) &&& (f_X9_most p0_0 x5)) (f_X9_letIn_L3 p0_0 x1 x2 x3 x4 n) (0 : Int32))
     else ((f_X9_letIn_L3 p0_0 x1 x2 x3 x4 n) (x5 + (1 : Int32)) p0_2)
def f_X9_letIn (p0_0 : Fn) (p0_2 : Fn) (x1 : Int32) (x2 : Int32) (x3 : Int32) (x4 : Int32) : Fn := (f_X9_letIn_L3 p0_0 x1 x2 x3 x4 4000 (0 : Int32) p0_2)
def f_X9_openGates_J105 (x1 : Int32) (x4 : Int32) (k3 : Int32 → Fn → Fn) (p0_2 : Fn) : Fn := (k3 (x4 + (1 : Int32)) (upd p0_2 ((x1 + (24 : Int32)) + x4).toNatClampNeg (-9 : Int32)))
def f_X9_openGates_L3 (p0_0 : Fn) (x1 : Int32) (x2 : Int32) (x3 : Int32) : Nat → Int32 → Fn → Fn
  | 0, _, p0_2 => p0_2
  | n + 1, x4, p0_2 => 
    if (f_X9_registers p0_0) ≤ x4 then p0_2
    else 
     if (p0_0 ((12 : Int32) + x4).toNatClampNeg) = (-9 : Int32) then ((f_X9_openGates_L3 p0_0 x1 x2 x3 n) (x4 + (1 : Int32)) p0_2)
     else 
      if (p0_0 ((18 : Int32) + (p0_0 ((12 : Int32) + x4).toNatClampNeg)).toNatClampNeg) = x2 then 
       if (p0_2 ((x1 + (24 : Int32)) + x4).toNatClampNeg) = (-9 : Int32) then ((f_X9_openGates_L3 p0_0 x1 x2 x3 n) (x4 + (1 : Int32)) p0_2)
       else 
        if ((x3 >>> ((p0_0 ((30 : Int32) + (p0_0 ((12 : Int32) + x4).toNatClampNeg)).toNatClampNeg) &&& 31)) &&& (1 : Int32)) = (1 : Int32) then 
         if (f_X9_isLocked p0_0 p0_2 x1 x4) = 0 then (f_X9_openGates_J105 x1 x4 (f_X9_openGates_L3 p0_0 x1 x2 x3 n) (f_X9_letIn p0_0 p0_2 x1 x4 (p0_2 ((x1 + (24 : Int32)) + x4).toNatClampNeg) (-9 : Int32)))
         else (f_X9_openGates_J105 x1 x4 (f_X9_openGates_L3 p0_0 x1 x2 x3 n) p0_2)
        else ((f_X9_openGates_L3 p0_0 x1 x2 x3 n) (x4 + (1 : Int32)) p0_2)
      else ((f_X9_openGates_L3 p0_0 x1 x2 x3 n) (x4 + (1 : Int32)) p0_2)
def f_X9_openGates (p0_0 : Fn) (p0_2 : Fn) (x1 : Int32) (x2 : Int32) (x3 : Int32) : Fn := (f_X9_openGates_L3 p0_0 x1 x2 x3 4000 (0 : Int32) p0_2)
def f_X9_writeTo_J103 (p0_0 : Fn) (p0_2 : Fn) (s1 : Int32) (s2 : Int32) (s3 : Int32) (x1 : Int32) (x3 : Int32) (x5 : Int32) (s4 : Int32) : Fn := (f_X9_openGates p0_0 (f_X9_letIn p0_0 p0_2 s1 s2 s3 s4) x1 x5 x3)
def f_X9_writeTo_J73 (p0_0 : Fn) (p0_2 : Fn) (x1 : Int32) (x3 : Int32) (x4 : Int32) (x5 : Int32) : Fn := 
    if (100 : Int32) ≤ x4 then (f_X9_writeTo_J103 p0_0 p0_2 x1 x5 x3 x1 x3 x5 (p0_0 (((86 : Int32) + x4) - (100 : Int32)).toNatClampNeg))
    else (f_X9_writeTo_J103 p0_0 p0_2 x1 x5 x3 x1 x3 x5 (-9 : Int32))
def f_X9_writeTo (p0_0 : Fn) (p0_2 : Fn) (x1 : Int32) (x2 : Int32) (x3 : Int32) : Fn := 
  if (f_X9_goesTo p0_0 x2) = (-9 : Int32) then p0_2
  else 
   if (f_X9_isLocked p0_0 p0_2 x1 (f_X9_registerOf p0_0 (f_X9_goesTo p0_0 x2))) = 0 then 
    if (100 : Int32) ≤ (f_X9_goesTo p0_0 x2) then (f_X9_writeTo_J73 p0_0 p0_2 x1 x3 (f_X9_goesTo p0_0 x2) (f_X9_registerOf p0_0 (f_X9_goesTo p0_0 x2)))
    else 
     if (p0_0 ((12 : Int32) + (f_X9_registerOf p0_0 (f_X9_goesTo p0_0 x2))).toNatClampNeg) = (-9 : Int32) then (f_X9_writeTo_J73 p0_0 p0_2 x1 x3 (f_X9_goesTo p0_0 x2) (f_X9_registerOf p0_0 (f_X9_goesTo p0_0 x2)))
     else (upd p0_2 ((x1 + (24 : Int32)) + (f_X9_registerOf p0_0 (f_X9_goesTo p0_0 x2))).toNatClampNeg x3)
   else p0_2
def f_X9_copyMachine_L2 (x1 : Int32) (x2 : Int32) : Nat → Int32 → Fn → Fn
  | 0, _, p0_2 => p0_2
  | n + 1, x3, p0_2 => 
    if (36 : Int32) ≤ x3 then p0_2
    else ((f_X9_copyMachine_L2 x1 x2 n) (x3 + (1 : Int32)) (upd p0_2 (x2 + x3).toNatClampNeg (p0_2 (x1 + x3).toNatClampNeg)))
def f_X9_copyMachine (p0_2 : Fn) (x1 : Int32) (x2 : Int32) : Fn := (f_X9_copyMachine_L2 x1 x2 4000 (0 : Int32) p0_2)
def f_X9_otherFields_L5 (p0_0 : Fn) (p0_2 : Fn) (x1 : Int32) (x2 : Int32) : Nat → Int32 → Int32 → Int32
  | 0, _, _ => 0
  | n + 1, x3, x4 => 
    if (f_X9_fields p0_0) ≤ x4 then x3
    else 
     if (p0_2 (x1 + x4).toNatClampNeg) = (p0_2 (x2 + x4).toNatClampNeg) then ((f_X9_otherFields_L5 p0_0 p0_2 x1 x2 n) (x3 ||| (0 : Int32)) (x4 + (1 : Int32)))
     else ((f_X9_otherFields_L5 p0_0 p0_2 x1 x2 n) (x3 ||| ((1 : Int32) <<< (x4 &&& 31))) (x4 + (1 : Int32)))
def f_X9_otherFields (p0_0 : Fn) (p0_2 : Fn) (x1 : Int32) (x2 : Int32) : Int32 := (f_X9_otherFields_L5 p0_0 p0_2 x1 x2 4000 (0 : Int32) (0 : Int32))
def f_X9_note_L52 (p0_2 : Fn) (p0_4 : Int32) : Nat → Int32 → Fn → Fn × Int32
  | 0, _, p0_3 => (p0_3, p0_4)
  | n + 1, x1, p0_3 => 
    if (135 : Int32) ≤ x1 then (p0_3, (p0_4 + (1 : Int32)))
    else ((f_X9_note_L52 p0_2 p0_4 n) (x1 + (1 : Int32)) (upd p0_3 (((135 : Int32) * p0_4) + x1).toNatClampNeg (p0_2 x1.toNatClampNeg)))
def f_X9_note_J50 (p0_2 : Fn) (p0_3 : Fn) (p0_4 : Int32) : Fn × Int32 := (f_X9_note_L52 p0_2 p0_4 4000 (0 : Int32) p0_3)
def f_X9_note_L11 (p0_2 : Fn) (p0_4 : Int32) : Nat → Int32 → Fn → Fn × Int32
  | 0, _, p0_3 => (p0_3, p0_4)
  | n + 1, x1, p0_3 => 
    if (675 : Int32) ≤ x1 then (f_X9_note_J50 p0_2 p0_3 (p0_4 - (1 : Int32)))
    else ((f_X9_note_L11 p0_2 p0_4 n) (x1 + (1 : Int32)) (upd p0_3 x1.toNatClampNeg (p0_3 (x1 + (135 : Int32)).toNatClampNeg)))
def f_X9_note (p0_2 : Fn) (p0_3 : Fn) (p0_4 : Int32) : Fn × Int32 := 
  if p0_4 = (6 : Int32) then (f_X9_note_L11 p0_2 p0_4 4000 (0 : Int32) p0_3)
  else (f_X9_note_J50 p0_2 p0_3 p0_4)
def f_X9_resets_C4 (p0_0 : Fn) (p0_2 : Fn) (p0_3 : Fn) (p0_4 : Int32) : Int32 × Fn × Fn × Int32 := ((p0_2 (72 : Int32).toNatClampNeg), (f_X9_emptyLog (f_X9_reset p0_0 (f_X9_reset p0_0 p0_2 (0 : Int32)) (36 : Int32))), p0_3, p0_4)
def f_X9_resets (p0_0 : Fn) (p0_2 : Fn) (p0_3 : Fn) (p0_4 : Int32) : Int32 × Fn × Fn × Int32 := (f_X9_resets_C4 p0_0 p0_2 ((f_X9_note p0_2 p0_3 p0_4).1) ((f_X9_note p0_2 p0_3 p0_4).2))
def f_X9_logs (p0_2 : Fn) (x1 : Int32) (x2 : Int32) (x3 : Int32) : Fn := (upd (upd (upd (upd p0_2 ((73 : Int32) + ((3 : Int32) * (p0_2 (72 : Int32).toNatClampNeg))).toNatClampNeg x1) (((73 : Int32) + ((3 : Int32) * (p0_2 (72 : Int32).toNatClampNeg))) + (1 : Int32)).toNatClampNeg x2) (((73 : Int32) + ((3 : Int32) * (p0_2 (72 : Int32).toNatClampNeg))) + (2 : Int32)).toNatClampNeg x3) (72 : Int32).toNatClampNeg (((upd (upd (upd p0_2 ((73 : Int32) + ((3 : Int32) * (p0_2 (72 : Int32).toNatClampNeg))).toNatClampNeg x1) (((73 : Int32) + ((3 : Int32) * (p0_2 (72 : Int32).toNatClampNeg))) + (1 : Int32)).toNatClampNeg x2) (((73 : Int32) + ((3 : Int32) * (p0_2 (72 : Int32).toNatClampNeg))) + (2 : Int32)).toNatClampNeg x3) (72 : Int32).toNatClampNeg) + (1 : Int32)))
def f_X9_reads_J189 (p0_2 : Fn) (p0_3 : Fn) (p0_4 : Int32) (s1 : Int32) (s2 : Int32) (x1 : Int32) (x4 : Int32) (s3 : Int32) : Int32 × Fn × Fn × Int32 := (x4, (f_X9_logs (upd p0_2 s1.toNatClampNeg (s2 + s3)) x1 (0 : Int32) x4), p0_3, p0_4)
def f_X9_reads_J152 (p0_3 : Fn) (p0_4 : Int32) (x1 : Int32) (x3 : Int32) (x4 : Int32) (p0_2 : Fn) : Int32 × Fn × Fn × Int32 := 
    if ((upd p0_2 (134 : Int32).toNatClampNeg (x3 ^^^ x4)) (134 : Int32).toNatClampNeg) = 0 then (f_X9_reads_J189 (upd p0_2 (134 : Int32).toNatClampNeg (x3 ^^^ x4)) p0_3 p0_4 (133 : Int32) ((upd p0_2 (134 : Int32).toNatClampNeg (x3 ^^^ x4)) (133 : Int32).toNatClampNeg) x1 x4 (0 : Int32))
    else (f_X9_reads_J189 (upd p0_2 (134 : Int32).toNatClampNeg (x3 ^^^ x4)) p0_3 p0_4 (133 : Int32) ((upd p0_2 (134 : Int32).toNatClampNeg (x3 ^^^ x4)) (133 : Int32).toNatClampNeg) x1 x4 (1 : Int32))
def f_X9_reads_J139 (p0_0 : Fn) (p0_2 : Fn) (p0_3 : Fn) (p0_4 : Int32) (x1 : Int32) (x2 : Int32) (x3 : Int32) (x4 : Int32) : Int32 × Fn × Fn × Int32 := 
    if x2 = (-9 : Int32) then (f_X9_reads_J152 p0_3 p0_4 x1 x3 x4 p0_2)
    else (f_X9_reads_J152 p0_3 p0_4 x1 x3 x4 (f_X9_clearRead p0_0 p0_2 (36 : Int32) x2))
def f_X9_reads_L56 (p0_0 : Fn) (p0_3 : Fn) (p0_4 : Int32) (x1 : Int32) (x2 : Int32) (x3 : Int32) (x4 : Int32) : Nat → Int32 → Fn → Int32 × Fn × Fn × Int32
  | 0, _, p0_2 => (0, p0_2, p0_3, p0_4)
  | n + 1, x5, p0_2 => 
    if (f_X9_fields p0_0) ≤ x5 then (f_X9_reads_J139 p0_0 p0_2 p0_3 p0_4 x1 x2 x3 x4)
    else 
     if x2 = (-9 : Int32) then (f_X9_reads_J139 p0_0 p0_2 p0_3 p0_4 x1 x2 x3 x4)
     else 
      if (p0_0 ((18 : Int32) + x5).toNatClampNeg) = (f_X9_registerOf p0_0 x2) then 
       if (p0_2 ((48 : Int32) + x5).toNatClampNeg) = (2 : Int32) then ((f_X9_reads_L56 p0_0 p0_3 p0_4 x1 x2 x3 x4 n) (x5 + (1 : Int32)) p0_2)
       else ((f_X9_reads_L56 p0_0 p0_3 p0_4 x1 x2 x3 x4 n) (x5 + (1 : Int32)) (upd p0_2 ((36 : Int32) + x5).toNatClampNeg ((x4 >>> ((p0_0 ((30 : Int32) + x5).toNatClampNeg) &&& 31)) &&& (f_X9_most p0_0 x5))))
      else ((f_X9_reads_L56 p0_0 p0_3 p0_4 x1 x2 x3 x4 n) (x5 + (1 : Int32)) p0_2)
def f_X9_reads_C51 (p0_0 : Fn) (p0_3 : Fn) (p0_4 : Int32) (x1 : Int32) (x2 : Int32) (x3 : Int32) (s0 : Int32) (p0_2 : Fn) : Int32 × Fn × Fn × Int32 := (f_X9_reads_L56 p0_0 p0_3 p0_4 x1 x2 x3 s0 4000 (0 : Int32) p0_2)
def f_X9_reads_C31 (p0_0 : Fn) (p0_2 : Fn) (x1 : Int32) (p0_3 : Fn) (p0_4 : Int32) : Int32 × Fn × Fn × Int32 := (f_X9_reads_C51 p0_0 p0_3 p0_4 x1 (f_X9_goesTo p0_0 x1) (f_X9_peekAt p0_0 p0_2 (36 : Int32) x1) (f_X9_readOf p0_0 p0_2 (0 : Int32) x1).1 ((f_X9_readOf p0_0 p0_2 (0 : Int32) x1).2))
def f_X9_reads (p0_0 : Fn) (p0_2 : Fn) (p0_3 : Fn) (p0_4 : Int32) (x1 : Int32) : Int32 × Fn × Fn × Int32 := 
  if (f_X9_in x1 (0 : Int32) (15 : Int32)) = 0 then ((-1 : Int32), p0_2, p0_3, p0_4)
  else 
   if (p0_2 (72 : Int32).toNatClampNeg) = (20 : Int32) then ((-3 : Int32), p0_2, p0_3, p0_4)
   else (f_X9_reads_C31 p0_0 p0_2 x1 ((f_X9_note p0_2 p0_3 p0_4).1) ((f_X9_note p0_2 p0_3 p0_4).2))
def f_X9_writes_C42 (p0_0 : Fn) (p0_2 : Fn) (x1 : Int32) (x2 : Int32) (p0_3 : Fn) (p0_4 : Int32) : Int32 × Fn × Fn × Int32 := ((f_X9_otherFields p0_0 (f_X9_logs (f_X9_writeTo p0_0 (f_X9_writeTo p0_0 (f_X9_copyMachine p0_2 (0 : Int32) (135 : Int32)) (0 : Int32) x1 x2) (36 : Int32) x1 x2) x1 (1 : Int32) x2) (0 : Int32) (135 : Int32)), (f_X9_logs (f_X9_writeTo p0_0 (f_X9_writeTo p0_0 (f_X9_copyMachine p0_2 (0 : Int32) (135 : Int32)) (0 : Int32) x1 x2) (36 : Int32) x1 x2) x1 (1 : Int32) x2), p0_3, p0_4)
def f_X9_writes (p0_0 : Fn) (p0_2 : Fn) (p0_3 : Fn) (p0_4 : Int32) (x1 : Int32) (x2 : Int32) : Int32 × Fn × Fn × Int32 := 
  if (f_X9_in x1 (0 : Int32) (15 : Int32)) = 0 then ((-1 : Int32), p0_2, p0_3, p0_4)
  else 
   if (f_X9_in x2 (0 : Int32) (255 : Int32)) = 0 then ((-1 : Int32), p0_2, p0_3, p0_4)
   else 
    if (p0_2 (72 : Int32).toNatClampNeg) = (20 : Int32) then ((-3 : Int32), p0_2, p0_3, p0_4)
    else (f_X9_writes_C42 p0_0 p0_2 x1 x2 ((f_X9_note p0_2 p0_3 p0_4).1) ((f_X9_note p0_2 p0_3 p0_4).2))
def f_X9_sets_C44 (p0_2 : Fn) (x1 : Int32) (x2 : Int32) (x3 : Int32) (p0_3 : Fn) (p0_4 : Int32) : Int32 × Fn × Fn × Int32 := (x3, (upd p0_2 ((0 : Int32) + x1).toNatClampNeg x2), p0_3, p0_4)
def f_X9_sets (p0_0 : Fn) (p0_2 : Fn) (p0_3 : Fn) (p0_4 : Int32) (x1 : Int32) (x2 : Int32) : Int32 × Fn × Fn × Int32 := 
  if (f_X9_isField p0_0 x1) = 0 then ((-1 : Int32), p0_2, p0_3, p0_4)
  else 
   if (f_X9_in x2 (0 : Int32) (f_X9_most p0_0 x1)) = 0 then ((-1 : Int32), p0_2, p0_3, p0_4)
   else 
    if (p0_2 ((0 : Int32) + x1).toNatClampNeg) = x2 then ((-2 : Int32), p0_2, p0_3, p0_4)
    else (f_X9_sets_C44 p0_2 x1 x2 (p0_2 ((0 : Int32) + x1).toNatClampNeg) ((f_X9_note p0_2 p0_3 p0_4).1) ((f_X9_note p0_2 p0_3 p0_4).2))
def f_X9_breaks_C42 (p0_2 : Fn) (x1 : Int32) (x2 : Int32) (x3 : Int32) (p0_3 : Fn) (p0_4 : Int32) : Int32 × Fn × Fn × Int32 := (x3, (upd p0_2 ((12 : Int32) + x1).toNatClampNeg x2), p0_3, p0_4)
def f_X9_breaks (p0_0 : Fn) (p0_2 : Fn) (p0_3 : Fn) (p0_4 : Int32) (x1 : Int32) (x2 : Int32) : Int32 × Fn × Fn × Int32 := 
  if (f_X9_isField p0_0 x1) = 0 then ((-1 : Int32), p0_2, p0_3, p0_4)
  else 
   if (f_X9_in x2 (0 : Int32) (7 : Int32)) = 0 then ((-1 : Int32), p0_2, p0_3, p0_4)
   else 
    if (p0_2 ((12 : Int32) + x1).toNatClampNeg) = x2 then ((-2 : Int32), p0_2, p0_3, p0_4)
    else (f_X9_breaks_C42 p0_2 x1 x2 (p0_2 ((12 : Int32) + x1).toNatClampNeg) ((f_X9_note p0_2 p0_3 p0_4).1) ((f_X9_note p0_2 p0_3 p0_4).2))
def f_X9_undo_L22 (p0_3 : Fn) (p0_4 : Int32) : Nat → Int32 → Fn → Int32 × Fn × Int32
  | 0, _, p0_2 => (0, p0_2, p0_4)
  | n + 1, x1, p0_2 => 
    if (135 : Int32) ≤ x1 then (p0_4, p0_2, p0_4)
    else ((f_X9_undo_L22 p0_3 p0_4 n) (x1 + (1 : Int32)) (upd p0_2 x1.toNatClampNeg (p0_3 (((135 : Int32) * p0_4) + x1).toNatClampNeg)))
def f_X9_undo (p0_2 : Fn) (p0_3 : Fn) (p0_4 : Int32) : Int32 × Fn × Int32 := 
  if p0_4 = 0 then ((-2 : Int32), p0_2, p0_4)
  else (f_X9_undo_L22 p0_3 (p0_4 - (1 : Int32)) 4000 (0 : Int32) p0_2)
def f_X9_field (p0_0 : Fn) (p0_2 : Fn) (x1 : Int32) (x2 : Int32) : Int32 := 
  if (f_X9_isField p0_0 x1) = 0 then (-1 : Int32)
  else 
   if x2 = (0 : Int32) then (p0_0 ((18 : Int32) + x1).toNatClampNeg)
   else 
    if x2 = (1 : Int32) then (p0_0 ((30 : Int32) + x1).toNatClampNeg)
    else 
     if x2 = (2 : Int32) then (p0_0 ((42 : Int32) + x1).toNatClampNeg)
     else 
      if x2 = (3 : Int32) then (p0_0 ((54 : Int32) + x1).toNatClampNeg)
      else 
       if x2 = (4 : Int32) then (p0_0 ((66 : Int32) + x1).toNatClampNeg)
       else 
        if x2 = (5 : Int32) then (p0_2 ((0 : Int32) + x1).toNatClampNeg)
        else 
         if x2 = (6 : Int32) then (p0_2 ((36 : Int32) + x1).toNatClampNeg)
         else 
          if x2 = (7 : Int32) then (p0_2 ((12 : Int32) + x1).toNatClampNeg)
          else (-1 : Int32)
def f_X9_register (p0_0 : Fn) (p0_2 : Fn) (x1 : Int32) (x2 : Int32) : Int32 := 
  if (f_X9_isRegister p0_0 x1) = 0 then (-1 : Int32)
  else 
   if x2 = (0 : Int32) then (p0_0 ((0 : Int32) + x1).toNatClampNeg)
   else 
    if x2 = (1 : Int32) then (p0_0 ((6 : Int32) + x1).toNatClampNeg)
    else 
     if x2 = (2 : Int32) then (p0_0 ((12 : Int32) + x1).toNatClampNeg)
     else 
      if x2 = (3 : Int32) then 
       if (f_X9_isLocked p0_0 p0_2 (0 : Int32) x1) = 0 then (0 : Int32)
       else (1 : Int32)
      else 
       if x2 = (4 : Int32) then (p0_2 ((24 : Int32) + x1).toNatClampNeg)
       else (-1 : Int32)
def f_X9_alias (p0_0 : Fn) (x1 : Int32) (x2 : Int32) : Int32 := 
  if (f_X9_in x1 (0 : Int32) ((p0_0 (92 : Int32).toNatClampNeg) - (1 : Int32))) = 0 then (-1 : Int32)
  else 
   if (f_X9_in x2 (0 : Int32) (2 : Int32)) = 0 then (-1 : Int32)
   else (p0_0 (((78 : Int32) + ((4 : Int32) * x2)) + x1).toNatClampNeg)
def f_X9_at (p0_0 : Fn) (x1 : Int32) : Int32 := 
  if (f_X9_in x1 (0 : Int32) (15 : Int32)) = 0 then (-1 : Int32)
  else (f_X9_goesTo p0_0 x1)
def f_X9_peek_J30 (p0_0 : Fn) (p0_2 : Fn) (x1 : Int32) (s1 : Int32) : Int32 := (f_X9_peekAt p0_0 p0_2 s1 x1)
def f_X9_peek (p0_0 : Fn) (p0_2 : Fn) (x1 : Int32) (x2 : Int32) : Int32 := 
  if (f_X9_in x1 (0 : Int32) (15 : Int32)) = 0 then (-1 : Int32)
  else 
   if (f_X9_in x2 (0 : Int32) (1 : Int32)) = 0 then (-1 : Int32)
   else 
    if x2 = 0 then (f_X9_peek_J30 p0_0 p0_2 x1 (0 : Int32))
    else (f_X9_peek_J30 p0_0 p0_2 x1 (36 : Int32))
def f_X9_differed (p0_2 : Fn) (x1 : Int32) : Int32 := 
  if (f_X9_in x1 (0 : Int32) (1 : Int32)) = 0 then (-1 : Int32)
  else (p0_2 ((133 : Int32) + x1).toNatClampNeg)
def f_X9_log (p0_2 : Fn) (x1 : Int32) (x2 : Int32) : Int32 := 
  if x1 < 0 then (-1 : Int32)
  else 
   if (f_X9_in x2 (0 : Int32) (2 : Int32)) = 0 then (-1 : Int32)
   else 
    if (p0_2 (72 : Int32).toNatClampNeg) ≤ x1 then (-9 : Int32)
    else (p0_2 (((73 : Int32) + ((3 : Int32) * x1)) + x2).toNatClampNeg)
def f_X9_wouldTell_C114 (x4 : Int32) (x5 : Int32) (k36 : Int32 → Int32 → Fn → (Int32 × Fn)) (s0 : Int32) (p0_2 : Fn) : Int32 × Fn := 
    if s0 = (p0_2 (x5 + (2 : Int32)).toNatClampNeg) then (k36 (1 : Int32) (x4 + (1 : Int32)) p0_2)
    else (k36 (0 : Int32) (x4 + (1 : Int32)) p0_2)
def f_X9_wouldTell_L36 (p0_0 : Fn) : Nat → Int32 → Int32 → Fn → Int32 × Fn
  | 0, _, _, p0_2 => (0, p0_2)
  | n + 1, x3, x4, p0_2 => 
    if (p0_2 (72 : Int32).toNatClampNeg) ≤ x4 then (x3, p0_2)
    else 
     if x3 = 0 then (x3, p0_2)
     else 
      if (p0_2 (((73 : Int32) + ((3 : Int32) * x4)) + (1 : Int32)).toNatClampNeg) = (1 : Int32) then ((f_X9_wouldTell_L36 p0_0 n) x3 (x4 + (1 : Int32)) (f_X9_writeTo p0_0 p0_2 (135 : Int32) (p0_2 ((73 : Int32) + ((3 : Int32) * x4)).toNatClampNeg) (p0_2 (((73 : Int32) + ((3 : Int32) * x4)) + (2 : Int32)).toNatClampNeg)))
      else (f_X9_wouldTell_C114 x4 ((73 : Int32) + ((3 : Int32) * x4)) (f_X9_wouldTell_L36 p0_0 n) (f_X9_readOf p0_0 p0_2 (135 : Int32) (p0_2 ((73 : Int32) + ((3 : Int32) * x4)).toNatClampNeg)).1 ((f_X9_readOf p0_0 p0_2 (135 : Int32) (p0_2 ((73 : Int32) + ((3 : Int32) * x4)).toNatClampNeg)).2))
def f_X9_wouldTell_J24 (p0_0 : Fn) (p0_2 : Fn) : Int32 × Fn := (f_X9_wouldTell_L36 p0_0 4000 (1 : Int32) (0 : Int32) (f_X9_reset p0_0 p0_2 (135 : Int32)))
def f_X9_wouldTell (p0_0 : Fn) (p0_2 : Fn) (x1 : Int32) (x2 : Int32) : Int32 × Fn := 
  if x1 = (-9 : Int32) then (f_X9_wouldTell_J24 p0_0 (f_X9_repair p0_0 p0_2 (135 : Int32)))
  else (f_X9_wouldTell_J24 p0_0 (upd (f_X9_repair p0_0 p0_2 (135 : Int32)) ((147 : Int32) + x1).toNatClampNeg x2))
def f_X9_suspects_C23 (s0 : Int32) (p0_2 : Fn) : Int32 × Fn := 
    if s0 = 0 then ((0 : Int32), p0_2)
    else ((1 : Int32), p0_2)
def f_X9_suspects_C87 (x2 : Int32) (x3 : Int32) (x4 : Int32) (k40 : Int32 → Int32 → Int32 → Fn → (Int32 × Fn)) (s0 : Int32) (p0_2 : Fn) : Int32 × Fn := 
    if s0 = 0 then (k40 x2 x3 (x4 + (1 : Int32)) p0_2)
    else 
     if x2 = 0 then (k40 (x2 + (1 : Int32)) x4 (x4 + (1 : Int32)) p0_2)
     else (k40 (x2 + (1 : Int32)) x3 (x4 + (1 : Int32)) p0_2)
def f_X9_suspects_L40 (p0_0 : Fn) (x1 : Int32) : Nat → Int32 → Int32 → Int32 → Fn → Int32 × Fn
  | 0, _, _, _, p0_2 => (0, p0_2)
  | n + 1, x2, x3, x4, p0_2 => 
    if ((8 : Int32) * (f_X9_fields p0_0)) ≤ x4 then 
     if x1 = 0 then (x2, p0_2)
     else (x3, p0_2)
    else 
     if (x4 - x4 / (8 : Int32) * (8 : Int32)) = (p0_0 ((54 : Int32) + (x4 / (8 : Int32))).toNatClampNeg) then ((f_X9_suspects_L40 p0_0 x1 n) x2 x3 (x4 + (1 : Int32)) p0_2)
     else (f_X9_suspects_C87 x2 x3 x4 (f_X9_suspects_L40 p0_0 x1 n) (f_X9_wouldTell p0_0 p0_2 (x4 / (8 : Int32)) (x4 - x4 / (8 : Int32) * (8 : Int32))).1 ((f_X9_wouldTell p0_0 p0_2 (x4 / (8 : Int32)) (x4 - x4 / (8 : Int32) * (8 : Int32))).2))
def f_X9_suspects (p0_0 : Fn) (p0_2 : Fn) (x1 : Int32) : Int32 × Fn := 
  if (f_X9_in x1 (0 : Int32) (2 : Int32)) = 0 then ((-1 : Int32), p0_2)
  else 
   if x1 = (2 : Int32) then (f_X9_suspects_C23 (f_X9_wouldTell p0_0 p0_2 (-9 : Int32) (0 : Int32)).1 ((f_X9_wouldTell p0_0 p0_2 (-9 : Int32) (0 : Int32)).2))
   else (f_X9_suspects_L40 p0_0 x1 4000 (0 : Int32) (-9 : Int32) (0 : Int32) p0_2)
def f_X9_clashes_L74 (p0_0 : Fn) (x2 : Int32) (x3 : Int32) (x4 : Int32) (k19 : Int32 → Int32 → Int32 → Int32) : Nat → Int32 → Int32 → Int32
  | 0, _, _ => 0
  | n + 1, x5, x6 => 
    if (p0_0 (92 : Int32).toNatClampNeg) ≤ x6 then 
     if x5 ≤ (1 : Int32) then (k19 x2 x3 (x4 + (1 : Int32)))
     else 
      if x2 = 0 then (k19 (x2 + (1 : Int32)) x4 (x4 + (1 : Int32)))
      else (k19 (x2 + (1 : Int32)) x3 (x4 + (1 : Int32)))
    else 
     if (p0_0 ((78 : Int32) + x6).toNatClampNeg) = x4 then ((f_X9_clashes_L74 p0_0 x2 x3 x4 k19 n) (x5 + (1 : Int32)) (x6 + (1 : Int32)))
     else ((f_X9_clashes_L74 p0_0 x2 x3 x4 k19 n) (x5 + (0 : Int32)) (x6 + (1 : Int32)))
def f_X9_clashes_L32 (p0_0 : Fn) (x2 : Int32) (x3 : Int32) (x4 : Int32) (k19 : Int32 → Int32 → Int32 → Int32) : Nat → Int32 → Int32 → Int32
  | 0, _, _ => 0
  | n + 1, x5, x6 => 
    if (f_X9_registers p0_0) ≤ x6 then (f_X9_clashes_L74 p0_0 x2 x3 x4 k19 4000 x5 (0 : Int32))
    else 
     if (p0_0 ((0 : Int32) + x6).toNatClampNeg) = x4 then ((f_X9_clashes_L32 p0_0 x2 x3 x4 k19 n) (x5 + (1 : Int32)) (x6 + (1 : Int32)))
     else ((f_X9_clashes_L32 p0_0 x2 x3 x4 k19 n) (x5 + (0 : Int32)) (x6 + (1 : Int32)))
def f_X9_clashes_L19 (p0_0 : Fn) (x1 : Int32) : Nat → Int32 → Int32 → Int32 → Int32
  | 0, _, _, _ => 0
  | n + 1, x2, x3, x4 => 
    if (16 : Int32) ≤ x4 then 
     if x1 = 0 then x2
     else x3
    else (f_X9_clashes_L32 p0_0 x2 x3 x4 (f_X9_clashes_L19 p0_0 x1 n) 4000 (0 : Int32) (0 : Int32))
def f_X9_clashes (p0_0 : Fn) (x1 : Int32) : Int32 := 
  if (f_X9_in x1 (0 : Int32) (1 : Int32)) = 0 then (-1 : Int32)
  else (f_X9_clashes_L19 p0_0 x1 4000 (0 : Int32) (-9 : Int32) (0 : Int32))
def f_X9_tryWrite (p0_0 : Fn) (p0_2 : Fn) (x1 : Int32) (x2 : Int32) : Fn := (f_X9_writeTo p0_0 (f_X9_copyMachine p0_2 (0 : Int32) (135 : Int32)) (135 : Int32) x1 x2)
def f_X9_touched (p0_0 : Fn) (p0_2 : Fn) (x1 : Int32) (x2 : Int32) : Int32 × Fn := 
  if (f_X9_in x1 (0 : Int32) (15 : Int32)) = 0 then ((-1 : Int32), p0_2)
  else 
   if (f_X9_in x2 (0 : Int32) (255 : Int32)) = 0 then ((-1 : Int32), p0_2)
   else ((f_X9_otherFields p0_0 (f_X9_tryWrite p0_0 p0_2 x1 x2) (0 : Int32) (135 : Int32)), (f_X9_tryWrite p0_0 p0_2 x1 x2))
def f_X9_way_L25 (p0_0 : Fn) (x1 : Int32) (x2 : Int32) : Nat → Int32 → Fn → Int32 × Fn
  | 0, _, p0_2 => (0, p0_2)
  | n + 1, x3, p0_2 => 
    if (4096 : Int32) ≤ x3 then ((-9 : Int32), p0_2)
    else 
     if ((f_X9_tryWrite p0_0 p0_2 (x3 / (256 : Int32)) (x3 - x3 / (256 : Int32) * (256 : Int32))) ((135 : Int32) + x1).toNatClampNeg) = x2 then (x3, (f_X9_tryWrite p0_0 p0_2 (x3 / (256 : Int32)) (x3 - x3 / (256 : Int32) * (256 : Int32))))
     else ((f_X9_way_L25 p0_0 x1 x2 n) (x3 + (1 : Int32)) (f_X9_tryWrite p0_0 p0_2 (x3 / (256 : Int32)) (x3 - x3 / (256 : Int32) * (256 : Int32))))
def f_X9_way (p0_0 : Fn) (p0_2 : Fn) (x1 : Int32) (x2 : Int32) : Int32 × Fn := 
  if (f_X9_isField p0_0 x1) = 0 then ((-1 : Int32), p0_2)
  else 
   if (f_X9_in x2 (0 : Int32) (f_X9_most p0_0 x1)) = 0 then ((-1 : Int32), p0_2)
   else (f_X9_way_L25 p0_0 x1 x2 5000 (0 : Int32) p0_2)
def f_X9_isLockOrGate_L5 (p0_0 : Fn) (x1 : Int32) (x2 : Int32) : Nat → Int32 → Int32 → Int32
  | 0, _, _ => 0
  | n + 1, x3, x4 => 
    if (f_X9_registers p0_0) ≤ x4 then x3
    else 
     if x3 = 0 then 
      if (p0_0 (x2 + x4).toNatClampNeg) = x1 then ((f_X9_isLockOrGate_L5 p0_0 x1 x2 n) (1 : Int32) (x4 + (1 : Int32)))
      else ((f_X9_isLockOrGate_L5 p0_0 x1 x2 n) (0 : Int32) (x4 + (1 : Int32)))
     else ((f_X9_isLockOrGate_L5 p0_0 x1 x2 n) (1 : Int32) (x4 + (1 : Int32)))
def f_X9_isLockOrGate (p0_0 : Fn) (x1 : Int32) (x2 : Int32) : Int32 := (f_X9_isLockOrGate_L5 p0_0 x1 x2 4000 (0 : Int32) (0 : Int32))
def f_X9_isWalked_L48 (p0_0 : Fn) (x1 : Int32) : Nat → Int32 → Int32 → Int32
  | 0, _, _ => 0
  | n + 1, x2, x3 => 
    if (f_X9_fields p0_0) ≤ x3 then x2
    else 
     if x2 = 0 then ((f_X9_isWalked_L48 p0_0 x1 n) (0 : Int32) (x3 + (1 : Int32)))
     else 
      if (p0_0 ((18 : Int32) + x3).toNatClampNeg) = x1 then 
       if (p0_0 ((54 : Int32) + x3).toNatClampNeg) = (2 : Int32) then ((f_X9_isWalked_L48 p0_0 x1 n) (0 : Int32) (x3 + (1 : Int32)))
       else 
        if (p0_0 ((54 : Int32) + x3).toNatClampNeg) = (6 : Int32) then ((f_X9_isWalked_L48 p0_0 x1 n) (0 : Int32) (x3 + (1 : Int32)))
        else 
         if (p0_0 ((54 : Int32) + x3).toNatClampNeg) = (7 : Int32) then ((f_X9_isWalked_L48 p0_0 x1 n) (0 : Int32) (x3 + (1 : Int32)))
         else 
          if (f_X9_isLockOrGate p0_0 x3 (12 : Int32)) = 0 then ((f_X9_isWalked_L48 p0_0 x1 n) (1 : Int32) (x3 + (1 : Int32)))
          else ((f_X9_isWalked_L48 p0_0 x1 n) (0 : Int32) (x3 + (1 : Int32)))
      else ((f_X9_isWalked_L48 p0_0 x1 n) (1 : Int32) (x3 + (1 : Int32)))
def f_X9_isWalked_J45 (p0_0 : Fn) (x1 : Int32) (s0 : Int32) : Int32 := (f_X9_isWalked_L48 p0_0 x1 4000 s0 (0 : Int32))
def f_X9_isWalked_J44 (p0_0 : Fn) (x1 : Int32) : Int32 := (f_X9_isWalked_J45 p0_0 x1 (0 : Int32))
def f_X9_isWalked (p0_0 : Fn) (p0_2 : Fn) (x1 : Int32) : Int32 := 
  if (f_X9_goesTo p0_0 (p0_0 ((0 : Int32) + x1).toNatClampNeg)) = x1 then 
   if (f_X9_isLocked p0_0 p0_2 (36 : Int32) x1) = 0 then 
    if (p0_0 ((12 : Int32) + x1).toNatClampNeg) = (-9 : Int32) then (f_X9_isWalked_J45 p0_0 x1 (1 : Int32))
    else (f_X9_isWalked_J44 p0_0 x1)
   else (f_X9_isWalked_J44 p0_0 x1)
  else (f_X9_isWalked_J44 p0_0 x1)
def f_X9_bitsBy_J56 (p0_0 : Fn) (x3 : Int32) (x4 : Int32) (k5 : Int32 → Int32 → Int32) : Int32 := (k5 (x3 ||| (f_X9_bitsOf p0_0 x4)) (x4 + (1 : Int32)))
def f_X9_bitsBy_L5 (p0_0 : Fn) (x1 : Int32) (x2 : Int32) : Nat → Int32 → Int32 → Int32
  | 0, _, _ => 0
  | n + 1, x3, x4 => 
    if (f_X9_fields p0_0) ≤ x4 then x3
    else 
     if (p0_0 ((18 : Int32) + x4).toNatClampNeg) = x1 then 
      if (p0_0 ((54 : Int32) + x4).toNatClampNeg) = 0 then 
       if x2 = 0 then (f_X9_bitsBy_J56 p0_0 x3 x4 (f_X9_bitsBy_L5 p0_0 x1 x2 n))
       else 
        if (f_X9_isLockOrGate p0_0 x4 (6 : Int32)) = 0 then (f_X9_bitsBy_J56 p0_0 x3 x4 (f_X9_bitsBy_L5 p0_0 x1 x2 n))
        else ((f_X9_bitsBy_L5 p0_0 x1 x2 n) x3 (x4 + (1 : Int32)))
      else ((f_X9_bitsBy_L5 p0_0 x1 x2 n) x3 (x4 + (1 : Int32)))
     else ((f_X9_bitsBy_L5 p0_0 x1 x2 n) x3 (x4 + (1 : Int32)))
def f_X9_bitsBy (p0_0 : Fn) (x1 : Int32) (x2 : Int32) : Int32 := (f_X9_bitsBy_L5 p0_0 x1 x2 4000 (0 : Int32) (0 : Int32))
def f_X9_walk_L55 (p0_0 : Fn) (p0_2 : Fn) (x1 : Int32) (x2 : Int32) (x4 : Int32) (x5 : Int32) (k21 : Int32 → Int32 → Int32) : Nat → Int32 → Int32 → Int32
  | 0, _, _ => 0
  | n + 1, x3, x6 => 
    if (8 : Int32) ≤ x6 then (k21 x3 (x4 + (1 : Int32)))
    else 
     if ((x5 >>> (x6 &&& 31)) &&& (1 : Int32)) = (1 : Int32) then 
      if x3 = x1 then 
       if x2 = 0 then (p0_0 ((0 : Int32) + x4).toNatClampNeg)
       else 
        if x2 = (1 : Int32) then (((f_X9_tellsOf p0_0 p0_2 (36 : Int32) x4) &&& (f_X9_bitsBy p0_0 x4 (0 : Int32))) ^^^ ((1 : Int32) <<< (x6 &&& 31)))
        else ((f_X9_tellsOf p0_0 p0_2 (36 : Int32) x4) ^^^ ((1 : Int32) <<< (x6 &&& 31)))
      else ((f_X9_walk_L55 p0_0 p0_2 x1 x2 x4 x5 k21 n) (x3 + (1 : Int32)) (x6 + (1 : Int32)))
     else ((f_X9_walk_L55 p0_0 p0_2 x1 x2 x4 x5 k21 n) x3 (x6 + (1 : Int32)))
def f_X9_walk_J50 (p0_0 : Fn) (p0_2 : Fn) (x1 : Int32) (x2 : Int32) (x3 : Int32) (x4 : Int32) (k21 : Int32 → Int32 → Int32) (s0 : Int32) : Int32 := (f_X9_walk_L55 p0_0 p0_2 x1 x2 x4 s0 k21 4000 x3 (0 : Int32))
def f_X9_walk_L21 (p0_0 : Fn) (p0_2 : Fn) (x1 : Int32) (x2 : Int32) : Nat → Int32 → Int32 → Int32
  | 0, _, _ => 0
  | n + 1, x3, x4 => 
    if (f_X9_registers p0_0) ≤ x4 then 
     if 0 ≤ x1 then (-9 : Int32)
     else x3
    else 
     if (f_X9_isWalked p0_0 p0_2 x4) = 0 then (f_X9_walk_J50 p0_0 p0_2 x1 x2 x3 x4 (f_X9_walk_L21 p0_0 p0_2 x1 x2 n) (0 : Int32))
     else (f_X9_walk_J50 p0_0 p0_2 x1 x2 x3 x4 (f_X9_walk_L21 p0_0 p0_2 x1 x2 n) (f_X9_bitsBy p0_0 x4 (1 : Int32)))
def f_X9_walk (p0_0 : Fn) (p0_2 : Fn) (x1 : Int32) (x2 : Int32) : Int32 := 
  if x1 < (-1 : Int32) then (-1 : Int32)
  else 
   if (f_X9_in x2 (0 : Int32) (2 : Int32)) = 0 then (-1 : Int32)
   else (f_X9_walk_L21 p0_0 p0_2 x1 x2 4000 (0 : Int32) (0 : Int32))
def f_X9_keep_L13 (p0_2 : Fn) (p0_6 : Fn) (x1 : Int32) : Nat → Int32 → Fn → Int32 × Fn × Fn
  | 0, _, p0_5 => (0, p0_5, p0_6)
  | n + 1, x2, p0_5 => 
    if (135 : Int32) ≤ x2 then ((p0_2 (72 : Int32).toNatClampNeg), p0_5, (upd p0_6 x1.toNatClampNeg (vp_nar .boolean (1 : Int32))))
    else ((f_X9_keep_L13 p0_2 p0_6 x1 n) (x2 + (1 : Int32)) (upd p0_5 (((135 : Int32) * x1) + x2).toNatClampNeg (p0_2 x2.toNatClampNeg)))
def f_X9_keep (p0_2 : Fn) (p0_5 : Fn) (p0_6 : Fn) (x1 : Int32) : Int32 × Fn × Fn := 
  if (f_X9_in x1 (0 : Int32) (1 : Int32)) = 0 then ((-1 : Int32), p0_5, p0_6)
  else (f_X9_keep_L13 p0_2 p0_6 x1 4000 (0 : Int32) p0_5)
def f_X9_back_L25 (p0_5 : Fn) (x1 : Int32) : Nat → Int32 → Fn → Int32 × Fn × Int32
  | 0, _, p0_2 => (0, p0_2, 0)
  | n + 1, x2, p0_2 => 
    if (135 : Int32) ≤ x2 then ((p0_2 (72 : Int32).toNatClampNeg), p0_2, (0 : Int32))
    else ((f_X9_back_L25 p0_5 x1 n) (x2 + (1 : Int32)) (upd p0_2 x2.toNatClampNeg (p0_5 (((135 : Int32) * x1) + x2).toNatClampNeg)))
def f_X9_back (p0_2 : Fn) (p0_4 : Int32) (p0_5 : Fn) (p0_6 : Fn) (x1 : Int32) : Int32 × Fn × Int32 := 
  if (f_X9_in x1 (0 : Int32) (1 : Int32)) = 0 then ((-1 : Int32), p0_2, p0_4)
  else 
   if (p0_6 x1.toNatClampNeg) = 0 then ((-2 : Int32), p0_2, p0_4)
   else (f_X9_back_L25 p0_5 x1 4000 (0 : Int32) p0_2)
def f_X9_fieldBits_L4 (p0_0 : Fn) : Nat → Int32 → Int32 → Int32
  | 0, _, _ => 0
  | n + 1, x1, x2 => 
    if (f_X9_fields p0_0) ≤ x2 then x1
    else ((f_X9_fieldBits_L4 p0_0 n) (x1 + (((p0_0 ((42 : Int32) + x2).toNatClampNeg) - (p0_0 ((30 : Int32) + x2).toNatClampNeg)) + (1 : Int32))) (x2 + (1 : Int32)))
def f_X9_fieldBits (p0_0 : Fn) : Int32 := (f_X9_fieldBits_L4 p0_0 4000 (0 : Int32) (0 : Int32))
def f_X9_brokenMany_L4 (p0_0 : Fn) (p0_2 : Fn) : Nat → Int32 → Int32 → Int32
  | 0, _, _ => 0
  | n + 1, x1, x2 => 
    if (f_X9_fields p0_0) ≤ x2 then x1
    else 
     if (p0_2 ((12 : Int32) + x2).toNatClampNeg) = (p0_0 ((54 : Int32) + x2).toNatClampNeg) then ((f_X9_brokenMany_L4 p0_0 p0_2 n) (x1 + (0 : Int32)) (x2 + (1 : Int32)))
     else ((f_X9_brokenMany_L4 p0_0 p0_2 n) (x1 + (1 : Int32)) (x2 + (1 : Int32)))
def f_X9_brokenMany (p0_0 : Fn) (p0_2 : Fn) : Int32 := (f_X9_brokenMany_L4 p0_0 p0_2 4000 (0 : Int32) (0 : Int32))
def f_X9_count (p0_0 : Fn) (p0_2 : Fn) (p0_4 : Int32) (p0_8 : Int32) (x1 : Int32) : Int32 := 
  if x1 = (0 : Int32) then (f_X9_registers p0_0)
  else 
   if x1 = (1 : Int32) then (f_X9_fields p0_0)
   else 
    if x1 = (2 : Int32) then (p0_0 (92 : Int32).toNatClampNeg)
    else 
     if x1 = (3 : Int32) then (f_X9_fieldBits p0_0)
     else 
      if x1 = (4 : Int32) then (p0_2 (72 : Int32).toNatClampNeg)
      else 
       if x1 = (5 : Int32) then (f_X9_brokenMany p0_0 p0_2)
       else 
        if x1 = (6 : Int32) then p0_8
        else 
         if x1 = (7 : Int32) then p0_4
         else (-1 : Int32)
def f_X9_type (p0_7 : Fn) (p0_8 : Int32) (x1 : Int32) : Int32 × Fn × Int32 := 
  if (f_X9_in x1 (0 : Int32) (255 : Int32)) = 0 then ((-1 : Int32), p0_7, p0_8)
  else 
   if p0_8 = (160 : Int32) then ((-3 : Int32), p0_7, p0_8)
   else ((p0_8 + (1 : Int32)), (upd p0_7 p0_8.toNatClampNeg x1), (p0_8 + (1 : Int32)))
def f_X9_clear (p0_8 : Int32) : Int32 × Int32 := (p0_8, (0 : Int32))
def f_X9_isHere (p0_7 : Fn) (p0_8 : Int32) (p0_9 : Int32) (x1 : Int32) (x2 : Int32) : Int32 := 
  if p0_8 ≤ p0_9 then (0 : Int32)
  else 
   if (f_X9_in (p0_7 p0_9.toNatClampNeg) x1 x2) = 0 then (0 : Int32)
   else (1 : Int32)
def f_X9_kindOf (x0 : Int32) : Int32 := 
  if x0 = (28526 : Int32) then (7 : Int32)
  else 
   if x0 = (29283 : Int32) then (6 : Int32)
   else 
    if x0 = (29295 : Int32) then (1 : Int32)
    else 
     if x0 = (29303 : Int32) then (0 : Int32)
     else 
      if x0 = (30563 : Int32) then (3 : Int32)
      else 
       if x0 = (30575 : Int32) then (2 : Int32)
       else 
        if x0 = (30579 : Int32) then (4 : Int32)
        else 
         if x0 = (30580 : Int32) then (5 : Int32)
         else (-9 : Int32)
def f_X9_next_J116 (p0_9 : Int32) (k67 : Int32 → Int32 → (Int32 × Int32 × Int32 × Int32)) (s1 : Int32) : Int32 × Int32 × Int32 × Int32 := (k67 (p0_9 + (1 : Int32)) s1)
def f_X9_next_L67 (p0_7 : Fn) (p0_8 : Int32) (p0_10 : Int32) : Nat → Int32 → Int32 → Int32 × Int32 × Int32 × Int32
  | 0, p0_9, p0_12 => (p0_9, p0_10, 0, p0_12)
  | n + 1, p0_9, p0_12 => 
    if (f_X9_isHere p0_7 p0_8 p0_9 (48 : Int32) (57 : Int32)) = 0 then 
     if (255 : Int32) < p0_12 then (p0_9, p0_10, (2 : Int32), p0_12)
     else 
      if (p0_7 p0_10.toNatClampNeg) = (48 : Int32) then 
       if (p0_9 - p0_10) ≤ (1 : Int32) then (p0_9, p0_10, (1 : Int32), p0_12)
       else (p0_9, p0_10, (2 : Int32), p0_12)
      else (p0_9, p0_10, (1 : Int32), p0_12)
    else 
     if p0_12 ≤ (255 : Int32) then (f_X9_next_J116 p0_9 (f_X9_next_L67 p0_7 p0_8 p0_10 n) ((((10 : Int32) * p0_12) + (p0_7 p0_9.toNatClampNeg)) - (48 : Int32)))
     else (f_X9_next_J116 p0_9 (f_X9_next_L67 p0_7 p0_8 p0_10 n) p0_12)
def f_X9_next_J238 (p0_9 : Int32) (k192 : Int32 → Int32 → (Int32 × Int32 × Int32 × Int32)) (s1 : Int32) : Int32 × Int32 × Int32 × Int32 := (k192 (p0_9 + (1 : Int32)) s1)
def f_X9_next_J304 (p0_9 : Int32) (p0_10 : Int32) (p0_12 : Int32) (s0 : Int32) : Int32 × Int32 × Int32 × Int32 := 
    if s0 = 0 then 
     if (f_X9_kindOf p0_12) = (-9 : Int32) then (p0_9, p0_10, (2 : Int32), p0_12)
     else (p0_9, p0_10, (4 : Int32), p0_12)
    else (p0_9, p0_10, (4 : Int32), p0_12)
def f_X9_next_J299 (p0_9 : Int32) (p0_10 : Int32) (p0_12 : Int32) : Int32 × Int32 × Int32 × Int32 := (f_X9_next_J304 p0_9 p0_10 p0_12 (1 : Int32))
def f_X9_next_L192 (p0_7 : Fn) (p0_8 : Int32) (p0_10 : Int32) : Nat → Int32 → Int32 → Int32 × Int32 × Int32 × Int32
  | 0, p0_9, p0_12 => (p0_9, p0_10, 0, p0_12)
  | n + 1, p0_9, p0_12 => 
    if (f_X9_isHere p0_7 p0_8 p0_9 (97 : Int32) (122 : Int32)) = 0 then 
     if p0_12 = (114 : Int32) then (f_X9_next_J299 p0_9 p0_10 p0_12)
     else 
      if p0_12 = (102 : Int32) then (f_X9_next_J299 p0_9 p0_10 p0_12)
      else 
       if p0_12 = (97 : Int32) then (f_X9_next_J299 p0_9 p0_10 p0_12)
       else 
        if p0_12 = (107 : Int32) then (f_X9_next_J299 p0_9 p0_10 p0_12)
        else 
         if p0_12 = (115 : Int32) then (f_X9_next_J299 p0_9 p0_10 p0_12)
         else (f_X9_next_J304 p0_9 p0_10 p0_12 (0 : Int32))
    else 
     if p0_12 ≤ (65535 : Int32) then (f_X9_next_J238 p0_9 (f_X9_next_L192 p0_7 p0_8 p0_10 n) (((256 : Int32) * p0_12) + (p0_7 p0_9.toNatClampNeg)))
     else (f_X9_next_J238 p0_9 (f_X9_next_L192 p0_7 p0_8 p0_10 n) p0_12)
def f_X9_next_J353 (p0_9 : Int32) (p0_10 : Int32) (p0_12 : Int32) (s1 : Int32) : Int32 × Int32 × Int32 × Int32 := ((p0_9 + (1 : Int32)), p0_10, s1, p0_12)
def f_X9_next_L0 (p0_7 : Fn) (p0_8 : Int32) : Nat → Int32 → Int32 × Int32 × Int32 × Int32
  | 0, p0_9 => (p0_9, 0, 0, 0)
  | n + 1, p0_9 => 
    if (f_X9_isHere p0_7 p0_8 p0_9 (32 : Int32) (32 : Int32)) = 0 then 
     if p0_9 = p0_8 then (p0_9, p0_9, (0 : Int32), (0 : Int32))
     else 
      if (f_X9_isHere p0_7 p0_8 p0_9 (48 : Int32) (57 : Int32)) = 0 then 
       if (f_X9_isHere p0_7 p0_8 p0_9 (97 : Int32) (122 : Int32)) = 0 then 
        if (p0_7 p0_9.toNatClampNeg) = (59 : Int32) then (f_X9_next_J353 p0_9 p0_9 (0 : Int32) (3 : Int32))
        else (f_X9_next_J353 p0_9 p0_9 (0 : Int32) (2 : Int32))
       else (f_X9_next_L192 p0_7 p0_8 p0_9 4000 p0_9 (0 : Int32))
      else (f_X9_next_L67 p0_7 p0_8 p0_9 4000 p0_9 (0 : Int32))
    else ((f_X9_next_L0 p0_7 p0_8 n) (p0_9 + (1 : Int32)))
def f_X9_next (p0_7 : Fn) (p0_8 : Int32) (p0_9 : Int32) : Int32 × Int32 × Int32 × Int32 := (f_X9_next_L0 p0_7 p0_8 4000 p0_9)
def f_X9_must_C22 (p0_13 : Int32) (x2 : Int32) (p0_9 : Int32) (p0_10 : Int32) (p0_11 : Int32) (p0_12 : Int32) : Int32 × Int32 × Int32 × Int32 × Int32 × Int32 := (x2, p0_9, p0_10, p0_11, p0_12, p0_13)
def f_X9_must (p0_7 : Fn) (p0_8 : Int32) (p0_9 : Int32) (p0_10 : Int32) (p0_11 : Int32) (p0_12 : Int32) (p0_13 : Int32) (x1 : Int32) : Int32 × Int32 × Int32 × Int32 × Int32 × Int32 := 
  if p0_13 = (-9 : Int32) then 
   if x1 = 0 then (p0_12, p0_9, p0_10, p0_11, p0_12, p0_10)
   else (f_X9_must_C22 p0_13 p0_12 ((f_X9_next p0_7 p0_8 p0_9).1) ((f_X9_next p0_7 p0_8 p0_9).2.1) ((f_X9_next p0_7 p0_8 p0_9).2.2.1) ((f_X9_next p0_7 p0_8 p0_9).2.2.2))
  else (p0_12, p0_9, p0_10, p0_11, p0_12, p0_13)
def f_X9_number_C29 (s0 : Int32) (p0_9 : Int32) (p0_10 : Int32) (p0_11 : Int32) (p0_12 : Int32) (p0_13 : Int32) : Int32 × Int32 × Int32 × Int32 × Int32 × Int32 := (s0, p0_9, p0_10, p0_11, p0_12, p0_13)
def f_X9_number_J26 (p0_7 : Fn) (p0_8 : Int32) (p0_9 : Int32) (p0_10 : Int32) (p0_11 : Int32) (p0_12 : Int32) (p0_13 : Int32) (s1 : Int32) : Int32 × Int32 × Int32 × Int32 × Int32 × Int32 := (f_X9_number_C29 (f_X9_must p0_7 p0_8 p0_9 p0_10 p0_11 p0_12 p0_13 s1).1 ((f_X9_must p0_7 p0_8 p0_9 p0_10 p0_11 p0_12 p0_13 s1).2.1) ((f_X9_must p0_7 p0_8 p0_9 p0_10 p0_11 p0_12 p0_13 s1).2.2.1) ((f_X9_must p0_7 p0_8 p0_9 p0_10 p0_11 p0_12 p0_13 s1).2.2.2.1) ((f_X9_must p0_7 p0_8 p0_9 p0_10 p0_11 p0_12 p0_13 s1).2.2.2.2.1) ((f_X9_must p0_7 p0_8 p0_9 p0_10 p0_11 p0_12 p0_13 s1).2.2.2.2.2))
def f_X9_number_J25 (p0_7 : Fn) (p0_8 : Int32) (p0_9 : Int32) (p0_10 : Int32) (p0_11 : Int32) (p0_12 : Int32) (p0_13 : Int32) : Int32 × Int32 × Int32 × Int32 × Int32 × Int32 := (f_X9_number_J26 p0_7 p0_8 p0_9 p0_10 p0_11 p0_12 p0_13 (0 : Int32))
def f_X9_number (p0_7 : Fn) (p0_8 : Int32) (p0_9 : Int32) (p0_10 : Int32) (p0_11 : Int32) (p0_12 : Int32) (p0_13 : Int32) (x1 : Int32) (x2 : Int32) : Int32 × Int32 × Int32 × Int32 × Int32 × Int32 := 
  if p0_11 = (1 : Int32) then 
   if (f_X9_in p0_12 x1 x2) = 0 then (f_X9_number_J25 p0_7 p0_8 p0_9 p0_10 p0_11 p0_12 p0_13)
   else (f_X9_number_J26 p0_7 p0_8 p0_9 p0_10 p0_11 p0_12 p0_13 (1 : Int32))
  else (f_X9_number_J25 p0_7 p0_8 p0_9 p0_10 p0_11 p0_12 p0_13)
def f_X9_usedBits_L26 (p0_1 : Fn) (x1 : Int32) (x3 : Int32) (k4 : Int32 → Int32 → Int32) : Nat → Int32 → Int32 → Int32
  | 0, _, _ => 0
  | n + 1, x2, x4 => 
    if (p0_1 ((18 : Int32) + x3).toNatClampNeg) = x1 then 
     if (p0_1 ((42 : Int32) + x3).toNatClampNeg) < x4 then (k4 x2 (x3 + (1 : Int32)))
     else ((f_X9_usedBits_L26 p0_1 x1 x3 k4 n) (x2 ||| ((1 : Int32) <<< (x4 &&& 31))) (x4 + (1 : Int32)))
    else (k4 x2 (x3 + (1 : Int32)))
def f_X9_usedBits_L4 (p0_1 : Fn) (x1 : Int32) : Nat → Int32 → Int32 → Int32
  | 0, _, _ => 0
  | n + 1, x2, x3 => 
    if (p0_1 (91 : Int32).toNatClampNeg) ≤ x3 then x2
    else (f_X9_usedBits_L26 p0_1 x1 x3 (f_X9_usedBits_L4 p0_1 x1 n) 4000 x2 (p0_1 ((30 : Int32) + x3).toNatClampNeg))
def f_X9_usedBits (p0_1 : Fn) (x1 : Int32) : Int32 := (f_X9_usedBits_L4 p0_1 x1 4000 (0 : Int32) (0 : Int32))
def f_X9_readRegister_C15 (p0_1 : Fn) (x1 : Int32) (s0 : Int32) (p0_9 : Int32) (p0_10 : Int32) (p0_11 : Int32) (p0_12 : Int32) (p0_13 : Int32) : Fn × Int32 × Int32 × Int32 × Int32 × Int32 := 
    if p0_13 = (-9 : Int32) then ((upd (upd (upd (upd p0_1 ((0 : Int32) + x1).toNatClampNeg s0) ((6 : Int32) + x1).toNatClampNeg (-9 : Int32)) ((12 : Int32) + x1).toNatClampNeg (-9 : Int32)) (90 : Int32).toNatClampNeg (((upd (upd (upd p0_1 ((0 : Int32) + x1).toNatClampNeg s0) ((6 : Int32) + x1).toNatClampNeg (-9 : Int32)) ((12 : Int32) + x1).toNatClampNeg (-9 : Int32)) (90 : Int32).toNatClampNeg) + (1 : Int32))), p0_9, p0_10, p0_11, p0_12, p0_13)
    else (p0_1, p0_9, p0_10, p0_11, p0_12, p0_13)
def f_X9_readRegister (p0_1 : Fn) (p0_7 : Fn) (p0_8 : Int32) (p0_9 : Int32) (p0_10 : Int32) (p0_11 : Int32) (p0_12 : Int32) (p0_13 : Int32) : Fn × Int32 × Int32 × Int32 × Int32 × Int32 := (f_X9_readRegister_C15 p0_1 (p0_1 (90 : Int32).toNatClampNeg) (f_X9_number p0_7 p0_8 p0_9 p0_10 p0_11 p0_12 p0_13 (0 : Int32) (15 : Int32)).1 ((f_X9_number p0_7 p0_8 p0_9 p0_10 p0_11 p0_12 p0_13 (0 : Int32) (15 : Int32)).2.1) ((f_X9_number p0_7 p0_8 p0_9 p0_10 p0_11 p0_12 p0_13 (0 : Int32) (15 : Int32)).2.2.1) ((f_X9_number p0_7 p0_8 p0_9 p0_10 p0_11 p0_12 p0_13 (0 : Int32) (15 : Int32)).2.2.2.1) ((f_X9_number p0_7 p0_8 p0_9 p0_10 p0_11 p0_12 p0_13 (0 : Int32) (15 : Int32)).2.2.2.2.1) ((f_X9_number p0_7 p0_8 p0_9 p0_10 p0_11 p0_12 p0_13 (0 : Int32) (15 : Int32)).2.2.2.2.2))
def f_X9_readField_J170 (p0_1 : Fn) (x1 : Int32) (x3 : Int32) (x4 : Int32) (x5 : Int32) (s0 : Int32) (p0_9 : Int32) (p0_10 : Int32) (p0_11 : Int32) (p0_12 : Int32) (p0_13 : Int32) : Fn × Int32 × Int32 × Int32 × Int32 × Int32 := 
    if p0_13 = (-9 : Int32) then ((upd (upd (upd (upd (upd (upd p0_1 ((18 : Int32) + (p0_1 (91 : Int32).toNatClampNeg)).toNatClampNeg x1) ((30 : Int32) + (p0_1 (91 : Int32).toNatClampNeg)).toNatClampNeg x4) ((42 : Int32) + (p0_1 (91 : Int32).toNatClampNeg)).toNatClampNeg x5) ((54 : Int32) + (p0_1 (91 : Int32).toNatClampNeg)).toNatClampNeg x3) ((66 : Int32) + (p0_1 (91 : Int32).toNatClampNeg)).toNatClampNeg s0) (91 : Int32).toNatClampNeg (((upd (upd (upd (upd (upd p0_1 ((18 : Int32) + (p0_1 (91 : Int32).toNatClampNeg)).toNatClampNeg x1) ((30 : Int32) + (p0_1 (91 : Int32).toNatClampNeg)).toNatClampNeg x4) ((42 : Int32) + (p0_1 (91 : Int32).toNatClampNeg)).toNatClampNeg x5) ((54 : Int32) + (p0_1 (91 : Int32).toNatClampNeg)).toNatClampNeg x3) ((66 : Int32) + (p0_1 (91 : Int32).toNatClampNeg)).toNatClampNeg s0) (91 : Int32).toNatClampNeg) + (1 : Int32))), p0_9, p0_10, p0_11, p0_12, p0_13)
    else (p0_1, p0_9, p0_10, p0_11, p0_12, p0_13)
def f_X9_readField_C166 (p0_1 : Fn) (x1 : Int32) (x3 : Int32) (x4 : Int32) (x5 : Int32) (s0 : Int32) (p0_9 : Int32) (p0_10 : Int32) (p0_11 : Int32) (p0_12 : Int32) (p0_13 : Int32) : Fn × Int32 × Int32 × Int32 × Int32 × Int32 := (f_X9_readField_J170 p0_1 x1 x3 x4 x5 s0 p0_9 p0_10 p0_11 p0_12 p0_13)
def f_X9_readField_C139 (p0_1 : Fn) (p0_7 : Fn) (p0_8 : Int32) (x1 : Int32) (x3 : Int32) (x4 : Int32) (s0 : Int32) (p0_9 : Int32) (p0_10 : Int32) (p0_11 : Int32) (p0_12 : Int32) (p0_13 : Int32) : Fn × Int32 × Int32 × Int32 × Int32 × Int32 := 
    if p0_13 = (-9 : Int32) then (f_X9_readField_C166 p0_1 x1 x3 x4 s0 (f_X9_number p0_7 p0_8 p0_9 p0_10 p0_11 p0_12 p0_13 (0 : Int32) (((1 : Int32) <<< (((s0 - x4) + (1 : Int32)) &&& 31)) - (1 : Int32))).1 ((f_X9_number p0_7 p0_8 p0_9 p0_10 p0_11 p0_12 p0_13 (0 : Int32) (((1 : Int32) <<< (((s0 - x4) + (1 : Int32)) &&& 31)) - (1 : Int32))).2.1) ((f_X9_number p0_7 p0_8 p0_9 p0_10 p0_11 p0_12 p0_13 (0 : Int32) (((1 : Int32) <<< (((s0 - x4) + (1 : Int32)) &&& 31)) - (1 : Int32))).2.2.1) ((f_X9_number p0_7 p0_8 p0_9 p0_10 p0_11 p0_12 p0_13 (0 : Int32) (((1 : Int32) <<< (((s0 - x4) + (1 : Int32)) &&& 31)) - (1 : Int32))).2.2.2.1) ((f_X9_number p0_7 p0_8 p0_9 p0_10 p0_11 p0_12 p0_13 (0 : Int32) (((1 : Int32) <<< (((s0 - x4) + (1 : Int32)) &&& 31)) - (1 : Int32))).2.2.2.2.1) ((f_X9_number p0_7 p0_8 p0_9 p0_10 p0_11 p0_12 p0_13 (0 : Int32) (((1 : Int32) <<< (((s0 - x4) + (1 : Int32)) &&& 31)) - (1 : Int32))).2.2.2.2.2))
    else (f_X9_readField_J170 p0_1 x1 x3 x4 s0 (0 : Int32) p0_9 p0_10 p0_11 p0_12 p0_13)
def f_X9_readField_J136 (p0_1 : Fn) (p0_7 : Fn) (p0_8 : Int32) (p0_9 : Int32) (p0_10 : Int32) (p0_11 : Int32) (p0_12 : Int32) (p0_13 : Int32) (x1 : Int32) (x3 : Int32) (x4 : Int32) (s1 : Int32) : Fn × Int32 × Int32 × Int32 × Int32 × Int32 := (f_X9_readField_C139 p0_1 p0_7 p0_8 x1 x3 x4 (f_X9_must p0_7 p0_8 p0_9 p0_10 p0_11 p0_12 p0_13 s1).1 ((f_X9_must p0_7 p0_8 p0_9 p0_10 p0_11 p0_12 p0_13 s1).2.1) ((f_X9_must p0_7 p0_8 p0_9 p0_10 p0_11 p0_12 p0_13 s1).2.2.1) ((f_X9_must p0_7 p0_8 p0_9 p0_10 p0_11 p0_12 p0_13 s1).2.2.2.1) ((f_X9_must p0_7 p0_8 p0_9 p0_10 p0_11 p0_12 p0_13 s1).2.2.2.2.1) ((f_X9_must p0_7 p0_8 p0_9 p0_10 p0_11 p0_12 p0_13 s1).2.2.2.2.2))
def f_X9_readField_J135 (p0_1 : Fn) (p0_7 : Fn) (p0_8 : Int32) (p0_9 : Int32) (p0_10 : Int32) (p0_11 : Int32) (p0_12 : Int32) (p0_13 : Int32) (x1 : Int32) (x3 : Int32) (x4 : Int32) : Fn × Int32 × Int32 × Int32 × Int32 × Int32 := (f_X9_readField_J136 p0_1 p0_7 p0_8 p0_9 p0_10 p0_11 p0_12 p0_13 x1 x3 x4 (0 : Int32))
def f_X9_readField_C90 (p0_1 : Fn) (p0_7 : Fn) (p0_8 : Int32) (x1 : Int32) (x2 : Int32) (x3 : Int32) (s0 : Int32) (p0_9 : Int32) (p0_10 : Int32) (p0_11 : Int32) (p0_12 : Int32) (p0_13 : Int32) : Fn × Int32 × Int32 × Int32 × Int32 × Int32 := 
    if p0_11 = (1 : Int32) then 
     if (f_X9_in p0_12 s0 (7 : Int32)) = 0 then (f_X9_readField_J135 p0_1 p0_7 p0_8 p0_9 p0_10 p0_11 p0_12 p0_13 x1 x3 s0)
     else 
      if (x2 &&& (((2 : Int32) <<< (p0_12 &&& 31)) - ((1 : Int32) <<< (s0 &&& 31)))) = 0 then (f_X9_readField_J136 p0_1 p0_7 p0_8 p0_9 p0_10 p0_11 p0_12 p0_13 x1 x3 s0 (1 : Int32))
      else (f_X9_readField_J135 p0_1 p0_7 p0_8 p0_9 p0_10 p0_11 p0_12 p0_13 x1 x3 s0)
    else (f_X9_readField_J135 p0_1 p0_7 p0_8 p0_9 p0_10 p0_11 p0_12 p0_13 x1 x3 s0)
def f_X9_readField_J87 (p0_1 : Fn) (p0_7 : Fn) (p0_8 : Int32) (p0_9 : Int32) (p0_10 : Int32) (p0_11 : Int32) (p0_12 : Int32) (p0_13 : Int32) (x1 : Int32) (x2 : Int32) (x3 : Int32) (s1 : Int32) : Fn × Int32 × Int32 × Int32 × Int32 × Int32 := (f_X9_readField_C90 p0_1 p0_7 p0_8 x1 x2 x3 (f_X9_must p0_7 p0_8 p0_9 p0_10 p0_11 p0_12 p0_13 s1).1 ((f_X9_must p0_7 p0_8 p0_9 p0_10 p0_11 p0_12 p0_13 s1).2.1) ((f_X9_must p0_7 p0_8 p0_9 p0_10 p0_11 p0_12 p0_13 s1).2.2.1) ((f_X9_must p0_7 p0_8 p0_9 p0_10 p0_11 p0_12 p0_13 s1).2.2.2.1) ((f_X9_must p0_7 p0_8 p0_9 p0_10 p0_11 p0_12 p0_13 s1).2.2.2.2.1) ((f_X9_must p0_7 p0_8 p0_9 p0_10 p0_11 p0_12 p0_13 s1).2.2.2.2.2))
def f_X9_readField_J86 (p0_1 : Fn) (p0_7 : Fn) (p0_8 : Int32) (p0_9 : Int32) (p0_10 : Int32) (p0_11 : Int32) (p0_12 : Int32) (p0_13 : Int32) (x1 : Int32) (x2 : Int32) (x3 : Int32) : Fn × Int32 × Int32 × Int32 × Int32 × Int32 := (f_X9_readField_J87 p0_1 p0_7 p0_8 p0_9 p0_10 p0_11 p0_12 p0_13 x1 x2 x3 (0 : Int32))
def f_X9_readField_C45 (p0_1 : Fn) (p0_7 : Fn) (p0_8 : Int32) (x1 : Int32) (x2 : Int32) (s0 : Int32) (p0_9 : Int32) (p0_10 : Int32) (p0_11 : Int32) (p0_12 : Int32) (p0_13 : Int32) : Fn × Int32 × Int32 × Int32 × Int32 × Int32 := 
    if p0_11 = (1 : Int32) then 
     if (f_X9_in p0_12 (0 : Int32) (7 : Int32)) = 0 then (f_X9_readField_J86 p0_1 p0_7 p0_8 p0_9 p0_10 p0_11 p0_12 p0_13 x1 x2 (f_X9_kindOf s0))
     else 
      if ((x2 >>> (p0_12 &&& 31)) &&& (1 : Int32)) = 0 then (f_X9_readField_J87 p0_1 p0_7 p0_8 p0_9 p0_10 p0_11 p0_12 p0_13 x1 x2 (f_X9_kindOf s0) (1 : Int32))
      else (f_X9_readField_J86 p0_1 p0_7 p0_8 p0_9 p0_10 p0_11 p0_12 p0_13 x1 x2 (f_X9_kindOf s0))
    else (f_X9_readField_J86 p0_1 p0_7 p0_8 p0_9 p0_10 p0_11 p0_12 p0_13 x1 x2 (f_X9_kindOf s0))
def f_X9_readField_J42 (p0_1 : Fn) (p0_7 : Fn) (p0_8 : Int32) (p0_9 : Int32) (p0_10 : Int32) (p0_11 : Int32) (p0_12 : Int32) (p0_13 : Int32) (x1 : Int32) (x2 : Int32) (s1 : Int32) : Fn × Int32 × Int32 × Int32 × Int32 × Int32 := (f_X9_readField_C45 p0_1 p0_7 p0_8 x1 x2 (f_X9_must p0_7 p0_8 p0_9 p0_10 p0_11 p0_12 p0_13 s1).1 ((f_X9_must p0_7 p0_8 p0_9 p0_10 p0_11 p0_12 p0_13 s1).2.1) ((f_X9_must p0_7 p0_8 p0_9 p0_10 p0_11 p0_12 p0_13 s1).2.2.1) ((f_X9_must p0_7 p0_8 p0_9 p0_10 p0_11 p0_12 p0_13 s1).2.2.2.1) ((f_X9_must p0_7 p0_8 p0_9 p0_10 p0_11 p0_12 p0_13 s1).2.2.2.2.1) ((f_X9_must p0_7 p0_8 p0_9 p0_10 p0_11 p0_12 p0_13 s1).2.2.2.2.2))
def f_X9_readField_J41 (p0_1 : Fn) (p0_7 : Fn) (p0_8 : Int32) (p0_9 : Int32) (p0_10 : Int32) (p0_11 : Int32) (p0_12 : Int32) (p0_13 : Int32) (x1 : Int32) (x2 : Int32) : Fn × Int32 × Int32 × Int32 × Int32 × Int32 := (f_X9_readField_J42 p0_1 p0_7 p0_8 p0_9 p0_10 p0_11 p0_12 p0_13 x1 x2 (0 : Int32))
def f_X9_readField (p0_1 : Fn) (p0_7 : Fn) (p0_8 : Int32) (p0_9 : Int32) (p0_10 : Int32) (p0_11 : Int32) (p0_12 : Int32) (p0_13 : Int32) : Fn × Int32 × Int32 × Int32 × Int32 × Int32 := 
  if p0_11 = (4 : Int32) then 
   if (f_X9_kindOf p0_12) = (-9 : Int32) then (f_X9_readField_J41 p0_1 p0_7 p0_8 p0_9 p0_10 p0_11 p0_12 p0_13 ((p0_1 (90 : Int32).toNatClampNeg) - (1 : Int32)) (f_X9_usedBits p0_1 ((p0_1 (90 : Int32).toNatClampNeg) - (1 : Int32))))
   else (f_X9_readField_J42 p0_1 p0_7 p0_8 p0_9 p0_10 p0_11 p0_12 p0_13 ((p0_1 (90 : Int32).toNatClampNeg) - (1 : Int32)) (f_X9_usedBits p0_1 ((p0_1 (90 : Int32).toNatClampNeg) - (1 : Int32))) (1 : Int32))
  else (f_X9_readField_J41 p0_1 p0_7 p0_8 p0_9 p0_10 p0_11 p0_12 p0_13 ((p0_1 (90 : Int32).toNatClampNeg) - (1 : Int32)) (f_X9_usedBits p0_1 ((p0_1 (90 : Int32).toNatClampNeg) - (1 : Int32))))
def f_X9_readAlias_C77 (p0_1 : Fn) (x1 : Int32) (x2 : Int32) (x3 : Int32) (s0 : Int32) (p0_9 : Int32) (p0_10 : Int32) (p0_11 : Int32) (p0_12 : Int32) (p0_13 : Int32) : Fn × Int32 × Int32 × Int32 × Int32 × Int32 := 
    if p0_13 = (-9 : Int32) then ((upd (upd (upd (upd p0_1 ((78 : Int32) + (p0_1 (92 : Int32).toNatClampNeg)).toNatClampNeg x1) ((82 : Int32) + (p0_1 (92 : Int32).toNatClampNeg)).toNatClampNeg x2) ((86 : Int32) + (p0_1 (92 : Int32).toNatClampNeg)).toNatClampNeg x3) (92 : Int32).toNatClampNeg (((upd (upd (upd p0_1 ((78 : Int32) + (p0_1 (92 : Int32).toNatClampNeg)).toNatClampNeg x1) ((82 : Int32) + (p0_1 (92 : Int32).toNatClampNeg)).toNatClampNeg x2) ((86 : Int32) + (p0_1 (92 : Int32).toNatClampNeg)).toNatClampNeg x3) (92 : Int32).toNatClampNeg) + (1 : Int32))), p0_9, p0_10, p0_11, p0_12, p0_13)
    else (p0_1, p0_9, p0_10, p0_11, p0_12, p0_13)
def f_X9_readAlias_J74 (p0_1 : Fn) (p0_7 : Fn) (p0_8 : Int32) (p0_9 : Int32) (p0_10 : Int32) (p0_11 : Int32) (p0_12 : Int32) (p0_13 : Int32) (x1 : Int32) (x2 : Int32) (x3 : Int32) (s1 : Int32) : Fn × Int32 × Int32 × Int32 × Int32 × Int32 := (f_X9_readAlias_C77 p0_1 x1 x2 x3 (f_X9_must p0_7 p0_8 p0_9 p0_10 p0_11 p0_12 p0_13 s1).1 ((f_X9_must p0_7 p0_8 p0_9 p0_10 p0_11 p0_12 p0_13 s1).2.1) ((f_X9_must p0_7 p0_8 p0_9 p0_10 p0_11 p0_12 p0_13 s1).2.2.1) ((f_X9_must p0_7 p0_8 p0_9 p0_10 p0_11 p0_12 p0_13 s1).2.2.2.1) ((f_X9_must p0_7 p0_8 p0_9 p0_10 p0_11 p0_12 p0_13 s1).2.2.2.2.1) ((f_X9_must p0_7 p0_8 p0_9 p0_10 p0_11 p0_12 p0_13 s1).2.2.2.2.2))
def f_X9_readAlias_J69 (p0_1 : Fn) (p0_7 : Fn) (p0_8 : Int32) (p0_9 : Int32) (p0_10 : Int32) (p0_11 : Int32) (p0_12 : Int32) (p0_13 : Int32) (x1 : Int32) (x2 : Int32) (x3 : Int32) : Fn × Int32 × Int32 × Int32 × Int32 × Int32 := (f_X9_readAlias_J74 p0_1 p0_7 p0_8 p0_9 p0_10 p0_11 p0_12 p0_13 x1 x2 x3 (1 : Int32))
def f_X9_readAlias_J43 (p0_1 : Fn) (p0_7 : Fn) (p0_8 : Int32) (p0_9 : Int32) (p0_10 : Int32) (p0_11 : Int32) (p0_12 : Int32) (p0_13 : Int32) (x1 : Int32) (x2 : Int32) (s0 : Int32) : Fn × Int32 × Int32 × Int32 × Int32 × Int32 := 
    if s0 = 0 then (f_X9_readAlias_J69 p0_1 p0_7 p0_8 p0_9 p0_10 p0_11 p0_12 p0_13 x1 x2 s0)
    else 
     if s0 = (1 : Int32) then (f_X9_readAlias_J69 p0_1 p0_7 p0_8 p0_9 p0_10 p0_11 p0_12 p0_13 x1 x2 s0)
     else 
      if s0 = (3 : Int32) then (f_X9_readAlias_J69 p0_1 p0_7 p0_8 p0_9 p0_10 p0_11 p0_12 p0_13 x1 x2 s0)
      else 
       if s0 = (4 : Int32) then (f_X9_readAlias_J69 p0_1 p0_7 p0_8 p0_9 p0_10 p0_11 p0_12 p0_13 x1 x2 s0)
       else 
        if s0 = (5 : Int32) then (f_X9_readAlias_J69 p0_1 p0_7 p0_8 p0_9 p0_10 p0_11 p0_12 p0_13 x1 x2 s0)
        else (f_X9_readAlias_J74 p0_1 p0_7 p0_8 p0_9 p0_10 p0_11 p0_12 p0_13 x1 x2 s0 (0 : Int32))
def f_X9_readAlias_C22 (p0_1 : Fn) (p0_7 : Fn) (p0_8 : Int32) (x1 : Int32) (s0 : Int32) (p0_9 : Int32) (p0_10 : Int32) (p0_11 : Int32) (p0_12 : Int32) (p0_13 : Int32) : Fn × Int32 × Int32 × Int32 × Int32 × Int32 := 
    if p0_11 = (4 : Int32) then (f_X9_readAlias_J43 p0_1 p0_7 p0_8 p0_9 p0_10 p0_11 p0_12 p0_13 x1 s0 (f_X9_kindOf p0_12))
    else (f_X9_readAlias_J43 p0_1 p0_7 p0_8 p0_9 p0_10 p0_11 p0_12 p0_13 x1 s0 (-9 : Int32))
def f_X9_readAlias_C7 (p0_1 : Fn) (p0_7 : Fn) (p0_8 : Int32) (s0 : Int32) (p0_9 : Int32) (p0_10 : Int32) (p0_11 : Int32) (p0_12 : Int32) (p0_13 : Int32) : Fn × Int32 × Int32 × Int32 × Int32 × Int32 := (f_X9_readAlias_C22 p0_1 p0_7 p0_8 s0 (f_X9_number p0_7 p0_8 p0_9 p0_10 p0_11 p0_12 p0_13 (0 : Int32) ((p0_1 (90 : Int32).toNatClampNeg) - (1 : Int32))).1 ((f_X9_number p0_7 p0_8 p0_9 p0_10 p0_11 p0_12 p0_13 (0 : Int32) ((p0_1 (90 : Int32).toNatClampNeg) - (1 : Int32))).2.1) ((f_X9_number p0_7 p0_8 p0_9 p0_10 p0_11 p0_12 p0_13 (0 : Int32) ((p0_1 (90 : Int32).toNatClampNeg) - (1 : Int32))).2.2.1) ((f_X9_number p0_7 p0_8 p0_9 p0_10 p0_11 p0_12 p0_13 (0 : Int32) ((p0_1 (90 : Int32).toNatClampNeg) - (1 : Int32))).2.2.2.1) ((f_X9_number p0_7 p0_8 p0_9 p0_10 p0_11 p0_12 p0_13 (0 : Int32) ((p0_1 (90 : Int32).toNatClampNeg) - (1 : Int32))).2.2.2.2.1) ((f_X9_number p0_7 p0_8 p0_9 p0_10 p0_11 p0_12 p0_13 (0 : Int32) ((p0_1 (90 : Int32).toNatClampNeg) - (1 : Int32))).2.2.2.2.2))
def f_X9_readAlias (p0_1 : Fn) (p0_7 : Fn) (p0_8 : Int32) (p0_9 : Int32) (p0_10 : Int32) (p0_11 : Int32) (p0_12 : Int32) (p0_13 : Int32) : Fn × Int32 × Int32 × Int32 × Int32 × Int32 := (f_X9_readAlias_C7 p0_1 p0_7 p0_8 (f_X9_number p0_7 p0_8 p0_9 p0_10 p0_11 p0_12 p0_13 (0 : Int32) (15 : Int32)).1 ((f_X9_number p0_7 p0_8 p0_9 p0_10 p0_11 p0_12 p0_13 (0 : Int32) (15 : Int32)).2.1) ((f_X9_number p0_7 p0_8 p0_9 p0_10 p0_11 p0_12 p0_13 (0 : Int32) (15 : Int32)).2.2.1) ((f_X9_number p0_7 p0_8 p0_9 p0_10 p0_11 p0_12 p0_13 (0 : Int32) (15 : Int32)).2.2.2.1) ((f_X9_number p0_7 p0_8 p0_9 p0_10 p0_11 p0_12 p0_13 (0 : Int32) (15 : Int32)).2.2.2.2.1) ((f_X9_number p0_7 p0_8 p0_9 p0_10 p0_11 p0_12 p0_13 (0 : Int32) (15 : Int32)).2.2.2.2.2))
def f_X9_readLink_C113 (p0_1 : Fn) (x1 : Int32) (x2 : Int32) (s0 : Int32) (p0_9 : Int32) (p0_10 : Int32) (p0_11 : Int32) (p0_12 : Int32) (p0_13 : Int32) : Fn × Int32 × Int32 × Int32 × Int32 × Int32 := 
    if p0_13 = (-9 : Int32) then ((upd p0_1 (x1 + x2).toNatClampNeg s0), p0_9, p0_10, p0_11, p0_12, p0_13)
    else (p0_1, p0_9, p0_10, p0_11, p0_12, p0_13)
def f_X9_readLink_J110 (p0_1 : Fn) (p0_7 : Fn) (p0_8 : Int32) (p0_9 : Int32) (p0_10 : Int32) (p0_11 : Int32) (p0_12 : Int32) (p0_13 : Int32) (x1 : Int32) (x2 : Int32) (s1 : Int32) : Fn × Int32 × Int32 × Int32 × Int32 × Int32 := (f_X9_readLink_C113 p0_1 x1 x2 (f_X9_must p0_7 p0_8 p0_9 p0_10 p0_11 p0_12 p0_13 s1).1 ((f_X9_must p0_7 p0_8 p0_9 p0_10 p0_11 p0_12 p0_13 s1).2.1) ((f_X9_must p0_7 p0_8 p0_9 p0_10 p0_11 p0_12 p0_13 s1).2.2.1) ((f_X9_must p0_7 p0_8 p0_9 p0_10 p0_11 p0_12 p0_13 s1).2.2.2.1) ((f_X9_must p0_7 p0_8 p0_9 p0_10 p0_11 p0_12 p0_13 s1).2.2.2.2.1) ((f_X9_must p0_7 p0_8 p0_9 p0_10 p0_11 p0_12 p0_13 s1).2.2.2.2.2))
def f_X9_readLink_J105 (p0_1 : Fn) (p0_7 : Fn) (p0_8 : Int32) (p0_9 : Int32) (p0_10 : Int32) (p0_11 : Int32) (p0_12 : Int32) (p0_13 : Int32) (x1 : Int32) (x2 : Int32) : Fn × Int32 × Int32 × Int32 × Int32 × Int32 := (f_X9_readLink_J110 p0_1 p0_7 p0_8 p0_9 p0_10 p0_11 p0_12 p0_13 x1 x2 (1 : Int32))
def f_X9_readLink_J109 (p0_1 : Fn) (p0_7 : Fn) (p0_8 : Int32) (p0_9 : Int32) (p0_10 : Int32) (p0_11 : Int32) (p0_12 : Int32) (p0_13 : Int32) (x1 : Int32) (x2 : Int32) : Fn × Int32 × Int32 × Int32 × Int32 × Int32 := (f_X9_readLink_J110 p0_1 p0_7 p0_8 p0_9 p0_10 p0_11 p0_12 p0_13 x1 x2 (0 : Int32))
def f_X9_readLink_C53 (p0_1 : Fn) (p0_7 : Fn) (p0_8 : Int32) (x1 : Int32) (s0 : Int32) (p0_9 : Int32) (p0_10 : Int32) (p0_11 : Int32) (p0_12 : Int32) (p0_13 : Int32) : Fn × Int32 × Int32 × Int32 × Int32 × Int32 := 
    if p0_11 = (1 : Int32) then 
     if (f_X9_in p0_12 (0 : Int32) ((p0_1 (91 : Int32).toNatClampNeg) - (1 : Int32))) = 0 then (f_X9_readLink_J109 p0_1 p0_7 p0_8 p0_9 p0_10 p0_11 p0_12 p0_13 x1 s0)
     else 
      if x1 = (6 : Int32) then (f_X9_readLink_J105 p0_1 p0_7 p0_8 p0_9 p0_10 p0_11 p0_12 p0_13 x1 s0)
      else 
       if (p0_1 ((18 : Int32) + p0_12).toNatClampNeg) = s0 then (f_X9_readLink_J109 p0_1 p0_7 p0_8 p0_9 p0_10 p0_11 p0_12 p0_13 x1 s0)
       else (f_X9_readLink_J105 p0_1 p0_7 p0_8 p0_9 p0_10 p0_11 p0_12 p0_13 x1 s0)
    else (f_X9_readLink_J109 p0_1 p0_7 p0_8 p0_9 p0_10 p0_11 p0_12 p0_13 x1 s0)
def f_X9_readLink_J50 (p0_1 : Fn) (p0_7 : Fn) (p0_8 : Int32) (p0_9 : Int32) (p0_10 : Int32) (p0_11 : Int32) (p0_12 : Int32) (p0_13 : Int32) (x1 : Int32) (s1 : Int32) : Fn × Int32 × Int32 × Int32 × Int32 × Int32 := (f_X9_readLink_C53 p0_1 p0_7 p0_8 x1 (f_X9_must p0_7 p0_8 p0_9 p0_10 p0_11 p0_12 p0_13 s1).1 ((f_X9_must p0_7 p0_8 p0_9 p0_10 p0_11 p0_12 p0_13 s1).2.1) ((f_X9_must p0_7 p0_8 p0_9 p0_10 p0_11 p0_12 p0_13 s1).2.2.1) ((f_X9_must p0_7 p0_8 p0_9 p0_10 p0_11 p0_12 p0_13 s1).2.2.2.1) ((f_X9_must p0_7 p0_8 p0_9 p0_10 p0_11 p0_12 p0_13 s1).2.2.2.2.1) ((f_X9_must p0_7 p0_8 p0_9 p0_10 p0_11 p0_12 p0_13 s1).2.2.2.2.2))
def f_X9_readLink_J49 (p0_1 : Fn) (p0_7 : Fn) (p0_8 : Int32) (p0_9 : Int32) (p0_10 : Int32) (p0_11 : Int32) (p0_12 : Int32) (p0_13 : Int32) (x1 : Int32) : Fn × Int32 × Int32 × Int32 × Int32 × Int32 := (f_X9_readLink_J50 p0_1 p0_7 p0_8 p0_9 p0_10 p0_11 p0_12 p0_13 x1 (0 : Int32))
def f_X9_readLink (p0_1 : Fn) (p0_7 : Fn) (p0_8 : Int32) (p0_9 : Int32) (p0_10 : Int32) (p0_11 : Int32) (p0_12 : Int32) (p0_13 : Int32) (x1 : Int32) : Fn × Int32 × Int32 × Int32 × Int32 × Int32 := 
  if p0_11 = (1 : Int32) then 
   if (f_X9_in p0_12 (0 : Int32) ((p0_1 (90 : Int32).toNatClampNeg) - (1 : Int32))) = 0 then (f_X9_readLink_J49 p0_1 p0_7 p0_8 p0_9 p0_10 p0_11 p0_12 p0_13 x1)
   else 
    if (p0_1 (x1 + p0_12).toNatClampNeg) = (-9 : Int32) then (f_X9_readLink_J50 p0_1 p0_7 p0_8 p0_9 p0_10 p0_11 p0_12 p0_13 x1 (1 : Int32))
    else (f_X9_readLink_J49 p0_1 p0_7 p0_8 p0_9 p0_10 p0_11 p0_12 p0_13 x1)
  else (f_X9_readLink_J49 p0_1 p0_7 p0_8 p0_9 p0_10 p0_11 p0_12 p0_13 x1)
def f_X9_readItem_C199 (p0_1 : Fn) (s0 : Int32) (p0_9 : Int32) (p0_10 : Int32) (p0_11 : Int32) (p0_12 : Int32) (p0_13 : Int32) : Fn × Int32 × Int32 × Int32 × Int32 × Int32 := (p0_1, p0_9, p0_10, p0_11, p0_12, p0_13)
def f_X9_readItem_J196 (p0_1 : Fn) (p0_7 : Fn) (p0_8 : Int32) (p0_9 : Int32) (p0_10 : Int32) (p0_11 : Int32) (p0_12 : Int32) (p0_13 : Int32) (s1 : Int32) : Fn × Int32 × Int32 × Int32 × Int32 × Int32 := (f_X9_readItem_C199 p0_1 (f_X9_must p0_7 p0_8 p0_9 p0_10 p0_11 p0_12 p0_13 s1).1 ((f_X9_must p0_7 p0_8 p0_9 p0_10 p0_11 p0_12 p0_13 s1).2.1) ((f_X9_must p0_7 p0_8 p0_9 p0_10 p0_11 p0_12 p0_13 s1).2.2.1) ((f_X9_must p0_7 p0_8 p0_9 p0_10 p0_11 p0_12 p0_13 s1).2.2.2.1) ((f_X9_must p0_7 p0_8 p0_9 p0_10 p0_11 p0_12 p0_13 s1).2.2.2.2.1) ((f_X9_must p0_7 p0_8 p0_9 p0_10 p0_11 p0_12 p0_13 s1).2.2.2.2.2))
def f_X9_readItem_J182 (p0_7 : Fn) (p0_8 : Int32) (p0_1 : Fn) (p0_9 : Int32) (p0_10 : Int32) (p0_11 : Int32) (p0_12 : Int32) (p0_13 : Int32) : Fn × Int32 × Int32 × Int32 × Int32 × Int32 := 
    if p0_11 = (3 : Int32) then (f_X9_readItem_J196 p0_1 p0_7 p0_8 p0_9 p0_10 p0_11 p0_12 p0_13 (1 : Int32))
    else (f_X9_readItem_J196 p0_1 p0_7 p0_8 p0_9 p0_10 p0_11 p0_12 p0_13 (0 : Int32))
def f_X9_readItem_C136 (p0_7 : Fn) (p0_8 : Int32) (p0_1 : Fn) (p0_9 : Int32) (p0_10 : Int32) (p0_11 : Int32) (p0_12 : Int32) (p0_13 : Int32) : Fn × Int32 × Int32 × Int32 × Int32 × Int32 := (f_X9_readItem_J182 p0_7 p0_8 p0_1 p0_9 p0_10 p0_11 p0_12 p0_13)
def f_X9_readItem_C149 (p0_7 : Fn) (p0_8 : Int32) (p0_1 : Fn) (p0_9 : Int32) (p0_10 : Int32) (p0_11 : Int32) (p0_12 : Int32) (p0_13 : Int32) : Fn × Int32 × Int32 × Int32 × Int32 × Int32 := (f_X9_readItem_J182 p0_7 p0_8 p0_1 p0_9 p0_10 p0_11 p0_12 p0_13)
def f_X9_readItem_C162 (p0_7 : Fn) (p0_8 : Int32) (p0_1 : Fn) (p0_9 : Int32) (p0_10 : Int32) (p0_11 : Int32) (p0_12 : Int32) (p0_13 : Int32) : Fn × Int32 × Int32 × Int32 × Int32 × Int32 := (f_X9_readItem_J182 p0_7 p0_8 p0_1 p0_9 p0_10 p0_11 p0_12 p0_13)
def f_X9_readItem_J179 (p0_1 : Fn) (p0_7 : Fn) (p0_8 : Int32) (p0_9 : Int32) (p0_10 : Int32) (p0_11 : Int32) (p0_12 : Int32) (p0_13 : Int32) (s1 : Int32) : Fn × Int32 × Int32 × Int32 × Int32 × Int32 := (f_X9_readItem_J182 p0_7 p0_8 ((f_X9_readLink p0_1 p0_7 p0_8 p0_9 p0_10 p0_11 p0_12 p0_13 s1).1) ((f_X9_readLink p0_1 p0_7 p0_8 p0_9 p0_10 p0_11 p0_12 p0_13 s1).2.1) ((f_X9_readLink p0_1 p0_7 p0_8 p0_9 p0_10 p0_11 p0_12 p0_13 s1).2.2.1) ((f_X9_readLink p0_1 p0_7 p0_8 p0_9 p0_10 p0_11 p0_12 p0_13 s1).2.2.2.1) ((f_X9_readLink p0_1 p0_7 p0_8 p0_9 p0_10 p0_11 p0_12 p0_13 s1).2.2.2.2.1) ((f_X9_readLink p0_1 p0_7 p0_8 p0_9 p0_10 p0_11 p0_12 p0_13 s1).2.2.2.2.2))
def f_X9_readItem_C115 (p0_1 : Fn) (p0_7 : Fn) (p0_8 : Int32) (x1 : Int32) (s0 : Int32) (p0_9 : Int32) (p0_10 : Int32) (p0_11 : Int32) (p0_12 : Int32) (p0_13 : Int32) : Fn × Int32 × Int32 × Int32 × Int32 × Int32 := 
    if p0_13 = (-9 : Int32) then 
     if x1 = (114 : Int32) then (f_X9_readItem_C136 p0_7 p0_8 ((f_X9_readRegister p0_1 p0_7 p0_8 p0_9 p0_10 p0_11 p0_12 p0_13).1) ((f_X9_readRegister p0_1 p0_7 p0_8 p0_9 p0_10 p0_11 p0_12 p0_13).2.1) ((f_X9_readRegister p0_1 p0_7 p0_8 p0_9 p0_10 p0_11 p0_12 p0_13).2.2.1) ((f_X9_readRegister p0_1 p0_7 p0_8 p0_9 p0_10 p0_11 p0_12 p0_13).2.2.2.1) ((f_X9_readRegister p0_1 p0_7 p0_8 p0_9 p0_10 p0_11 p0_12 p0_13).2.2.2.2.1) ((f_X9_readRegister p0_1 p0_7 p0_8 p0_9 p0_10 p0_11 p0_12 p0_13).2.2.2.2.2))
     else 
      if x1 = (102 : Int32) then (f_X9_readItem_C149 p0_7 p0_8 ((f_X9_readField p0_1 p0_7 p0_8 p0_9 p0_10 p0_11 p0_12 p0_13).1) ((f_X9_readField p0_1 p0_7 p0_8 p0_9 p0_10 p0_11 p0_12 p0_13).2.1) ((f_X9_readField p0_1 p0_7 p0_8 p0_9 p0_10 p0_11 p0_12 p0_13).2.2.1) ((f_X9_readField p0_1 p0_7 p0_8 p0_9 p0_10 p0_11 p0_12 p0_13).2.2.2.1) ((f_X9_readField p0_1 p0_7 p0_8 p0_9 p0_10 p0_11 p0_12 p0_13).2.2.2.2.1) ((f_X9_readField p0_1 p0_7 p0_8 p0_9 p0_10 p0_11 p0_12 p0_13).2.2.2.2.2))
      else 
       if x1 = (97 : Int32) then (f_X9_readItem_C162 p0_7 p0_8 ((f_X9_readAlias p0_1 p0_7 p0_8 p0_9 p0_10 p0_11 p0_12 p0_13).1) ((f_X9_readAlias p0_1 p0_7 p0_8 p0_9 p0_10 p0_11 p0_12 p0_13).2.1) ((f_X9_readAlias p0_1 p0_7 p0_8 p0_9 p0_10 p0_11 p0_12 p0_13).2.2.1) ((f_X9_readAlias p0_1 p0_7 p0_8 p0_9 p0_10 p0_11 p0_12 p0_13).2.2.2.1) ((f_X9_readAlias p0_1 p0_7 p0_8 p0_9 p0_10 p0_11 p0_12 p0_13).2.2.2.2.1) ((f_X9_readAlias p0_1 p0_7 p0_8 p0_9 p0_10 p0_11 p0_12 p0_13).2.2.2.2.2))
       else 
        if x1 = (107 : Int32) then (f_X9_readItem_J179 p0_1 p0_7 p0_8 p0_9 p0_10 p0_11 p0_12 p0_13 (6 : Int32))
        else (f_X9_readItem_J179 p0_1 p0_7 p0_8 p0_9 p0_10 p0_11 p0_12 p0_13 (12 : Int32))
    else (p0_1, p0_9, p0_10, p0_11, p0_12, p0_13)
def f_X9_readItem_J112 (p0_1 : Fn) (p0_7 : Fn) (p0_8 : Int32) (p0_9 : Int32) (p0_10 : Int32) (p0_11 : Int32) (p0_12 : Int32) (p0_13 : Int32) (x1 : Int32) (s1 : Int32) : Fn × Int32 × Int32 × Int32 × Int32 × Int32 := (f_X9_readItem_C115 p0_1 p0_7 p0_8 x1 (f_X9_must p0_7 p0_8 p0_9 p0_10 p0_11 p0_12 p0_13 s1).1 ((f_X9_must p0_7 p0_8 p0_9 p0_10 p0_11 p0_12 p0_13 s1).2.1) ((f_X9_must p0_7 p0_8 p0_9 p0_10 p0_11 p0_12 p0_13 s1).2.2.1) ((f_X9_must p0_7 p0_8 p0_9 p0_10 p0_11 p0_12 p0_13 s1).2.2.2.1) ((f_X9_must p0_7 p0_8 p0_9 p0_10 p0_11 p0_12 p0_13 s1).2.2.2.2.1) ((f_X9_must p0_7 p0_8 p0_9 p0_10 p0_11 p0_12 p0_13 s1).2.2.2.2.2))
def f_X9_readItem_J107 (p0_1 : Fn) (p0_7 : Fn) (p0_8 : Int32) (p0_9 : Int32) (p0_10 : Int32) (p0_11 : Int32) (p0_12 : Int32) (p0_13 : Int32) (x1 : Int32) : Fn × Int32 × Int32 × Int32 × Int32 × Int32 := (f_X9_readItem_J112 p0_1 p0_7 p0_8 p0_9 p0_10 p0_11 p0_12 p0_13 x1 (1 : Int32))
def f_X9_readItem_J111 (p0_1 : Fn) (p0_7 : Fn) (p0_8 : Int32) (p0_9 : Int32) (p0_10 : Int32) (p0_11 : Int32) (p0_12 : Int32) (p0_13 : Int32) (x1 : Int32) : Fn × Int32 × Int32 × Int32 × Int32 × Int32 := (f_X9_readItem_J112 p0_1 p0_7 p0_8 p0_9 p0_10 p0_11 p0_12 p0_13 x1 (0 : Int32))
def f_X9_readItem_J103 (p0_1 : Fn) (p0_7 : Fn) (p0_8 : Int32) (p0_9 : Int32) (p0_10 : Int32) (p0_11 : Int32) (p0_12 : Int32) (p0_13 : Int32) (x1 : Int32) (x2 : Int32) : Fn × Int32 × Int32 × Int32 × Int32 × Int32 := 
    if x2 = 0 then (f_X9_readItem_J111 p0_1 p0_7 p0_8 p0_9 p0_10 p0_11 p0_12 p0_13 x1)
    else (f_X9_readItem_J107 p0_1 p0_7 p0_8 p0_9 p0_10 p0_11 p0_12 p0_13 x1)
def f_X9_readItem_J91 (p0_1 : Fn) (p0_7 : Fn) (p0_8 : Int32) (p0_9 : Int32) (p0_10 : Int32) (p0_11 : Int32) (p0_12 : Int32) (p0_13 : Int32) (x1 : Int32) (x2 : Int32) : Fn × Int32 × Int32 × Int32 × Int32 × Int32 := 
    if x1 = (107 : Int32) then (f_X9_readItem_J103 p0_1 p0_7 p0_8 p0_9 p0_10 p0_11 p0_12 p0_13 x1 x2)
    else 
     if x1 = (115 : Int32) then (f_X9_readItem_J103 p0_1 p0_7 p0_8 p0_9 p0_10 p0_11 p0_12 p0_13 x1 x2)
     else (f_X9_readItem_J111 p0_1 p0_7 p0_8 p0_9 p0_10 p0_11 p0_12 p0_13 x1)
def f_X9_readItem_J74 (p0_1 : Fn) (p0_7 : Fn) (p0_8 : Int32) (p0_9 : Int32) (p0_10 : Int32) (p0_11 : Int32) (p0_12 : Int32) (p0_13 : Int32) (x1 : Int32) (x2 : Int32) : Fn × Int32 × Int32 × Int32 × Int32 × Int32 := 
    if x1 = (97 : Int32) then 
     if (p0_1 (92 : Int32).toNatClampNeg) < (4 : Int32) then (f_X9_readItem_J107 p0_1 p0_7 p0_8 p0_9 p0_10 p0_11 p0_12 p0_13 x1)
     else (f_X9_readItem_J91 p0_1 p0_7 p0_8 p0_9 p0_10 p0_11 p0_12 p0_13 x1 x2)
    else (f_X9_readItem_J91 p0_1 p0_7 p0_8 p0_9 p0_10 p0_11 p0_12 p0_13 x1 x2)
def f_X9_readItem_J52 (p0_1 : Fn) (p0_7 : Fn) (p0_8 : Int32) (p0_9 : Int32) (p0_10 : Int32) (p0_11 : Int32) (p0_12 : Int32) (p0_13 : Int32) (x1 : Int32) (x2 : Int32) : Fn × Int32 × Int32 × Int32 × Int32 × Int32 := 
    if x1 = (102 : Int32) then 
     if x2 = 0 then (f_X9_readItem_J74 p0_1 p0_7 p0_8 p0_9 p0_10 p0_11 p0_12 p0_13 x1 x2)
     else 
      if (p0_1 (91 : Int32).toNatClampNeg) < (12 : Int32) then (f_X9_readItem_J107 p0_1 p0_7 p0_8 p0_9 p0_10 p0_11 p0_12 p0_13 x1)
      else (f_X9_readItem_J74 p0_1 p0_7 p0_8 p0_9 p0_10 p0_11 p0_12 p0_13 x1 x2)
    else (f_X9_readItem_J74 p0_1 p0_7 p0_8 p0_9 p0_10 p0_11 p0_12 p0_13 x1 x2)
def f_X9_readItem_J32 (p0_1 : Fn) (p0_7 : Fn) (p0_8 : Int32) (p0_9 : Int32) (p0_10 : Int32) (p0_11 : Int32) (p0_12 : Int32) (p0_13 : Int32) (x1 : Int32) (s0 : Int32) : Fn × Int32 × Int32 × Int32 × Int32 × Int32 := 
    if x1 = (114 : Int32) then 
     if (p0_1 (90 : Int32).toNatClampNeg) < (6 : Int32) then (f_X9_readItem_J107 p0_1 p0_7 p0_8 p0_9 p0_10 p0_11 p0_12 p0_13 x1)
     else (f_X9_readItem_J52 p0_1 p0_7 p0_8 p0_9 p0_10 p0_11 p0_12 p0_13 x1 s0)
    else (f_X9_readItem_J52 p0_1 p0_7 p0_8 p0_9 p0_10 p0_11 p0_12 p0_13 x1 s0)
def f_X9_readItem_J16 (p0_1 : Fn) (p0_7 : Fn) (p0_8 : Int32) (p0_9 : Int32) (p0_10 : Int32) (p0_11 : Int32) (p0_12 : Int32) (p0_13 : Int32) (s0 : Int32) : Fn × Int32 × Int32 × Int32 × Int32 × Int32 := 
    if (p0_1 (90 : Int32).toNatClampNeg) ≤ 0 then (f_X9_readItem_J32 p0_1 p0_7 p0_8 p0_9 p0_10 p0_11 p0_12 p0_13 s0 (0 : Int32))
    else (f_X9_readItem_J32 p0_1 p0_7 p0_8 p0_9 p0_10 p0_11 p0_12 p0_13 s0 (1 : Int32))
def f_X9_readItem (p0_1 : Fn) (p0_7 : Fn) (p0_8 : Int32) (p0_9 : Int32) (p0_10 : Int32) (p0_11 : Int32) (p0_12 : Int32) (p0_13 : Int32) : Fn × Int32 × Int32 × Int32 × Int32 × Int32 := 
  if p0_11 = (4 : Int32) then (f_X9_readItem_J16 p0_1 p0_7 p0_8 p0_9 p0_10 p0_11 p0_12 p0_13 p0_12)
  else (f_X9_readItem_J16 p0_1 p0_7 p0_8 p0_9 p0_10 p0_11 p0_12 p0_13 (0 : Int32))
def f_X9_tells_C58 (x1 : Int32) (k38 : Int32 → Fn → Int32 → Int32 → Int32 → Int32 → Int32 → (Int32 × Fn × Fn × Fn × Int32 × Fn × Int32 × Int32 × Int32 × Int32 × Int32 × Int32)) (p0_1 : Fn) (p0_9 : Int32) (p0_10 : Int32) (p0_11 : Int32) (p0_12 : Int32) (p0_13 : Int32) : Int32 × Fn × Fn × Fn × Int32 × Fn × Int32 × Int32 × Int32 × Int32 × Int32 × Int32 := (k38 (x1 + (1 : Int32)) p0_1 p0_9 p0_10 p0_11 p0_12 p0_13)
def f_X9_tells_C116 (p0_0 : Fn) (p0_1 : Fn) (p0_8 : Int32) (p0_9 : Int32) (p0_10 : Int32) (p0_11 : Int32) (p0_12 : Int32) (p0_13 : Int32) (x1 : Int32) (p0_2 : Fn) (p0_4 : Int32) (p0_6 : Fn) : Int32 × Fn × Fn × Fn × Int32 × Fn × Int32 × Int32 × Int32 × Int32 × Int32 × Int32 := (x1, p0_0, p0_1, p0_2, p0_4, p0_6, p0_8, p0_9, p0_10, p0_11, p0_12, p0_13)
def f_X9_tells_L83 (p0_1 : Fn) (p0_2 : Fn) (p0_6 : Fn) (p0_9 : Int32) (p0_10 : Int32) (p0_11 : Int32) (p0_12 : Int32) (p0_13 : Int32) (x1 : Int32) : Nat → Int32 → Fn → Int32 × Fn × Fn × Fn × Int32 × Fn × Int32 × Int32 × Int32 × Int32 × Int32 × Int32
  | 0, _, p0_0 => (0, p0_0, p0_1, p0_2, 0, p0_6, 0, p0_9, p0_10, p0_11, p0_12, p0_13)
  | n + 1, x2, p0_0 => 
    if (93 : Int32) ≤ x2 then (f_X9_tells_C116 p0_0 p0_1 (0 : Int32) p0_9 p0_10 p0_11 p0_12 p0_13 x1 ((f_X9_begin p0_0 p0_2 p0_6).1) ((f_X9_begin p0_0 p0_2 p0_6).2.1) ((f_X9_begin p0_0 p0_2 p0_6).2.2))
    else ((f_X9_tells_L83 p0_1 p0_2 p0_6 p0_9 p0_10 p0_11 p0_12 p0_13 x1 n) (x2 + (1 : Int32)) (upd p0_0 x2.toNatClampNeg (p0_1 x2.toNatClampNeg)))
def f_X9_tells_J64 (p0_0 : Fn) (p0_1 : Fn) (p0_2 : Fn) (p0_4 : Int32) (p0_6 : Fn) (p0_8 : Int32) (p0_9 : Int32) (p0_10 : Int32) (p0_11 : Int32) (p0_12 : Int32) (p0_13 : Int32) (x1 : Int32) : Int32 × Fn × Fn × Fn × Int32 × Fn × Int32 × Int32 × Int32 × Int32 × Int32 × Int32 := 
    if p0_13 = (-9 : Int32) then (f_X9_tells_L83 p0_1 p0_2 p0_6 p0_9 p0_10 p0_11 p0_12 p0_13 x1 4000 (0 : Int32) p0_0)
    else (((-10 : Int32) - p0_13), p0_0, p0_1, p0_2, p0_4, p0_6, p0_8, p0_9, p0_10, p0_11, p0_12, p0_13)
def f_X9_tells_L38 (p0_0 : Fn) (p0_2 : Fn) (p0_4 : Int32) (p0_6 : Fn) (p0_7 : Fn) (p0_8 : Int32) : Nat → Int32 → Fn → Int32 → Int32 → Int32 → Int32 → Int32 → Int32 × Fn × Fn × Fn × Int32 × Fn × Int32 × Int32 × Int32 × Int32 × Int32 × Int32
  | 0, _, p0_1, p0_9, p0_10, p0_11, p0_12, p0_13 => (0, p0_0, p0_1, p0_2, p0_4, p0_6, p0_8, p0_9, p0_10, p0_11, p0_12, p0_13)
  | n + 1, x1, p0_1, p0_9, p0_10, p0_11, p0_12, p0_13 => 
    if p0_13 = (-9 : Int32) then 
     if p0_11 = 0 then (f_X9_tells_J64 p0_0 p0_1 p0_2 p0_4 p0_6 p0_8 p0_9 p0_10 p0_11 p0_12 p0_13 x1)
     else (f_X9_tells_C58 x1 (f_X9_tells_L38 p0_0 p0_2 p0_4 p0_6 p0_7 p0_8 n) ((f_X9_readItem p0_1 p0_7 p0_8 p0_9 p0_10 p0_11 p0_12 p0_13).1) ((f_X9_readItem p0_1 p0_7 p0_8 p0_9 p0_10 p0_11 p0_12 p0_13).2.1) ((f_X9_readItem p0_1 p0_7 p0_8 p0_9 p0_10 p0_11 p0_12 p0_13).2.2.1) ((f_X9_readItem p0_1 p0_7 p0_8 p0_9 p0_10 p0_11 p0_12 p0_13).2.2.2.1) ((f_X9_readItem p0_1 p0_7 p0_8 p0_9 p0_10 p0_11 p0_12 p0_13).2.2.2.2.1) ((f_X9_readItem p0_1 p0_7 p0_8 p0_9 p0_10 p0_11 p0_12 p0_13).2.2.2.2.2))
    else (f_X9_tells_J64 p0_0 p0_1 p0_2 p0_4 p0_6 p0_8 p0_9 p0_10 p0_11 p0_12 p0_13 x1)
def f_X9_tells_L2 (p0_0 : Fn) (p0_2 : Fn) (p0_4 : Int32) (p0_6 : Fn) (p0_7 : Fn) (p0_8 : Int32) : Nat → Int32 → Fn → Int32 × Fn × Fn × Fn × Int32 × Fn × Int32 × Int32 × Int32 × Int32 × Int32 × Int32
  | 0, _, p0_1 => (0, p0_0, p0_1, p0_2, p0_4, p0_6, p0_8, 0, 0, 0, 0, 0)
  | n + 1, x1, p0_1 => 
    if (93 : Int32) ≤ x1 then (f_X9_tells_L38 p0_0 p0_2 p0_4 p0_6 p0_7 p0_8 4000 (0 : Int32) p0_1 ((f_X9_next p0_7 p0_8 (0 : Int32)).1) ((f_X9_next p0_7 p0_8 (0 : Int32)).2.1) ((f_X9_next p0_7 p0_8 (0 : Int32)).2.2.1) ((f_X9_next p0_7 p0_8 (0 : Int32)).2.2.2) (-9 : Int32))
    else ((f_X9_tells_L2 p0_0 p0_2 p0_4 p0_6 p0_7 p0_8 n) (x1 + (1 : Int32)) (upd p0_1 x1.toNatClampNeg (0 : Int32)))
def f_X9_tells (p0_0 : Fn) (p0_1 : Fn) (p0_2 : Fn) (p0_4 : Int32) (p0_6 : Fn) (p0_7 : Fn) (p0_8 : Int32) : Int32 × Fn × Fn × Fn × Int32 × Fn × Int32 × Int32 × Int32 × Int32 × Int32 × Int32 := (f_X9_tells_L2 p0_0 p0_2 p0_4 p0_6 p0_7 p0_8 4000 (0 : Int32) p0_1)
def f_X0_empty (p0_0 : Blk) : Blk := (bw (bw (bw p0_0 0 0 (0 : Int32)) 0 1 (0 : Int32)) 0 2 (0 : Int32))
def f_X0_usedBits_L4 (p0_0 : Blk) (x1 : Int32) : Nat → Int32 → Int32 → Int32
  | 0, _, _ => 0
  | n + 1, x2, x3 => 
    if (p0_0 0 1) ≤ x3 then x2
    else 
     if ((p0_0 4) x3.toNatClampNeg) = x1 then ((f_X0_usedBits_L4 p0_0 x1 n) (x2 ||| ((p0_0 8) x3.toNatClampNeg)) (x3 + (1 : Int32)))
     else ((f_X0_usedBits_L4 p0_0 x1 n) x2 (x3 + (1 : Int32)))
def f_X0_usedBits (p0_0 : Blk) (x1 : Int32) : Int32 := (f_X0_usedBits_L4 p0_0 x1 4000 (0 : Int32) (0 : Int32))
def f_X2_forget : Int32 := (0 : Int32)
def f_X3_copyFrom_L10 (p0_0 : Int32) (p1_1 : Fn) (p1_2 : Fn) (p1_3 : Fn) : Nat → Int32 → Fn → Fn → Fn → Int32 × Fn × Fn × Fn
  | 0, _, p0_1, p0_2, p0_3 => (p0_0, p0_1, p0_2, p0_3)
  | n + 1, x2, p0_1, p0_2, p0_3 => 
    if (20 : Int32) ≤ x2 then (p0_0, p0_1, p0_2, p0_3)
    else ((f_X3_copyFrom_L10 p0_0 p1_1 p1_2 p1_3 n) (x2 + (1 : Int32)) (upd p0_1 x2.toNatClampNeg (p1_1 x2.toNatClampNeg)) (upd p0_2 x2.toNatClampNeg (vp_nar .boolean (p1_2 x2.toNatClampNeg))) (upd p0_3 x2.toNatClampNeg (p1_3 x2.toNatClampNeg)))
def f_X3_copyFrom (p0_1 : Fn) (p0_2 : Fn) (p0_3 : Fn) (p1_0 : Int32) (p1_1 : Fn) (p1_2 : Fn) (p1_3 : Fn) : Int32 × Fn × Fn × Fn := (f_X3_copyFrom_L10 p1_0 p1_1 p1_2 p1_3 4000 (0 : Int32) p0_1 p0_2 p0_3)
def f_X7_rewind : Int32 := (0 : Int32)
def f_X6_isLetter (p0_0 : Fn) (x1 : Int32) : Int32 := 
  if (p0_0 x1.toNatClampNeg) < (97 : Int32) then (0 : Int32)
  else 
   if (122 : Int32) < (p0_0 x1.toNatClampNeg) then (0 : Int32)
   else (1 : Int32)
def f_X6_isDigit (p0_0 : Fn) (x1 : Int32) : Int32 := 
  if (p0_0 x1.toNatClampNeg) < (48 : Int32) then (0 : Int32)
  else 
   if (57 : Int32) < (p0_0 x1.toNatClampNeg) then (0 : Int32)
   else (1 : Int32)
def f_X7_advance_L101 (p0_0 : Int32) (p0_2 : Int32) (p0t_0 : Fn) (p0t_1 : Int32) : Nat → Int32 → Int32 × Int32 × Int32
  | 0, p0_1 => (p0_0, p0_1, p0_2)
  | n + 1, p0_1 => 
    if p0t_1 ≤ p0_1 then (p0_0, p0_1, p0_2)
    else 
     if (f_X6_isLetter p0t_0 p0_1) = 0 then (p0_0, p0_1, p0_2)
     else ((f_X7_advance_L101 p0_0 p0_2 p0t_0 p0t_1 n) (p0_1 + (1 : Int32)))
def f_X7_advance_L161 (p0_0 : Int32) (p0_2 : Int32) (p0t_0 : Fn) (p0t_1 : Int32) : Nat → Int32 → Int32 × Int32 × Int32
  | 0, p0_1 => (p0_0, p0_1, p0_2)
  | n + 1, p0_1 => 
    if p0t_1 ≤ p0_1 then (p0_0, p0_1, p0_2)
    else 
     if (f_X6_isDigit p0t_0 p0_1) = 0 then (p0_0, p0_1, p0_2)
     else ((f_X7_advance_L161 p0_0 p0_2 p0t_0 p0t_1 n) (p0_1 + (1 : Int32)))
def f_X7_advance_J225 (p0_0 : Int32) (p0_1 : Int32) (s1 : Int32) : Int32 × Int32 × Int32 := (p0_0, (p0_1 + (1 : Int32)), s1)
def f_X7_advance_J52 (p0_0 : Int32) (p0t_0 : Fn) (p0t_1 : Int32) : Int32 × Int32 × Int32 := 
    if p0_0 < p0t_1 then 
     if (f_X6_isLetter p0t_0 p0_0) = 0 then 
      if (f_X6_isDigit p0t_0 p0_0) = 0 then 
       if (p0t_0 p0_0.toNatClampNeg) = (59 : Int32) then (f_X7_advance_J225 p0_0 p0_0 (3 : Int32))
       else (f_X7_advance_J225 p0_0 p0_0 (0 : Int32))
      else (f_X7_advance_L161 p0_0 (2 : Int32) p0t_0 p0t_1 4000 p0_0)
     else (f_X7_advance_L101 p0_0 (1 : Int32) p0t_0 p0t_1 4000 p0_0)
    else (p0_0, p0_0, (4 : Int32))
def f_X7_advance_L8 (p0t_0 : Fn) (p0t_1 : Int32) : Nat → Int32 → Int32 × Int32 × Int32
  | 0, p0_0 => (p0_0, 0, 0)
  | n + 1, p0_0 => 
    if p0t_1 ≤ p0_0 then (f_X7_advance_J52 p0_0 p0t_0 p0t_1)
    else 
     if (p0t_0 p0_0.toNatClampNeg) = (32 : Int32) then ((f_X7_advance_L8 p0t_0 p0t_1 n) (p0_0 + (1 : Int32)))
     else (f_X7_advance_J52 p0_0 p0t_0 p0t_1)
def f_X7_advance (p0_1 : Int32) (p0t_0 : Fn) (p0t_1 : Int32) : Int32 × Int32 × Int32 := (f_X7_advance_L8 p0t_0 p0t_1 4000 p0_1)
def f_X7_letter (p0_0 : Int32) (p0_1 : Int32) (p0_2 : Int32) (p0t_0 : Fn) : Int32 := 
  if p0_2 = (1 : Int32) then 
   if (p0_1 - p0_0) = (1 : Int32) then (p0t_0 p0_0.toNatClampNeg)
   else (-9 : Int32)
  else (-9 : Int32)
def f_X7_number_L55 (p0_1 : Int32) (p0t_0 : Fn) : Nat → Int32 → Int32 → Int32
  | 0, _, _ => 0
  | n + 1, x2, x3 => 
    if p0_1 ≤ x3 then x2
    else ((f_X7_number_L55 p0_1 p0t_0 n) ((((10 : Int32) * x2) + (p0t_0 x3.toNatClampNeg)) - (48 : Int32)) (x3 + (1 : Int32)))
def f_X7_number_J48 (p0_0 : Int32) (p0_1 : Int32) (p0t_0 : Fn) : Int32 := (f_X7_number_L55 p0_1 p0t_0 4000 (0 : Int32) p0_0)
def f_X7_number (p0_0 : Int32) (p0_1 : Int32) (p0_2 : Int32) (p0t_0 : Fn) : Int32 := 
  if p0_2 = (2 : Int32) then 
   if (3 : Int32) < (p0_1 - p0_0) then (-9 : Int32)
   else 
    if (p0_1 - p0_0) ≤ (1 : Int32) then (f_X7_number_J48 p0_0 p0_1 p0t_0)
    else 
     if (p0t_0 p0_0.toNatClampNeg) = (48 : Int32) then (-9 : Int32)
     else (f_X7_number_J48 p0_0 p0_1 p0t_0)
  else (-9 : Int32)
def f_X4_takeNumber_C7 (p0kt_0 : Fn) (x1 : Int32) (x2 : Int32) (p0k_0 : Int32) (p0k_1 : Int32) (p0k_2 : Int32) : Int32 × Int32 × Int32 × Int32 := 
    if (f_X7_number p0k_0 p0k_1 p0k_2 p0kt_0) = (-9 : Int32) then ((0 : Int32), p0k_0, p0k_1, p0k_2)
    else 
     if (f_X7_number p0k_0 p0k_1 p0k_2 p0kt_0) < x1 then ((0 : Int32), p0k_0, p0k_1, p0k_2)
     else 
      if x2 < (f_X7_number p0k_0 p0k_1 p0k_2 p0kt_0) then ((0 : Int32), p0k_0, p0k_1, p0k_2)
      else ((1 : Int32), p0k_0, p0k_1, p0k_2)
def f_X4_takeNumber (p0k_1 : Int32) (p0kt_0 : Fn) (p0kt_1 : Int32) (x1 : Int32) (x2 : Int32) : Int32 × Int32 × Int32 × Int32 := (f_X4_takeNumber_C7 p0kt_0 x1 x2 ((f_X7_advance p0k_1 p0kt_0 p0kt_1).1) ((f_X7_advance p0k_1 p0kt_0 p0kt_1).2.1) ((f_X7_advance p0k_1 p0kt_0 p0kt_1).2.2))
def f_X4_takeSemicolon_C7 (p0k_0 : Int32) (p0k_1 : Int32) (p0k_2 : Int32) : Int32 × Int32 × Int32 × Int32 := 
    if p0k_2 = (3 : Int32) then ((1 : Int32), p0k_0, p0k_1, p0k_2)
    else ((0 : Int32), p0k_0, p0k_1, p0k_2)
def f_X4_takeSemicolon (p0k_1 : Int32) (p0kt_0 : Fn) (p0kt_1 : Int32) : Int32 × Int32 × Int32 × Int32 := (f_X4_takeSemicolon_C7 ((f_X7_advance p0k_1 p0kt_0 p0kt_1).1) ((f_X7_advance p0k_1 p0kt_0 p0kt_1).2.1) ((f_X7_advance p0k_1 p0kt_0 p0kt_1).2.2))
def f_X4_readGate_C107 (p0b_0 : Blk) (s0 : Int32) (p0k_0 : Int32) (p0k_1 : Int32) (p0k_2 : Int32) : Int32 × Int32 × Int32 × Int32 × Blk := (s0, p0k_0, p0k_1, p0k_2, p0b_0)
def f_X4_readGate_C65 (p0kt_0 : Fn) (p0kt_1 : Int32) (p0b_0 : Blk) (x1 : Int32) (s0 : Int32) (p0k_0 : Int32) (p0k_1 : Int32) (p0k_2 : Int32) : Int32 × Int32 × Int32 × Int32 × Blk := 
    if s0 = 0 then ((0 : Int32), p0k_0, p0k_1, p0k_2, p0b_0)
    else 
     if ((p0b_0 4) (f_X7_number p0k_0 p0k_1 p0k_2 p0kt_0).toNatClampNeg) = x1 then ((0 : Int32), p0k_0, p0k_1, p0k_2, p0b_0)
     else (f_X4_readGate_C107 (bw p0b_0 3 x1.toNatClampNeg (f_X7_number p0k_0 p0k_1 p0k_2 p0kt_0)) (f_X4_takeSemicolon p0k_1 p0kt_0 p0kt_1).1 ((f_X4_takeSemicolon p0k_1 p0kt_0 p0kt_1).2.1) ((f_X4_takeSemicolon p0k_1 p0kt_0 p0kt_1).2.2.1) ((f_X4_takeSemicolon p0k_1 p0kt_0 p0kt_1).2.2.2))
def f_X4_readGate_C24 (p0kt_0 : Fn) (p0kt_1 : Int32) (p0b_0 : Blk) (s0 : Int32) (p0k_0 : Int32) (p0k_1 : Int32) (p0k_2 : Int32) : Int32 × Int32 × Int32 × Int32 × Blk := 
    if s0 = 0 then ((0 : Int32), p0k_0, p0k_1, p0k_2, p0b_0)
    else 
     if ((p0b_0 3) (f_X7_number p0k_0 p0k_1 p0k_2 p0kt_0).toNatClampNeg) = (-9 : Int32) then (f_X4_readGate_C65 p0kt_0 p0kt_1 p0b_0 (f_X7_number p0k_0 p0k_1 p0k_2 p0kt_0) (f_X4_takeNumber p0k_1 p0kt_0 p0kt_1 (0 : Int32) ((p0b_0 0 1) - (1 : Int32))).1 ((f_X4_takeNumber p0k_1 p0kt_0 p0kt_1 (0 : Int32) ((p0b_0 0 1) - (1 : Int32))).2.1) ((f_X4_takeNumber p0k_1 p0kt_0 p0kt_1 (0 : Int32) ((p0b_0 0 1) - (1 : Int32))).2.2.1) ((f_X4_takeNumber p0k_1 p0kt_0 p0kt_1 (0 : Int32) ((p0b_0 0 1) - (1 : Int32))).2.2.2))
     else ((0 : Int32), p0k_0, p0k_1, p0k_2, p0b_0)
def f_X4_readGate (p0k_0 : Int32) (p0k_1 : Int32) (p0k_2 : Int32) (p0kt_0 : Fn) (p0kt_1 : Int32) (p0b_0 : Blk) : Int32 × Int32 × Int32 × Int32 × Blk := 
  if (p0b_0 0 0) = 0 then ((0 : Int32), p0k_0, p0k_1, p0k_2, p0b_0)
  else (f_X4_readGate_C24 p0kt_0 p0kt_1 p0b_0 (f_X4_takeNumber p0k_1 p0kt_0 p0kt_1 (0 : Int32) ((p0b_0 0 0) - (1 : Int32))).1 ((f_X4_takeNumber p0k_1 p0kt_0 p0kt_1 (0 : Int32) ((p0b_0 0 0) - (1 : Int32))).2.1) ((f_X4_takeNumber p0k_1 p0kt_0 p0kt_1 (0 : Int32) ((p0b_0 0 0) - (1 : Int32))).2.2.1) ((f_X4_takeNumber p0k_1 p0kt_0 p0kt_1 (0 : Int32) ((p0b_0 0 0) - (1 : Int32))).2.2.2))
def f_X4_readRegister_C81 (p0b_0 : Blk) (s0 : Int32) (p0k_0 : Int32) (p0k_1 : Int32) (p0k_2 : Int32) : Int32 × Int32 × Int32 × Int32 × Blk := (s0, p0k_0, p0k_1, p0k_2, p0b_0)
def f_X4_readRegister_C21 (p0kt_0 : Fn) (p0kt_1 : Int32) (p0b_0 : Blk) (x1 : Int32) (s0 : Int32) (p0k_0 : Int32) (p0k_1 : Int32) (p0k_2 : Int32) : Int32 × Int32 × Int32 × Int32 × Blk := 
    if s0 = 0 then ((0 : Int32), p0k_0, p0k_1, p0k_2, p0b_0)
    else (f_X4_readRegister_C81 (bw (bw (bw (bw p0b_0 1 x1.toNatClampNeg (f_X7_number p0k_0 p0k_1 p0k_2 p0kt_0)) 2 x1.toNatClampNeg (-9 : Int32)) 3 x1.toNatClampNeg (-9 : Int32)) 0 0 (((bw (bw (bw p0b_0 1 x1.toNatClampNeg (f_X7_number p0k_0 p0k_1 p0k_2 p0kt_0)) 2 x1.toNatClampNeg (-9 : Int32)) 3 x1.toNatClampNeg (-9 : Int32)) 0 0) + (1 : Int32))) (f_X4_takeSemicolon p0k_1 p0kt_0 p0kt_1).1 ((f_X4_takeSemicolon p0k_1 p0kt_0 p0kt_1).2.1) ((f_X4_takeSemicolon p0k_1 p0kt_0 p0kt_1).2.2.1) ((f_X4_takeSemicolon p0k_1 p0kt_0 p0kt_1).2.2.2))
def f_X4_readRegister (p0k_0 : Int32) (p0k_1 : Int32) (p0k_2 : Int32) (p0kt_0 : Fn) (p0kt_1 : Int32) (p0b_0 : Blk) : Int32 × Int32 × Int32 × Int32 × Blk := 
  if (6 : Int32) ≤ (p0b_0 0 0) then ((0 : Int32), p0k_0, p0k_1, p0k_2, p0b_0)
  else (f_X4_readRegister_C21 p0kt_0 p0kt_1 p0b_0 (p0b_0 0 0) (f_X4_takeNumber p0k_1 p0kt_0 p0kt_1 (0 : Int32) (15 : Int32)).1 ((f_X4_takeNumber p0k_1 p0kt_0 p0kt_1 (0 : Int32) (15 : Int32)).2.1) ((f_X4_takeNumber p0k_1 p0kt_0 p0kt_1 (0 : Int32) (15 : Int32)).2.2.1) ((f_X4_takeNumber p0k_1 p0kt_0 p0kt_1 (0 : Int32) (15 : Int32)).2.2.2))
def f_X4_readLock_C90 (p0b_0 : Blk) (s0 : Int32) (p0k_0 : Int32) (p0k_1 : Int32) (p0k_2 : Int32) : Int32 × Int32 × Int32 × Int32 × Blk := (s0, p0k_0, p0k_1, p0k_2, p0b_0)
def f_X4_readLock_C65 (p0kt_0 : Fn) (p0kt_1 : Int32) (p0b_0 : Blk) (x1 : Int32) (s0 : Int32) (p0k_0 : Int32) (p0k_1 : Int32) (p0k_2 : Int32) : Int32 × Int32 × Int32 × Int32 × Blk := 
    if s0 = 0 then ((0 : Int32), p0k_0, p0k_1, p0k_2, p0b_0)
    else (f_X4_readLock_C90 (bw p0b_0 2 x1.toNatClampNeg (f_X7_number p0k_0 p0k_1 p0k_2 p0kt_0)) (f_X4_takeSemicolon p0k_1 p0kt_0 p0kt_1).1 ((f_X4_takeSemicolon p0k_1 p0kt_0 p0kt_1).2.1) ((f_X4_takeSemicolon p0k_1 p0kt_0 p0kt_1).2.2.1) ((f_X4_takeSemicolon p0k_1 p0kt_0 p0kt_1).2.2.2))
def f_X4_readLock_C24 (p0kt_0 : Fn) (p0kt_1 : Int32) (p0b_0 : Blk) (s0 : Int32) (p0k_0 : Int32) (p0k_1 : Int32) (p0k_2 : Int32) : Int32 × Int32 × Int32 × Int32 × Blk := 
    if s0 = 0 then ((0 : Int32), p0k_0, p0k_1, p0k_2, p0b_0)
    else 
     if ((p0b_0 2) (f_X7_number p0k_0 p0k_1 p0k_2 p0kt_0).toNatClampNeg) = (-9 : Int32) then (f_X4_readLock_C65 p0kt_0 p0kt_1 p0b_0 (f_X7_number p0k_0 p0k_1 p0k_2 p0kt_0) (f_X4_takeNumber p0k_1 p0kt_0 p0kt_1 (0 : Int32) ((p0b_0 0 1) - (1 : Int32))).1 ((f_X4_takeNumber p0k_1 p0kt_0 p0kt_1 (0 : Int32) ((p0b_0 0 1) - (1 : Int32))).2.1) ((f_X4_takeNumber p0k_1 p0kt_0 p0kt_1 (0 : Int32) ((p0b_0 0 1) - (1 : Int32))).2.2.1) ((f_X4_takeNumber p0k_1 p0kt_0 p0kt_1 (0 : Int32) ((p0b_0 0 1) - (1 : Int32))).2.2.2))
     else ((0 : Int32), p0k_0, p0k_1, p0k_2, p0b_0)
def f_X4_readLock (p0k_0 : Int32) (p0k_1 : Int32) (p0k_2 : Int32) (p0kt_0 : Fn) (p0kt_1 : Int32) (p0b_0 : Blk) : Int32 × Int32 × Int32 × Int32 × Blk := 
  if (p0b_0 0 0) = 0 then ((0 : Int32), p0k_0, p0k_1, p0k_2, p0b_0)
  else (f_X4_readLock_C24 p0kt_0 p0kt_1 p0b_0 (f_X4_takeNumber p0k_1 p0kt_0 p0kt_1 (0 : Int32) ((p0b_0 0 0) - (1 : Int32))).1 ((f_X4_takeNumber p0k_1 p0kt_0 p0kt_1 (0 : Int32) ((p0b_0 0 0) - (1 : Int32))).2.1) ((f_X4_takeNumber p0k_1 p0kt_0 p0kt_1 (0 : Int32) ((p0b_0 0 0) - (1 : Int32))).2.2.1) ((f_X4_takeNumber p0k_1 p0kt_0 p0kt_1 (0 : Int32) ((p0b_0 0 0) - (1 : Int32))).2.2.2))
def f_X7_kind_L26 (p0_0 : Int32) (p0t_0 : Fn) : Nat → Int32 → Int32
  | 0, _ => 0
  | n + 1, x1 => 
    if (8 : Int32) ≤ x1 then (-9 : Int32)
    else 
     if (p0t_0 p0_0.toNatClampNeg) = (kl ((2 : Int32) * x1).toNatClampNeg) then 
      if (p0t_0 (p0_0 + (1 : Int32)).toNatClampNeg) = (kl (((2 : Int32) * x1) + (1 : Int32)).toNatClampNeg) then x1
      else ((f_X7_kind_L26 p0_0 p0t_0 n) (x1 + (1 : Int32)))
     else ((f_X7_kind_L26 p0_0 p0t_0 n) (x1 + (1 : Int32)))
def f_X7_kind (p0_0 : Int32) (p0_1 : Int32) (p0_2 : Int32) (p0t_0 : Fn) : Int32 := 
  if p0_2 = (1 : Int32) then 
   if (p0_1 - p0_0) = (2 : Int32) then (f_X7_kind_L26 p0_0 p0t_0 4000 (0 : Int32))
   else (-9 : Int32)
  else (-9 : Int32)
def f_X4_takeKind_C7 (p0kt_0 : Fn) (p0k_0 : Int32) (p0k_1 : Int32) (p0k_2 : Int32) : Int32 × Int32 × Int32 × Int32 := 
    if (f_X7_kind p0k_0 p0k_1 p0k_2 p0kt_0) = (-9 : Int32) then ((0 : Int32), p0k_0, p0k_1, p0k_2)
    else ((1 : Int32), p0k_0, p0k_1, p0k_2)
def f_X4_takeKind (p0k_1 : Int32) (p0kt_0 : Fn) (p0kt_1 : Int32) : Int32 × Int32 × Int32 × Int32 := (f_X4_takeKind_C7 p0kt_0 ((f_X7_advance p0k_1 p0kt_0 p0kt_1).1) ((f_X7_advance p0k_1 p0kt_0 p0kt_1).2.1) ((f_X7_advance p0k_1 p0kt_0 p0kt_1).2.2))
def f_X4_readField_C223 (p0b_0 : Blk) (s0 : Int32) (p0k_0 : Int32) (p0k_1 : Int32) (p0k_2 : Int32) : Int32 × Int32 × Int32 × Int32 × Blk := (s0, p0k_0, p0k_1, p0k_2, p0b_0)
def f_X4_readField_C152 (p0kt_0 : Fn) (p0kt_1 : Int32) (p0b_0 : Blk) (x1 : Int32) (x4 : Int32) (x5 : Int32) (x6 : Int32) (s0 : Int32) (p0k_0 : Int32) (p0k_1 : Int32) (p0k_2 : Int32) : Int32 × Int32 × Int32 × Int32 × Blk := 
    if s0 = 0 then ((0 : Int32), p0k_0, p0k_1, p0k_2, p0b_0)
    else (f_X4_readField_C223 (bw (bw (bw (bw (bw p0b_0 6 x1.toNatClampNeg x4) 7 x1.toNatClampNeg x5) 8 x1.toNatClampNeg x6) 9 x1.toNatClampNeg (f_X7_number p0k_0 p0k_1 p0k_2 p0kt_0)) 0 1 (((bw (bw (bw (bw p0b_0 6 x1.toNatClampNeg x4) 7 x1.toNatClampNeg x5) 8 x1.toNatClampNeg x6) 9 x1.toNatClampNeg (f_X7_number p0k_0 p0k_1 p0k_2 p0kt_0)) 0 1) + (1 : Int32))) (f_X4_takeSemicolon p0k_1 p0kt_0 p0kt_1).1 ((f_X4_takeSemicolon p0k_1 p0kt_0 p0kt_1).2.1) ((f_X4_takeSemicolon p0k_1 p0kt_0 p0kt_1).2.2.1) ((f_X4_takeSemicolon p0k_1 p0kt_0 p0kt_1).2.2.2))
def f_X4_readField_C110 (p0kt_0 : Fn) (p0kt_1 : Int32) (p0b_0 : Blk) (x1 : Int32) (x3 : Int32) (x4 : Int32) (s0 : Int32) (p0k_0 : Int32) (p0k_1 : Int32) (p0k_2 : Int32) : Int32 × Int32 × Int32 × Int32 × Blk := 
    if s0 = 0 then ((0 : Int32), p0k_0, p0k_1, p0k_2, p0b_0)
    else 
     if (x3 &&& (((2 : Int32) <<< ((f_X7_number p0k_0 p0k_1 p0k_2 p0kt_0) &&& 31)) - ((1 : Int32) <<< (x4 &&& 31)))) = 0 then (f_X4_readField_C152 p0kt_0 p0kt_1 p0b_0 x1 x4 (f_X7_number p0k_0 p0k_1 p0k_2 p0kt_0) (((2 : Int32) <<< ((f_X7_number p0k_0 p0k_1 p0k_2 p0kt_0) &&& 31)) - ((1 : Int32) <<< (x4 &&& 31))) (f_X4_takeNumber p0k_1 p0kt_0 p0kt_1 (0 : Int32) ((((2 : Int32) <<< ((f_X7_number p0k_0 p0k_1 p0k_2 p0kt_0) &&& 31)) - ((1 : Int32) <<< (x4 &&& 31))) >>> (x4 &&& 31))).1 ((f_X4_takeNumber p0k_1 p0kt_0 p0kt_1 (0 : Int32) ((((2 : Int32) <<< ((f_X7_number p0k_0 p0k_1 p0k_2 p0kt_0) &&& 31)) - ((1 : Int32) <<< (x4 &&& 31))) >>> (x4 &&& 31))).2.1) ((f_X4_takeNumber p0k_1 p0kt_0 p0kt_1 (0 : Int32) ((((2 : Int32) <<< ((f_X7_number p0k_0 p0k_1 p0k_2 p0kt_0) &&& 31)) - ((1 : Int32) <<< (x4 &&& 31))) >>> (x4 &&& 31))).2.2.1) ((f_X4_takeNumber p0k_1 p0kt_0 p0kt_1 (0 : Int32) ((((2 : Int32) <<< ((f_X7_number p0k_0 p0k_1 p0k_2 p0kt_0) &&& 31)) - ((1 : Int32) <<< (x4 &&& 31))) >>> (x4 &&& 31))).2.2.2))
     else ((0 : Int32), p0k_0, p0k_1, p0k_2, p0b_0)
def f_X4_readField_C79 (p0kt_0 : Fn) (p0kt_1 : Int32) (p0b_0 : Blk) (x1 : Int32) (x3 : Int32) (s0 : Int32) (p0k_0 : Int32) (p0k_1 : Int32) (p0k_2 : Int32) : Int32 × Int32 × Int32 × Int32 × Blk := 
    if s0 = 0 then ((0 : Int32), p0k_0, p0k_1, p0k_2, p0b_0)
    else 
     if ((x3 >>> ((f_X7_number p0k_0 p0k_1 p0k_2 p0kt_0) &&& 31)) &&& (1 : Int32)) = 0 then (f_X4_readField_C110 p0kt_0 p0kt_1 p0b_0 x1 x3 (f_X7_number p0k_0 p0k_1 p0k_2 p0kt_0) (f_X4_takeNumber p0k_1 p0kt_0 p0kt_1 (f_X7_number p0k_0 p0k_1 p0k_2 p0kt_0) (7 : Int32)).1 ((f_X4_takeNumber p0k_1 p0kt_0 p0kt_1 (f_X7_number p0k_0 p0k_1 p0k_2 p0kt_0) (7 : Int32)).2.1) ((f_X4_takeNumber p0k_1 p0kt_0 p0kt_1 (f_X7_number p0k_0 p0k_1 p0k_2 p0kt_0) (7 : Int32)).2.2.1) ((f_X4_takeNumber p0k_1 p0kt_0 p0kt_1 (f_X7_number p0k_0 p0k_1 p0k_2 p0kt_0) (7 : Int32)).2.2.2))
     else ((0 : Int32), p0k_0, p0k_1, p0k_2, p0b_0)
def f_X4_readField_C32 (p0kt_0 : Fn) (p0kt_1 : Int32) (p0b_0 : Blk) (x1 : Int32) (x2 : Int32) (s0 : Int32) (p0k_0 : Int32) (p0k_1 : Int32) (p0k_2 : Int32) : Int32 × Int32 × Int32 × Int32 × Blk := 
    if s0 = 0 then ((0 : Int32), p0k_0, p0k_1, p0k_2, p0b_0)
    else (f_X4_readField_C79 p0kt_0 p0kt_1 (bw (bw p0b_0 4 x1.toNatClampNeg x2) 5 x1.toNatClampNeg (f_X7_kind p0k_0 p0k_1 p0k_2 p0kt_0)) x1 (f_X0_usedBits (bw (bw p0b_0 4 x1.toNatClampNeg x2) 5 x1.toNatClampNeg (f_X7_kind p0k_0 p0k_1 p0k_2 p0kt_0)) x2) (f_X4_takeNumber p0k_1 p0kt_0 p0kt_1 (0 : Int32) (7 : Int32)).1 ((f_X4_takeNumber p0k_1 p0kt_0 p0kt_1 (0 : Int32) (7 : Int32)).2.1) ((f_X4_takeNumber p0k_1 p0kt_0 p0kt_1 (0 : Int32) (7 : Int32)).2.2.1) ((f_X4_takeNumber p0k_1 p0kt_0 p0kt_1 (0 : Int32) (7 : Int32)).2.2.2))
def f_X4_readField (p0k_0 : Int32) (p0k_1 : Int32) (p0k_2 : Int32) (p0kt_0 : Fn) (p0kt_1 : Int32) (p0b_0 : Blk) : Int32 × Int32 × Int32 × Int32 × Blk := 
  if (12 : Int32) ≤ (p0b_0 0 1) then ((0 : Int32), p0k_0, p0k_1, p0k_2, p0b_0)
  else 
   if ((p0b_0 0 0) - (1 : Int32)) < 0 then ((0 : Int32), p0k_0, p0k_1, p0k_2, p0b_0)
   else (f_X4_readField_C32 p0kt_0 p0kt_1 p0b_0 (p0b_0 0 1) ((p0b_0 0 0) - (1 : Int32)) (f_X4_takeKind p0k_1 p0kt_0 p0kt_1).1 ((f_X4_takeKind p0k_1 p0kt_0 p0kt_1).2.1) ((f_X4_takeKind p0k_1 p0kt_0 p0kt_1).2.2.1) ((f_X4_takeKind p0k_1 p0kt_0 p0kt_1).2.2.2))
def f_X4_suitsAlias (x0 : Int32) : Int32 := 
  if x0 = 0 then (1 : Int32)
  else 
   if x0 = (1 : Int32) then (1 : Int32)
   else 
    if x0 = (3 : Int32) then (1 : Int32)
    else 
     if x0 = (4 : Int32) then (1 : Int32)
     else 
      if x0 = (5 : Int32) then (1 : Int32)
      else (0 : Int32)
def f_X4_readAlias_C131 (p0b_0 : Blk) (s0 : Int32) (p0k_0 : Int32) (p0k_1 : Int32) (p0k_2 : Int32) : Int32 × Int32 × Int32 × Int32 × Blk := (s0, p0k_0, p0k_1, p0k_2, p0b_0)
def f_X4_readAlias_C80 (p0kt_0 : Fn) (p0kt_1 : Int32) (p0b_0 : Blk) (x1 : Int32) (s0 : Int32) (p0k_0 : Int32) (p0k_1 : Int32) (p0k_2 : Int32) : Int32 × Int32 × Int32 × Int32 × Blk := 
    if s0 = 0 then ((0 : Int32), p0k_0, p0k_1, p0k_2, p0b_0)
    else 
     if (f_X4_suitsAlias (f_X7_kind p0k_0 p0k_1 p0k_2 p0kt_0)) = 0 then ((0 : Int32), p0k_0, p0k_1, p0k_2, p0b_0)
     else (f_X4_readAlias_C131 (bw (bw p0b_0 12 x1.toNatClampNeg (f_X7_kind p0k_0 p0k_1 p0k_2 p0kt_0)) 0 2 (((bw p0b_0 12 x1.toNatClampNeg (f_X7_kind p0k_0 p0k_1 p0k_2 p0kt_0)) 0 2) + (1 : Int32))) (f_X4_takeSemicolon p0k_1 p0kt_0 p0kt_1).1 ((f_X4_takeSemicolon p0k_1 p0kt_0 p0kt_1).2.1) ((f_X4_takeSemicolon p0k_1 p0kt_0 p0kt_1).2.2.1) ((f_X4_takeSemicolon p0k_1 p0kt_0 p0kt_1).2.2.2))
def f_X4_readAlias_C55 (p0kt_0 : Fn) (p0kt_1 : Int32) (p0b_0 : Blk) (x1 : Int32) (s0 : Int32) (p0k_0 : Int32) (p0k_1 : Int32) (p0k_2 : Int32) : Int32 × Int32 × Int32 × Int32 × Blk := 
    if s0 = 0 then ((0 : Int32), p0k_0, p0k_1, p0k_2, p0b_0)
    else (f_X4_readAlias_C80 p0kt_0 p0kt_1 (bw p0b_0 11 x1.toNatClampNeg (f_X7_number p0k_0 p0k_1 p0k_2 p0kt_0)) x1 (f_X4_takeKind p0k_1 p0kt_0 p0kt_1).1 ((f_X4_takeKind p0k_1 p0kt_0 p0kt_1).2.1) ((f_X4_takeKind p0k_1 p0kt_0 p0kt_1).2.2.1) ((f_X4_takeKind p0k_1 p0kt_0 p0kt_1).2.2.2))
def f_X4_readAlias_C20 (p0kt_0 : Fn) (p0kt_1 : Int32) (p0b_0 : Blk) (x1 : Int32) (s0 : Int32) (p0k_0 : Int32) (p0k_1 : Int32) (p0k_2 : Int32) : Int32 × Int32 × Int32 × Int32 × Blk := 
    if s0 = 0 then ((0 : Int32), p0k_0, p0k_1, p0k_2, p0b_0)
    else (f_X4_readAlias_C55 p0kt_0 p0kt_1 (bw p0b_0 10 x1.toNatClampNeg (f_X7_number p0k_0 p0k_1 p0k_2 p0kt_0)) x1 (f_X4_takeNumber p0k_1 p0kt_0 p0kt_1 (0 : Int32) (((bw p0b_0 10 x1.toNatClampNeg (f_X7_number p0k_0 p0k_1 p0k_2 p0kt_0)) 0 0) - (1 : Int32))).1 ((f_X4_takeNumber p0k_1 p0kt_0 p0kt_1 (0 : Int32) (((bw p0b_0 10 x1.toNatClampNeg (f_X7_number p0k_0 p0k_1 p0k_2 p0kt_0)) 0 0) - (1 : Int32))).2.1) ((f_X4_takeNumber p0k_1 p0kt_0 p0kt_1 (0 : Int32) (((bw p0b_0 10 x1.toNatClampNeg (f_X7_number p0k_0 p0k_1 p0k_2 p0kt_0)) 0 0) - (1 : Int32))).2.2.1) ((f_X4_takeNumber p0k_1 p0kt_0 p0kt_1 (0 : Int32) (((bw p0b_0 10 x1.toNatClampNeg (f_X7_number p0k_0 p0k_1 p0k_2 p0kt_0)) 0 0) - (1 : Int32))).2.2.2))
def f_X4_readAlias (p0k_0 : Int32) (p0k_1 : Int32) (p0k_2 : Int32) (p0kt_0 : Fn) (p0kt_1 : Int32) (p0b_0 : Blk) : Int32 × Int32 × Int32 × Int32 × Blk := 
  if (4 : Int32) ≤ (p0b_0 0 2) then ((0 : Int32), p0k_0, p0k_1, p0k_2, p0b_0)
  else (f_X4_readAlias_C20 p0kt_0 p0kt_1 p0b_0 (p0b_0 0 2) (f_X4_takeNumber p0k_1 p0kt_0 p0kt_1 (0 : Int32) (15 : Int32)).1 ((f_X4_takeNumber p0k_1 p0kt_0 p0kt_1 (0 : Int32) (15 : Int32)).2.1) ((f_X4_takeNumber p0k_1 p0kt_0 p0kt_1 (0 : Int32) (15 : Int32)).2.2.1) ((f_X4_takeNumber p0k_1 p0kt_0 p0kt_1 (0 : Int32) (15 : Int32)).2.2.2))
def f_X4_readItem_C60 (s0 : Int32) (p0k_0 : Int32) (p0k_1 : Int32) (p0k_2 : Int32) (p0b_0 : Blk) : Int32 × Int32 × Int32 × Int32 × Blk := (s0, p0k_0, p0k_1, p0k_2, p0b_0)
def f_X4_readItem_C65 (s0 : Int32) (p0k_0 : Int32) (p0k_1 : Int32) (p0k_2 : Int32) (p0b_0 : Blk) : Int32 × Int32 × Int32 × Int32 × Blk := (s0, p0k_0, p0k_1, p0k_2, p0b_0)
def f_X4_readItem_C70 (s0 : Int32) (p0k_0 : Int32) (p0k_1 : Int32) (p0k_2 : Int32) (p0b_0 : Blk) : Int32 × Int32 × Int32 × Int32 × Blk := (s0, p0k_0, p0k_1, p0k_2, p0b_0)
def f_X4_readItem_C75 (s0 : Int32) (p0k_0 : Int32) (p0k_1 : Int32) (p0k_2 : Int32) (p0b_0 : Blk) : Int32 × Int32 × Int32 × Int32 × Blk := (s0, p0k_0, p0k_1, p0k_2, p0b_0)
def f_X4_readItem_C80 (s0 : Int32) (p0k_0 : Int32) (p0k_1 : Int32) (p0k_2 : Int32) (p0b_0 : Blk) : Int32 × Int32 × Int32 × Int32 × Blk := (s0, p0k_0, p0k_1, p0k_2, p0b_0)
def f_X4_readItem (p0k_0 : Int32) (p0k_1 : Int32) (p0k_2 : Int32) (p0kt_0 : Fn) (p0kt_1 : Int32) (p0b_0 : Blk) : Int32 × Int32 × Int32 × Int32 × Blk := 
  if (f_X7_letter p0k_0 p0k_1 p0k_2 p0kt_0) = (97 : Int32) then (f_X4_readItem_C70 (f_X4_readAlias p0k_0 p0k_1 p0k_2 p0kt_0 p0kt_1 p0b_0).1 ((f_X4_readAlias p0k_0 p0k_1 p0k_2 p0kt_0 p0kt_1 p0b_0).2.1) ((f_X4_readAlias p0k_0 p0k_1 p0k_2 p0kt_0 p0kt_1 p0b_0).2.2.1) ((f_X4_readAlias p0k_0 p0k_1 p0k_2 p0kt_0 p0kt_1 p0b_0).2.2.2.1) ((f_X4_readAlias p0k_0 p0k_1 p0k_2 p0kt_0 p0kt_1 p0b_0).2.2.2.2))
  else 
   if (f_X7_letter p0k_0 p0k_1 p0k_2 p0kt_0) = (102 : Int32) then (f_X4_readItem_C65 (f_X4_readField p0k_0 p0k_1 p0k_2 p0kt_0 p0kt_1 p0b_0).1 ((f_X4_readField p0k_0 p0k_1 p0k_2 p0kt_0 p0kt_1 p0b_0).2.1) ((f_X4_readField p0k_0 p0k_1 p0k_2 p0kt_0 p0kt_1 p0b_0).2.2.1) ((f_X4_readField p0k_0 p0k_1 p0k_2 p0kt_0 p0kt_1 p0b_0).2.2.2.1) ((f_X4_readField p0k_0 p0k_1 p0k_2 p0kt_0 p0kt_1 p0b_0).2.2.2.2))
   else 
    if (f_X7_letter p0k_0 p0k_1 p0k_2 p0kt_0) = (107 : Int32) then (f_X4_readItem_C75 (f_X4_readLock p0k_0 p0k_1 p0k_2 p0kt_0 p0kt_1 p0b_0).1 ((f_X4_readLock p0k_0 p0k_1 p0k_2 p0kt_0 p0kt_1 p0b_0).2.1) ((f_X4_readLock p0k_0 p0k_1 p0k_2 p0kt_0 p0kt_1 p0b_0).2.2.1) ((f_X4_readLock p0k_0 p0k_1 p0k_2 p0kt_0 p0kt_1 p0b_0).2.2.2.1) ((f_X4_readLock p0k_0 p0k_1 p0k_2 p0kt_0 p0kt_1 p0b_0).2.2.2.2))
    else 
     if (f_X7_letter p0k_0 p0k_1 p0k_2 p0kt_0) = (114 : Int32) then (f_X4_readItem_C60 (f_X4_readRegister p0k_0 p0k_1 p0k_2 p0kt_0 p0kt_1 p0b_0).1 ((f_X4_readRegister p0k_0 p0k_1 p0k_2 p0kt_0 p0kt_1 p0b_0).2.1) ((f_X4_readRegister p0k_0 p0k_1 p0k_2 p0kt_0 p0kt_1 p0b_0).2.2.1) ((f_X4_readRegister p0k_0 p0k_1 p0k_2 p0kt_0 p0kt_1 p0b_0).2.2.2.1) ((f_X4_readRegister p0k_0 p0k_1 p0k_2 p0kt_0 p0kt_1 p0b_0).2.2.2.2))
     else 
      if (f_X7_letter p0k_0 p0k_1 p0k_2 p0kt_0) = (115 : Int32) then (f_X4_readItem_C80 (f_X4_readGate p0k_0 p0k_1 p0k_2 p0kt_0 p0kt_1 p0b_0).1 ((f_X4_readGate p0k_0 p0k_1 p0k_2 p0kt_0 p0kt_1 p0b_0).2.1) ((f_X4_readGate p0k_0 p0k_1 p0k_2 p0kt_0 p0kt_1 p0b_0).2.2.1) ((f_X4_readGate p0k_0 p0k_1 p0k_2 p0kt_0 p0kt_1 p0b_0).2.2.2.1) ((f_X4_readGate p0k_0 p0k_1 p0k_2 p0kt_0 p0kt_1 p0b_0).2.2.2.2))
      else ((0 : Int32), p0k_0, p0k_1, p0k_2, p0b_0)
def f_X4_parse_C47 (x1 : Int32) (k16 : Int32 → Int32 → Int32 → Int32 → Blk → (Int32 × Int32 × Int32 × Int32 × Blk)) (s0 : Int32) (p0k_0 : Int32) (p0k_1 : Int32) (p0k_2 : Int32) (p0b_0 : Blk) : Int32 × Int32 × Int32 × Int32 × Blk := 
    if s0 = 0 then (((-10 : Int32) - p0k_0), p0k_0, p0k_1, p0k_2, p0b_0)
    else (k16 (x1 + (1 : Int32)) p0k_0 p0k_1 p0k_2 p0b_0)
def f_X4_parse_C30 (p0kt_0 : Fn) (p0kt_1 : Int32) (p0b_0 : Blk) (x1 : Int32) (k16 : Int32 → Int32 → Int32 → Int32 → Blk → (Int32 × Int32 × Int32 × Int32 × Blk)) (p0k_0 : Int32) (p0k_1 : Int32) (p0k_2 : Int32) : Int32 × Int32 × Int32 × Int32 × Blk := 
    if p0k_2 = (4 : Int32) then (x1, p0k_0, p0k_1, p0k_2, p0b_0)
    else (f_X4_parse_C47 x1 k16 (f_X4_readItem p0k_0 p0k_1 p0k_2 p0kt_0 p0kt_1 p0b_0).1 ((f_X4_readItem p0k_0 p0k_1 p0k_2 p0kt_0 p0kt_1 p0b_0).2.1) ((f_X4_readItem p0k_0 p0k_1 p0k_2 p0kt_0 p0kt_1 p0b_0).2.2.1) ((f_X4_readItem p0k_0 p0k_1 p0k_2 p0kt_0 p0kt_1 p0b_0).2.2.2.1) ((f_X4_readItem p0k_0 p0k_1 p0k_2 p0kt_0 p0kt_1 p0b_0).2.2.2.2))
def f_X4_parse_L16 (p0kt_0 : Fn) (p0kt_1 : Int32) : Nat → Int32 → Int32 → Int32 → Int32 → Blk → Int32 × Int32 × Int32 × Int32 × Blk
  | 0, _, p0k_0, p0k_1, p0k_2, p0b_0 => (0, p0k_0, p0k_1, p0k_2, p0b_0)
  | n + 1, x1, p0k_0, p0k_1, p0k_2, p0b_0 => 
    if (160 : Int32) < x1 then (((-10 : Int32) - p0k_0), p0k_0, p0k_1, p0k_2, p0b_0)
    else (f_X4_parse_C30 p0kt_0 p0kt_1 p0b_0 x1 (f_X4_parse_L16 p0kt_0 p0kt_1 n) ((f_X7_advance p0k_1 p0kt_0 p0kt_1).1) ((f_X7_advance p0k_1 p0kt_0 p0kt_1).2.1) ((f_X7_advance p0k_1 p0kt_0 p0kt_1).2.2))
def f_X4_parse (p0k_0 : Int32) (p0k_2 : Int32) (p0kt_0 : Fn) (p0kt_1 : Int32) (p0b_0 : Blk) : Int32 × Int32 × Int32 × Int32 × Blk := (f_X4_parse_L16 p0kt_0 p0kt_1 4000 (0 : Int32) p0k_0 f_X7_rewind p0k_2 (f_X0_empty p0b_0))
def f_X5_copyFrom_C33 (p0d_0 : Fn) (p0d_1 : Fn) (p0d_2 : Fn) (p0d_3 : Fn) (p0m_0 : Fn) (p0m_1 : Fn) (p0m_2 : Fn) (p0m_3 : Fn) (p1_0 : Int32) (p1_1 : Int32) (p0j_0 : Int32) (p0j_1 : Fn) (p0j_2 : Fn) (p0j_3 : Fn) : Int32 × Int32 × Fn × Fn × Fn × Fn × Fn × Fn × Fn × Fn × Int32 × Fn × Fn × Fn := (p1_0, p1_1, p0d_0, p0d_1, p0d_2, p0d_3, p0m_0, p0m_1, p0m_2, p0m_3, p0j_0, p0j_1, p0j_2, p0j_3)
def f_X5_copyFrom_C22 (p0d_0 : Fn) (p0d_1 : Fn) (p0d_2 : Fn) (p0d_3 : Fn) (p0j_1 : Fn) (p0j_2 : Fn) (p0j_3 : Fn) (p1_0 : Int32) (p1_1 : Int32) (p1j_0 : Int32) (p1j_1 : Fn) (p1j_2 : Fn) (p1j_3 : Fn) (p0m_0 : Fn) (p0m_1 : Fn) (p0m_2 : Fn) (p0m_3 : Fn) : Int32 × Int32 × Fn × Fn × Fn × Fn × Fn × Fn × Fn × Fn × Int32 × Fn × Fn × Fn := (f_X5_copyFrom_C33 p0d_0 p0d_1 p0d_2 p0d_3 p0m_0 p0m_1 p0m_2 p0m_3 p1_0 p1_1 ((f_X3_copyFrom p0j_1 p0j_2 p0j_3 p1j_0 p1j_1 p1j_2 p1j_3).1) ((f_X3_copyFrom p0j_1 p0j_2 p0j_3 p1j_0 p1j_1 p1j_2 p1j_3).2.1) ((f_X3_copyFrom p0j_1 p0j_2 p0j_3 p1j_0 p1j_1 p1j_2 p1j_3).2.2.1) ((f_X3_copyFrom p0j_1 p0j_2 p0j_3 p1j_0 p1j_1 p1j_2 p1j_3).2.2.2))
def f_X5_copyFrom_C11 (p0m_0 : Fn) (p0m_1 : Fn) (p0m_2 : Fn) (p0m_3 : Fn) (p0j_1 : Fn) (p0j_2 : Fn) (p0j_3 : Fn) (p1_0 : Int32) (p1_1 : Int32) (p1m_0 : Fn) (p1m_1 : Fn) (p1m_2 : Fn) (p1m_3 : Fn) (p1j_0 : Int32) (p1j_1 : Fn) (p1j_2 : Fn) (p1j_3 : Fn) (p0d_0 : Fn) (p0d_1 : Fn) (p0d_2 : Fn) (p0d_3 : Fn) : Int32 × Int32 × Fn × Fn × Fn × Fn × Fn × Fn × Fn × Fn × Int32 × Fn × Fn × Fn := (f_X5_copyFrom_C22 p0d_0 p0d_1 p0d_2 p0d_3 p0j_1 p0j_2 p0j_3 p1_0 p1_1 p1j_0 p1j_1 p1j_2 p1j_3 ((f_X1_copyFrom p0m_0 p0m_1 p0m_2 p0m_3 p1m_0 p1m_1 p1m_2 p1m_3).1) ((f_X1_copyFrom p0m_0 p0m_1 p0m_2 p0m_3 p1m_0 p1m_1 p1m_2 p1m_3).2.1) ((f_X1_copyFrom p0m_0 p0m_1 p0m_2 p0m_3 p1m_0 p1m_1 p1m_2 p1m_3).2.2.1) ((f_X1_copyFrom p0m_0 p0m_1 p0m_2 p0m_3 p1m_0 p1m_1 p1m_2 p1m_3).2.2.2))
def f_X5_copyFrom (p0d_0 : Fn) (p0d_1 : Fn) (p0d_2 : Fn) (p0d_3 : Fn) (p0m_0 : Fn) (p0m_1 : Fn) (p0m_2 : Fn) (p0m_3 : Fn) (p0j_1 : Fn) (p0j_2 : Fn) (p0j_3 : Fn) (p1_0 : Int32) (p1_1 : Int32) (p1d_0 : Fn) (p1d_1 : Fn) (p1d_2 : Fn) (p1d_3 : Fn) (p1m_0 : Fn) (p1m_1 : Fn) (p1m_2 : Fn) (p1m_3 : Fn) (p1j_0 : Int32) (p1j_1 : Fn) (p1j_2 : Fn) (p1j_3 : Fn) : Int32 × Int32 × Fn × Fn × Fn × Fn × Fn × Fn × Fn × Fn × Int32 × Fn × Fn × Fn := (f_X5_copyFrom_C11 p0m_0 p0m_1 p0m_2 p0m_3 p0j_1 p0j_2 p0j_3 p1_0 p1_1 p1m_0 p1m_1 p1m_2 p1m_3 p1j_0 p1j_1 p1j_2 p1j_3 ((f_X1_copyFrom p0d_0 p0d_1 p0d_2 p0d_3 p1d_0 p1d_1 p1d_2 p1d_3).1) ((f_X1_copyFrom p0d_0 p0d_1 p0d_2 p0d_3 p1d_0 p1d_1 p1d_2 p1d_3).2.1) ((f_X1_copyFrom p0d_0 p0d_1 p0d_2 p0d_3 p1d_0 p1d_1 p1d_2 p1d_3).2.2.1) ((f_X1_copyFrom p0d_0 p0d_1 p0d_2 p0d_3 p1d_0 p1d_1 p1d_2 p1d_3).2.2.2))
def f_X5_startWith_C21 (p0d_3 : Fn) (p0m_3 : Fn) (p0_0 : Int32) (p0_1 : Int32) (p0d_0 : Fn) (p0d_1 : Fn) (p0d_2 : Fn) (p0m_0 : Fn) (p0m_1 : Fn) (p0m_2 : Fn) (p0j_0 : Int32) : Int32 × Int32 × Fn × Fn × Fn × Fn × Fn × Fn × Fn × Fn × Int32 := (p0_0, p0_1, p0d_0, p0d_1, p0d_2, p0d_3, p0m_0, p0m_1, p0m_2, p0m_3, p0j_0)
def f_X5_startWith (p0d_0 : Fn) (p0d_1 : Fn) (p0d_2 : Fn) (p0d_3 : Fn) (p0m_0 : Fn) (p0m_1 : Fn) (p0m_2 : Fn) (p0m_3 : Fn) (p1_0 : Blk) : Int32 × Int32 × Fn × Fn × Fn × Fn × Fn × Fn × Fn × Fn × Int32 := (f_X5_startWith_C21 (f_X1_mend p0d_3 p1_0) (f_X1_mend p0m_3 p1_0) ((f_X5_restart p0d_0 p0d_1 p0d_2 p0m_0 p0m_1 p0m_2 p1_0).1) ((f_X5_restart p0d_0 p0d_1 p0d_2 p0m_0 p0m_1 p0m_2 p1_0).2.1) ((f_X5_restart p0d_0 p0d_1 p0d_2 p0m_0 p0m_1 p0m_2 p1_0).2.2.1) ((f_X5_restart p0d_0 p0d_1 p0d_2 p0m_0 p0m_1 p0m_2 p1_0).2.2.2.1) ((f_X5_restart p0d_0 p0d_1 p0d_2 p0m_0 p0m_1 p0m_2 p1_0).2.2.2.2.1) ((f_X5_restart p0d_0 p0d_1 p0d_2 p0m_0 p0m_1 p0m_2 p1_0).2.2.2.2.2.1) ((f_X5_restart p0d_0 p0d_1 p0d_2 p0m_0 p0m_1 p0m_2 p1_0).2.2.2.2.2.2.1) ((f_X5_restart p0d_0 p0d_1 p0d_2 p0m_0 p0m_1 p0m_2 p1_0).2.2.2.2.2.2.2.1) ((f_X5_restart p0d_0 p0d_1 p0d_2 p0m_0 p0m_1 p0m_2 p1_0).2.2.2.2.2.2.2.2))
def f_X2_rememberV_C13 (p0_1 : Int32) (p0_2 : Int32) (p0e_0 : Int32) (p0e_1 : Int32) (p0ed_0 : Fn) (p0ed_1 : Fn) (p0ed_2 : Fn) (p0ed_3 : Fn) (p0em_0 : Fn) (p0em_1 : Fn) (p0em_2 : Fn) (p0em_3 : Fn) (p0ej_0 : Int32) (p0ej_1 : Fn) (p0ej_2 : Fn) (p0ej_3 : Fn) : Int32 × Int32 × Int32 × Int32 × Fn × Fn × Fn × Fn × Fn × Fn × Fn × Fn × Int32 × Fn × Fn × Fn := (((p0_1 + (1 : Int32)) - (p0_1 + (1 : Int32)) / (6 : Int32) * (6 : Int32)), (if (6 : Int32) < (p0_2 + (1 : Int32)) then (6 : Int32) else (p0_2 + (1 : Int32))), p0e_0, p0e_1, p0ed_0, p0ed_1, p0ed_2, p0ed_3, p0em_0, p0em_1, p0em_2, p0em_3, p0ej_0, p0ej_1, p0ej_2, p0ej_3)
def f_X2_rememberV (p0_1 : Int32) (p0_2 : Int32) (p0ed_0 : Fn) (p0ed_1 : Fn) (p0ed_2 : Fn) (p0ed_3 : Fn) (p0em_0 : Fn) (p0em_1 : Fn) (p0em_2 : Fn) (p0em_3 : Fn) (p0ej_1 : Fn) (p0ej_2 : Fn) (p0ej_3 : Fn) (p1_0 : Int32) (p1_1 : Int32) (p1d_0 : Fn) (p1d_1 : Fn) (p1d_2 : Fn) (p1d_3 : Fn) (p1m_0 : Fn) (p1m_1 : Fn) (p1m_2 : Fn) (p1m_3 : Fn) (p1j_0 : Int32) (p1j_1 : Fn) (p1j_2 : Fn) (p1j_3 : Fn) : Int32 × Int32 × Int32 × Int32 × Fn × Fn × Fn × Fn × Fn × Fn × Fn × Fn × Int32 × Fn × Fn × Fn := (f_X2_rememberV_C13 p0_1 p0_2 ((f_X5_copyFrom p0ed_0 p0ed_1 p0ed_2 p0ed_3 p0em_0 p0em_1 p0em_2 p0em_3 p0ej_1 p0ej_2 p0ej_3 p1_0 p1_1 p1d_0 p1d_1 p1d_2 p1d_3 p1m_0 p1m_1 p1m_2 p1m_3 p1j_0 p1j_1 p1j_2 p1j_3).1) ((f_X5_copyFrom p0ed_0 p0ed_1 p0ed_2 p0ed_3 p0em_0 p0em_1 p0em_2 p0em_3 p0ej_1 p0ej_2 p0ej_3 p1_0 p1_1 p1d_0 p1d_1 p1d_2 p1d_3 p1m_0 p1m_1 p1m_2 p1m_3 p1j_0 p1j_1 p1j_2 p1j_3).2.1) ((f_X5_copyFrom p0ed_0 p0ed_1 p0ed_2 p0ed_3 p0em_0 p0em_1 p0em_2 p0em_3 p0ej_1 p0ej_2 p0ej_3 p1_0 p1_1 p1d_0 p1d_1 p1d_2 p1d_3 p1m_0 p1m_1 p1m_2 p1m_3 p1j_0 p1j_1 p1j_2 p1j_3).2.2.1) ((f_X5_copyFrom p0ed_0 p0ed_1 p0ed_2 p0ed_3 p0em_0 p0em_1 p0em_2 p0em_3 p0ej_1 p0ej_2 p0ej_3 p1_0 p1_1 p1d_0 p1d_1 p1d_2 p1d_3 p1m_0 p1m_1 p1m_2 p1m_3 p1j_0 p1j_1 p1j_2 p1j_3).2.2.2.1) ((f_X5_copyFrom p0ed_0 p0ed_1 p0ed_2 p0ed_3 p0em_0 p0em_1 p0em_2 p0em_3 p0ej_1 p0ej_2 p0ej_3 p1_0 p1_1 p1d_0 p1d_1 p1d_2 p1d_3 p1m_0 p1m_1 p1m_2 p1m_3 p1j_0 p1j_1 p1j_2 p1j_3).2.2.2.2.1) ((f_X5_copyFrom p0ed_0 p0ed_1 p0ed_2 p0ed_3 p0em_0 p0em_1 p0em_2 p0em_3 p0ej_1 p0ej_2 p0ej_3 p1_0 p1_1 p1d_0 p1d_1 p1d_2 p1d_3 p1m_0 p1m_1 p1m_2 p1m_3 p1j_0 p1j_1 p1j_2 p1j_3).2.2.2.2.2.1) ((f_X5_copyFrom p0ed_0 p0ed_1 p0ed_2 p0ed_3 p0em_0 p0em_1 p0em_2 p0em_3 p0ej_1 p0ej_2 p0ej_3 p1_0 p1_1 p1d_0 p1d_1 p1d_2 p1d_3 p1m_0 p1m_1 p1m_2 p1m_3 p1j_0 p1j_1 p1j_2 p1j_3).2.2.2.2.2.2.1) ((f_X5_copyFrom p0ed_0 p0ed_1 p0ed_2 p0ed_3 p0em_0 p0em_1 p0em_2 p0em_3 p0ej_1 p0ej_2 p0ej_3 p1_0 p1_1 p1d_0 p1d_1 p1d_2 p1d_3 p1m_0 p1m_1 p1m_2 p1m_3 p1j_0 p1j_1 p1j_2 p1j_3).2.2.2.2.2.2.2.1) ((f_X5_copyFrom p0ed_0 p0ed_1 p0ed_2 p0ed_3 p0em_0 p0em_1 p0em_2 p0em_3 p0ej_1 p0ej_2 p0ej_3 p1_0 p1_1 p1d_0 p1d_1 p1d_2 p1d_3 p1m_0 p1m_1 p1m_2 p1m_3 p1j_0 p1j_1 p1j_2 p1j_3).2.2.2.2.2.2.2.2.1) ((f_X5_copyFrom p0ed_0 p0ed_1 p0ed_2 p0ed_3 p0em_0 p0em_1 p0em_2 p0em_3 p0ej_1 p0ej_2 p0ej_3 p1_0 p1_1 p1d_0 p1d_1 p1d_2 p1d_3 p1m_0 p1m_1 p1m_2 p1m_3 p1j_0 p1j_1 p1j_2 p1j_3).2.2.2.2.2.2.2.2.2.1) ((f_X5_copyFrom p0ed_0 p0ed_1 p0ed_2 p0ed_3 p0em_0 p0em_1 p0em_2 p0em_3 p0ej_1 p0ej_2 p0ej_3 p1_0 p1_1 p1d_0 p1d_1 p1d_2 p1d_3 p1m_0 p1m_1 p1m_2 p1m_3 p1j_0 p1j_1 p1j_2 p1j_3).2.2.2.2.2.2.2.2.2.2.1) ((f_X5_copyFrom p0ed_0 p0ed_1 p0ed_2 p0ed_3 p0em_0 p0em_1 p0em_2 p0em_3 p0ej_1 p0ej_2 p0ej_3 p1_0 p1_1 p1d_0 p1d_1 p1d_2 p1d_3 p1m_0 p1m_1 p1m_2 p1m_3 p1j_0 p1j_1 p1j_2 p1j_3).2.2.2.2.2.2.2.2.2.2.2.1) ((f_X5_copyFrom p0ed_0 p0ed_1 p0ed_2 p0ed_3 p0em_0 p0em_1 p0em_2 p0em_3 p0ej_1 p0ej_2 p0ej_3 p1_0 p1_1 p1d_0 p1d_1 p1d_2 p1d_3 p1m_0 p1m_1 p1m_2 p1m_3 p1j_0 p1j_1 p1j_2 p1j_3).2.2.2.2.2.2.2.2.2.2.2.2.1) ((f_X5_copyFrom p0ed_0 p0ed_1 p0ed_2 p0ed_3 p0em_0 p0em_1 p0em_2 p0em_3 p0ej_1 p0ej_2 p0ej_3 p1_0 p1_1 p1d_0 p1d_1 p1d_2 p1d_3 p1m_0 p1m_1 p1m_2 p1m_3 p1j_0 p1j_1 p1j_2 p1j_3).2.2.2.2.2.2.2.2.2.2.2.2.2))
def f_X2_recallV_C39 (p0_1 : Int32) (p0_2 : Int32) (p1_0 : Int32) (p1_1 : Int32) (p1d_0 : Fn) (p1d_1 : Fn) (p1d_2 : Fn) (p1d_3 : Fn) (p1m_0 : Fn) (p1m_1 : Fn) (p1m_2 : Fn) (p1m_3 : Fn) (p1j_0 : Int32) (p1j_1 : Fn) (p1j_2 : Fn) (p1j_3 : Fn) : Int32 × Int32 × Int32 × Int32 × Fn × Fn × Fn × Fn × Fn × Fn × Fn × Fn × Int32 × Fn × Fn × Fn := (p0_1, p0_2, p1_0, p1_1, p1d_0, p1d_1, p1d_2, p1d_3, p1m_0, p1m_1, p1m_2, p1m_3, p1j_0, p1j_1, p1j_2, p1j_3)
def f_X2_recallV (p0_1 : Int32) (p0_2 : Int32) (p0e_0 : Int32) (p0e_1 : Int32) (p0ed_0 : Fn) (p0ed_1 : Fn) (p0ed_2 : Fn) (p0ed_3 : Fn) (p0em_0 : Fn) (p0em_1 : Fn) (p0em_2 : Fn) (p0em_3 : Fn) (p0ej_0 : Int32) (p0ej_1 : Fn) (p0ej_2 : Fn) (p0ej_3 : Fn) (p1d_0 : Fn) (p1d_1 : Fn) (p1d_2 : Fn) (p1d_3 : Fn) (p1m_0 : Fn) (p1m_1 : Fn) (p1m_2 : Fn) (p1m_3 : Fn) (p1j_1 : Fn) (p1j_2 : Fn) (p1j_3 : Fn) : Int32 × Int32 × Int32 × Int32 × Fn × Fn × Fn × Fn × Fn × Fn × Fn × Fn × Int32 × Fn × Fn × Fn := (f_X2_recallV_C39 (((p0_1 + (6 : Int32)) - (1 : Int32)) - ((p0_1 + (6 : Int32)) - (1 : Int32)) / (6 : Int32) * (6 : Int32)) (p0_2 - (1 : Int32)) ((f_X5_copyFrom p1d_0 p1d_1 p1d_2 p1d_3 p1m_0 p1m_1 p1m_2 p1m_3 p1j_1 p1j_2 p1j_3 p0e_0 p0e_1 p0ed_0 p0ed_1 p0ed_2 p0ed_3 p0em_0 p0em_1 p0em_2 p0em_3 p0ej_0 p0ej_1 p0ej_2 p0ej_3).1) ((f_X5_copyFrom p1d_0 p1d_1 p1d_2 p1d_3 p1m_0 p1m_1 p1m_2 p1m_3 p1j_1 p1j_2 p1j_3 p0e_0 p0e_1 p0ed_0 p0ed_1 p0ed_2 p0ed_3 p0em_0 p0em_1 p0em_2 p0em_3 p0ej_0 p0ej_1 p0ej_2 p0ej_3).2.1) ((f_X5_copyFrom p1d_0 p1d_1 p1d_2 p1d_3 p1m_0 p1m_1 p1m_2 p1m_3 p1j_1 p1j_2 p1j_3 p0e_0 p0e_1 p0ed_0 p0ed_1 p0ed_2 p0ed_3 p0em_0 p0em_1 p0em_2 p0em_3 p0ej_0 p0ej_1 p0ej_2 p0ej_3).2.2.1) ((f_X5_copyFrom p1d_0 p1d_1 p1d_2 p1d_3 p1m_0 p1m_1 p1m_2 p1m_3 p1j_1 p1j_2 p1j_3 p0e_0 p0e_1 p0ed_0 p0ed_1 p0ed_2 p0ed_3 p0em_0 p0em_1 p0em_2 p0em_3 p0ej_0 p0ej_1 p0ej_2 p0ej_3).2.2.2.1) ((f_X5_copyFrom p1d_0 p1d_1 p1d_2 p1d_3 p1m_0 p1m_1 p1m_2 p1m_3 p1j_1 p1j_2 p1j_3 p0e_0 p0e_1 p0ed_0 p0ed_1 p0ed_2 p0ed_3 p0em_0 p0em_1 p0em_2 p0em_3 p0ej_0 p0ej_1 p0ej_2 p0ej_3).2.2.2.2.1) ((f_X5_copyFrom p1d_0 p1d_1 p1d_2 p1d_3 p1m_0 p1m_1 p1m_2 p1m_3 p1j_1 p1j_2 p1j_3 p0e_0 p0e_1 p0ed_0 p0ed_1 p0ed_2 p0ed_3 p0em_0 p0em_1 p0em_2 p0em_3 p0ej_0 p0ej_1 p0ej_2 p0ej_3).2.2.2.2.2.1) ((f_X5_copyFrom p1d_0 p1d_1 p1d_2 p1d_3 p1m_0 p1m_1 p1m_2 p1m_3 p1j_1 p1j_2 p1j_3 p0e_0 p0e_1 p0ed_0 p0ed_1 p0ed_2 p0ed_3 p0em_0 p0em_1 p0em_2 p0em_3 p0ej_0 p0ej_1 p0ej_2 p0ej_3).2.2.2.2.2.2.1) ((f_X5_copyFrom p1d_0 p1d_1 p1d_2 p1d_3 p1m_0 p1m_1 p1m_2 p1m_3 p1j_1 p1j_2 p1j_3 p0e_0 p0e_1 p0ed_0 p0ed_1 p0ed_2 p0ed_3 p0em_0 p0em_1 p0em_2 p0em_3 p0ej_0 p0ej_1 p0ej_2 p0ej_3).2.2.2.2.2.2.2.1) ((f_X5_copyFrom p1d_0 p1d_1 p1d_2 p1d_3 p1m_0 p1m_1 p1m_2 p1m_3 p1j_1 p1j_2 p1j_3 p0e_0 p0e_1 p0ed_0 p0ed_1 p0ed_2 p0ed_3 p0em_0 p0em_1 p0em_2 p0em_3 p0ej_0 p0ej_1 p0ej_2 p0ej_3).2.2.2.2.2.2.2.2.1) ((f_X5_copyFrom p1d_0 p1d_1 p1d_2 p1d_3 p1m_0 p1m_1 p1m_2 p1m_3 p1j_1 p1j_2 p1j_3 p0e_0 p0e_1 p0ed_0 p0ed_1 p0ed_2 p0ed_3 p0em_0 p0em_1 p0em_2 p0em_3 p0ej_0 p0ej_1 p0ej_2 p0ej_3).2.2.2.2.2.2.2.2.2.1) ((f_X5_copyFrom p1d_0 p1d_1 p1d_2 p1d_3 p1m_0 p1m_1 p1m_2 p1m_3 p1j_1 p1j_2 p1j_3 p0e_0 p0e_1 p0ed_0 p0ed_1 p0ed_2 p0ed_3 p0em_0 p0em_1 p0em_2 p0em_3 p0ej_0 p0ej_1 p0ej_2 p0ej_3).2.2.2.2.2.2.2.2.2.2.1) ((f_X5_copyFrom p1d_0 p1d_1 p1d_2 p1d_3 p1m_0 p1m_1 p1m_2 p1m_3 p1j_1 p1j_2 p1j_3 p0e_0 p0e_1 p0ed_0 p0ed_1 p0ed_2 p0ed_3 p0em_0 p0em_1 p0em_2 p0em_3 p0ej_0 p0ej_1 p0ej_2 p0ej_3).2.2.2.2.2.2.2.2.2.2.2.1) ((f_X5_copyFrom p1d_0 p1d_1 p1d_2 p1d_3 p1m_0 p1m_1 p1m_2 p1m_3 p1j_1 p1j_2 p1j_3 p0e_0 p0e_1 p0ed_0 p0ed_1 p0ed_2 p0ed_3 p0em_0 p0em_1 p0em_2 p0em_3 p0ej_0 p0ej_1 p0ej_2 p0ej_3).2.2.2.2.2.2.2.2.2.2.2.2.1) ((f_X5_copyFrom p1d_0 p1d_1 p1d_2 p1d_3 p1m_0 p1m_1 p1m_2 p1m_3 p1j_1 p1j_2 p1j_3 p0e_0 p0e_1 p0ed_0 p0ed_1 p0ed_2 p0ed_3 p0em_0 p0em_1 p0em_2 p0em_3 p0ej_0 p0ej_1 p0ej_2 p0ej_3).2.2.2.2.2.2.2.2.2.2.2.2.2))
def f_X2_rememberT (p0_0 : Nat → Sit) (p0_1 p0_2 : Int32) (p1_0 : Int32) (p1_1 : Int32) (p1d_0 : Fn) (p1d_1 : Fn) (p1d_2 : Fn) (p1d_3 : Fn) (p1m_0 : Fn) (p1m_1 : Fn) (p1m_2 : Fn) (p1m_3 : Fn) (p1j_0 : Int32) (p1j_1 : Fn) (p1j_2 : Fn) (p1j_3 : Fn) : Int32 × Int32 × Int32 × Int32 × Fn × Fn × Fn × Fn × Fn × Fn × Fn × Fn × Int32 × Fn × Fn × Fn := (f_X2_rememberV p0_1 p0_2 (p0_0 p0_1.toNatClampNeg).2.2.1.1 (p0_0 p0_1.toNatClampNeg).2.2.1.2.1 (p0_0 p0_1.toNatClampNeg).2.2.1.2.2.1 (p0_0 p0_1.toNatClampNeg).2.2.1.2.2.2 (p0_0 p0_1.toNatClampNeg).2.2.2.1.1 (p0_0 p0_1.toNatClampNeg).2.2.2.1.2.1 (p0_0 p0_1.toNatClampNeg).2.2.2.1.2.2.1 (p0_0 p0_1.toNatClampNeg).2.2.2.1.2.2.2 (p0_0 p0_1.toNatClampNeg).2.2.2.2.2.1 (p0_0 p0_1.toNatClampNeg).2.2.2.2.2.2.1 (p0_0 p0_1.toNatClampNeg).2.2.2.2.2.2.2 p1_0 p1_1 p1d_0 p1d_1 p1d_2 p1d_3 p1m_0 p1m_1 p1m_2 p1m_3 p1j_0 p1j_1 p1j_2 p1j_3)
def f_X2_rememberS (p0_0 : Nat → Sit) (p0_1 p0_2 : Int32) (p1_0 : Int32) (p1_1 : Int32) (p1d_0 : Fn) (p1d_1 : Fn) (p1d_2 : Fn) (p1d_3 : Fn) (p1m_0 : Fn) (p1m_1 : Fn) (p1m_2 : Fn) (p1m_3 : Fn) (p1j_0 : Int32) (p1j_1 : Fn) (p1j_2 : Fn) (p1j_3 : Fn) : Sit := ((f_X2_rememberT p0_0 p0_1 p0_2 p1_0 p1_1 p1d_0 p1d_1 p1d_2 p1d_3 p1m_0 p1m_1 p1m_2 p1m_3 p1j_0 p1j_1 p1j_2 p1j_3).2.2.1, (f_X2_rememberT p0_0 p0_1 p0_2 p1_0 p1_1 p1d_0 p1d_1 p1d_2 p1d_3 p1m_0 p1m_1 p1m_2 p1m_3 p1j_0 p1j_1 p1j_2 p1j_3).2.2.2.1, ((f_X2_rememberT p0_0 p0_1 p0_2 p1_0 p1_1 p1d_0 p1d_1 p1d_2 p1d_3 p1m_0 p1m_1 p1m_2 p1m_3 p1j_0 p1j_1 p1j_2 p1j_3).2.2.2.2.1, (f_X2_rememberT p0_0 p0_1 p0_2 p1_0 p1_1 p1d_0 p1d_1 p1d_2 p1d_3 p1m_0 p1m_1 p1m_2 p1m_3 p1j_0 p1j_1 p1j_2 p1j_3).2.2.2.2.2.1, (f_X2_rememberT p0_0 p0_1 p0_2 p1_0 p1_1 p1d_0 p1d_1 p1d_2 p1d_3 p1m_0 p1m_1 p1m_2 p1m_3 p1j_0 p1j_1 p1j_2 p1j_3).2.2.2.2.2.2.1, (f_X2_rememberT p0_0 p0_1 p0_2 p1_0 p1_1 p1d_0 p1d_1 p1d_2 p1d_3 p1m_0 p1m_1 p1m_2 p1m_3 p1j_0 p1j_1 p1j_2 p1j_3).2.2.2.2.2.2.2.1), ((f_X2_rememberT p0_0 p0_1 p0_2 p1_0 p1_1 p1d_0 p1d_1 p1d_2 p1d_3 p1m_0 p1m_1 p1m_2 p1m_3 p1j_0 p1j_1 p1j_2 p1j_3).2.2.2.2.2.2.2.2.1, (f_X2_rememberT p0_0 p0_1 p0_2 p1_0 p1_1 p1d_0 p1d_1 p1d_2 p1d_3 p1m_0 p1m_1 p1m_2 p1m_3 p1j_0 p1j_1 p1j_2 p1j_3).2.2.2.2.2.2.2.2.2.1, (f_X2_rememberT p0_0 p0_1 p0_2 p1_0 p1_1 p1d_0 p1d_1 p1d_2 p1d_3 p1m_0 p1m_1 p1m_2 p1m_3 p1j_0 p1j_1 p1j_2 p1j_3).2.2.2.2.2.2.2.2.2.2.1, (f_X2_rememberT p0_0 p0_1 p0_2 p1_0 p1_1 p1d_0 p1d_1 p1d_2 p1d_3 p1m_0 p1m_1 p1m_2 p1m_3 p1j_0 p1j_1 p1j_2 p1j_3).2.2.2.2.2.2.2.2.2.2.2.1), ((f_X2_rememberT p0_0 p0_1 p0_2 p1_0 p1_1 p1d_0 p1d_1 p1d_2 p1d_3 p1m_0 p1m_1 p1m_2 p1m_3 p1j_0 p1j_1 p1j_2 p1j_3).2.2.2.2.2.2.2.2.2.2.2.2.1, (f_X2_rememberT p0_0 p0_1 p0_2 p1_0 p1_1 p1d_0 p1d_1 p1d_2 p1d_3 p1m_0 p1m_1 p1m_2 p1m_3 p1j_0 p1j_1 p1j_2 p1j_3).2.2.2.2.2.2.2.2.2.2.2.2.2.1, (f_X2_rememberT p0_0 p0_1 p0_2 p1_0 p1_1 p1d_0 p1d_1 p1d_2 p1d_3 p1m_0 p1m_1 p1m_2 p1m_3 p1j_0 p1j_1 p1j_2 p1j_3).2.2.2.2.2.2.2.2.2.2.2.2.2.2.1, (f_X2_rememberT p0_0 p0_1 p0_2 p1_0 p1_1 p1d_0 p1d_1 p1d_2 p1d_3 p1m_0 p1m_1 p1m_2 p1m_3 p1j_0 p1j_1 p1j_2 p1j_3).2.2.2.2.2.2.2.2.2.2.2.2.2.2.2))
def f_X2_remember (p0_0 : Nat → Sit) (p0_1 p0_2 : Int32) (p1_0 : Int32) (p1_1 : Int32) (p1d_0 : Fn) (p1d_1 : Fn) (p1d_2 : Fn) (p1d_3 : Fn) (p1m_0 : Fn) (p1m_1 : Fn) (p1m_2 : Fn) (p1m_3 : Fn) (p1j_0 : Int32) (p1j_1 : Fn) (p1j_2 : Fn) (p1j_3 : Fn) : (Nat → Sit) × Int32 × Int32 := ((fun i => if i = p0_1.toNatClampNeg then (f_X2_rememberS p0_0 p0_1 p0_2 p1_0 p1_1 p1d_0 p1d_1 p1d_2 p1d_3 p1m_0 p1m_1 p1m_2 p1m_3 p1j_0 p1j_1 p1j_2 p1j_3) else p0_0 i), (f_X2_rememberT p0_0 p0_1 p0_2 p1_0 p1_1 p1d_0 p1d_1 p1d_2 p1d_3 p1m_0 p1m_1 p1m_2 p1m_3 p1j_0 p1j_1 p1j_2 p1j_3).1, (f_X2_rememberT p0_0 p0_1 p0_2 p1_0 p1_1 p1d_0 p1d_1 p1d_2 p1d_3 p1m_0 p1m_1 p1m_2 p1m_3 p1j_0 p1j_1 p1j_2 p1j_3).2.1)
def f_X2_recall (p0_0 : Nat → Sit) (p0_1 p0_2 : Int32) (p1_0 : Int32) (p1_1 : Int32) (p1d_0 : Fn) (p1d_1 : Fn) (p1d_2 : Fn) (p1d_3 : Fn) (p1m_0 : Fn) (p1m_1 : Fn) (p1m_2 : Fn) (p1m_3 : Fn) (p1j_0 : Int32) (p1j_1 : Fn) (p1j_2 : Fn) (p1j_3 : Fn) : Int32 × Int32 × Int32 × Int32 × Fn × Fn × Fn × Fn × Fn × Fn × Fn × Fn × Int32 × Fn × Fn × Fn := (f_X2_recallV p0_1 p0_2 (p0_0 (((p0_1 + (6 : Int32)) - (1 : Int32)) - ((p0_1 + (6 : Int32)) - (1 : Int32)) / (6 : Int32) * (6 : Int32)).toNatClampNeg).1 (p0_0 (((p0_1 + (6 : Int32)) - (1 : Int32)) - ((p0_1 + (6 : Int32)) - (1 : Int32)) / (6 : Int32) * (6 : Int32)).toNatClampNeg).2.1 (p0_0 (((p0_1 + (6 : Int32)) - (1 : Int32)) - ((p0_1 + (6 : Int32)) - (1 : Int32)) / (6 : Int32) * (6 : Int32)).toNatClampNeg).2.2.1.1 (p0_0 (((p0_1 + (6 : Int32)) - (1 : Int32)) - ((p0_1 + (6 : Int32)) - (1 : Int32)) / (6 : Int32) * (6 : Int32)).toNatClampNeg).2.2.1.2.1 (p0_0 (((p0_1 + (6 : Int32)) - (1 : Int32)) - ((p0_1 + (6 : Int32)) - (1 : Int32)) / (6 : Int32) * (6 : Int32)).toNatClampNeg).2.2.1.2.2.1 (p0_0 (((p0_1 + (6 : Int32)) - (1 : Int32)) - ((p0_1 + (6 : Int32)) - (1 : Int32)) / (6 : Int32) * (6 : Int32)).toNatClampNeg).2.2.1.2.2.2 (p0_0 (((p0_1 + (6 : Int32)) - (1 : Int32)) - ((p0_1 + (6 : Int32)) - (1 : Int32)) / (6 : Int32) * (6 : Int32)).toNatClampNeg).2.2.2.1.1 (p0_0 (((p0_1 + (6 : Int32)) - (1 : Int32)) - ((p0_1 + (6 : Int32)) - (1 : Int32)) / (6 : Int32) * (6 : Int32)).toNatClampNeg).2.2.2.1.2.1 (p0_0 (((p0_1 + (6 : Int32)) - (1 : Int32)) - ((p0_1 + (6 : Int32)) - (1 : Int32)) / (6 : Int32) * (6 : Int32)).toNatClampNeg).2.2.2.1.2.2.1 (p0_0 (((p0_1 + (6 : Int32)) - (1 : Int32)) - ((p0_1 + (6 : Int32)) - (1 : Int32)) / (6 : Int32) * (6 : Int32)).toNatClampNeg).2.2.2.1.2.2.2 (p0_0 (((p0_1 + (6 : Int32)) - (1 : Int32)) - ((p0_1 + (6 : Int32)) - (1 : Int32)) / (6 : Int32) * (6 : Int32)).toNatClampNeg).2.2.2.2.1 (p0_0 (((p0_1 + (6 : Int32)) - (1 : Int32)) - ((p0_1 + (6 : Int32)) - (1 : Int32)) / (6 : Int32) * (6 : Int32)).toNatClampNeg).2.2.2.2.2.1 (p0_0 (((p0_1 + (6 : Int32)) - (1 : Int32)) - ((p0_1 + (6 : Int32)) - (1 : Int32)) / (6 : Int32) * (6 : Int32)).toNatClampNeg).2.2.2.2.2.2.1 (p0_0 (((p0_1 + (6 : Int32)) - (1 : Int32)) - ((p0_1 + (6 : Int32)) - (1 : Int32)) / (6 : Int32) * (6 : Int32)).toNatClampNeg).2.2.2.2.2.2.2 p1d_0 p1d_1 p1d_2 p1d_3 p1m_0 p1m_1 p1m_2 p1m_3 p1j_1 p1j_2 p1j_3)
def f_X8_type_C36 (p0t_0 : Fn) (p0t_1 : Int32) : Int32 × Fn × Int32 := (p0t_1, p0t_0, p0t_1)
def f_X8_type (p0t_0 : Fn) (p0t_1 : Int32) (x1 : Int32) : Int32 × Fn × Int32 := 
  if (f_X8_isWithin x1 (256 : Int32)) = 0 then ((-1 : Int32), p0t_0, p0t_1)
  else 
   if p0t_1 < (160 : Int32) then (f_X8_type_C36 ((f_X6_append p0t_0 p0t_1 x1).1) ((f_X6_append p0t_0 p0t_1 x1).2))
   else ((-3 : Int32), p0t_0, p0t_1)
def f_X8_clear (p0t_1 : Int32) : Int32 × Int32 := (p0t_1, (0 : Int32))
def f_X8_resets_C33 (p0h_0 : Nat → Sit) (p0h_1 : Int32) (p0h_2 : Int32) (x1 : Int32) (p0n_0 : Int32) (p0n_1 : Int32) (p0nd_0 : Fn) (p0nd_1 : Fn) (p0nd_2 : Fn) (p0nm_0 : Fn) (p0nm_1 : Fn) (p0nm_2 : Fn) (p0nj_0 : Int32) : Int32 × Int32 × Int32 × Fn × Fn × Fn × Fn × Fn × Fn × Int32 × (Nat → Sit) × Int32 × Int32 := (x1, p0n_0, p0n_1, p0nd_0, p0nd_1, p0nd_2, p0nm_0, p0nm_1, p0nm_2, p0nj_0, p0h_0, p0h_1, p0h_2)
def f_X8_resets_C11 (p0nd_0 : Fn) (p0nd_1 : Fn) (p0nd_2 : Fn) (p0nm_0 : Fn) (p0nm_1 : Fn) (p0nm_2 : Fn) (p0nj_0 : Int32) (p0b_0 : Blk) (p0h_0 : Nat → Sit) (p0h_1 : Int32) (p0h_2 : Int32) : Int32 × Int32 × Int32 × Fn × Fn × Fn × Fn × Fn × Fn × Int32 × (Nat → Sit) × Int32 × Int32 := (f_X8_resets_C33 p0h_0 p0h_1 p0h_2 p0nj_0 ((f_X5_restart p0nd_0 p0nd_1 p0nd_2 p0nm_0 p0nm_1 p0nm_2 p0b_0).1) ((f_X5_restart p0nd_0 p0nd_1 p0nd_2 p0nm_0 p0nm_1 p0nm_2 p0b_0).2.1) ((f_X5_restart p0nd_0 p0nd_1 p0nd_2 p0nm_0 p0nm_1 p0nm_2 p0b_0).2.2.1) ((f_X5_restart p0nd_0 p0nd_1 p0nd_2 p0nm_0 p0nm_1 p0nm_2 p0b_0).2.2.2.1) ((f_X5_restart p0nd_0 p0nd_1 p0nd_2 p0nm_0 p0nm_1 p0nm_2 p0b_0).2.2.2.2.1) ((f_X5_restart p0nd_0 p0nd_1 p0nd_2 p0nm_0 p0nm_1 p0nm_2 p0b_0).2.2.2.2.2.1) ((f_X5_restart p0nd_0 p0nd_1 p0nd_2 p0nm_0 p0nm_1 p0nm_2 p0b_0).2.2.2.2.2.2.1) ((f_X5_restart p0nd_0 p0nd_1 p0nd_2 p0nm_0 p0nm_1 p0nm_2 p0b_0).2.2.2.2.2.2.2.1) ((f_X5_restart p0nd_0 p0nd_1 p0nd_2 p0nm_0 p0nm_1 p0nm_2 p0b_0).2.2.2.2.2.2.2.2))
def f_X8_resets (p0n_0 : Int32) (p0n_1 : Int32) (p0nd_0 : Fn) (p0nd_1 : Fn) (p0nd_2 : Fn) (p0nd_3 : Fn) (p0nm_0 : Fn) (p0nm_1 : Fn) (p0nm_2 : Fn) (p0nm_3 : Fn) (p0nj_0 : Int32) (p0nj_1 : Fn) (p0nj_2 : Fn) (p0nj_3 : Fn) (p0h_0 : Nat → Sit) (p0h_1 : Int32) (p0h_2 : Int32) (p0b_0 : Blk) : Int32 × Int32 × Int32 × Fn × Fn × Fn × Fn × Fn × Fn × Int32 × (Nat → Sit) × Int32 × Int32 := (f_X8_resets_C11 p0nd_0 p0nd_1 p0nd_2 p0nm_0 p0nm_1 p0nm_2 p0nj_0 p0b_0 ((f_X2_remember p0h_0 p0h_1 p0h_2 p0n_0 p0n_1 p0nd_0 p0nd_1 p0nd_2 p0nd_3 p0nm_0 p0nm_1 p0nm_2 p0nm_3 p0nj_0 p0nj_1 p0nj_2 p0nj_3).1) ((f_X2_remember p0h_0 p0h_1 p0h_2 p0n_0 p0n_1 p0nd_0 p0nd_1 p0nd_2 p0nd_3 p0nm_0 p0nm_1 p0nm_2 p0nm_3 p0nj_0 p0nj_1 p0nj_2 p0nj_3).2.1) ((f_X2_remember p0h_0 p0h_1 p0h_2 p0n_0 p0n_1 p0nd_0 p0nd_1 p0nd_2 p0nd_3 p0nm_0 p0nm_1 p0nm_2 p0nm_3 p0nj_0 p0nj_1 p0nj_2 p0nj_3).2.2))
def f_X8_reads_C52 (p0h_0 : Nat → Sit) (p0h_1 : Int32) (p0h_2 : Int32) (s0 : Int32) (p0n_0 : Int32) (p0n_1 : Int32) (p0nd_0 : Fn) (p0nm_0 : Fn) (p0nj_0 : Int32) (p0nj_1 : Fn) (p0nj_2 : Fn) (p0nj_3 : Fn) : Int32 × Int32 × Int32 × Fn × Fn × Int32 × Fn × Fn × Fn × (Nat → Sit) × Int32 × Int32 := (s0, p0n_0, p0n_1, p0nd_0, p0nm_0, p0nj_0, p0nj_1, p0nj_2, p0nj_3, p0h_0, p0h_1, p0h_2)
def f_X8_reads_C40 (p0n_0 : Int32) (p0nd_0 : Fn) (p0nd_3 : Fn) (p0nm_0 : Fn) (p0nm_3 : Fn) (p0nj_0 : Int32) (p0nj_1 : Fn) (p0nj_2 : Fn) (p0nj_3 : Fn) (p0b_0 : Blk) (x1 : Int32) (p0h_0 : Nat → Sit) (p0h_1 : Int32) (p0h_2 : Int32) : Int32 × Int32 × Int32 × Fn × Fn × Int32 × Fn × Fn × Fn × (Nat → Sit) × Int32 × Int32 := (f_X8_reads_C52 p0h_0 p0h_1 p0h_2 (f_X5_performRead p0n_0 p0nd_0 p0nd_3 p0nm_0 p0nm_3 p0nj_0 p0nj_1 p0nj_2 p0nj_3 p0b_0 x1).1 ((f_X5_performRead p0n_0 p0nd_0 p0nd_3 p0nm_0 p0nm_3 p0nj_0 p0nj_1 p0nj_2 p0nj_3 p0b_0 x1).2.1) ((f_X5_performRead p0n_0 p0nd_0 p0nd_3 p0nm_0 p0nm_3 p0nj_0 p0nj_1 p0nj_2 p0nj_3 p0b_0 x1).2.2.1) ((f_X5_performRead p0n_0 p0nd_0 p0nd_3 p0nm_0 p0nm_3 p0nj_0 p0nj_1 p0nj_2 p0nj_3 p0b_0 x1).2.2.2.1) ((f_X5_performRead p0n_0 p0nd_0 p0nd_3 p0nm_0 p0nm_3 p0nj_0 p0nj_1 p0nj_2 p0nj_3 p0b_0 x1).2.2.2.2.1) ((f_X5_performRead p0n_0 p0nd_0 p0nd_3 p0nm_0 p0nm_3 p0nj_0 p0nj_1 p0nj_2 p0nj_3 p0b_0 x1).2.2.2.2.2.1) ((f_X5_performRead p0n_0 p0nd_0 p0nd_3 p0nm_0 p0nm_3 p0nj_0 p0nj_1 p0nj_2 p0nj_3 p0b_0 x1).2.2.2.2.2.2.1) ((f_X5_performRead p0n_0 p0nd_0 p0nd_3 p0nm_0 p0nm_3 p0nj_0 p0nj_1 p0nj_2 p0nj_3 p0b_0 x1).2.2.2.2.2.2.2.1) ((f_X5_performRead p0n_0 p0nd_0 p0nd_3 p0nm_0 p0nm_3 p0nj_0 p0nj_1 p0nj_2 p0nj_3 p0b_0 x1).2.2.2.2.2.2.2.2))
def f_X8_reads (p0n_0 : Int32) (p0n_1 : Int32) (p0nd_0 : Fn) (p0nd_1 : Fn) (p0nd_2 : Fn) (p0nd_3 : Fn) (p0nm_0 : Fn) (p0nm_1 : Fn) (p0nm_2 : Fn) (p0nm_3 : Fn) (p0nj_0 : Int32) (p0nj_1 : Fn) (p0nj_2 : Fn) (p0nj_3 : Fn) (p0h_0 : Nat → Sit) (p0h_1 : Int32) (p0h_2 : Int32) (p0b_0 : Blk) (x1 : Int32) : Int32 × Int32 × Int32 × Fn × Fn × Int32 × Fn × Fn × Fn × (Nat → Sit) × Int32 × Int32 := 
  if (f_X8_isWithin x1 (16 : Int32)) = 0 then ((-1 : Int32), p0n_0, p0n_1, p0nd_0, p0nm_0, p0nj_0, p0nj_1, p0nj_2, p0nj_3, p0h_0, p0h_1, p0h_2)
  else 
   if p0nj_0 < (20 : Int32) then (f_X8_reads_C40 p0n_0 p0nd_0 p0nd_3 p0nm_0 p0nm_3 p0nj_0 p0nj_1 p0nj_2 p0nj_3 p0b_0 x1 ((f_X2_remember p0h_0 p0h_1 p0h_2 p0n_0 p0n_1 p0nd_0 p0nd_1 p0nd_2 p0nd_3 p0nm_0 p0nm_1 p0nm_2 p0nm_3 p0nj_0 p0nj_1 p0nj_2 p0nj_3).1) ((f_X2_remember p0h_0 p0h_1 p0h_2 p0n_0 p0n_1 p0nd_0 p0nd_1 p0nd_2 p0nd_3 p0nm_0 p0nm_1 p0nm_2 p0nm_3 p0nj_0 p0nj_1 p0nj_2 p0nj_3).2.1) ((f_X2_remember p0h_0 p0h_1 p0h_2 p0n_0 p0n_1 p0nd_0 p0nd_1 p0nd_2 p0nd_3 p0nm_0 p0nm_1 p0nm_2 p0nm_3 p0nj_0 p0nj_1 p0nj_2 p0nj_3).2.2))
   else ((-3 : Int32), p0n_0, p0n_1, p0nd_0, p0nm_0, p0nj_0, p0nj_1, p0nj_2, p0nj_3, p0h_0, p0h_1, p0h_2)
def f_X8_changedBy_L32 (p0nd_0 : Fn) (p0v_0 : Fn) (p0v_1 : Fn) (p0v_2 : Fn) (p0v_3 : Fn) (p0b_0 : Blk) : Nat → Int32 → Int32 → Int32 × Fn × Fn × Fn × Fn
  | 0, _, _ => (0, p0v_0, p0v_1, p0v_2, p0v_3)
  | n + 1, x3, x4 => 
    if (p0b_0 0 1) ≤ x4 then (x3, p0v_0, p0v_1, p0v_2, p0v_3)
    else 
     if (f_X1_valueOf p0v_0 p0b_0 x4) = (f_X1_valueOf p0nd_0 p0b_0 x4) then ((f_X8_changedBy_L32 p0nd_0 p0v_0 p0v_1 p0v_2 p0v_3 p0b_0 n) x3 (x4 + (1 : Int32)))
     else ((f_X8_changedBy_L32 p0nd_0 p0v_0 p0v_1 p0v_2 p0v_3 p0b_0 n) (x3 ||| ((1 : Int32) <<< (x4 &&& 31))) (x4 + (1 : Int32)))
def f_X8_changedBy_C27 (p0nd_0 : Fn) (p0v_3 : Fn) (p0b_0 : Blk) (p0v_0 : Fn) (p0v_1 : Fn) (p0v_2 : Fn) : Int32 × Fn × Fn × Fn × Fn := (f_X8_changedBy_L32 p0nd_0 p0v_0 p0v_1 p0v_2 p0v_3 p0b_0 4000 (0 : Int32) (0 : Int32))
def f_X8_changedBy_C14 (p0nd_0 : Fn) (p0b_0 : Blk) (x1 : Int32) (x2 : Int32) (p0v_0 : Fn) (p0v_1 : Fn) (p0v_2 : Fn) (p0v_3 : Fn) : Int32 × Fn × Fn × Fn × Fn := (f_X8_changedBy_C27 p0nd_0 p0v_3 p0b_0 ((f_X1_write p0v_0 p0v_1 p0v_2 p0v_3 p0b_0 x1 x2).1) ((f_X1_write p0v_0 p0v_1 p0v_2 p0v_3 p0b_0 x1 x2).2.1) ((f_X1_write p0v_0 p0v_1 p0v_2 p0v_3 p0b_0 x1 x2).2.2))
def f_X8_changedBy (p0nd_0 : Fn) (p0nd_1 : Fn) (p0nd_2 : Fn) (p0nd_3 : Fn) (p0v_0 : Fn) (p0v_1 : Fn) (p0v_2 : Fn) (p0v_3 : Fn) (p0b_0 : Blk) (x1 : Int32) (x2 : Int32) : Int32 × Fn × Fn × Fn × Fn := (f_X8_changedBy_C14 p0nd_0 p0b_0 x1 x2 ((f_X1_copyFrom p0v_0 p0v_1 p0v_2 p0v_3 p0nd_0 p0nd_1 p0nd_2 p0nd_3).1) ((f_X1_copyFrom p0v_0 p0v_1 p0v_2 p0v_3 p0nd_0 p0nd_1 p0nd_2 p0nd_3).2.1) ((f_X1_copyFrom p0v_0 p0v_1 p0v_2 p0v_3 p0nd_0 p0nd_1 p0nd_2 p0nd_3).2.2.1) ((f_X1_copyFrom p0v_0 p0v_1 p0v_2 p0v_3 p0nd_0 p0nd_1 p0nd_2 p0nd_3).2.2.2))
def f_X8_writes_C70 (p0h_0 : Nat → Sit) (p0h_1 : Int32) (p0h_2 : Int32) (p0v_0 : Fn) (p0v_1 : Fn) (p0v_2 : Fn) (p0v_3 : Fn) (x3 : Int32) (p0nd_0 : Fn) (p0nd_1 : Fn) (p0nd_2 : Fn) (p0nm_0 : Fn) (p0nm_1 : Fn) (p0nm_2 : Fn) (p0nj_0 : Int32) (p0nj_1 : Fn) (p0nj_2 : Fn) (p0nj_3 : Fn) : Int32 × Fn × Fn × Fn × Fn × Fn × Fn × Int32 × Fn × Fn × Fn × (Nat → Sit) × Int32 × Int32 × Fn × Fn × Fn × Fn := (x3, p0nd_0, p0nd_1, p0nd_2, p0nm_0, p0nm_1, p0nm_2, p0nj_0, p0nj_1, p0nj_2, p0nj_3, p0h_0, p0h_1, p0h_2, p0v_0, p0v_1, p0v_2, p0v_3)
def f_X8_writes_C56 (p0nd_0 : Fn) (p0nd_1 : Fn) (p0nd_2 : Fn) (p0nd_3 : Fn) (p0nm_0 : Fn) (p0nm_1 : Fn) (p0nm_2 : Fn) (p0nm_3 : Fn) (p0nj_0 : Int32) (p0nj_1 : Fn) (p0nj_2 : Fn) (p0nj_3 : Fn) (p0h_0 : Nat → Sit) (p0h_1 : Int32) (p0h_2 : Int32) (p0b_0 : Blk) (x1 : Int32) (x2 : Int32) (s0 : Int32) (p0v_0 : Fn) (p0v_1 : Fn) (p0v_2 : Fn) (p0v_3 : Fn) : Int32 × Fn × Fn × Fn × Fn × Fn × Fn × Int32 × Fn × Fn × Fn × (Nat → Sit) × Int32 × Int32 × Fn × Fn × Fn × Fn := (f_X8_writes_C70 p0h_0 p0h_1 p0h_2 p0v_0 p0v_1 p0v_2 p0v_3 s0 ((f_X5_performWrite p0nd_0 p0nd_1 p0nd_2 p0nd_3 p0nm_0 p0nm_1 p0nm_2 p0nm_3 p0nj_0 p0nj_1 p0nj_2 p0nj_3 p0b_0 x1 x2).1) ((f_X5_performWrite p0nd_0 p0nd_1 p0nd_2 p0nd_3 p0nm_0 p0nm_1 p0nm_2 p0nm_3 p0nj_0 p0nj_1 p0nj_2 p0nj_3 p0b_0 x1 x2).2.1) ((f_X5_performWrite p0nd_0 p0nd_1 p0nd_2 p0nd_3 p0nm_0 p0nm_1 p0nm_2 p0nm_3 p0nj_0 p0nj_1 p0nj_2 p0nj_3 p0b_0 x1 x2).2.2.1) ((f_X5_performWrite p0nd_0 p0nd_1 p0nd_2 p0nd_3 p0nm_0 p0nm_1 p0nm_2 p0nm_3 p0nj_0 p0nj_1 p0nj_2 p0nj_3 p0b_0 x1 x2).2.2.2.1) ((f_X5_performWrite p0nd_0 p0nd_1 p0nd_2 p0nd_3 p0nm_0 p0nm_1 p0nm_2 p0nm_3 p0nj_0 p0nj_1 p0nj_2 p0nj_3 p0b_0 x1 x2).2.2.2.2.1) ((f_X5_performWrite p0nd_0 p0nd_1 p0nd_2 p0nd_3 p0nm_0 p0nm_1 p0nm_2 p0nm_3 p0nj_0 p0nj_1 p0nj_2 p0nj_3 p0b_0 x1 x2).2.2.2.2.2.1) ((f_X5_performWrite p0nd_0 p0nd_1 p0nd_2 p0nd_3 p0nm_0 p0nm_1 p0nm_2 p0nm_3 p0nj_0 p0nj_1 p0nj_2 p0nj_3 p0b_0 x1 x2).2.2.2.2.2.2.1) ((f_X5_performWrite p0nd_0 p0nd_1 p0nd_2 p0nd_3 p0nm_0 p0nm_1 p0nm_2 p0nm_3 p0nj_0 p0nj_1 p0nj_2 p0nj_3 p0b_0 x1 x2).2.2.2.2.2.2.2.1) ((f_X5_performWrite p0nd_0 p0nd_1 p0nd_2 p0nd_3 p0nm_0 p0nm_1 p0nm_2 p0nm_3 p0nj_0 p0nj_1 p0nj_2 p0nj_3 p0b_0 x1 x2).2.2.2.2.2.2.2.2.1) ((f_X5_performWrite p0nd_0 p0nd_1 p0nd_2 p0nd_3 p0nm_0 p0nm_1 p0nm_2 p0nm_3 p0nj_0 p0nj_1 p0nj_2 p0nj_3 p0b_0 x1 x2).2.2.2.2.2.2.2.2.2))
def f_X8_writes_C50 (p0nd_0 : Fn) (p0nd_1 : Fn) (p0nd_2 : Fn) (p0nd_3 : Fn) (p0nm_0 : Fn) (p0nm_1 : Fn) (p0nm_2 : Fn) (p0nm_3 : Fn) (p0nj_0 : Int32) (p0nj_1 : Fn) (p0nj_2 : Fn) (p0nj_3 : Fn) (p0v_0 : Fn) (p0v_1 : Fn) (p0v_2 : Fn) (p0v_3 : Fn) (p0b_0 : Blk) (x1 : Int32) (x2 : Int32) (p0h_0 : Nat → Sit) (p0h_1 : Int32) (p0h_2 : Int32) : Int32 × Fn × Fn × Fn × Fn × Fn × Fn × Int32 × Fn × Fn × Fn × (Nat → Sit) × Int32 × Int32 × Fn × Fn × Fn × Fn := (f_X8_writes_C56 p0nd_0 p0nd_1 p0nd_2 p0nd_3 p0nm_0 p0nm_1 p0nm_2 p0nm_3 p0nj_0 p0nj_1 p0nj_2 p0nj_3 p0h_0 p0h_1 p0h_2 p0b_0 x1 x2 (f_X8_changedBy p0nd_0 p0nd_1 p0nd_2 p0nd_3 p0v_0 p0v_1 p0v_2 p0v_3 p0b_0 x1 x2).1 ((f_X8_changedBy p0nd_0 p0nd_1 p0nd_2 p0nd_3 p0v_0 p0v_1 p0v_2 p0v_3 p0b_0 x1 x2).2.1) ((f_X8_changedBy p0nd_0 p0nd_1 p0nd_2 p0nd_3 p0v_0 p0v_1 p0v_2 p0v_3 p0b_0 x1 x2).2.2.1) ((f_X8_changedBy p0nd_0 p0nd_1 p0nd_2 p0nd_3 p0v_0 p0v_1 p0v_2 p0v_3 p0b_0 x1 x2).2.2.2.1) ((f_X8_changedBy p0nd_0 p0nd_1 p0nd_2 p0nd_3 p0v_0 p0v_1 p0v_2 p0v_3 p0b_0 x1 x2).2.2.2.2))
def f_X8_writes (p0n_0 : Int32) (p0n_1 : Int32) (p0nd_0 : Fn) (p0nd_1 : Fn) (p0nd_2 : Fn) (p0nd_3 : Fn) (p0nm_0 : Fn) (p0nm_1 : Fn) (p0nm_2 : Fn) (p0nm_3 : Fn) (p0nj_0 : Int32) (p0nj_1 : Fn) (p0nj_2 : Fn) (p0nj_3 : Fn) (p0h_0 : Nat → Sit) (p0h_1 : Int32) (p0h_2 : Int32) (p0v_0 : Fn) (p0v_1 : Fn) (p0v_2 : Fn) (p0v_3 : Fn) (p0b_0 : Blk) (x1 : Int32) (x2 : Int32) : Int32 × Fn × Fn × Fn × Fn × Fn × Fn × Int32 × Fn × Fn × Fn × (Nat → Sit) × Int32 × Int32 × Fn × Fn × Fn × Fn := 
  if (f_X8_isWithin x1 (16 : Int32)) = 0 then ((-1 : Int32), p0nd_0, p0nd_1, p0nd_2, p0nm_0, p0nm_1, p0nm_2, p0nj_0, p0nj_1, p0nj_2, p0nj_3, p0h_0, p0h_1, p0h_2, p0v_0, p0v_1, p0v_2, p0v_3)
  else 
   if (f_X8_isWithin x2 (256 : Int32)) = 0 then ((-1 : Int32), p0nd_0, p0nd_1, p0nd_2, p0nm_0, p0nm_1, p0nm_2, p0nj_0, p0nj_1, p0nj_2, p0nj_3, p0h_0, p0h_1, p0h_2, p0v_0, p0v_1, p0v_2, p0v_3)
   else 
    if p0nj_0 < (20 : Int32) then (f_X8_writes_C50 p0nd_0 p0nd_1 p0nd_2 p0nd_3 p0nm_0 p0nm_1 p0nm_2 p0nm_3 p0nj_0 p0nj_1 p0nj_2 p0nj_3 p0v_0 p0v_1 p0v_2 p0v_3 p0b_0 x1 x2 ((f_X2_remember p0h_0 p0h_1 p0h_2 p0n_0 p0n_1 p0nd_0 p0nd_1 p0nd_2 p0nd_3 p0nm_0 p0nm_1 p0nm_2 p0nm_3 p0nj_0 p0nj_1 p0nj_2 p0nj_3).1) ((f_X2_remember p0h_0 p0h_1 p0h_2 p0n_0 p0n_1 p0nd_0 p0nd_1 p0nd_2 p0nd_3 p0nm_0 p0nm_1 p0nm_2 p0nm_3 p0nj_0 p0nj_1 p0nj_2 p0nj_3).2.1) ((f_X2_remember p0h_0 p0h_1 p0h_2 p0n_0 p0n_1 p0nd_0 p0nd_1 p0nd_2 p0nd_3 p0nm_0 p0nm_1 p0nm_2 p0nm_3 p0nj_0 p0nj_1 p0nj_2 p0nj_3).2.2))
    else ((-3 : Int32), p0nd_0, p0nd_1, p0nd_2, p0nm_0, p0nm_1, p0nm_2, p0nj_0, p0nj_1, p0nj_2, p0nj_3, p0h_0, p0h_1, p0h_2, p0v_0, p0v_1, p0v_2, p0v_3)
def f_X8_sets_C49 (p0nd_0 : Fn) (p0b_0 : Blk) (x1 : Int32) (x2 : Int32) (x3 : Int32) (p0h_0 : Nat → Sit) (p0h_1 : Int32) (p0h_2 : Int32) : Int32 × Fn × (Nat → Sit) × Int32 × Int32 := (x3, (f_X1_putValue p0nd_0 p0b_0 x1 x2), p0h_0, p0h_1, p0h_2)
def f_X8_sets (p0n_0 : Int32) (p0n_1 : Int32) (p0nd_0 : Fn) (p0nd_1 : Fn) (p0nd_2 : Fn) (p0nd_3 : Fn) (p0nm_0 : Fn) (p0nm_1 : Fn) (p0nm_2 : Fn) (p0nm_3 : Fn) (p0nj_0 : Int32) (p0nj_1 : Fn) (p0nj_2 : Fn) (p0nj_3 : Fn) (p0h_0 : Nat → Sit) (p0h_1 : Int32) (p0h_2 : Int32) (p0b_0 : Blk) (x1 : Int32) (x2 : Int32) : Int32 × Fn × (Nat → Sit) × Int32 × Int32 := 
  if (f_X0_canHold p0b_0 x1 x2) = 0 then ((-1 : Int32), p0nd_0, p0h_0, p0h_1, p0h_2)
  else 
   if (f_X1_valueOf p0nd_0 p0b_0 x1) = x2 then ((-2 : Int32), p0nd_0, p0h_0, p0h_1, p0h_2)
   else (f_X8_sets_C49 p0nd_0 p0b_0 x1 x2 (f_X1_valueOf p0nd_0 p0b_0 x1) ((f_X2_remember p0h_0 p0h_1 p0h_2 p0n_0 p0n_1 p0nd_0 p0nd_1 p0nd_2 p0nd_3 p0nm_0 p0nm_1 p0nm_2 p0nm_3 p0nj_0 p0nj_1 p0nj_2 p0nj_3).1) ((f_X2_remember p0h_0 p0h_1 p0h_2 p0n_0 p0n_1 p0nd_0 p0nd_1 p0nd_2 p0nd_3 p0nm_0 p0nm_1 p0nm_2 p0nm_3 p0nj_0 p0nj_1 p0nj_2 p0nj_3).2.1) ((f_X2_remember p0h_0 p0h_1 p0h_2 p0n_0 p0n_1 p0nd_0 p0nd_1 p0nd_2 p0nd_3 p0nm_0 p0nm_1 p0nm_2 p0nm_3 p0nj_0 p0nj_1 p0nj_2 p0nj_3).2.2))
def f_X8_breaks_C57 (p0nd_3 : Fn) (x1 : Int32) (x2 : Int32) (x3 : Int32) (p0h_0 : Nat → Sit) (p0h_1 : Int32) (p0h_2 : Int32) : Int32 × Fn × (Nat → Sit) × Int32 × Int32 := (x3, (upd p0nd_3 x1.toNatClampNeg x2), p0h_0, p0h_1, p0h_2)
def f_X8_breaks (p0n_0 : Int32) (p0n_1 : Int32) (p0nd_0 : Fn) (p0nd_1 : Fn) (p0nd_2 : Fn) (p0nd_3 : Fn) (p0nm_0 : Fn) (p0nm_1 : Fn) (p0nm_2 : Fn) (p0nm_3 : Fn) (p0nj_0 : Int32) (p0nj_1 : Fn) (p0nj_2 : Fn) (p0nj_3 : Fn) (p0h_0 : Nat → Sit) (p0h_1 : Int32) (p0h_2 : Int32) (p0b_0 : Blk) (x1 : Int32) (x2 : Int32) : Int32 × Fn × (Nat → Sit) × Int32 × Int32 := 
  if (f_X8_isWithin x1 (p0b_0 0 1)) = 0 then ((-1 : Int32), p0nd_3, p0h_0, p0h_1, p0h_2)
  else 
   if (f_X8_isWithin x2 (8 : Int32)) = 0 then ((-1 : Int32), p0nd_3, p0h_0, p0h_1, p0h_2)
   else 
    if (p0nd_3 x1.toNatClampNeg) = x2 then ((-2 : Int32), p0nd_3, p0h_0, p0h_1, p0h_2)
    else (f_X8_breaks_C57 p0nd_3 x1 x2 (p0nd_3 x1.toNatClampNeg) ((f_X2_remember p0h_0 p0h_1 p0h_2 p0n_0 p0n_1 p0nd_0 p0nd_1 p0nd_2 p0nd_3 p0nm_0 p0nm_1 p0nm_2 p0nm_3 p0nj_0 p0nj_1 p0nj_2 p0nj_3).1) ((f_X2_remember p0h_0 p0h_1 p0h_2 p0n_0 p0n_1 p0nd_0 p0nd_1 p0nd_2 p0nd_3 p0nm_0 p0nm_1 p0nm_2 p0nm_3 p0nj_0 p0nj_1 p0nj_2 p0nj_3).2.1) ((f_X2_remember p0h_0 p0h_1 p0h_2 p0n_0 p0n_1 p0nd_0 p0nd_1 p0nd_2 p0nd_3 p0nm_0 p0nm_1 p0nm_2 p0nm_3 p0nj_0 p0nj_1 p0nj_2 p0nj_3).2.2))
def f_X8_undo_C24 (p0n_0 : Int32) (p0n_1 : Int32) (p0nd_0 : Fn) (p0nd_1 : Fn) (p0nd_2 : Fn) (p0nd_3 : Fn) (p0nm_0 : Fn) (p0nm_1 : Fn) (p0nm_2 : Fn) (p0nm_3 : Fn) (p0nj_0 : Int32) (p0nj_1 : Fn) (p0nj_2 : Fn) (p0nj_3 : Fn) (p0h_1 : Int32) (p0h_2 : Int32) : Int32 × Int32 × Int32 × Fn × Fn × Fn × Fn × Fn × Fn × Fn × Fn × Int32 × Fn × Fn × Fn × Int32 × Int32 := (p0h_2, p0n_0, p0n_1, p0nd_0, p0nd_1, p0nd_2, p0nd_3, p0nm_0, p0nm_1, p0nm_2, p0nm_3, p0nj_0, p0nj_1, p0nj_2, p0nj_3, p0h_1, p0h_2)
def f_X8_undo (p0n_0 : Int32) (p0n_1 : Int32) (p0nd_0 : Fn) (p0nd_1 : Fn) (p0nd_2 : Fn) (p0nd_3 : Fn) (p0nm_0 : Fn) (p0nm_1 : Fn) (p0nm_2 : Fn) (p0nm_3 : Fn) (p0nj_0 : Int32) (p0nj_1 : Fn) (p0nj_2 : Fn) (p0nj_3 : Fn) (p0h_0 : Nat → Sit) (p0h_1 : Int32) (p0h_2 : Int32) : Int32 × Int32 × Int32 × Fn × Fn × Fn × Fn × Fn × Fn × Fn × Fn × Int32 × Fn × Fn × Fn × Int32 × Int32 := 
  if p0h_2 = 0 then ((-2 : Int32), p0n_0, p0n_1, p0nd_0, p0nd_1, p0nd_2, p0nd_3, p0nm_0, p0nm_1, p0nm_2, p0nm_3, p0nj_0, p0nj_1, p0nj_2, p0nj_3, p0h_1, p0h_2)
  else (f_X8_undo_C24 ((f_X2_recall p0h_0 p0h_1 p0h_2 p0n_0 p0n_1 p0nd_0 p0nd_1 p0nd_2 p0nd_3 p0nm_0 p0nm_1 p0nm_2 p0nm_3 p0nj_0 p0nj_1 p0nj_2 p0nj_3).2.2.1) ((f_X2_recall p0h_0 p0h_1 p0h_2 p0n_0 p0n_1 p0nd_0 p0nd_1 p0nd_2 p0nd_3 p0nm_0 p0nm_1 p0nm_2 p0nm_3 p0nj_0 p0nj_1 p0nj_2 p0nj_3).2.2.2.1) ((f_X2_recall p0h_0 p0h_1 p0h_2 p0n_0 p0n_1 p0nd_0 p0nd_1 p0nd_2 p0nd_3 p0nm_0 p0nm_1 p0nm_2 p0nm_3 p0nj_0 p0nj_1 p0nj_2 p0nj_3).2.2.2.2.1) ((f_X2_recall p0h_0 p0h_1 p0h_2 p0n_0 p0n_1 p0nd_0 p0nd_1 p0nd_2 p0nd_3 p0nm_0 p0nm_1 p0nm_2 p0nm_3 p0nj_0 p0nj_1 p0nj_2 p0nj_3).2.2.2.2.2.1) ((f_X2_recall p0h_0 p0h_1 p0h_2 p0n_0 p0n_1 p0nd_0 p0nd_1 p0nd_2 p0nd_3 p0nm_0 p0nm_1 p0nm_2 p0nm_3 p0nj_0 p0nj_1 p0nj_2 p0nj_3).2.2.2.2.2.2.1) ((f_X2_recall p0h_0 p0h_1 p0h_2 p0n_0 p0n_1 p0nd_0 p0nd_1 p0nd_2 p0nd_3 p0nm_0 p0nm_1 p0nm_2 p0nm_3 p0nj_0 p0nj_1 p0nj_2 p0nj_3).2.2.2.2.2.2.2.1) ((f_X2_recall p0h_0 p0h_1 p0h_2 p0n_0 p0n_1 p0nd_0 p0nd_1 p0nd_2 p0nd_3 p0nm_0 p0nm_1 p0nm_2 p0nm_3 p0nj_0 p0nj_1 p0nj_2 p0nj_3).2.2.2.2.2.2.2.2.1) ((f_X2_recall p0h_0 p0h_1 p0h_2 p0n_0 p0n_1 p0nd_0 p0nd_1 p0nd_2 p0nd_3 p0nm_0 p0nm_1 p0nm_2 p0nm_3 p0nj_0 p0nj_1 p0nj_2 p0nj_3).2.2.2.2.2.2.2.2.2.1) ((f_X2_recall p0h_0 p0h_1 p0h_2 p0n_0 p0n_1 p0nd_0 p0nd_1 p0nd_2 p0nd_3 p0nm_0 p0nm_1 p0nm_2 p0nm_3 p0nj_0 p0nj_1 p0nj_2 p0nj_3).2.2.2.2.2.2.2.2.2.2.1) ((f_X2_recall p0h_0 p0h_1 p0h_2 p0n_0 p0n_1 p0nd_0 p0nd_1 p0nd_2 p0nd_3 p0nm_0 p0nm_1 p0nm_2 p0nm_3 p0nj_0 p0nj_1 p0nj_2 p0nj_3).2.2.2.2.2.2.2.2.2.2.2.1) ((f_X2_recall p0h_0 p0h_1 p0h_2 p0n_0 p0n_1 p0nd_0 p0nd_1 p0nd_2 p0nd_3 p0nm_0 p0nm_1 p0nm_2 p0nm_3 p0nj_0 p0nj_1 p0nj_2 p0nj_3).2.2.2.2.2.2.2.2.2.2.2.2.1) ((f_X2_recall p0h_0 p0h_1 p0h_2 p0n_0 p0n_1 p0nd_0 p0nd_1 p0nd_2 p0nd_3 p0nm_0 p0nm_1 p0nm_2 p0nm_3 p0nj_0 p0nj_1 p0nj_2 p0nj_3).2.2.2.2.2.2.2.2.2.2.2.2.2.1) ((f_X2_recall p0h_0 p0h_1 p0h_2 p0n_0 p0n_1 p0nd_0 p0nd_1 p0nd_2 p0nd_3 p0nm_0 p0nm_1 p0nm_2 p0nm_3 p0nj_0 p0nj_1 p0nj_2 p0nj_3).2.2.2.2.2.2.2.2.2.2.2.2.2.2.1) ((f_X2_recall p0h_0 p0h_1 p0h_2 p0n_0 p0n_1 p0nd_0 p0nd_1 p0nd_2 p0nd_3 p0nm_0 p0nm_1 p0nm_2 p0nm_3 p0nj_0 p0nj_1 p0nj_2 p0nj_3).2.2.2.2.2.2.2.2.2.2.2.2.2.2.2) ((f_X2_recall p0h_0 p0h_1 p0h_2 p0n_0 p0n_1 p0nd_0 p0nd_1 p0nd_2 p0nd_3 p0nm_0 p0nm_1 p0nm_2 p0nm_3 p0nj_0 p0nj_1 p0nj_2 p0nj_3).1) ((f_X2_recall p0h_0 p0h_1 p0h_2 p0n_0 p0n_1 p0nd_0 p0nd_1 p0nd_2 p0nd_3 p0nm_0 p0nm_1 p0nm_2 p0nm_3 p0nj_0 p0nj_1 p0nj_2 p0nj_3).2.1))
def f_X8_field (p0nd_0 : Fn) (p0nd_3 : Fn) (p0nm_0 : Fn) (p0b_0 : Blk) (x1 : Int32) (x2 : Int32) : Int32 := 
  if (f_X8_isWithin x1 (p0b_0 0 1)) = 0 then (-1 : Int32)
  else 
   if x2 = (0 : Int32) then ((p0b_0 4) x1.toNatClampNeg)
   else 
    if x2 = (1 : Int32) then ((p0b_0 6) x1.toNatClampNeg)
    else 
     if x2 = (2 : Int32) then ((p0b_0 7) x1.toNatClampNeg)
     else 
      if x2 = (3 : Int32) then ((p0b_0 5) x1.toNatClampNeg)
      else 
       if x2 = (4 : Int32) then ((p0b_0 9) x1.toNatClampNeg)
       else 
        if x2 = (5 : Int32) then (f_X1_valueOf p0nd_0 p0b_0 x1)
        else 
         if x2 = (6 : Int32) then (f_X1_valueOf p0nm_0 p0b_0 x1)
         else 
          if x2 = (7 : Int32) then (p0nd_3 x1.toNatClampNeg)
          else (-1 : Int32)
def f_X8_register (p0nd_0 : Fn) (p0nd_1 : Fn) (p0b_0 : Blk) (x1 : Int32) (x2 : Int32) : Int32 := 
  if (f_X8_isWithin x1 (p0b_0 0 0)) = 0 then (-1 : Int32)
  else 
   if x2 = (0 : Int32) then ((p0b_0 1) x1.toNatClampNeg)
   else 
    if x2 = (1 : Int32) then ((p0b_0 2) x1.toNatClampNeg)
    else 
     if x2 = (2 : Int32) then ((p0b_0 3) x1.toNatClampNeg)
     else 
      if x2 = (3 : Int32) then 
       if (f_X1_isLocked p0nd_0 p0b_0 x1) = 0 then (0 : Int32)
       else (1 : Int32)
      else 
       if x2 = (4 : Int32) then (p0nd_1 x1.toNatClampNeg)
       else (-1 : Int32)
def f_X8_alias (p0b_0 : Blk) (x1 : Int32) (x2 : Int32) : Int32 := 
  if (f_X8_isWithin x1 (p0b_0 0 2)) = 0 then (-1 : Int32)
  else 
   if x2 = (0 : Int32) then ((p0b_0 10) x1.toNatClampNeg)
   else 
    if x2 = (1 : Int32) then ((p0b_0 11) x1.toNatClampNeg)
    else 
     if x2 = (2 : Int32) then ((p0b_0 12) x1.toNatClampNeg)
     else (-1 : Int32)
def f_X8_at (p0b_0 : Blk) (x1 : Int32) : Int32 := 
  if (f_X8_isWithin x1 (16 : Int32)) = 0 then (-1 : Int32)
  else 
   if (f_X0_aliasAt p0b_0 x1) = (-9 : Int32) then (f_X0_registerAt p0b_0 x1)
   else ((100 : Int32) + (f_X0_aliasAt p0b_0 x1))
def f_X8_peek (p0nd_0 : Fn) (p0nd_3 : Fn) (p0nm_0 : Fn) (p0nm_3 : Fn) (p0b_0 : Blk) (x1 : Int32) (x2 : Int32) : Int32 := 
  if (f_X8_isWithin x1 (16 : Int32)) = 0 then (-1 : Int32)
  else 
   if (f_X8_isWithin x2 (2 : Int32)) = 0 then (-1 : Int32)
   else 
    if x2 = 0 then (f_X1_look p0nd_0 p0nd_3 p0b_0 x1)
    else (f_X1_look p0nm_0 p0nm_3 p0b_0 x1)
def f_X8_differed (p0n_0 : Int32) (p0n_1 : Int32) (x1 : Int32) : Int32 := 
  if x1 = (0 : Int32) then p0n_0
  else 
   if x1 = (1 : Int32) then p0n_1
   else (-1 : Int32)
def f_X8_log (p0nj_0 : Int32) (p0nj_1 : Fn) (p0nj_2 : Fn) (p0nj_3 : Fn) (x1 : Int32) (x2 : Int32) : Int32 := 
  if x1 < 0 then (-1 : Int32)
  else 
   if (f_X8_isWithin x2 (3 : Int32)) = 0 then (-1 : Int32)
   else 
    if x1 < p0nj_0 then 
     if x2 = (0 : Int32) then (p0nj_1 x1.toNatClampNeg)
     else 
      if x2 = (1 : Int32) then 
       if (p0nj_2 x1.toNatClampNeg) = 0 then (0 : Int32)
       else (1 : Int32)
      else (p0nj_3 x1.toNatClampNeg)
    else (-9 : Int32)
def f_X8_wouldReadTheSame_C64 (p0v_3 : Fn) (s0 : Int32) (p0v_0 : Fn) (p0v_1 : Fn) (p0v_2 : Fn) : Int32 × Fn × Fn × Fn × Fn := (s0, p0v_0, p0v_1, p0v_2, p0v_3)
def f_X8_wouldReadTheSame_C46 (p0nj_0 : Int32) (p0nj_1 : Fn) (p0nj_2 : Fn) (p0nj_3 : Fn) (p0v_3 : Fn) (p0b_0 : Blk) (p0v_0 : Fn) (p0v_1 : Fn) (p0v_2 : Fn) : Int32 × Fn × Fn × Fn × Fn := (f_X8_wouldReadTheSame_C64 p0v_3 (f_X3_agreesWith p0nj_0 p0nj_1 p0nj_2 p0nj_3 p0v_0 p0v_1 p0v_2 p0v_3 p0b_0).1 ((f_X3_agreesWith p0nj_0 p0nj_1 p0nj_2 p0nj_3 p0v_0 p0v_1 p0v_2 p0v_3 p0b_0).2.1) ((f_X3_agreesWith p0nj_0 p0nj_1 p0nj_2 p0nj_3 p0v_0 p0v_1 p0v_2 p0v_3 p0b_0).2.2.1) ((f_X3_agreesWith p0nj_0 p0nj_1 p0nj_2 p0nj_3 p0v_0 p0v_1 p0v_2 p0v_3 p0b_0).2.2.2))
def f_X8_wouldReadTheSame_J35 (p0nj_0 : Int32) (p0nj_1 : Fn) (p0nj_2 : Fn) (p0nj_3 : Fn) (p0v_0 : Fn) (p0v_1 : Fn) (p0v_2 : Fn) (p0b_0 : Blk) (p0v_3 : Fn) : Int32 × Fn × Fn × Fn × Fn := (f_X8_wouldReadTheSame_C46 p0nj_0 p0nj_1 p0nj_2 p0nj_3 p0v_3 p0b_0 ((f_X1_restart p0v_0 p0v_1 p0v_2 p0b_0).1) ((f_X1_restart p0v_0 p0v_1 p0v_2 p0b_0).2.1) ((f_X1_restart p0v_0 p0v_1 p0v_2 p0b_0).2.2))
def f_X8_wouldReadTheSame (p0nj_0 : Int32) (p0nj_1 : Fn) (p0nj_2 : Fn) (p0nj_3 : Fn) (p0v_0 : Fn) (p0v_1 : Fn) (p0v_2 : Fn) (p0v_3 : Fn) (p0b_0 : Blk) (x1 : Int32) (x2 : Int32) : Int32 × Fn × Fn × Fn × Fn := 
  if (f_X8_isWithin x1 (p0b_0 0 1)) = 0 then (f_X8_wouldReadTheSame_J35 p0nj_0 p0nj_1 p0nj_2 p0nj_3 p0v_0 p0v_1 p0v_2 p0b_0 (f_X1_mend p0v_3 p0b_0))
  else (f_X8_wouldReadTheSame_J35 p0nj_0 p0nj_1 p0nj_2 p0nj_3 p0v_0 p0v_1 p0v_2 p0b_0 (upd (f_X1_mend p0v_3 p0b_0) x1.toNatClampNeg x2))
def f_X8_suspects_C23 (s0 : Int32) (p0v_0 : Fn) (p0v_1 : Fn) (p0v_2 : Fn) (p0v_3 : Fn) : Int32 × Fn × Fn × Fn × Fn := 
    if s0 = 0 then ((0 : Int32), p0v_0, p0v_1, p0v_2, p0v_3)
    else ((1 : Int32), p0v_0, p0v_1, p0v_2, p0v_3)
def f_X8_suspects_C78 (x1 : Int32) (x2 : Int32) (x3 : Int32) (x4 : Int32) (k50 : Int32 → Int32 → Fn → Fn → Fn → Fn → (Int32 × Fn × Fn × Fn × Fn)) (s0 : Int32) (p0v_0 : Fn) (p0v_1 : Fn) (p0v_2 : Fn) (p0v_3 : Fn) : Int32 × Fn × Fn × Fn × Fn := 
    if s0 = 0 then (k50 x2 (x4 + (1 : Int32)) p0v_0 p0v_1 p0v_2 p0v_3)
    else 
     if x1 = (1 : Int32) then ((((8 : Int32) * x3) + x4), p0v_0, p0v_1, p0v_2, p0v_3)
     else (k50 (x2 + (1 : Int32)) (x4 + (1 : Int32)) p0v_0 p0v_1 p0v_2 p0v_3)
def f_X8_suspects_L50 (p0nj_0 : Int32) (p0nj_1 : Fn) (p0nj_2 : Fn) (p0nj_3 : Fn) (p0b_0 : Blk) (x1 : Int32) (x3 : Int32) (k36 : Int32 → Int32 → Fn → Fn → Fn → Fn → (Int32 × Fn × Fn × Fn × Fn)) : Nat → Int32 → Int32 → Fn → Fn → Fn → Fn → Int32 × Fn × Fn × Fn × Fn
  | 0, _, _, p0v_0, p0v_1, p0v_2, p0v_3 => (0, p0v_0, p0v_1, p0v_2, p0v_3)
  | n + 1, x2, x4, p0v_0, p0v_1, p0v_2, p0v_3 => 
    if (8 : Int32) ≤ x4 then (k36 x2 (x3 + (1 : Int32)) p0v_0 p0v_1 p0v_2 p0v_3)
    else 
     if x4 = ((p0b_0 5) x3.toNatClampNeg) then ((f_X8_suspects_L50 p0nj_0 p0nj_1 p0nj_2 p0nj_3 p0b_0 x1 x3 k36 n) x2 (x4 + (1 : Int32)) p0v_0 p0v_1 p0v_2 p0v_3)
     else (f_X8_suspects_C78 x1 x2 x3 x4 (f_X8_suspects_L50 p0nj_0 p0nj_1 p0nj_2 p0nj_3 p0b_0 x1 x3 k36 n) (f_X8_wouldReadTheSame p0nj_0 p0nj_1 p0nj_2 p0nj_3 p0v_0 p0v_1 p0v_2 p0v_3 p0b_0 x3 x4).1 ((f_X8_wouldReadTheSame p0nj_0 p0nj_1 p0nj_2 p0nj_3 p0v_0 p0v_1 p0v_2 p0v_3 p0b_0 x3 x4).2.1) ((f_X8_wouldReadTheSame p0nj_0 p0nj_1 p0nj_2 p0nj_3 p0v_0 p0v_1 p0v_2 p0v_3 p0b_0 x3 x4).2.2.1) ((f_X8_wouldReadTheSame p0nj_0 p0nj_1 p0nj_2 p0nj_3 p0v_0 p0v_1 p0v_2 p0v_3 p0b_0 x3 x4).2.2.2.1) ((f_X8_wouldReadTheSame p0nj_0 p0nj_1 p0nj_2 p0nj_3 p0v_0 p0v_1 p0v_2 p0v_3 p0b_0 x3 x4).2.2.2.2))
def f_X8_suspects_L36 (p0nj_0 : Int32) (p0nj_1 : Fn) (p0nj_2 : Fn) (p0nj_3 : Fn) (p0b_0 : Blk) (x1 : Int32) : Nat → Int32 → Int32 → Fn → Fn → Fn → Fn → Int32 × Fn × Fn × Fn × Fn
  | 0, _, _, p0v_0, p0v_1, p0v_2, p0v_3 => (0, p0v_0, p0v_1, p0v_2, p0v_3)
  | n + 1, x2, x3, p0v_0, p0v_1, p0v_2, p0v_3 => 
    if (p0b_0 0 1) ≤ x3 then 
     if x1 = (1 : Int32) then ((-9 : Int32), p0v_0, p0v_1, p0v_2, p0v_3)
     else (x2, p0v_0, p0v_1, p0v_2, p0v_3)
    else (f_X8_suspects_L50 p0nj_0 p0nj_1 p0nj_2 p0nj_3 p0b_0 x1 x3 (f_X8_suspects_L36 p0nj_0 p0nj_1 p0nj_2 p0nj_3 p0b_0 x1 n) 4000 x2 (0 : Int32) p0v_0 p0v_1 p0v_2 p0v_3)
def f_X8_suspects (p0nj_0 : Int32) (p0nj_1 : Fn) (p0nj_2 : Fn) (p0nj_3 : Fn) (p0v_0 : Fn) (p0v_1 : Fn) (p0v_2 : Fn) (p0v_3 : Fn) (p0b_0 : Blk) (x1 : Int32) : Int32 × Fn × Fn × Fn × Fn := 
  if (f_X8_isWithin x1 (3 : Int32)) = 0 then ((-1 : Int32), p0v_0, p0v_1, p0v_2, p0v_3)
  else 
   if x1 = (2 : Int32) then (f_X8_suspects_C23 (f_X8_wouldReadTheSame p0nj_0 p0nj_1 p0nj_2 p0nj_3 p0v_0 p0v_1 p0v_2 p0v_3 p0b_0 (-9 : Int32) (-9 : Int32)).1 ((f_X8_wouldReadTheSame p0nj_0 p0nj_1 p0nj_2 p0nj_3 p0v_0 p0v_1 p0v_2 p0v_3 p0b_0 (-9 : Int32) (-9 : Int32)).2.1) ((f_X8_wouldReadTheSame p0nj_0 p0nj_1 p0nj_2 p0nj_3 p0v_0 p0v_1 p0v_2 p0v_3 p0b_0 (-9 : Int32) (-9 : Int32)).2.2.1) ((f_X8_wouldReadTheSame p0nj_0 p0nj_1 p0nj_2 p0nj_3 p0v_0 p0v_1 p0v_2 p0v_3 p0b_0 (-9 : Int32) (-9 : Int32)).2.2.2.1) ((f_X8_wouldReadTheSame p0nj_0 p0nj_1 p0nj_2 p0nj_3 p0v_0 p0v_1 p0v_2 p0v_3 p0b_0 (-9 : Int32) (-9 : Int32)).2.2.2.2))
   else (f_X8_suspects_L36 p0nj_0 p0nj_1 p0nj_2 p0nj_3 p0b_0 x1 4000 (0 : Int32) (0 : Int32) p0v_0 p0v_1 p0v_2 p0v_3)
def f_X8_clashes_L19 (p0b_0 : Blk) (x1 : Int32) : Nat → Int32 → Int32 → Int32 → Int32
  | 0, _, _, _ => 0
  | n + 1, x2, x3, x4 => 
    if x4 < 0 then 
     if x1 = 0 then x2
     else x3
    else 
     if (f_X0_holdersOf p0b_0 x4) ≤ (1 : Int32) then ((f_X8_clashes_L19 p0b_0 x1 n) x2 x3 (x4 + (-1 : Int32)))
     else ((f_X8_clashes_L19 p0b_0 x1 n) (x2 + (1 : Int32)) x4 (x4 + (-1 : Int32)))
def f_X8_clashes (p0b_0 : Blk) (x1 : Int32) : Int32 := 
  if (f_X8_isWithin x1 (2 : Int32)) = 0 then (-1 : Int32)
  else (f_X8_clashes_L19 p0b_0 x1 4000 (0 : Int32) (-9 : Int32) (15 : Int32))
def f_X8_touched_C27 (s0 : Int32) (p0v_0 : Fn) (p0v_1 : Fn) (p0v_2 : Fn) (p0v_3 : Fn) : Int32 × Fn × Fn × Fn × Fn := (s0, p0v_0, p0v_1, p0v_2, p0v_3)
def f_X8_touched (p0nd_0 : Fn) (p0nd_1 : Fn) (p0nd_2 : Fn) (p0nd_3 : Fn) (p0v_0 : Fn) (p0v_1 : Fn) (p0v_2 : Fn) (p0v_3 : Fn) (p0b_0 : Blk) (x1 : Int32) (x2 : Int32) : Int32 × Fn × Fn × Fn × Fn := 
  if (f_X8_isWithin x1 (16 : Int32)) = 0 then ((-1 : Int32), p0v_0, p0v_1, p0v_2, p0v_3)
  else 
   if (f_X8_isWithin x2 (256 : Int32)) = 0 then ((-1 : Int32), p0v_0, p0v_1, p0v_2, p0v_3)
   else (f_X8_touched_C27 (f_X8_changedBy p0nd_0 p0nd_1 p0nd_2 p0nd_3 p0v_0 p0v_1 p0v_2 p0v_3 p0b_0 x1 x2).1 ((f_X8_changedBy p0nd_0 p0nd_1 p0nd_2 p0nd_3 p0v_0 p0v_1 p0v_2 p0v_3 p0b_0 x1 x2).2.1) ((f_X8_changedBy p0nd_0 p0nd_1 p0nd_2 p0nd_3 p0v_0 p0v_1 p0v_2 p0v_3 p0b_0 x1 x2).2.2.1) ((f_X8_changedBy p0nd_0 p0nd_1 p0nd_2 p0nd_3 p0v_0 p0v_1 p0v_2 p0v_3 p0b_0 x1 x2).2.2.2.1) ((f_X8_changedBy p0nd_0 p0nd_1 p0nd_2 p0nd_3 p0v_0 p0v_1 p0v_2 p0v_3 p0b_0 x1 x2).2.2.2.2))
def f_X8_byteThatGives_C59 (p0v_3 : Fn) (p0b_0 : Blk) (x2 : Int32) (x3 : Int32) (x5 : Int32) (k24 : Int32 → Fn → Fn → Fn → Fn → (Int32 × Fn × Fn × Fn × Fn)) (p0v_0 : Fn) (p0v_1 : Fn) (p0v_2 : Fn) : Int32 × Fn × Fn × Fn × Fn := 
    if (f_X1_valueOf p0v_0 p0b_0 x2) = x3 then (x5, p0v_0, p0v_1, p0v_2, p0v_3)
    else (k24 (x5 + (1 : Int32)) p0v_0 p0v_1 p0v_2 p0v_3)
def f_X8_byteThatGives_C45 (p0b_0 : Blk) (x1 : Int32) (x2 : Int32) (x3 : Int32) (x5 : Int32) (k24 : Int32 → Fn → Fn → Fn → Fn → (Int32 × Fn × Fn × Fn × Fn)) (p0v_0 : Fn) (p0v_1 : Fn) (p0v_2 : Fn) (p0v_3 : Fn) : Int32 × Fn × Fn × Fn × Fn := (f_X8_byteThatGives_C59 p0v_3 p0b_0 x2 x3 x5 k24 ((f_X1_write p0v_0 p0v_1 p0v_2 p0v_3 p0b_0 x1 x5).1) ((f_X1_write p0v_0 p0v_1 p0v_2 p0v_3 p0b_0 x1 x5).2.1) ((f_X1_write p0v_0 p0v_1 p0v_2 p0v_3 p0b_0 x1 x5).2.2))
def f_X8_byteThatGives_L24 (p0nd_0 : Fn) (p0nd_1 : Fn) (p0nd_2 : Fn) (p0nd_3 : Fn) (p0b_0 : Blk) (x1 : Int32) (x2 : Int32) (x3 : Int32) (x4 : Int32) : Nat → Int32 → Fn → Fn → Fn → Fn → Int32 × Fn × Fn × Fn × Fn
  | 0, _, p0v_0, p0v_1, p0v_2, p0v_3 => (0, p0v_0, p0v_1, p0v_2, p0v_3)
  | n + 1, x5, p0v_0, p0v_1, p0v_2, p0v_3 => 
    if x4 ≤ x5 then ((-9 : Int32), p0v_0, p0v_1, p0v_2, p0v_3)
    else (f_X8_byteThatGives_C45 p0b_0 x1 x2 x3 x5 (f_X8_byteThatGives_L24 p0nd_0 p0nd_1 p0nd_2 p0nd_3 p0b_0 x1 x2 x3 x4 n) ((f_X1_copyFrom p0v_0 p0v_1 p0v_2 p0v_3 p0nd_0 p0nd_1 p0nd_2 p0nd_3).1) ((f_X1_copyFrom p0v_0 p0v_1 p0v_2 p0v_3 p0nd_0 p0nd_1 p0nd_2 p0nd_3).2.1) ((f_X1_copyFrom p0v_0 p0v_1 p0v_2 p0v_3 p0nd_0 p0nd_1 p0nd_2 p0nd_3).2.2.1) ((f_X1_copyFrom p0v_0 p0v_1 p0v_2 p0v_3 p0nd_0 p0nd_1 p0nd_2 p0nd_3).2.2.2))
def f_X8_byteThatGives_J19 (p0nd_0 : Fn) (p0nd_1 : Fn) (p0nd_2 : Fn) (p0nd_3 : Fn) (p0v_0 : Fn) (p0v_1 : Fn) (p0v_2 : Fn) (p0v_3 : Fn) (p0b_0 : Blk) (x1 : Int32) (x2 : Int32) (x3 : Int32) (s0 : Int32) : Int32 × Fn × Fn × Fn × Fn := (f_X8_byteThatGives_L24 p0nd_0 p0nd_1 p0nd_2 p0nd_3 p0b_0 x1 x2 x3 s0 4000 (0 : Int32) p0v_0 p0v_1 p0v_2 p0v_3)
def f_X8_byteThatGives (p0nd_0 : Fn) (p0nd_1 : Fn) (p0nd_2 : Fn) (p0nd_3 : Fn) (p0v_0 : Fn) (p0v_1 : Fn) (p0v_2 : Fn) (p0v_3 : Fn) (p0b_0 : Blk) (x1 : Int32) (x2 : Int32) (x3 : Int32) : Int32 × Fn × Fn × Fn × Fn := 
  if (f_X0_canReach p0b_0 x1 x2) = 0 then (f_X8_byteThatGives_J19 p0nd_0 p0nd_1 p0nd_2 p0nd_3 p0v_0 p0v_1 p0v_2 p0v_3 p0b_0 x1 x2 x3 (1 : Int32))
  else (f_X8_byteThatGives_J19 p0nd_0 p0nd_1 p0nd_2 p0nd_3 p0v_0 p0v_1 p0v_2 p0v_3 p0b_0 x1 x2 x3 (256 : Int32))
def f_X8_way_C29 (x3 : Int32) (k16 : Int32 → Fn → Fn → Fn → Fn → (Int32 × Fn × Fn × Fn × Fn)) (s0 : Int32) (p0v_0 : Fn) (p0v_1 : Fn) (p0v_2 : Fn) (p0v_3 : Fn) : Int32 × Fn × Fn × Fn × Fn := 
    if s0 = (-9 : Int32) then (k16 (x3 + (1 : Int32)) p0v_0 p0v_1 p0v_2 p0v_3)
    else ((((256 : Int32) * x3) + s0), p0v_0, p0v_1, p0v_2, p0v_3)
def f_X8_way_L16 (p0nd_0 : Fn) (p0nd_1 : Fn) (p0nd_2 : Fn) (p0nd_3 : Fn) (p0b_0 : Blk) (x1 : Int32) (x2 : Int32) : Nat → Int32 → Fn → Fn → Fn → Fn → Int32 × Fn × Fn × Fn × Fn
  | 0, _, p0v_0, p0v_1, p0v_2, p0v_3 => (0, p0v_0, p0v_1, p0v_2, p0v_3)
  | n + 1, x3, p0v_0, p0v_1, p0v_2, p0v_3 => 
    if (16 : Int32) ≤ x3 then ((-9 : Int32), p0v_0, p0v_1, p0v_2, p0v_3)
    else (f_X8_way_C29 x3 (f_X8_way_L16 p0nd_0 p0nd_1 p0nd_2 p0nd_3 p0b_0 x1 x2 n) (f_X8_byteThatGives p0nd_0 p0nd_1 p0nd_2 p0nd_3 p0v_0 p0v_1 p0v_2 p0v_3 p0b_0 x3 x1 x2).1 ((f_X8_byteThatGives p0nd_0 p0nd_1 p0nd_2 p0nd_3 p0v_0 p0v_1 p0v_2 p0v_3 p0b_0 x3 x1 x2).2.1) ((f_X8_byteThatGives p0nd_0 p0nd_1 p0nd_2 p0nd_3 p0v_0 p0v_1 p0v_2 p0v_3 p0b_0 x3 x1 x2).2.2.1) ((f_X8_byteThatGives p0nd_0 p0nd_1 p0nd_2 p0nd_3 p0v_0 p0v_1 p0v_2 p0v_3 p0b_0 x3 x1 x2).2.2.2.1) ((f_X8_byteThatGives p0nd_0 p0nd_1 p0nd_2 p0nd_3 p0v_0 p0v_1 p0v_2 p0v_3 p0b_0 x3 x1 x2).2.2.2.2))
def f_X8_way (p0nd_0 : Fn) (p0nd_1 : Fn) (p0nd_2 : Fn) (p0nd_3 : Fn) (p0v_0 : Fn) (p0v_1 : Fn) (p0v_2 : Fn) (p0v_3 : Fn) (p0b_0 : Blk) (x1 : Int32) (x2 : Int32) : Int32 × Fn × Fn × Fn × Fn := 
  if (f_X0_canHold p0b_0 x1 x2) = 0 then ((-1 : Int32), p0v_0, p0v_1, p0v_2, p0v_3)
  else (f_X8_way_L16 p0nd_0 p0nd_1 p0nd_2 p0nd_3 p0b_0 x1 x2 4000 (0 : Int32) p0v_0 p0v_1 p0v_2 p0v_3)
def f_X8_walkedBits_L58 (p0b_0 : Blk) (x1 : Int32) : Nat → Int32 → Int32 → Int32
  | 0, _, _ => 0
  | n + 1, x2, x3 => 
    if (p0b_0 0 1) ≤ x3 then x2
    else 
     if ((p0b_0 4) x3.toNatClampNeg) = x1 then 
      if ((p0b_0 5) x3.toNatClampNeg) = (2 : Int32) then (0 : Int32)
      else 
       if ((p0b_0 5) x3.toNatClampNeg) = (6 : Int32) then (0 : Int32)
       else 
        if ((p0b_0 5) x3.toNatClampNeg) = (7 : Int32) then (0 : Int32)
        else 
         if (f_X0_isGate p0b_0 x3) = 0 then 
          if ((p0b_0 5) x3.toNatClampNeg) = 0 then 
           if (f_X0_isLock p0b_0 x3) = 0 then ((f_X8_walkedBits_L58 p0b_0 x1 n) (x2 ||| ((p0b_0 8) x3.toNatClampNeg)) (x3 + (1 : Int32)))
           else ((f_X8_walkedBits_L58 p0b_0 x1 n) x2 (x3 + (1 : Int32)))
          else ((f_X8_walkedBits_L58 p0b_0 x1 n) x2 (x3 + (1 : Int32)))
         else (0 : Int32)
     else ((f_X8_walkedBits_L58 p0b_0 x1 n) x2 (x3 + (1 : Int32)))
def f_X8_walkedBits (p0nm_0 : Fn) (p0b_0 : Blk) (x1 : Int32) : Int32 := 
  if (f_X0_registerAt p0b_0 ((p0b_0 1) x1.toNatClampNeg)) = x1 then 
   if ((p0b_0 3) x1.toNatClampNeg) = (-9 : Int32) then 
    if (f_X1_isLocked p0nm_0 p0b_0 x1) = 0 then (f_X8_walkedBits_L58 p0b_0 x1 4000 (0 : Int32) (0 : Int32))
    else (0 : Int32)
   else (0 : Int32)
  else (0 : Int32)
def f_X8_stepOfWalk (p0nm_0 : Fn) (p0nm_3 : Fn) (p0b_0 : Blk) (x1 : Int32) (x2 : Int32) (x3 : Int32) : Int32 := 
  if x3 = (0 : Int32) then ((p0b_0 1) x1.toNatClampNeg)
  else 
   if x3 = (1 : Int32) then (((p0nm_0 x1.toNatClampNeg) &&& (f_X0_plainBits p0b_0 x1)) ^^^ x2)
   else ((f_X1_shown p0nm_0 p0nm_3 p0b_0 x1) ^^^ x2)
def f_X8_walk_L43 (p0nm_0 : Fn) (p0nm_3 : Fn) (p0b_0 : Blk) (x1 : Int32) (x2 : Int32) (x4 : Int32) (x5 : Int32) (k20 : Int32 → Int32 → Int32) : Nat → Int32 → Int32 → Int32
  | 0, _, _ => 0
  | n + 1, x3, x6 => 
    if (8 : Int32) ≤ x6 then (k20 x3 (x4 + (1 : Int32)))
    else 
     if (x5 &&& ((1 : Int32) <<< (x6 &&& 31))) = 0 then ((f_X8_walk_L43 p0nm_0 p0nm_3 p0b_0 x1 x2 x4 x5 k20 n) x3 (x6 + (1 : Int32)))
     else 
      if x3 = x1 then (f_X8_stepOfWalk p0nm_0 p0nm_3 p0b_0 x4 ((1 : Int32) <<< (x6 &&& 31)) x2)
      else ((f_X8_walk_L43 p0nm_0 p0nm_3 p0b_0 x1 x2 x4 x5 k20 n) (x3 + (1 : Int32)) (x6 + (1 : Int32)))
def f_X8_walk_L20 (p0nm_0 : Fn) (p0nm_3 : Fn) (p0b_0 : Blk) (x1 : Int32) (x2 : Int32) : Nat → Int32 → Int32 → Int32
  | 0, _, _ => 0
  | n + 1, x3, x4 => 
    if (p0b_0 0 0) ≤ x4 then 
     if x1 = (-1 : Int32) then x3
     else (-9 : Int32)
    else (f_X8_walk_L43 p0nm_0 p0nm_3 p0b_0 x1 x2 x4 (f_X8_walkedBits p0nm_0 p0b_0 x4) (f_X8_walk_L20 p0nm_0 p0nm_3 p0b_0 x1 x2 n) 4000 x3 (0 : Int32))
def f_X8_walk (p0nm_0 : Fn) (p0nm_3 : Fn) (p0b_0 : Blk) (x1 : Int32) (x2 : Int32) : Int32 := 
  if x1 < (-1 : Int32) then (-1 : Int32)
  else 
   if (f_X8_isWithin x2 (3 : Int32)) = 0 then (-1 : Int32)
   else (f_X8_walk_L20 p0nm_0 p0nm_3 p0b_0 x1 x2 4000 (0 : Int32) (0 : Int32))
def f_X8_count (p0t_1 : Int32) (p0nd_3 : Fn) (p0nj_0 : Int32) (p0h_2 : Int32) (p0b_0 : Blk) (x1 : Int32) : Int32 := 
  if x1 = (0 : Int32) then (p0b_0 0 0)
  else 
   if x1 = (1 : Int32) then (p0b_0 0 1)
   else 
    if x1 = (2 : Int32) then (p0b_0 0 2)
    else 
     if x1 = (3 : Int32) then (f_X0_bitsOfFields p0b_0)
     else 
      if x1 = (4 : Int32) then p0nj_0
      else 
       if x1 = (5 : Int32) then (f_X1_brokenFields p0nd_3 p0b_0)
       else 
        if x1 = (6 : Int32) then p0t_1
        else 
         if x1 = (7 : Int32) then p0h_2
         else (-1 : Int32)
def f_X8_keepV_C23 (p0nj_0 : Int32) (p0i_0 : Fn) (x1 : Int32) (p0e_0 : Int32) (p0e_1 : Int32) (p0ed_0 : Fn) (p0ed_1 : Fn) (p0ed_2 : Fn) (p0ed_3 : Fn) (p0em_0 : Fn) (p0em_1 : Fn) (p0em_2 : Fn) (p0em_3 : Fn) (p0ej_0 : Int32) (p0ej_1 : Fn) (p0ej_2 : Fn) (p0ej_3 : Fn) : Int32 × Fn × Int32 × Int32 × Fn × Fn × Fn × Fn × Fn × Fn × Fn × Fn × Int32 × Fn × Fn × Fn := (p0nj_0, (upd p0i_0 x1.toNatClampNeg (vp_nar .boolean (1 : Int32))), p0e_0, p0e_1, p0ed_0, p0ed_1, p0ed_2, p0ed_3, p0em_0, p0em_1, p0em_2, p0em_3, p0ej_0, p0ej_1, p0ej_2, p0ej_3)
def f_X8_keepV (p0n_0 : Int32) (p0n_1 : Int32) (p0nd_0 : Fn) (p0nd_1 : Fn) (p0nd_2 : Fn) (p0nd_3 : Fn) (p0nm_0 : Fn) (p0nm_1 : Fn) (p0nm_2 : Fn) (p0nm_3 : Fn) (p0nj_0 : Int32) (p0nj_1 : Fn) (p0nj_2 : Fn) (p0nj_3 : Fn) (p0i_0 : Fn) (p0e_0 : Int32) (p0e_1 : Int32) (p0ed_0 : Fn) (p0ed_1 : Fn) (p0ed_2 : Fn) (p0ed_3 : Fn) (p0em_0 : Fn) (p0em_1 : Fn) (p0em_2 : Fn) (p0em_3 : Fn) (p0ej_0 : Int32) (p0ej_1 : Fn) (p0ej_2 : Fn) (p0ej_3 : Fn) (x1 : Int32) : Int32 × Fn × Int32 × Int32 × Fn × Fn × Fn × Fn × Fn × Fn × Fn × Fn × Int32 × Fn × Fn × Fn := 
  if (f_X8_isWithin x1 (2 : Int32)) = 0 then ((-1 : Int32), p0i_0, p0e_0, p0e_1, p0ed_0, p0ed_1, p0ed_2, p0ed_3, p0em_0, p0em_1, p0em_2, p0em_3, p0ej_0, p0ej_1, p0ej_2, p0ej_3)
  else (f_X8_keepV_C23 p0nj_0 p0i_0 x1 ((f_X5_copyFrom p0ed_0 p0ed_1 p0ed_2 p0ed_3 p0em_0 p0em_1 p0em_2 p0em_3 p0ej_1 p0ej_2 p0ej_3 p0n_0 p0n_1 p0nd_0 p0nd_1 p0nd_2 p0nd_3 p0nm_0 p0nm_1 p0nm_2 p0nm_3 p0nj_0 p0nj_1 p0nj_2 p0nj_3).1) ((f_X5_copyFrom p0ed_0 p0ed_1 p0ed_2 p0ed_3 p0em_0 p0em_1 p0em_2 p0em_3 p0ej_1 p0ej_2 p0ej_3 p0n_0 p0n_1 p0nd_0 p0nd_1 p0nd_2 p0nd_3 p0nm_0 p0nm_1 p0nm_2 p0nm_3 p0nj_0 p0nj_1 p0nj_2 p0nj_3).2.1) ((f_X5_copyFrom p0ed_0 p0ed_1 p0ed_2 p0ed_3 p0em_0 p0em_1 p0em_2 p0em_3 p0ej_1 p0ej_2 p0ej_3 p0n_0 p0n_1 p0nd_0 p0nd_1 p0nd_2 p0nd_3 p0nm_0 p0nm_1 p0nm_2 p0nm_3 p0nj_0 p0nj_1 p0nj_2 p0nj_3).2.2.1) ((f_X5_copyFrom p0ed_0 p0ed_1 p0ed_2 p0ed_3 p0em_0 p0em_1 p0em_2 p0em_3 p0ej_1 p0ej_2 p0ej_3 p0n_0 p0n_1 p0nd_0 p0nd_1 p0nd_2 p0nd_3 p0nm_0 p0nm_1 p0nm_2 p0nm_3 p0nj_0 p0nj_1 p0nj_2 p0nj_3).2.2.2.1) ((f_X5_copyFrom p0ed_0 p0ed_1 p0ed_2 p0ed_3 p0em_0 p0em_1 p0em_2 p0em_3 p0ej_1 p0ej_2 p0ej_3 p0n_0 p0n_1 p0nd_0 p0nd_1 p0nd_2 p0nd_3 p0nm_0 p0nm_1 p0nm_2 p0nm_3 p0nj_0 p0nj_1 p0nj_2 p0nj_3).2.2.2.2.1) ((f_X5_copyFrom p0ed_0 p0ed_1 p0ed_2 p0ed_3 p0em_0 p0em_1 p0em_2 p0em_3 p0ej_1 p0ej_2 p0ej_3 p0n_0 p0n_1 p0nd_0 p0nd_1 p0nd_2 p0nd_3 p0nm_0 p0nm_1 p0nm_2 p0nm_3 p0nj_0 p0nj_1 p0nj_2 p0nj_3).2.2.2.2.2.1) ((f_X5_copyFrom p0ed_0 p0ed_1 p0ed_2 p0ed_3 p0em_0 p0em_1 p0em_2 p0em_3 p0ej_1 p0ej_2 p0ej_3 p0n_0 p0n_1 p0nd_0 p0nd_1 p0nd_2 p0nd_3 p0nm_0 p0nm_1 p0nm_2 p0nm_3 p0nj_0 p0nj_1 p0nj_2 p0nj_3).2.2.2.2.2.2.1) ((f_X5_copyFrom p0ed_0 p0ed_1 p0ed_2 p0ed_3 p0em_0 p0em_1 p0em_2 p0em_3 p0ej_1 p0ej_2 p0ej_3 p0n_0 p0n_1 p0nd_0 p0nd_1 p0nd_2 p0nd_3 p0nm_0 p0nm_1 p0nm_2 p0nm_3 p0nj_0 p0nj_1 p0nj_2 p0nj_3).2.2.2.2.2.2.2.1) ((f_X5_copyFrom p0ed_0 p0ed_1 p0ed_2 p0ed_3 p0em_0 p0em_1 p0em_2 p0em_3 p0ej_1 p0ej_2 p0ej_3 p0n_0 p0n_1 p0nd_0 p0nd_1 p0nd_2 p0nd_3 p0nm_0 p0nm_1 p0nm_2 p0nm_3 p0nj_0 p0nj_1 p0nj_2 p0nj_3).2.2.2.2.2.2.2.2.1) ((f_X5_copyFrom p0ed_0 p0ed_1 p0ed_2 p0ed_3 p0em_0 p0em_1 p0em_2 p0em_3 p0ej_1 p0ej_2 p0ej_3 p0n_0 p0n_1 p0nd_0 p0nd_1 p0nd_2 p0nd_3 p0nm_0 p0nm_1 p0nm_2 p0nm_3 p0nj_0 p0nj_1 p0nj_2 p0nj_3).2.2.2.2.2.2.2.2.2.1) ((f_X5_copyFrom p0ed_0 p0ed_1 p0ed_2 p0ed_3 p0em_0 p0em_1 p0em_2 p0em_3 p0ej_1 p0ej_2 p0ej_3 p0n_0 p0n_1 p0nd_0 p0nd_1 p0nd_2 p0nd_3 p0nm_0 p0nm_1 p0nm_2 p0nm_3 p0nj_0 p0nj_1 p0nj_2 p0nj_3).2.2.2.2.2.2.2.2.2.2.1) ((f_X5_copyFrom p0ed_0 p0ed_1 p0ed_2 p0ed_3 p0em_0 p0em_1 p0em_2 p0em_3 p0ej_1 p0ej_2 p0ej_3 p0n_0 p0n_1 p0nd_0 p0nd_1 p0nd_2 p0nd_3 p0nm_0 p0nm_1 p0nm_2 p0nm_3 p0nj_0 p0nj_1 p0nj_2 p0nj_3).2.2.2.2.2.2.2.2.2.2.2.1) ((f_X5_copyFrom p0ed_0 p0ed_1 p0ed_2 p0ed_3 p0em_0 p0em_1 p0em_2 p0em_3 p0ej_1 p0ej_2 p0ej_3 p0n_0 p0n_1 p0nd_0 p0nd_1 p0nd_2 p0nd_3 p0nm_0 p0nm_1 p0nm_2 p0nm_3 p0nj_0 p0nj_1 p0nj_2 p0nj_3).2.2.2.2.2.2.2.2.2.2.2.2.1) ((f_X5_copyFrom p0ed_0 p0ed_1 p0ed_2 p0ed_3 p0em_0 p0em_1 p0em_2 p0em_3 p0ej_1 p0ej_2 p0ej_3 p0n_0 p0n_1 p0nd_0 p0nd_1 p0nd_2 p0nd_3 p0nm_0 p0nm_1 p0nm_2 p0nm_3 p0nj_0 p0nj_1 p0nj_2 p0nj_3).2.2.2.2.2.2.2.2.2.2.2.2.2))
def f_X8_backV_C35 (p0n_0 : Int32) (p0n_1 : Int32) (p0nd_0 : Fn) (p0nd_1 : Fn) (p0nd_2 : Fn) (p0nd_3 : Fn) (p0nm_0 : Fn) (p0nm_1 : Fn) (p0nm_2 : Fn) (p0nm_3 : Fn) (p0nj_0 : Int32) (p0nj_1 : Fn) (p0nj_2 : Fn) (p0nj_3 : Fn) : Int32 × Int32 × Int32 × Fn × Fn × Fn × Fn × Fn × Fn × Fn × Fn × Int32 × Fn × Fn × Fn × Int32 := (p0nj_0, p0n_0, p0n_1, p0nd_0, p0nd_1, p0nd_2, p0nd_3, p0nm_0, p0nm_1, p0nm_2, p0nm_3, p0nj_0, p0nj_1, p0nj_2, p0nj_3, f_X2_forget)
def f_X8_backV (p0n_0 : Int32) (p0n_1 : Int32) (p0nd_0 : Fn) (p0nd_1 : Fn) (p0nd_2 : Fn) (p0nd_3 : Fn) (p0nm_0 : Fn) (p0nm_1 : Fn) (p0nm_2 : Fn) (p0nm_3 : Fn) (p0nj_0 : Int32) (p0nj_1 : Fn) (p0nj_2 : Fn) (p0nj_3 : Fn) (p0h_2 : Int32) (p0i_0 : Fn) (p0e_0 : Int32) (p0e_1 : Int32) (p0ed_0 : Fn) (p0ed_1 : Fn) (p0ed_2 : Fn) (p0ed_3 : Fn) (p0em_0 : Fn) (p0em_1 : Fn) (p0em_2 : Fn) (p0em_3 : Fn) (p0ej_0 : Int32) (p0ej_1 : Fn) (p0ej_2 : Fn) (p0ej_3 : Fn) (x1 : Int32) : Int32 × Int32 × Int32 × Fn × Fn × Fn × Fn × Fn × Fn × Fn × Fn × Int32 × Fn × Fn × Fn × Int32 := 
  if (f_X8_isWithin x1 (2 : Int32)) = 0 then ((-1 : Int32), p0n_0, p0n_1, p0nd_0, p0nd_1, p0nd_2, p0nd_3, p0nm_0, p0nm_1, p0nm_2, p0nm_3, p0nj_0, p0nj_1, p0nj_2, p0nj_3, p0h_2)
  else 
   if (p0i_0 x1.toNatClampNeg) = 0 then ((-2 : Int32), p0n_0, p0n_1, p0nd_0, p0nd_1, p0nd_2, p0nd_3, p0nm_0, p0nm_1, p0nm_2, p0nm_3, p0nj_0, p0nj_1, p0nj_2, p0nj_3, p0h_2)
   else (f_X8_backV_C35 ((f_X5_copyFrom p0nd_0 p0nd_1 p0nd_2 p0nd_3 p0nm_0 p0nm_1 p0nm_2 p0nm_3 p0nj_1 p0nj_2 p0nj_3 p0e_0 p0e_1 p0ed_0 p0ed_1 p0ed_2 p0ed_3 p0em_0 p0em_1 p0em_2 p0em_3 p0ej_0 p0ej_1 p0ej_2 p0ej_3).1) ((f_X5_copyFrom p0nd_0 p0nd_1 p0nd_2 p0nd_3 p0nm_0 p0nm_1 p0nm_2 p0nm_3 p0nj_1 p0nj_2 p0nj_3 p0e_0 p0e_1 p0ed_0 p0ed_1 p0ed_2 p0ed_3 p0em_0 p0em_1 p0em_2 p0em_3 p0ej_0 p0ej_1 p0ej_2 p0ej_3).2.1) ((f_X5_copyFrom p0nd_0 p0nd_1 p0nd_2 p0nd_3 p0nm_0 p0nm_1 p0nm_2 p0nm_3 p0nj_1 p0nj_2 p0nj_3 p0e_0 p0e_1 p0ed_0 p0ed_1 p0ed_2 p0ed_3 p0em_0 p0em_1 p0em_2 p0em_3 p0ej_0 p0ej_1 p0ej_2 p0ej_3).2.2.1) ((f_X5_copyFrom p0nd_0 p0nd_1 p0nd_2 p0nd_3 p0nm_0 p0nm_1 p0nm_2 p0nm_3 p0nj_1 p0nj_2 p0nj_3 p0e_0 p0e_1 p0ed_0 p0ed_1 p0ed_2 p0ed_3 p0em_0 p0em_1 p0em_2 p0em_3 p0ej_0 p0ej_1 p0ej_2 p0ej_3).2.2.2.1) ((f_X5_copyFrom p0nd_0 p0nd_1 p0nd_2 p0nd_3 p0nm_0 p0nm_1 p0nm_2 p0nm_3 p0nj_1 p0nj_2 p0nj_3 p0e_0 p0e_1 p0ed_0 p0ed_1 p0ed_2 p0ed_3 p0em_0 p0em_1 p0em_2 p0em_3 p0ej_0 p0ej_1 p0ej_2 p0ej_3).2.2.2.2.1) ((f_X5_copyFrom p0nd_0 p0nd_1 p0nd_2 p0nd_3 p0nm_0 p0nm_1 p0nm_2 p0nm_3 p0nj_1 p0nj_2 p0nj_3 p0e_0 p0e_1 p0ed_0 p0ed_1 p0ed_2 p0ed_3 p0em_0 p0em_1 p0em_2 p0em_3 p0ej_0 p0ej_1 p0ej_2 p0ej_3).2.2.2.2.2.1) ((f_X5_copyFrom p0nd_0 p0nd_1 p0nd_2 p0nd_3 p0nm_0 p0nm_1 p0nm_2 p0nm_3 p0nj_1 p0nj_2 p0nj_3 p0e_0 p0e_1 p0ed_0 p0ed_1 p0ed_2 p0ed_3 p0em_0 p0em_1 p0em_2 p0em_3 p0ej_0 p0ej_1 p0ej_2 p0ej_3).2.2.2.2.2.2.1) ((f_X5_copyFrom p0nd_0 p0nd_1 p0nd_2 p0nd_3 p0nm_0 p0nm_1 p0nm_2 p0nm_3 p0nj_1 p0nj_2 p0nj_3 p0e_0 p0e_1 p0ed_0 p0ed_1 p0ed_2 p0ed_3 p0em_0 p0em_1 p0em_2 p0em_3 p0ej_0 p0ej_1 p0ej_2 p0ej_3).2.2.2.2.2.2.2.1) ((f_X5_copyFrom p0nd_0 p0nd_1 p0nd_2 p0nd_3 p0nm_0 p0nm_1 p0nm_2 p0nm_3 p0nj_1 p0nj_2 p0nj_3 p0e_0 p0e_1 p0ed_0 p0ed_1 p0ed_2 p0ed_3 p0em_0 p0em_1 p0em_2 p0em_3 p0ej_0 p0ej_1 p0ej_2 p0ej_3).2.2.2.2.2.2.2.2.1) ((f_X5_copyFrom p0nd_0 p0nd_1 p0nd_2 p0nd_3 p0nm_0 p0nm_1 p0nm_2 p0nm_3 p0nj_1 p0nj_2 p0nj_3 p0e_0 p0e_1 p0ed_0 p0ed_1 p0ed_2 p0ed_3 p0em_0 p0em_1 p0em_2 p0em_3 p0ej_0 p0ej_1 p0ej_2 p0ej_3).2.2.2.2.2.2.2.2.2.1) ((f_X5_copyFrom p0nd_0 p0nd_1 p0nd_2 p0nd_3 p0nm_0 p0nm_1 p0nm_2 p0nm_3 p0nj_1 p0nj_2 p0nj_3 p0e_0 p0e_1 p0ed_0 p0ed_1 p0ed_2 p0ed_3 p0em_0 p0em_1 p0em_2 p0em_3 p0ej_0 p0ej_1 p0ej_2 p0ej_3).2.2.2.2.2.2.2.2.2.2.1) ((f_X5_copyFrom p0nd_0 p0nd_1 p0nd_2 p0nd_3 p0nm_0 p0nm_1 p0nm_2 p0nm_3 p0nj_1 p0nj_2 p0nj_3 p0e_0 p0e_1 p0ed_0 p0ed_1 p0ed_2 p0ed_3 p0em_0 p0em_1 p0em_2 p0em_3 p0ej_0 p0ej_1 p0ej_2 p0ej_3).2.2.2.2.2.2.2.2.2.2.2.1) ((f_X5_copyFrom p0nd_0 p0nd_1 p0nd_2 p0nd_3 p0nm_0 p0nm_1 p0nm_2 p0nm_3 p0nj_1 p0nj_2 p0nj_3 p0e_0 p0e_1 p0ed_0 p0ed_1 p0ed_2 p0ed_3 p0em_0 p0em_1 p0em_2 p0em_3 p0ej_0 p0ej_1 p0ej_2 p0ej_3).2.2.2.2.2.2.2.2.2.2.2.2.1) ((f_X5_copyFrom p0nd_0 p0nd_1 p0nd_2 p0nd_3 p0nm_0 p0nm_1 p0nm_2 p0nm_3 p0nj_1 p0nj_2 p0nj_3 p0e_0 p0e_1 p0ed_0 p0ed_1 p0ed_2 p0ed_3 p0em_0 p0em_1 p0em_2 p0em_3 p0ej_0 p0ej_1 p0ej_2 p0ej_3).2.2.2.2.2.2.2.2.2.2.2.2.2))
end
section
/-! facts on twin functions that the walks use -/
theorem rg_inc {x : Int32} (h0 : 0 ≤ x.toInt) (h1 : x.toInt < 1000000) : (x + 1).toInt = x.toInt + 1 := fb_addI (by rw [show (1 : Int32).toInt = 1 by decide]; omega) (by rw [show (1 : Int32).toInt = 1 by decide]; omega)
theorem rIW {x b : Int32} (h : ¬ f_X8_isWithin x b = 0) : 0 ≤ x.toInt ∧ x.toInt < b.toInt := by
  unfold f_X8_isWithin at h
  split at h
  · exact absurd rfl h
  · rename_i h1
    split at h
    · exact absurd rfl h
    · rename_i h2
      have i1 := rnlt h1
      have i2 := rnle h2
      rw [show (0 : Int32).toInt = 0 by decide] at i1
      exact ⟨i1, i2⟩
theorem R_registerAt_L {u : Blk} {a : Int32} (h : BlkInv u) : ∀ (n : Nat) (x : Int32), 0 ≤ x.toInt → (f_X0_registerAt_L2 u a n x).toInt = -9 ∨ (0 ≤ (f_X0_registerAt_L2 u a n x).toInt ∧ (f_X0_registerAt_L2 u a n x).toInt < 6) := by
  intro n
  induction n with
  | zero => intro x hx; right; rw [f_X0_registerAt_L2]; decide
  | succ n ih =>
    intro x hx
    have hb := BI_regs h
    rw [f_X0_registerAt_L2]
    split
    · left; decide
    · rename_i h1
      have i1 := rnle h1
      split
      · right; omega
      · exact ih _ (by rw [rg_inc hx (by omega)]; omega)
theorem R_registerAt {u : Blk} (h : BlkInv u) (a : Int32) : (f_X0_registerAt u a).toInt = -9 ∨ (0 ≤ (f_X0_registerAt u a).toInt ∧ (f_X0_registerAt u a).toInt < 6) := R_registerAt_L h _ _ (by decide)
theorem R_aliasAt_L {u : Blk} {a : Int32} (h : BlkInv u) : ∀ (n : Nat) (x : Int32), 0 ≤ x.toInt → (f_X0_aliasAt_L15 u a n x).toInt = -9 ∨ (0 ≤ (f_X0_aliasAt_L15 u a n x).toInt ∧ (f_X0_aliasAt_L15 u a n x).toInt < 4) := by
  intro n
  induction n with
  | zero => intro x hx; right; rw [f_X0_aliasAt_L15]; decide
  | succ n ih =>
    intro x hx
    have hb := BI_als h
    rw [f_X0_aliasAt_L15]
    split
    · left; decide
    · rename_i h1
      have i1 := rnle h1
      split
      · right; omega
      · exact ih _ (by rw [rg_inc hx (by omega)]; omega)
theorem R_aliasAt {u : Blk} (h : BlkInv u) (a : Int32) : (f_X0_aliasAt u a).toInt = -9 ∨ (0 ≤ (f_X0_aliasAt u a).toInt ∧ (f_X0_aliasAt u a).toInt < 4) := by
  rw [f_X0_aliasAt]
  split
  · exact R_aliasAt_L h _ _ (by decide)
  · left; decide
theorem R_registerBehind {u : Blk} (h : BlkInv u) (a : Int32) : (f_X0_registerBehind u a).toInt = -9 ∨ (0 ≤ (f_X0_registerBehind u a).toInt ∧ (f_X0_registerBehind u a).toInt < 6) := by
  rw [f_X0_registerBehind]
  split
  · exact R_registerAt h a
  · right; exact BI_areg h _
theorem rOB {u : Blk} {r o : Int32} (h : ¬ f_X0_isOpenedBy u r o = 0) : 0 ≤ (u 3 r.toNatClampNeg).toInt ∧ (u 3 r.toNatClampNeg).toInt < (u 0 1).toInt := by
  unfold f_X0_isOpenedBy at h
  split at h
  · exact absurd rfl h
  · rename_i h1; exact rIW h1
theorem rCH {u : Blk} {f v : Int32} (h : ¬ f_X0_canHold u f v = 0) : 0 ≤ f.toInt ∧ f.toInt < (u 0 1).toInt := by
  unfold f_X0_canHold at h
  split at h
  · exact absurd rfl h
  · rename_i h1; exact rIW h1
end
section
/-! facts on the model's twin functions that the walks use -/
theorem rIN {v a b : Int32} (h : ¬ f_X9_in v a b = 0) : a.toInt ≤ v.toInt ∧ v.toInt ≤ b.toInt := by
  unfold f_X9_in at h
  split at h
  · exact absurd rfl h
  · rename_i h1
    split at h
    · exact absurd rfl h
    · rename_i h2
      exact ⟨rnlt h1, rnlt h2⟩
theorem rIF {t : Fn} {f : Int32} (hT : ToldInv t) (h : ¬ f_X9_isField t f = 0) : 0 ≤ f.toInt ∧ f.toInt < (f_X9_fields t).toInt ∧ (f_X9_fields t).toInt ≤ 12 := by
  have i := rIN (show ¬ f_X9_in f 0 (f_X9_fields t - 1) = 0 from h)
  have j := TI_91 hT
  have e : (f_X9_fields t - 1).toInt = (f_X9_fields t).toInt - 1 := by
    have := fb_subI (x := f_X9_fields t) (y := 1) (by show _ ≤ (t (91 : Int32).toNatClampNeg).toInt - _; rw [show (1 : Int32).toInt = 1 by decide]; omega) (by show (t (91 : Int32).toNatClampNeg).toInt - _ < _; rw [show (1 : Int32).toInt = 1 by decide]; omega)
    rw [this, show (1 : Int32).toInt = 1 by decide]
  rw [show (0 : Int32).toInt = 0 by decide] at i
  have k : (f_X9_fields t).toInt = (t (91 : Int32).toNatClampNeg).toInt := rfl
  omega
theorem rIRg {t : Fn} {f : Int32} (hT : ToldInv t) (h : ¬ f_X9_isRegister t f = 0) : 0 ≤ f.toInt ∧ f.toInt < (f_X9_registers t).toInt ∧ (f_X9_registers t).toInt ≤ 6 := by
  have i := rIN (show ¬ f_X9_in f 0 (f_X9_registers t - 1) = 0 from h)
  have j := TI_90 hT
  have e : (f_X9_registers t - 1).toInt = (f_X9_registers t).toInt - 1 := by
    have := fb_subI (x := f_X9_registers t) (y := 1) (by show _ ≤ (t (90 : Int32).toNatClampNeg).toInt - _; rw [show (1 : Int32).toInt = 1 by decide]; omega) (by show (t (90 : Int32).toNatClampNeg).toInt - _ < _; rw [show (1 : Int32).toInt = 1 by decide]; omega)
    rw [this, show (1 : Int32).toInt = 1 by decide]
  rw [show (0 : Int32).toInt = 0 by decide] at i
  have k : (f_X9_registers t).toInt = (t (90 : Int32).toNatClampNeg).toInt := rfl
  omega
theorem R_goesTo_L32 {t : Fn} {a : Int32} (h : ToldInv t) : ∀ (n : Nat) (x : Int32), 0 ≤ x.toInt → (f_X9_goesTo_L32 t a n x).toInt = -9 ∨ (0 ≤ (f_X9_goesTo_L32 t a n x).toInt ∧ (f_X9_goesTo_L32 t a n x).toInt < 6) ∨ (100 ≤ (f_X9_goesTo_L32 t a n x).toInt ∧ (f_X9_goesTo_L32 t a n x).toInt < 104) := by
  intro n
  induction n with
  | zero => intro x hx; right; left; rw [f_X9_goesTo_L32]; decide
  | succ n ih =>
    intro x hx
    have hb := TI_92 h
    rw [f_X9_goesTo_L32]
    split
    · left; decide
    · rename_i h1
      have i1 := rnle h1
      split
      · right; right
        have k : (100 : Int32).toInt = 100 := by decide
        have e := fb_addI (x := 100) (y := x) (by omega) (by omega)
        omega
      · exact ih _ (by rw [rg_inc hx (by omega)]; omega)
theorem R_goesTo_L2 {t : Fn} {a : Int32} (h : ToldInv t) : ∀ (n : Nat) (x : Int32), 0 ≤ x.toInt → (f_X9_goesTo_L2 t a n x).toInt = -9 ∨ (0 ≤ (f_X9_goesTo_L2 t a n x).toInt ∧ (f_X9_goesTo_L2 t a n x).toInt < 6) ∨ (100 ≤ (f_X9_goesTo_L2 t a n x).toInt ∧ (f_X9_goesTo_L2 t a n x).toInt < 104) := by
  intro n
  induction n with
  | zero => intro x hx; right; left; rw [f_X9_goesTo_L2]; decide
  | succ n ih =>
    intro x hx
    have hb := TI_90 h
    rw [f_X9_goesTo_L2]
    split
    · exact R_goesTo_L32 h _ _ (by decide)
    · rename_i h1
      have i1 : x.toInt < (t (90 : Int32).toNatClampNeg).toInt := rnle h1
      split
      · right; left; omega
      · exact ih _ (by rw [rg_inc hx (by omega)]; omega)
theorem R_goesTo {t : Fn} (h : ToldInv t) (a : Int32) : (f_X9_goesTo t a).toInt = -9 ∨ (0 ≤ (f_X9_goesTo t a).toInt ∧ (f_X9_goesTo t a).toInt < 6) ∨ (100 ≤ (f_X9_goesTo t a).toInt ∧ (f_X9_goesTo t a).toInt < 104) := R_goesTo_L2 h _ _ (by decide)
theorem R_registerOf {t : Fn} {x : Int32} (h : ToldInv t) (hx : (0 ≤ x.toInt ∧ x.toInt < 6) ∨ (100 ≤ x.toInt ∧ x.toInt < 104)) : 0 ≤ (f_X9_registerOf t x).toInt ∧ (f_X9_registerOf t x).toInt < 6 := by
  have k : (100 : Int32).toInt = 100 := by decide
  rw [f_X9_registerOf]
  split
  · rename_i h1
    have := rle h1
    exact TI_82 h (by omega) (by omega)
  · rename_i h1
    have := rnle h1
    omega
end
section
/-! the model's machines lie apart: what a call does to one leaves all else -/
theorem add2 {x y : Int32} (h0 : 0 ≤ x.toInt) (h1 : 0 ≤ y.toInt) (h2 : x.toInt ≤ 100000) (h3 : y.toInt ≤ 100000) : (x + y).toInt = x.toInt + y.toInt := fb_addI (by omega) (by omega)
theorem FR_letIn_L3 {t : Fn} {m r v kd : Int32} (hT : ToldInv t) (hm : 0 ≤ m.toInt ∧ m.toInt ≤ 135) (hr : 0 ≤ r.toInt ∧ r.toInt < 6) {j : Nat} (hj : (j : Int) < m.toInt ∨ m.toInt + 36 ≤ j) : ∀ (n : Nat) (x : Int32) (now : Fn), 0 ≤ x.toInt → f_X9_letIn_L3 t m r v kd n x now j = now j := by
  have k30 : (30 : Int32).toInt = 30 := by decide
  have e1 := add2 (x := m) (y := 30) (by omega) (by omega) (by omega) (by omega)
  have e2 := add2 (x := m + 30) (y := r) (by omega) (by omega) (by omega) (by omega)
  have hT1 := TI_91 hT
  intro n
  induction n with
  | zero => intro x now hx; rw [f_X9_letIn_L3]
  | succ n ih =>
    intro x now hx
    rw [f_X9_letIn_L3]
    split
    · split
      · exact upd_o (ine (by omega) (by omega))
      · rfl
    · rename_i h1
      have i1 : x.toInt < (t (91 : Int32).toNatClampNeg).toInt := rnle h1
      have e3 := rg_inc (x := x) hx (by omega)
      have h2 : 0 ≤ (x + 1).toInt := by omega
      have e4 := add2 (x := m) (y := x) (by omega) (by omega) (by omega) (by omega)
      have hne : j ≠ (m + x).toNatClampNeg := ine (by omega) (by omega)
      simp only [f_X9_letIn_J81, f_X9_letIn_J86, f_X9_letIn_J108, f_X9_letIn_J138]
      repeat' split
      all_goals first | exact ih _ _ h2 | (rw [ih _ _ h2]; exact upd_o hne)
theorem FR_letIn {t : Fn} {m r v kd : Int32} {now : Fn} (hT : ToldInv t) (hm : 0 ≤ m.toInt ∧ m.toInt ≤ 135) (hr : 0 ≤ r.toInt ∧ r.toInt < 6) {j : Nat} (hj : (j : Int) < m.toInt ∨ m.toInt + 36 ≤ j) : f_X9_letIn t now m r v kd j = now j := FR_letIn_L3 hT hm hr hj _ _ _ (by decide)
theorem FR_openGates_L3 {t : Fn} {m r v : Int32} (hT : ToldInv t) (hm : 0 ≤ m.toInt ∧ m.toInt ≤ 135) {j : Nat} (hj : (j : Int) < m.toInt ∨ m.toInt + 36 ≤ j) : ∀ (n : Nat) (x : Int32) (now : Fn), 0 ≤ x.toInt → f_X9_openGates_L3 t m r v n x now j = now j := by
  have k24 : (24 : Int32).toInt = 24 := by decide
  have e1 := add2 (x := m) (y := 24) (by omega) (by omega) (by omega) (by omega)
  have hT1 := TI_90 hT
  intro n
  induction n with
  | zero => intro x now hx; rw [f_X9_openGates_L3]
  | succ n ih =>
    intro x now hx
    rw [f_X9_openGates_L3]
    split
    · rfl
    · rename_i h1
      have i1 : x.toInt < (t (90 : Int32).toNatClampNeg).toInt := rnle h1
      have e3 := rg_inc (x := x) hx (by omega)
      have h2 : 0 ≤ (x + 1).toInt := by omega
      have e4 := add2 (x := m + 24) (y := x) (by omega) (by omega) (by omega) (by omega)
      have hne : j ≠ (m + 24 + x).toNatClampNeg := ine (by omega) (by omega)
      simp only [f_X9_openGates_J105]
      repeat' split
      all_goals first | exact ih _ _ h2 | (rw [ih _ _ h2, upd_o hne] <;> exact FR_letIn hT hm ⟨by omega, by omega⟩ hj)
theorem FR_openGates {t : Fn} {m r v : Int32} {now : Fn} (hT : ToldInv t) (hm : 0 ≤ m.toInt ∧ m.toInt ≤ 135) {j : Nat} (hj : (j : Int) < m.toInt ∨ m.toInt + 36 ≤ j) : f_X9_openGates t now m r v j = now j := FR_openGates_L3 hT hm hj _ _ _ (by decide)
theorem FR_writeTo {t : Fn} {m a v : Int32} {now : Fn} (hT : ToldInv t) (hm : 0 ≤ m.toInt ∧ m.toInt ≤ 135) {j : Nat} (hj : (j : Int) < m.toInt ∨ m.toInt + 36 ≤ j) : f_X9_writeTo t now m a v j = now j := by
  have k24 : (24 : Int32).toInt = 24 := by decide
  have e1 := add2 (x := m) (y := 24) (by omega) (by omega) (by omega) (by omega)
  have g := R_goesTo hT a
  rw [f_X9_writeTo]
  split
  · rfl
  · rename_i h0
    have h0' := rne h0
    rw [show (-9 : Int32).toInt = -9 by decide] at h0'
    have hr := R_registerOf (x := f_X9_goesTo t a) hT (by omega)
    have e2 := add2 (x := m + 24) (y := f_X9_registerOf t (f_X9_goesTo t a)) (by omega) (by omega) (by omega) (by omega)
    simp only [f_X9_writeTo_J73, f_X9_writeTo_J103]
    repeat' split
    all_goals first | rfl | exact upd_o (ine (by omega) (by omega)) | (rw [FR_openGates hT hm hj]; exact FR_letIn hT hm hr hj)
theorem FR_clearRead_L2 {t : Fn} {m r : Int32} (hT : ToldInv t) (hm : 0 ≤ m.toInt ∧ m.toInt ≤ 135) {j : Nat} (hj : (j : Int) < m.toInt ∨ m.toInt + 36 ≤ j) : ∀ (n : Nat) (x : Int32) (now : Fn), 0 ≤ x.toInt → f_X9_clearRead_L2 t m r n x now j = now j := by
  have hT1 := TI_91 hT
  intro n
  induction n with
  | zero => intro x now hx; rw [f_X9_clearRead_L2]
  | succ n ih =>
    intro x now hx
    rw [f_X9_clearRead_L2]
    split
    · rfl
    · rename_i h1
      have i1 : x.toInt < (t (91 : Int32).toNatClampNeg).toInt := rnle h1
      have e3 := rg_inc (x := x) hx (by omega)
      have h2 : 0 ≤ (x + 1).toInt := by omega
      have e4 := add2 (x := m) (y := x) (by omega) (by omega) (by omega) (by omega)
      have hne : j ≠ (m + x).toNatClampNeg := ine (by omega) (by omega)
      repeat' split
      all_goals first | rfl | exact ih _ _ h2 | (rw [ih _ _ h2]; exact upd_o hne)
theorem FR_clearRead {t : Fn} {m r : Int32} {now : Fn} (hT : ToldInv t) (hm : 0 ≤ m.toInt ∧ m.toInt ≤ 135) {j : Nat} (hj : (j : Int) < m.toInt ∨ m.toInt + 36 ≤ j) : f_X9_clearRead t now m r j = now j := FR_clearRead_L2 hT hm hj _ _ _ (by decide)
theorem FR_readOf {t : Fn} {m a : Int32} {now : Fn} (hT : ToldInv t) (hm : 0 ≤ m.toInt ∧ m.toInt ≤ 135) {j : Nat} (hj : (j : Int) < m.toInt ∨ m.toInt + 36 ≤ j) : (f_X9_readOf t now m a).2 j = now j := by
  rw [f_X9_readOf]
  split
  · rfl
  · exact FR_clearRead hT hm hj
theorem FR_copyMachine_L2 {a b : Int32} (ha : 0 ≤ a.toInt ∧ a.toInt ≤ 135) (hb : 0 ≤ b.toInt ∧ b.toInt ≤ 135) {j : Nat} (hj : (j : Int) < b.toInt ∨ b.toInt + 36 ≤ j) : ∀ (n : Nat) (x : Int32) (now : Fn), 0 ≤ x.toInt → f_X9_copyMachine_L2 a b n x now j = now j := by
  intro n
  induction n with
  | zero => intro x now hx; rw [f_X9_copyMachine_L2]
  | succ n ih =>
    intro x now hx
    rw [f_X9_copyMachine_L2]
    split
    · rfl
    · rename_i h1
      have i1 := rnle h1
      rw [show (36 : Int32).toInt = 36 by decide] at i1
      have e3 := rg_inc (x := x) hx (by omega)
      have h2 : 0 ≤ (x + 1).toInt := by omega
      have e4 := add2 (x := b) (y := x) (by omega) (by omega) (by omega) (by omega)
      rw [ih _ _ h2]
      exact upd_o (ine (by omega) (by omega))
theorem FR_copyMachine {a b : Int32} {now : Fn} (ha : 0 ≤ a.toInt ∧ a.toInt ≤ 135) (hb : 0 ≤ b.toInt ∧ b.toInt ≤ 135) {j : Nat} (hj : (j : Int) < b.toInt ∨ b.toInt + 36 ≤ j) : f_X9_copyMachine now a b j = now j := FR_copyMachine_L2 ha hb hj _ _ _ (by decide)
theorem FR_reset_L45 {m : Int32} (hm : 0 ≤ m.toInt ∧ m.toInt ≤ 135) {j : Nat} (hj : (j : Int) < m.toInt ∨ m.toInt + 36 ≤ j) : ∀ (n : Nat) (x : Int32) (now : Fn), 0 ≤ x.toInt → f_X9_reset_L45 m n x now j = now j := by
  have k24 : (24 : Int32).toInt = 24 := by decide
  have k30 : (30 : Int32).toInt = 30 := by decide
  have e1 := add2 (x := m) (y := 24) (by omega) (by omega) (by omega) (by omega)
  have e2 := add2 (x := m) (y := 30) (by omega) (by omega) (by omega) (by omega)
  intro n
  induction n with
  | zero => intro x now hx; rw [f_X9_reset_L45]
  | succ n ih =>
    intro x now hx
    rw [f_X9_reset_L45]
    split
    · rfl
    · rename_i h1
      have i1 := rnle h1
      rw [show (6 : Int32).toInt = 6 by decide] at i1
      have e3 := rg_inc (x := x) hx (by omega)
      have e4 := add2 (x := m + 24) (y := x) (by omega) (by omega) (by omega) (by omega)
      have e5 := add2 (x := m + 30) (y := x) (by omega) (by omega) (by omega) (by omega)
      rw [ih _ _ (by omega), upd_o (ine (by omega) (by omega)), upd_o (ine (by omega) (by omega))]
theorem FR_reset_L2 {t : Fn} {m : Int32} (hm : 0 ≤ m.toInt ∧ m.toInt ≤ 135) {j : Nat} (hj : (j : Int) < m.toInt ∨ m.toInt + 36 ≤ j) : ∀ (n : Nat) (x : Int32) (now : Fn), 0 ≤ x.toInt → f_X9_reset_L2 t m n x now j = now j := by
  intro n
  induction n with
  | zero => intro x now hx; rw [f_X9_reset_L2]
  | succ n ih =>
    intro x now hx
    rw [f_X9_reset_L2]
    split
    · exact FR_reset_L45 hm hj _ _ _ (by decide)
    · rename_i h1
      have i1 := rnle h1
      rw [show (12 : Int32).toInt = 12 by decide] at i1
      have e3 := rg_inc (x := x) hx (by omega)
      have h2 : 0 ≤ (x + 1).toInt := by omega
      have e4 := add2 (x := m) (y := x) (by omega) (by omega) (by omega) (by omega)
      split
      · rw [ih _ _ h2]; exact upd_o (ine (by omega) (by omega))
      · rw [ih _ _ h2]; exact upd_o (ine (by omega) (by omega))
theorem FR_reset {t : Fn} {m : Int32} {now : Fn} (hm : 0 ≤ m.toInt ∧ m.toInt ≤ 135) {j : Nat} (hj : (j : Int) < m.toInt ∨ m.toInt + 36 ≤ j) : f_X9_reset t now m j = now j := FR_reset_L2 hm hj _ _ _ (by decide)
theorem FR_repair_L2 {t : Fn} {m : Int32} (hm : 0 ≤ m.toInt ∧ m.toInt ≤ 135) {j : Nat} (hj : (j : Int) < m.toInt ∨ m.toInt + 36 ≤ j) : ∀ (n : Nat) (x : Int32) (now : Fn), 0 ≤ x.toInt → f_X9_repair_L2 t m n x now j = now j := by
  have k12 : (12 : Int32).toInt = 12 := by decide
  have e1 := add2 (x := m) (y := 12) (by omega) (by omega) (by omega) (by omega)
  intro n
  induction n with
  | zero => intro x now hx; rw [f_X9_repair_L2]
  | succ n ih =>
    intro x now hx
    rw [f_X9_repair_L2]
    split
    · rfl
    · rename_i h1
      have i1 := rnle h1
      have e3 := rg_inc (x := x) hx (by omega)
      have h2 : 0 ≤ (x + 1).toInt := by omega
      have e4 := add2 (x := m + 12) (y := x) (by omega) (by omega) (by omega) (by omega)
      split
      · rw [ih _ _ h2]; exact upd_o (ine (by omega) (by omega))
      · rw [ih _ _ h2]; exact upd_o (ine (by omega) (by omega))
theorem FR_repair {t : Fn} {m : Int32} {now : Fn} (hm : 0 ≤ m.toInt ∧ m.toInt ≤ 135) {j : Nat} (hj : (j : Int) < m.toInt ∨ m.toInt + 36 ≤ j) : f_X9_repair t now m j = now j := FR_repair_L2 hm hj _ _ _ (by decide)
theorem FR_wouldTell_L36 {t : Fn} (hT : ToldInv t) {j : Nat} (hj : j < 135 ∨ 171 ≤ j) : ∀ (n : Nat) (b x : Int32) (now : Fn), (f_X9_wouldTell_L36 t n b x now).2 j = now j := by
  have k : (135 : Int32).toInt = 135 := by decide
  intro n
  induction n with
  | zero => intro b x now; rw [f_X9_wouldTell_L36]
  | succ n ih =>
    intro b x now
    rw [f_X9_wouldTell_L36]
    simp only [f_X9_wouldTell_C114]
    repeat' split
    all_goals first | rfl | (rw [ih]; first | exact FR_writeTo hT (by omega) (by omega) | exact FR_readOf hT (by omega) (by omega))
theorem FR_wouldTell {t now : Fn} {f kd : Int32} (hT : ToldInv t) (hf : f.toInt = -9 ∨ (0 ≤ f.toInt ∧ f.toInt < 12)) {j : Nat} (hj : j < 135 ∨ 171 ≤ j) : (f_X9_wouldTell t now f kd).2 j = now j := by
  have k : (135 : Int32).toInt = 135 := by decide
  have k2 : (147 : Int32).toInt = 147 := by decide
  rw [f_X9_wouldTell]
  split
  · rw [f_X9_wouldTell_J24, FR_wouldTell_L36 hT hj, FR_reset (by omega) (by omega), FR_repair (by omega) (by omega)]
  · rename_i h
    have h' := rne h
    rw [show (-9 : Int32).toInt = -9 by decide] at h'
    have e := add2 (x := 147) (y := f) (by omega) (by omega) (by omega) (by omega)
    rw [f_X9_wouldTell_J24, FR_wouldTell_L36 hT hj, FR_reset (by omega) (by omega), upd_o (ine (by omega) (by omega)), FR_repair (by omega) (by omega)]
end
section
/-! facts on the reader of tokens and items -/
theorem z0I : (0 : Int32).toInt = 0 := by decide
theorem AD_L101 {s k len : Int32} {tx : Fn} (hl : len.toInt ≤ 160) : ∀ (n : Nat) (e : Int32), 0 ≤ e.toInt → e.toInt ≤ len.toInt → (f_X7_advance_L101 s k tx len n e).1 = s ∧ e.toInt ≤ (f_X7_advance_L101 s k tx len n e).2.1.toInt ∧ (f_X7_advance_L101 s k tx len n e).2.1.toInt ≤ len.toInt := by
  intro n
  induction n with
  | zero => intro e h0 h1; rw [f_X7_advance_L101]; exact ⟨rfl, Int.le_refl _, h1⟩
  | succ n ih =>
    intro e h0 h1
    rw [f_X7_advance_L101]
    split
    · exact ⟨rfl, Int.le_refl _, h1⟩
    · rename_i h2
      have i2 := rnle h2
      split
      · exact ⟨rfl, Int.le_refl _, h1⟩
      · have e3 := rg_inc h0 (by omega)
        obtain ⟨a, b, c⟩ := ih (e + 1) (by omega) (by omega)
        exact ⟨a, by omega, c⟩
theorem AD_L161 {s k len : Int32} {tx : Fn} (hl : len.toInt ≤ 160) : ∀ (n : Nat) (e : Int32), 0 ≤ e.toInt → e.toInt ≤ len.toInt → (f_X7_advance_L161 s k tx len n e).1 = s ∧ e.toInt ≤ (f_X7_advance_L161 s k tx len n e).2.1.toInt ∧ (f_X7_advance_L161 s k tx len n e).2.1.toInt ≤ len.toInt := by
  intro n
  induction n with
  | zero => intro e h0 h1; rw [f_X7_advance_L161]; exact ⟨rfl, Int.le_refl _, h1⟩
  | succ n ih =>
    intro e h0 h1
    rw [f_X7_advance_L161]
    split
    · exact ⟨rfl, Int.le_refl _, h1⟩
    · rename_i h2
      have i2 := rnle h2
      split
      · exact ⟨rfl, Int.le_refl _, h1⟩
      · have e3 := rg_inc h0 (by omega)
        obtain ⟨a, b, c⟩ := ih (e + 1) (by omega) (by omega)
        exact ⟨a, by omega, c⟩
theorem AD_J52 {s len : Int32} {tx : Fn} (hl : len.toInt ≤ 160) (h0 : 0 ≤ s.toInt) (h1 : s.toInt ≤ len.toInt) : (f_X7_advance_J52 s tx len).1 = s ∧ s.toInt ≤ (f_X7_advance_J52 s tx len).2.1.toInt ∧ (f_X7_advance_J52 s tx len).2.1.toInt ≤ len.toInt := by
  rw [f_X7_advance_J52]
  split
  · rename_i h2
    have i2 := rlt h2
    have e3 := rg_inc h0 (by omega)
    split
    · split
      · split
        · simp only [f_X7_advance_J225]; exact ⟨trivial, by omega, by omega⟩
        · simp only [f_X7_advance_J225]; exact ⟨trivial, by omega, by omega⟩
      · exact AD_L161 hl _ _ h0 h1
    · exact AD_L101 hl _ _ h0 h1
  · exact ⟨rfl, Int.le_refl _, h1⟩
theorem AD_L8 {len : Int32} {tx : Fn} (hl : len.toInt ≤ 160) : ∀ (n : Nat) (s : Int32), 0 ≤ s.toInt → s.toInt ≤ len.toInt → 160 - s.toInt < n → 0 ≤ (f_X7_advance_L8 tx len n s).1.toInt ∧ (f_X7_advance_L8 tx len n s).1.toInt ≤ (f_X7_advance_L8 tx len n s).2.1.toInt ∧ (f_X7_advance_L8 tx len n s).2.1.toInt ≤ len.toInt := by
  intro n
  induction n with
  | zero => intro s h0 h1 hn; omega
  | succ n ih =>
    intro s h0 h1 hn
    rw [f_X7_advance_L8]
    have hj := AD_J52 (s := s) (len := len) (tx := tx) hl h0 h1
    split
    · rw [hj.1]; exact ⟨h0, hj.2.1, hj.2.2⟩
    · rename_i h2
      have i2 := rnle h2
      have e3 := rg_inc h0 (by omega)
      split
      · exact ih _ (by omega) (by omega) (by omega)
      · rw [hj.1]; exact ⟨h0, hj.2.1, hj.2.2⟩
theorem R_advance {e len : Int32} {tx : Fn} (hl : 0 ≤ len.toInt ∧ len.toInt ≤ 160) (he : 0 ≤ e.toInt ∧ e.toInt ≤ len.toInt) : 0 ≤ (f_X7_advance e tx len).1.toInt ∧ (f_X7_advance e tx len).1.toInt ≤ (f_X7_advance e tx len).2.1.toInt ∧ (f_X7_advance e tx len).2.1.toInt ≤ len.toInt := AD_L8 hl.2 _ _ he.1 he.2 (by show 160 - e.toInt < 4000; omega)
theorem R_takeNumber {e len a b : Int32} {tx : Fn} (hl : 0 ≤ len.toInt ∧ len.toInt ≤ 160) (he : 0 ≤ e.toInt ∧ e.toInt ≤ len.toInt) : (0 ≤ (f_X4_takeNumber e tx len a b).2.1.toInt ∧ (f_X4_takeNumber e tx len a b).2.1.toInt ≤ (f_X4_takeNumber e tx len a b).2.2.1.toInt ∧ (f_X4_takeNumber e tx len a b).2.2.1.toInt ≤ len.toInt) ∧ ((f_X4_takeNumber e tx len a b).1.toInt = 0 ∨ (a.toInt ≤ (f_X7_number (f_X4_takeNumber e tx len a b).2.1 (f_X4_takeNumber e tx len a b).2.2.1 (f_X4_takeNumber e tx len a b).2.2.2 tx).toInt ∧ (f_X7_number (f_X4_takeNumber e tx len a b).2.1 (f_X4_takeNumber e tx len a b).2.2.1 (f_X4_takeNumber e tx len a b).2.2.2 tx).toInt ≤ b.toInt)) := by
  have h := R_advance (e := e) (tx := tx) hl he
  rw [f_X4_takeNumber, f_X4_takeNumber_C7]
  split
  · exact ⟨h, Or.inl z0I⟩
  · split
    · exact ⟨h, Or.inl z0I⟩
    · rename_i h2
      split
      · exact ⟨h, Or.inl z0I⟩
      · rename_i h3
        exact ⟨h, Or.inr ⟨rnlt h2, rnlt h3⟩⟩
theorem R_takeKind {e len : Int32} {tx : Fn} (hl : 0 ≤ len.toInt ∧ len.toInt ≤ 160) (he : 0 ≤ e.toInt ∧ e.toInt ≤ len.toInt) : 0 ≤ (f_X4_takeKind e tx len).2.1.toInt ∧ (f_X4_takeKind e tx len).2.1.toInt ≤ (f_X4_takeKind e tx len).2.2.1.toInt ∧ (f_X4_takeKind e tx len).2.2.1.toInt ≤ len.toInt := by
  have h := R_advance (e := e) (tx := tx) hl he
  rw [f_X4_takeKind, f_X4_takeKind_C7]
  split <;> exact h
theorem R_takeSemicolon {e len : Int32} {tx : Fn} (hl : 0 ≤ len.toInt ∧ len.toInt ≤ 160) (he : 0 ≤ e.toInt ∧ e.toInt ≤ len.toInt) : 0 ≤ (f_X4_takeSemicolon e tx len).2.1.toInt ∧ (f_X4_takeSemicolon e tx len).2.1.toInt ≤ (f_X4_takeSemicolon e tx len).2.2.1.toInt ∧ (f_X4_takeSemicolon e tx len).2.2.1.toInt ≤ len.toInt := by
  have h := R_advance (e := e) (tx := tx) hl he
  rw [f_X4_takeSemicolon, f_X4_takeSemicolon_C7]
  split <;> exact h
theorem bw_ne {u : Blk} {k i : Nat} {x : Int32} {q : Nat} (h : q ≠ k) : bw u k i x q = u q := if_neg h
theorem bw_eq {u : Blk} {k i : Nat} {x : Int32} : bw u k i x k = upd (u k) i x := if_pos rfl
theorem upd_c {f : Fn} {k j : Nat} {x : Int32} {P : Int32 → Prop} (h0 : P (f j)) (h1 : P x) : P (upd f k x j) := by
  unfold upd; split <;> assumption
theorem BI_bwo {u : Blk} {k i : Nat} {x : Int32} (h : BlkInv u) (hk : k ≠ 0 ∧ k ≠ 4 ∧ k ≠ 11) : BlkInv (bw u k i x) := by
  obtain ⟨h1, h2, h3, h4, h5⟩ := h
  refine ⟨?_, ?_, ?_, ?_, ?_⟩
  · rw [bw_ne (Ne.symm hk.1)]; exact h1
  · rw [bw_ne (Ne.symm hk.1)]; exact h2
  · rw [bw_ne (Ne.symm hk.1)]; exact h3
  · rw [bw_ne (Ne.symm hk.2.1)]; exact h4
  · rw [bw_ne (Ne.symm hk.2.2)]; exact h5
theorem BI_bw4 {u : Blk} {i : Nat} {x : Int32} (h : BlkInv u) (hx : 0 ≤ x.toInt ∧ x.toInt < 6) : BlkInv (bw u 4 i x) := by
  obtain ⟨h1, h2, h3, h4, h5⟩ := h
  refine ⟨?_, ?_, ?_, ?_, ?_⟩
  · rw [bw_ne (by decide)]; exact h1
  · rw [bw_ne (by decide)]; exact h2
  · rw [bw_ne (by decide)]; exact h3
  · intro k; rw [bw_eq]; exact upd_c (P := fun z => 0 ≤ z.toInt ∧ z.toInt < 6) (h4 k) hx
  · rw [bw_ne (by decide)]; exact h5
theorem BI_bw11 {u : Blk} {i : Nat} {x : Int32} (h : BlkInv u) (hx : 0 ≤ x.toInt ∧ x.toInt < 6) : BlkInv (bw u 11 i x) := by
  obtain ⟨h1, h2, h3, h4, h5⟩ := h
  refine ⟨?_, ?_, ?_, ?_, ?_⟩
  · rw [bw_ne (by decide)]; exact h1
  · rw [bw_ne (by decide)]; exact h2
  · rw [bw_ne (by decide)]; exact h3
  · rw [bw_ne (by decide)]; exact h4
  · intro k; rw [bw_eq]; exact upd_c (P := fun z => 0 ≤ z.toInt ∧ z.toInt < 6) (h5 k) hx
theorem BI_bw0 {u : Blk} {i : Nat} {x : Int32} (h : BlkInv u) (hx : 0 ≤ x.toInt) (hi : (i = 0 ∧ x.toInt ≤ 6) ∨ (i = 1 ∧ x.toInt ≤ 12) ∨ (i = 2 ∧ x.toInt ≤ 4)) : BlkInv (bw u 0 i x) := by
  obtain ⟨h1, h2, h3, h4, h5⟩ := h
  refine ⟨?_, ?_, ?_, ?_, ?_⟩
  · rw [bw_eq]; unfold upd; split
    · omega
    · exact h1
  · rw [bw_eq]; unfold upd; split
    · omega
    · exact h2
  · rw [bw_eq]; unfold upd; split
    · omega
    · exact h3
  · rw [bw_ne (by decide)]; exact h4
  · rw [bw_ne (by decide)]; exact h5
theorem BI_empty {u : Blk} (h : BlkInv u) : BlkInv (f_X0_empty u) := by
  have k : (0 : Int32).toInt = 0 := by decide
  rw [f_X0_empty]
  exact BI_bw0 (BI_bw0 (BI_bw0 h (by omega) (by omega)) (by omega) (by omega)) (by omega) (by omega)
def TokR (T : Int32 × Int32 × Int32 × Int32 × Blk) (len : Int32) : Prop := (0 ≤ T.2.1.toInt ∧ T.2.1.toInt ≤ T.2.2.1.toInt ∧ T.2.2.1.toInt ≤ len.toInt) ∧ BlkInv T.2.2.2.2
theorem sub1 {x : Int32} (h0 : 0 ≤ x.toInt) (h1 : x.toInt ≤ 100000) : (x - 1).toInt = x.toInt - 1 := by
  have k : (1 : Int32).toInt = 1 := by decide
  rw [fb_subI (by omega) (by omega), k]
theorem R_readRegister {s e k len : Int32} {tx : Fn} {u : Blk} (hB : BlkInv u) (hl : 0 ≤ len.toInt ∧ len.toInt ≤ 160) (hk : 0 ≤ s.toInt ∧ s.toInt ≤ e.toInt ∧ e.toInt ≤ len.toInt) : TokR (f_X4_readRegister s e k tx len u) len := by
  have hr := BI_regs hB
  rw [f_X4_readRegister]
  split
  · exact ⟨hk, hB⟩
  · rename_i h1
    have i1 := rnle h1
    rw [show (6 : Int32).toInt = 6 by decide] at i1
    have t1 := (R_takeNumber (e := e) (tx := tx) (a := 0) (b := 15) hl (by omega)).1
    generalize f_X4_takeNumber e tx len 0 15 = Z at t1 ⊢
    obtain ⟨z0, z1, z2, z3⟩ := Z
    dsimp only at t1 ⊢
    rw [f_X4_readRegister_C21]
    split
    · exact ⟨t1, hB⟩
    · have t2 := R_takeSemicolon (e := z2) (tx := tx) hl (by omega)
      have e3 := rg_inc (x := u 0 0) hr.1 (by omega)
      exact ⟨t2, BI_bw0 (BI_bwo (BI_bwo (BI_bwo hB (by decide)) (by decide)) (by decide)) (show 0 ≤ (u 0 0 + 1).toInt by omega) (Or.inl ⟨rfl, show (u 0 0 + 1).toInt ≤ 6 by omega⟩)⟩
theorem R_readLock {s e k len : Int32} {tx : Fn} {u : Blk} (hB : BlkInv u) (hl : 0 ≤ len.toInt ∧ len.toInt ≤ 160) (hk : 0 ≤ s.toInt ∧ s.toInt ≤ e.toInt ∧ e.toInt ≤ len.toInt) : TokR (f_X4_readLock s e k tx len u) len := by
  rw [f_X4_readLock]
  split
  · exact ⟨hk, hB⟩
  · have t1 := (R_takeNumber (e := e) (tx := tx) (a := 0) (b := u 0 0 - 1) hl (by omega)).1
    generalize f_X4_takeNumber e tx len 0 (u 0 0 - 1) = Z at t1 ⊢
    obtain ⟨z0, z1, z2, z3⟩ := Z
    dsimp only at t1 ⊢
    rw [f_X4_readLock_C24]
    split
    · exact ⟨t1, hB⟩
    · split
      · have t2 := (R_takeNumber (e := z2) (tx := tx) (a := 0) (b := u 0 1 - 1) hl (by omega)).1
        generalize f_X4_takeNumber z2 tx len 0 (u 0 1 - 1) = Y at t2 ⊢
        obtain ⟨y0, y1, y2, y3⟩ := Y
        dsimp only at t2 ⊢
        rw [f_X4_readLock_C65]
        split
        · exact ⟨t2, hB⟩
        · have t3 := R_takeSemicolon (e := y2) (tx := tx) hl (by omega)
          exact ⟨t3, BI_bwo hB (by decide)⟩
      · exact ⟨t1, hB⟩
theorem R_readGate {s e k len : Int32} {tx : Fn} {u : Blk} (hB : BlkInv u) (hl : 0 ≤ len.toInt ∧ len.toInt ≤ 160) (hk : 0 ≤ s.toInt ∧ s.toInt ≤ e.toInt ∧ e.toInt ≤ len.toInt) : TokR (f_X4_readGate s e k tx len u) len := by
  rw [f_X4_readGate]
  split
  · exact ⟨hk, hB⟩
  · have t1 := (R_takeNumber (e := e) (tx := tx) (a := 0) (b := u 0 0 - 1) hl (by omega)).1
    generalize f_X4_takeNumber e tx len 0 (u 0 0 - 1) = Z at t1 ⊢
    obtain ⟨z0, z1, z2, z3⟩ := Z
    dsimp only at t1 ⊢
    rw [f_X4_readGate_C24]
    split
    · exact ⟨t1, hB⟩
    · split
      · have t2 := (R_takeNumber (e := z2) (tx := tx) (a := 0) (b := u 0 1 - 1) hl (by omega)).1
        generalize f_X4_takeNumber z2 tx len 0 (u 0 1 - 1) = Y at t2 ⊢
        obtain ⟨y0, y1, y2, y3⟩ := Y
        dsimp only at t2 ⊢
        rw [f_X4_readGate_C65]
        split
        · exact ⟨t2, hB⟩
        · split
          · exact ⟨t2, hB⟩
          · have t3 := R_takeSemicolon (e := y2) (tx := tx) hl (by omega)
            exact ⟨t3, BI_bwo hB (by decide)⟩
      · exact ⟨t1, hB⟩
theorem R_readAlias_C80 {len : Int32} {tx : Fn} {u : Blk} {a b s e k : Int32} (hB : BlkInv u) (hl : 0 ≤ len.toInt ∧ len.toInt ≤ 160) (h4 : (u 0 2).toInt < 4) (hk : 0 ≤ s.toInt ∧ s.toInt ≤ e.toInt ∧ e.toInt ≤ len.toInt) : TokR (f_X4_readAlias_C80 tx len u a b s e k) len := by
  have ha := BI_als hB
  rw [f_X4_readAlias_C80]
  split
  · exact ⟨hk, hB⟩
  · split
    · exact ⟨hk, hB⟩
    · generalize f_X7_kind s e k tx = K
      have t5 := R_takeSemicolon (e := e) (tx := tx) hl (by omega)
      have e3 := rg_inc (x := u 0 2) ha.1 (by omega)
      have hc : bw u 12 a.toNatClampNeg K 0 2 = u 0 2 := by rw [bw_ne (by decide)]
      rw [hc]
      exact ⟨t5, BI_bw0 (BI_bwo hB (by decide)) (by omega) (Or.inr (Or.inr ⟨rfl, by omega⟩))⟩
theorem R_readAlias_C55 {len : Int32} {tx : Fn} {u : Blk} {a b s e k : Int32} (hB : BlkInv u) (hl : 0 ≤ len.toInt ∧ len.toInt ≤ 160) (h4 : (u 0 2).toInt < 4) (hk : 0 ≤ s.toInt ∧ s.toInt ≤ e.toInt ∧ e.toInt ≤ len.toInt) (hn : b.toInt = 0 ∨ (0 ≤ (f_X7_number s e k tx).toInt ∧ (f_X7_number s e k tx).toInt < 6)) : TokR (f_X4_readAlias_C55 tx len u a b s e k) len := by
  rw [f_X4_readAlias_C55]
  split
  · exact ⟨hk, hB⟩
  · rename_i h3
    have i3 := rne h3
    rw [z0I] at i3
    generalize f_X7_number s e k tx = N at hn ⊢
    have t4 := R_takeKind (e := e) (tx := tx) hl (by omega)
    exact R_readAlias_C80 (BI_bw11 hB (by omega)) hl (by rw [bw_ne (by decide)]; exact h4) t4
theorem R_readAlias {s e k len : Int32} {tx : Fn} {u : Blk} (hB : BlkInv u) (hl : 0 ≤ len.toInt ∧ len.toInt ≤ 160) (hk : 0 ≤ s.toInt ∧ s.toInt ≤ e.toInt ∧ e.toInt ≤ len.toInt) : TokR (f_X4_readAlias s e k tx len u) len := by
  have hr := BI_regs hB
  rw [f_X4_readAlias]
  split
  · exact ⟨hk, hB⟩
  · rename_i h1
    have i1 := rnle h1
    rw [show (4 : Int32).toInt = 4 by decide] at i1
    have t1 := (R_takeNumber (e := e) (tx := tx) (a := 0) (b := 15) hl (by omega)).1
    generalize f_X4_takeNumber e tx len 0 15 = Z at t1 ⊢
    obtain ⟨z0, z1, z2, z3⟩ := Z
    dsimp only at t1 ⊢
    rw [f_X4_readAlias_C20]
    split
    · exact ⟨t1, hB⟩
    · generalize f_X7_number z1 z2 z3 tx = N
      have hc0 : bw u 10 (u 0 2).toNatClampNeg N 0 0 = u 0 0 := by rw [bw_ne (by decide)]
      rw [hc0]
      obtain ⟨t2, n2⟩ := R_takeNumber (e := z2) (tx := tx) (a := 0) (b := u 0 0 - 1) hl (by omega)
      rw [sub1 hr.1 (by omega), z0I] at n2
      exact R_readAlias_C55 (BI_bwo hB (by decide)) hl (by rw [bw_ne (by decide)]; exact i1) t2 (by omega)
theorem R_readField {s e k len : Int32} {tx : Fn} {u : Blk} (hB : BlkInv u) (hl : 0 ≤ len.toInt ∧ len.toInt ≤ 160) (hk : 0 ≤ s.toInt ∧ s.toInt ≤ e.toInt ∧ e.toInt ≤ len.toInt) : TokR (f_X4_readField s e k tx len u) len := by
  have hr := BI_regs hB
  have hf := BI_flds hB
  rw [f_X4_readField]
  split
  · exact ⟨hk, hB⟩
  · rename_i h1
    have i1 := rnle h1
    rw [show (12 : Int32).toInt = 12 by decide] at i1
    split
    · exact ⟨hk, hB⟩
    · rename_i h2
      have i2 := rnlt h2
      rw [z0I, sub1 hr.1 (by omega)] at i2
      have e2 := sub1 hr.1 (by omega)
      have t1 := R_takeKind (e := e) (tx := tx) hl (by omega)
      generalize f_X4_takeKind e tx len = Z at t1 ⊢
      obtain ⟨z0, z1, z2, z3⟩ := Z
      dsimp only at t1 ⊢
      rw [f_X4_readField_C32]
      split
      · exact ⟨t1, hB⟩
      · have hB1 : BlkInv (bw (bw u 4 (u 0 1).toNatClampNeg (u 0 0 - 1)) 5 (u 0 1).toNatClampNeg (f_X7_kind z1 z2 z3 tx)) := BI_bwo (BI_bw4 hB (by omega)) (by decide)
        have hc : bw (bw u 4 (u 0 1).toNatClampNeg (u 0 0 - 1)) 5 (u 0 1).toNatClampNeg (f_X7_kind z1 z2 z3 tx) 0 1 = u 0 1 := rfl
        generalize bw (bw u 4 (u 0 1).toNatClampNeg (u 0 0 - 1)) 5 (u 0 1).toNatClampNeg (f_X7_kind z1 z2 z3 tx) = u1 at hB1 hc ⊢
        have t2 := (R_takeNumber (e := z2) (tx := tx) (a := 0) (b := 7) hl (by omega)).1
        generalize f_X4_takeNumber z2 tx len 0 7 = Y at t2 ⊢
        obtain ⟨y0, y1, y2, y3⟩ := Y
        dsimp only at t2 ⊢
        rw [f_X4_readField_C79]
        split
        · exact ⟨t2, hB1⟩
        · split
          · generalize f_X7_number y1 y2 y3 tx = lo
            have t3 := (R_takeNumber (e := y2) (tx := tx) (a := lo) (b := 7) hl (by omega)).1
            generalize f_X4_takeNumber y2 tx len lo 7 = V at t3 ⊢
            obtain ⟨v0, v1, v2, v3⟩ := V
            dsimp only at t3 ⊢
            rw [f_X4_readField_C110]
            split
            · exact ⟨t3, hB1⟩
            · split
              · generalize f_X7_number v1 v2 v3 tx = hi
                generalize ((2 : Int32) <<< (hi &&& 31)) - ((1 : Int32) <<< (lo &&& 31)) = mk
                have t4 := (R_takeNumber (e := v2) (tx := tx) (a := 0) (b := mk >>> (lo &&& 31)) hl (by omega)).1
                generalize f_X4_takeNumber v2 tx len 0 (mk >>> (lo &&& 31)) = U at t4 ⊢
                obtain ⟨w0, w1, w2, w3⟩ := U
                dsimp only at t4 ⊢
                rw [f_X4_readField_C152]
                split
                · exact ⟨t4, hB1⟩
                · have t5 := R_takeSemicolon (e := w2) (tx := tx) hl (by omega)
                  have e3 := rg_inc (x := u 0 1) hf.1 (by omega)
                  exact ⟨t5, BI_bw0 (BI_bwo (BI_bwo (BI_bwo (BI_bwo hB1 (by decide)) (by decide)) (by decide)) (by decide)) (show 0 ≤ (u1 0 1 + 1).toInt by rw [hc]; omega) (Or.inr (Or.inl ⟨rfl, show (u1 0 1 + 1).toInt ≤ 12 by rw [hc]; omega⟩))⟩
              · exact ⟨t3, hB1⟩
          · exact ⟨t2, hB1⟩
theorem R_readItem {s e k len : Int32} {tx : Fn} {u : Blk} (hB : BlkInv u) (hl : 0 ≤ len.toInt ∧ len.toInt ≤ 160) (hk : 0 ≤ s.toInt ∧ s.toInt ≤ e.toInt ∧ e.toInt ≤ len.toInt) : TokR (f_X4_readItem s e k tx len u) len := by
  rw [f_X4_readItem]
  split
  · exact R_readAlias hB hl hk
  · split
    · exact R_readField hB hl hk
    · split
      · exact R_readLock hB hl hk
      · split
        · exact R_readRegister hB hl hk
        · split
          · exact R_readGate hB hl hk
          · exact ⟨hk, hB⟩
end
section
/-! facts on the model's reader -/
theorem rHere {tx : Fn} {ty at' a b : Int32} (h : ¬ f_X9_isHere tx ty at' a b = 0) : at'.toInt < ty.toInt := by
  unfold f_X9_isHere at h
  split at h
  · exact absurd rfl h
  · rename_i h1; exact rnle h1
theorem NX_L67 {tx : Fn} {ty ta : Int32} (hy : ty.toInt ≤ 160) : ∀ (n : Nat) (p v : Int32), 0 ≤ p.toInt → p.toInt ≤ ty.toInt → p.toInt ≤ (f_X9_next_L67 tx ty ta n p v).1.toInt ∧ (f_X9_next_L67 tx ty ta n p v).1.toInt ≤ ty.toInt ∧ (f_X9_next_L67 tx ty ta n p v).2.1 = ta := by
  intro n
  induction n with
  | zero => intro p v h0 h1; rw [f_X9_next_L67]; exact ⟨Int.le_refl _, h1, rfl⟩
  | succ n ih =>
    intro p v h0 h1
    rw [f_X9_next_L67]
    split
    · repeat' split
      all_goals exact ⟨Int.le_refl _, h1, rfl⟩
    · rename_i h2
      have i2 := rHere h2
      have e := rg_inc h0 (by omega)
      simp only [f_X9_next_J116]
      split
      · have := ih (p + 1) ((10 * v + tx p.toNatClampNeg) - 48) (by omega) (by omega); exact ⟨by omega, this.2.1, this.2.2⟩
      · have := ih (p + 1) v (by omega) (by omega); exact ⟨by omega, this.2.1, this.2.2⟩
theorem NX_L192 {tx : Fn} {ty ta : Int32} (hy : ty.toInt ≤ 160) : ∀ (n : Nat) (p v : Int32), 0 ≤ p.toInt → p.toInt ≤ ty.toInt → p.toInt ≤ (f_X9_next_L192 tx ty ta n p v).1.toInt ∧ (f_X9_next_L192 tx ty ta n p v).1.toInt ≤ ty.toInt ∧ (f_X9_next_L192 tx ty ta n p v).2.1 = ta := by
  intro n
  induction n with
  | zero => intro p v h0 h1; rw [f_X9_next_L192]; exact ⟨Int.le_refl _, h1, rfl⟩
  | succ n ih =>
    intro p v h0 h1
    rw [f_X9_next_L192]
    simp only [f_X9_next_J299, f_X9_next_J304, f_X9_next_J238]
    split
    · repeat' split
      all_goals exact ⟨Int.le_refl _, h1, rfl⟩
    · rename_i h2
      have i2 := rHere h2
      have e := rg_inc h0 (by omega)
      split
      · have := ih (p + 1) (256 * v + tx p.toNatClampNeg) (by omega) (by omega); exact ⟨by omega, this.2.1, this.2.2⟩
      · have := ih (p + 1) v (by omega) (by omega); exact ⟨by omega, this.2.1, this.2.2⟩
theorem NX_L67s {tx : Fn} {ty ta : Int32} (hy : ty.toInt ≤ 160) (n : Nat) (p v : Int32) (h0 : 0 ≤ p.toInt) (h1 : p.toInt ≤ ty.toInt) (h2 : ¬ f_X9_isHere tx ty p 48 57 = 0) : p.toInt < (f_X9_next_L67 tx ty ta (n + 1) p v).1.toInt := by
  have i2 := rHere h2
  have e := rg_inc h0 (by omega)
  rw [f_X9_next_L67, if_neg h2]
  simp only [f_X9_next_J116]
  split
  · have := NX_L67 (tx := tx) (ta := ta) hy n (p + 1) ((10 * v + tx p.toNatClampNeg) - 48) (by omega) (by omega); omega
  · have := NX_L67 (tx := tx) (ta := ta) hy n (p + 1) v (by omega) (by omega); omega
theorem NX_L192s {tx : Fn} {ty ta : Int32} (hy : ty.toInt ≤ 160) (n : Nat) (p v : Int32) (h0 : 0 ≤ p.toInt) (h1 : p.toInt ≤ ty.toInt) (h2 : ¬ f_X9_isHere tx ty p 97 122 = 0) : p.toInt < (f_X9_next_L192 tx ty ta (n + 1) p v).1.toInt := by
  have i2 := rHere h2
  have e := rg_inc h0 (by omega)
  rw [f_X9_next_L192, if_neg h2]
  simp only [f_X9_next_J238]
  split
  · have := NX_L192 (tx := tx) (ta := ta) hy n (p + 1) (256 * v + tx p.toNatClampNeg) (by omega) (by omega); omega
  · have := NX_L192 (tx := tx) (ta := ta) hy n (p + 1) v (by omega) (by omega); omega
/-- the reader's place: a0 at first, now at', with a token behind which something was read (or none left) -/
def PS (ty a0 at' ta tk : Int32) : Prop := 0 ≤ ta.toInt ∧ 0 ≤ a0.toInt ∧ a0.toInt ≤ at'.toInt ∧ at'.toInt ≤ ty.toInt ∧ (tk.toInt = 0 ∨ a0.toInt < at'.toInt)
theorem NX_L0 {tx : Fn} {ty : Int32} (hy : ty.toInt ≤ 160) : ∀ (n : Nat) (p : Int32), 0 ≤ p.toInt → p.toInt ≤ ty.toInt → 160 - p.toInt < n → PS ty p (f_X9_next_L0 tx ty n p).1 (f_X9_next_L0 tx ty n p).2.1 (f_X9_next_L0 tx ty n p).2.2.1 := by
  intro n
  induction n with
  | zero => intro p h0 h1 h2; omega
  | succ n ih =>
    intro p h0 h1 hn
    rw [f_X9_next_L0]
    split
    · split
      · exact ⟨h0, h0, Int.le_refl _, h1, Or.inl z0I⟩
      · rename_i h3
        have i3 := rne h3
        have e := rg_inc h0 (by omega)
        split
        · split
          · simp only [f_X9_next_J353]
            split
            · exact ⟨h0, h0, show p.toInt ≤ (p + 1).toInt by omega, show (p + 1).toInt ≤ _ by omega, Or.inr (show p.toInt < (p + 1).toInt by omega)⟩
            · exact ⟨h0, h0, show p.toInt ≤ (p + 1).toInt by omega, show (p + 1).toInt ≤ _ by omega, Or.inr (show p.toInt < (p + 1).toInt by omega)⟩
          · rename_i h5
            have q := NX_L192s (tx := tx) (ta := p) hy 3999 p 0 h0 h1 h5
            have q2 := NX_L192 (tx := tx) (ta := p) hy 4000 p 0 h0 h1
            exact ⟨by rw [q2.2.2]; exact h0, h0, q2.1, q2.2.1, Or.inr q⟩
        · rename_i h5
          have q := NX_L67s (tx := tx) (ta := p) hy 3999 p 0 h0 h1 h5
          have q2 := NX_L67 (tx := tx) (ta := p) hy 4000 p 0 h0 h1
          exact ⟨by rw [q2.2.2]; exact h0, h0, q2.1, q2.2.1, Or.inr q⟩
    · rename_i h2
      have i2 := rHere h2
      have e := rg_inc h0 (by omega)
      obtain ⟨a0, a, b, c, d⟩ := ih (p + 1) (by omega) (by omega) (by omega)
      exact ⟨a0, h0, by omega, c, by omega⟩
theorem R_next {tx : Fn} {ty p : Int32} (hy : 0 ≤ ty.toInt ∧ ty.toInt ≤ 160) (h : 0 ≤ p.toInt ∧ p.toInt ≤ ty.toInt) : PS ty p (f_X9_next tx ty p).1 (f_X9_next tx ty p).2.1 (f_X9_next tx ty p).2.2.1 := NX_L0 hy.2 _ _ h.1 h.2 (by show 160 - p.toInt < 4000; omega)
theorem must_rng {tx : Fn} {ty p ta tk v f is : Int32} (hy : 0 ≤ ty.toInt ∧ ty.toInt ≤ 160) (h : 0 ≤ p.toInt ∧ p.toInt ≤ ty.toInt) : p.toInt ≤ (f_X9_must tx ty p ta tk v f is).2.1.toInt ∧ (f_X9_must tx ty p ta tk v f is).2.1.toInt ≤ ty.toInt := by
  obtain ⟨a0', a, b, c, d⟩ := R_next (tx := tx) hy h
  rw [f_X9_must]
  split
  · split
    · exact ⟨Int.le_refl _, h.2⟩
    · exact ⟨b, c⟩
  · exact ⟨Int.le_refl _, h.2⟩
theorem must_PS {tx : Fn} {ty p ta tk v f is a0 : Int32} (hy : 0 ≤ ty.toInt ∧ ty.toInt ≤ 160) (h : PS ty a0 p ta tk) : PS ty a0 (f_X9_must tx ty p ta tk v f is).2.1 (f_X9_must tx ty p ta tk v f is).2.2.1 (f_X9_must tx ty p ta tk v f is).2.2.2.1 := by
  obtain ⟨h0, h1, h2, h3, h4⟩ := id h
  obtain ⟨a0', a, b, c, d⟩ := R_next (tx := tx) hy (p := p) ⟨by omega, h3⟩
  rw [f_X9_must]
  split
  · split
    · exact h
    · exact ⟨a0', h1, show a0.toInt ≤ (f_X9_next tx ty p).1.toInt by omega, c, by rcases d with d | d; exact Or.inl d; exact Or.inr (show a0.toInt < (f_X9_next tx ty p).1.toInt by omega)⟩
  · exact h
theorem must_ok {tx : Fn} {ty p ta tk v f is : Int32} (hy : 0 ≤ ty.toInt ∧ ty.toInt ≤ 160) (h : 0 ≤ p.toInt ∧ p.toInt ≤ ty.toInt) (ht : 0 ≤ ta.toInt) : (f_X9_must tx ty p ta tk v f is).2.2.2.2.2.toInt ≠ -9 ∨ (f.toInt = -9 ∧ is.toInt ≠ 0 ∧ PS ty p (f_X9_must tx ty p ta tk v f is).2.1 (f_X9_must tx ty p ta tk v f is).2.2.1 (f_X9_must tx ty p ta tk v f is).2.2.2.1) := by
  have hn := R_next (tx := tx) hy h
  have k9 : (-9 : Int32).toInt = -9 := by decide
  rw [f_X9_must]
  split
  · rename_i h1
    have i1 := congrArg Int32.toInt h1
    split
    · exact Or.inl (show ta.toInt ≠ -9 by omega)
    · rename_i h2
      have i2 := rne h2
      rw [z0I] at i2
      exact Or.inr ⟨by omega, i2, hn⟩
  · rename_i h1
    have i1 := rne h1
    exact Or.inl (show f.toInt ≠ -9 by omega)
theorem must_ta {tx : Fn} {ty p ta tk v f is : Int32} (hy : 0 ≤ ty.toInt ∧ ty.toInt ≤ 160) (h : 0 ≤ p.toInt ∧ p.toInt ≤ ty.toInt) (ht : 0 ≤ ta.toInt) : 0 ≤ (f_X9_must tx ty p ta tk v f is).2.2.1.toInt := by
  have hn := R_next (tx := tx) hy h
  rw [f_X9_must]
  split
  · split
    · exact ht
    · exact hn.1
  · exact ht
theorem must_its {tx : Fn} {ty p ta tk v f is : Int32} : (f_X9_must tx ty p ta tk v f is).1 = v := by
  rw [f_X9_must]
  split
  · split <;> rfl
  · rfl
/-- what a step of the reader does: its answer T (its, at, tokenAt, token, value, fault) -/
def MR (ty p f : Int32) (T : Int32 × Int32 × Int32 × Int32 × Int32 × Int32) : Prop := (p.toInt ≤ T.2.1.toInt ∧ T.2.1.toInt ≤ ty.toInt) ∧ 0 ≤ T.2.2.1.toInt ∧ (T.2.2.2.2.2.toInt ≠ -9 ∨ (f.toInt = -9 ∧ (T.2.2.2.1.toInt = 0 ∨ p.toInt < T.2.1.toInt)))
theorem must_MR {tx : Fn} {ty p ta tk v f is : Int32} (hy : 0 ≤ ty.toInt ∧ ty.toInt ≤ 160) (h : 0 ≤ p.toInt ∧ p.toInt ≤ ty.toInt) (ht : 0 ≤ ta.toInt) : MR ty p f (f_X9_must tx ty p ta tk v f is) := ⟨must_rng hy h, must_ta hy h ht, by
  rcases must_ok (tx := tx) (tk := tk) (v := v) (f := f) (is := is) hy h ht with q | q
  · exact Or.inl q
  · exact Or.inr ⟨q.1, q.2.2.2.2.2.2⟩⟩
theorem must_is {tx : Fn} {ty p ta tk v f is : Int32} (hy : 0 ≤ ty.toInt ∧ ty.toInt ≤ 160) (h : 0 ≤ p.toInt ∧ p.toInt ≤ ty.toInt) (ht : 0 ≤ ta.toInt) : (f_X9_must tx ty p ta tk v f is).2.2.2.2.2.toInt ≠ -9 ∨ is.toInt ≠ 0 := by
  rcases must_ok (tx := tx) (tk := tk) (v := v) (f := f) (is := is) hy h ht with q | q
  · exact Or.inl q
  · exact Or.inr q.2.1
theorem number_eq {tx : Fn} {ty p ta tk v f a b : Int32} : ∃ is : Int32, f_X9_number tx ty p ta tk v f a b = f_X9_must tx ty p ta tk v f is ∧ (is.toInt = 0 ∨ (a.toInt ≤ v.toInt ∧ v.toInt ≤ b.toInt)) := by
  rw [f_X9_number]
  split
  · split
    · exact ⟨0, rfl, Or.inl z0I⟩
    · rename_i h; exact ⟨1, rfl, Or.inr (rIN h)⟩
  · exact ⟨0, rfl, Or.inl z0I⟩
theorem number_MR {tx : Fn} {ty p ta tk v f a b : Int32} (hy : 0 ≤ ty.toInt ∧ ty.toInt ≤ 160) (h : 0 ≤ p.toInt ∧ p.toInt ≤ ty.toInt) (ht : 0 ≤ ta.toInt) : MR ty p f (f_X9_number tx ty p ta tk v f a b) := by
  obtain ⟨is, e, -⟩ := number_eq (tx := tx) (ty := ty) (p := p) (ta := ta) (tk := tk) (v := v) (f := f) (a := a) (b := b)
  rw [e]; exact must_MR hy h ht
theorem number_ok {tx : Fn} {ty p ta tk v f a b : Int32} (hy : 0 ≤ ty.toInt ∧ ty.toInt ≤ 160) (h : 0 ≤ p.toInt ∧ p.toInt ≤ ty.toInt) (ht : 0 ≤ ta.toInt) : (f_X9_number tx ty p ta tk v f a b).2.2.2.2.2.toInt ≠ -9 ∨ (a.toInt ≤ (f_X9_number tx ty p ta tk v f a b).1.toInt ∧ (f_X9_number tx ty p ta tk v f a b).1.toInt ≤ b.toInt) := by
  obtain ⟨is, e, q⟩ := number_eq (tx := tx) (ty := ty) (p := p) (ta := ta) (tk := tk) (v := v) (f := f) (a := a) (b := b)
  rw [e, must_its]
  rcases must_is (tx := tx) (tk := tk) (v := v) (f := f) (is := is) hy h ht with z | z
  · exact Or.inl z
  · rcases q with q | q
    · exact absurd q z
    · exact Or.inr q
theorem MR.tr {ty p p2 f f2 : Int32} {T : Int32 × Int32 × Int32 × Int32 × Int32 × Int32} {i a b k v : Int32} (h1 : MR ty p f (i, a, b, k, v, f2)) (h2 : MR ty a f2 T) (hp : p2 = p) : MR ty p f T := by
  obtain ⟨⟨a1, a2⟩, a3, a4⟩ := h1
  obtain ⟨⟨b1, b2⟩, b3, b4⟩ := h2
  dsimp only at a1 a2 a3 a4
  exact ⟨⟨by omega, b2⟩, b3, by omega⟩
/-- the rows under way: those of a block, lows and highs in their ranges -/
def DraftInv (d : Fn) : Prop := ToldInv d ∧ ∀ x : Int32, 0 ≤ x.toInt → x.toInt < 12 → 0 ≤ (d ((30 : Int32) + x).toNatClampNeg).toInt ∧ (d ((42 : Int32) + x).toNatClampNeg).toInt ≤ 7
theorem DI_90 {d : Fn} (h : DraftInv d) : 0 ≤ (d (90 : Int32).toNatClampNeg).toInt ∧ (d (90 : Int32).toNatClampNeg).toInt ≤ 6 := TI_90 h.1
theorem DI_91 {d : Fn} (h : DraftInv d) : 0 ≤ (d (91 : Int32).toNatClampNeg).toInt ∧ (d (91 : Int32).toNatClampNeg).toInt ≤ 12 := TI_91 h.1
theorem DI_92 {d : Fn} (h : DraftInv d) : 0 ≤ (d (92 : Int32).toNatClampNeg).toInt ∧ (d (92 : Int32).toNatClampNeg).toInt ≤ 4 := TI_92 h.1
theorem DI_lh {d : Fn} {x : Int32} (h : DraftInv d) (h0 : 0 ≤ x.toInt) (h1 : x.toInt < 12) : 0 ≤ (d ((30 : Int32) + x).toNatClampNeg).toInt ∧ (d ((42 : Int32) + x).toNatClampNeg).toInt ≤ 7 := h.2 x h0 h1
theorem upd_w {d : Fn} {i j : Nat} {v : Int32} {P : Int32 → Prop} (h0 : P (d j)) (h1 : j = i → P v) : P (upd d i v j) := by
  unfold upd; split
  · rename_i h; exact h1 h
  · exact h0
theorem ixa {c : Nat} {x : Int32} (k : Int32) (hk : k.toInt = c) (hc : c ≤ 1000) (h0 : 0 ≤ x.toInt) (h1 : x.toInt < 1000) : (k + x).toNatClampNeg = c + x.toInt.toNat := by
  have e := add2 (x := k) (y := x) (by omega) h0 (by omega) (by omega)
  rw [ixn, e, hk]; omega
theorem DI_upd {d : Fn} {i : Nat} {v : Int32} (h : DraftInv d) (c90 : i = 90 → 0 ≤ v.toInt ∧ v.toInt ≤ 6) (c91 : i = 91 → 0 ≤ v.toInt ∧ v.toInt ≤ 12) (c92 : i = 92 → 0 ≤ v.toInt ∧ v.toInt ≤ 4) (c18 : 18 ≤ i → i < 30 → 0 ≤ v.toInt ∧ v.toInt < 6) (c6 : 6 ≤ i → i < 18 → v.toInt = -9 ∨ (0 ≤ v.toInt ∧ v.toInt < 12)) (c82 : 82 ≤ i → i < 86 → 0 ≤ v.toInt ∧ v.toInt < 6) (c30 : 30 ≤ i → i < 42 → 0 ≤ v.toInt) (c42 : 42 ≤ i → i < 54 → v.toInt ≤ 7) : DraftInv (upd d i v) := by
  obtain ⟨⟨h1, h2, h3, h4, h5, h6, h7⟩, h8⟩ := h
  refine ⟨⟨?_, ?_, ?_, ?_, ?_, ?_, ?_⟩, ?_⟩
  · exact upd_w (P := fun z => 0 ≤ z.toInt ∧ z.toInt ≤ 6) h1 (fun e => c90 (by rw [← e]; decide))
  · exact upd_w (P := fun z => 0 ≤ z.toInt ∧ z.toInt ≤ 12) h2 (fun e => c91 (by rw [← e]; decide))
  · exact upd_w (P := fun z => 0 ≤ z.toInt ∧ z.toInt ≤ 4) h3 (fun e => c92 (by rw [← e]; decide))
  · intro x a b
    exact upd_w (P := fun z => 0 ≤ z.toInt ∧ z.toInt < 6) (h4 x a b) (fun e => by rw [ixa 18 (c := 18) (by decide) (by decide) a (by omega)] at e; exact c18 (by omega) (by omega))
  · intro x a b
    exact upd_w (P := fun z => z.toInt = -9 ∨ (0 ≤ z.toInt ∧ z.toInt < 12)) (h5 x a b) (fun e => by rw [ixa 6 (c := 6) (by decide) (by decide) a (by omega)] at e; exact c6 (by omega) (by omega))
  · intro x a b
    exact upd_w (P := fun z => z.toInt = -9 ∨ (0 ≤ z.toInt ∧ z.toInt < 12)) (h6 x a b) (fun e => by rw [ixa 12 (c := 12) (by decide) (by decide) a (by omega)] at e; exact c6 (by omega) (by omega))
  · intro x a b
    refine upd_w (P := fun z => 0 ≤ z.toInt ∧ z.toInt < 6) (h7 x a b) (fun e => ?_)
    have k82 : (82 : Int32).toInt = 82 := by decide
    have k100 : (100 : Int32).toInt = 100 := by decide
    have e1 := add2 (x := 82) (y := x) (by omega) (by omega) (by omega) (by omega)
    have e2 := fb_subI (x := 82 + x) (y := 100) (by omega) (by omega)
    rw [ixn, e2, e1, k82, k100] at e
    exact c82 (by omega) (by omega)
  · intro x a b
    refine ⟨upd_w (P := fun z => 0 ≤ z.toInt) (h8 x a b).1 (fun e => by rw [ixa 30 (c := 30) (by decide) (by decide) a (by omega)] at e; exact c30 (by omega) (by omega)), upd_w (P := fun z => z.toInt ≤ 7) (h8 x a b).2 (fun e => by rw [ixa 42 (c := 42) (by decide) (by decide) a (by omega)] at e; exact c42 (by omega) (by omega))⟩
theorem DI_zero {d : Fn} (h : ∀ j : Nat, j < 93 → d j = 0) : DraftInv d := by
  have z : ∀ i : Nat, i < 93 → (d i).toInt = 0 := fun i hi => by rw [h i hi]; exact z0I
  refine ⟨⟨?_, ?_, ?_, ?_, ?_, ?_, ?_⟩, ?_⟩
  · have := z 90 (by omega); exact ⟨Int.le_of_eq this.symm, by show (d 90).toInt ≤ 6; omega⟩
  · have := z 91 (by omega); exact ⟨Int.le_of_eq this.symm, by show (d 91).toInt ≤ 12; omega⟩
  · have := z 92 (by omega); exact ⟨Int.le_of_eq this.symm, by show (d 92).toInt ≤ 4; omega⟩
  · intro x a b; rw [ixa 18 (c := 18) (by decide) (by decide) a (by omega), z _ (by omega)]; omega
  · intro x a b; rw [ixa 6 (c := 6) (by decide) (by decide) a (by omega), z _ (by omega)]; omega
  · intro x a b; rw [ixa 12 (c := 12) (by decide) (by decide) a (by omega), z _ (by omega)]; omega
  · intro x a b
    have k82 : (82 : Int32).toInt = 82 := by decide
    have k100 : (100 : Int32).toInt = 100 := by decide
    have e1 := add2 (x := 82) (y := x) (by omega) (by omega) (by omega) (by omega)
    have e2 := fb_subI (x := 82 + x) (y := 100) (by omega) (by omega)
    rw [ixn, e2, e1, k82, k100, z _ (by omega)]; omega
  · intro x a b; rw [ixa 30 (c := 30) (by decide) (by decide) a (by omega), ixa 42 (c := 42) (by decide) (by decide) a (by omega), z _ (by omega), z _ (by omega)]; omega
end
section
/-! facts on the model's reader of items -/
def RD (ty p f : Int32) (T : Fn × Int32 × Int32 × Int32 × Int32 × Int32) : Prop := DraftInv T.1 ∧ MR ty p f (0, T.2)
theorem RD.tr {ty p f i a b k v g : Int32} {T : Fn × Int32 × Int32 × Int32 × Int32 × Int32} (h1 : MR ty p f (i, a, b, k, v, g)) (h2 : RD ty a g T) : RD ty p f T := ⟨h2.1, MR.tr h1 h2.2 rfl⟩
theorem MR.stay {ty p ta tk v f : Int32} (h : 0 ≤ p.toInt ∧ p.toInt ≤ ty.toInt) (ht : 0 ≤ ta.toInt) (hf : f.toInt ≠ -9) : MR ty p f (0, p, ta, tk, v, f) := ⟨⟨Int.le_refl _, h.2⟩, ht, Or.inl hf⟩
theorem k9 : (-9 : Int32).toInt = -9 := by decide
theorem ix90 : (90 : Int32).toNatClampNeg = 90 := by decide
theorem ix91 : (91 : Int32).toNatClampNeg = 91 := by decide
theorem ix92 : (92 : Int32).toNatClampNeg = 92 := by decide
/-- a store in the rows under way at c + x, far from the counters -/
theorem RM_readRegister {d tx : Fn} {ty p ta tk v f : Int32} (hD : DraftInv d) (hr : (d (90 : Int32).toNatClampNeg).toInt < 6) (hy : 0 ≤ ty.toInt ∧ ty.toInt ≤ 160) (h : 0 ≤ p.toInt ∧ p.toInt ≤ ty.toInt) (ht : 0 ≤ ta.toInt) : RD ty p f (f_X9_readRegister d tx ty p ta tk v f) := by
  have m := number_MR (tx := tx) (tk := tk) (v := v) (f := f) (a := 0) (b := 15) hy h ht
  have h90 := DI_90 hD
  rw [f_X9_readRegister]
  generalize f_X9_number tx ty p ta tk v f 0 15 = Z at m ⊢
  obtain ⟨z0, z1, z2, z3, z4, z5⟩ := Z
  dsimp only at m ⊢
  generalize hx : d (90 : Int32).toNatClampNeg = x at hr h90 ⊢
  have i0 := ixa (c := 0) (x := x) 0 (by decide) (by decide) h90.1 (by omega)
  have i6 := ixa (c := 6) (x := x) 6 (by decide) (by decide) h90.1 (by omega)
  have i12 := ixa (c := 12) (x := x) 12 (by decide) (by decide) h90.1 (by omega)
  rw [f_X9_readRegister_C15]
  split
  · refine ⟨?_, m⟩
    have e3 := rg_inc (x := x) h90.1 (by omega)
    rw [upd_o (by rw [ix90, i12]; omega), upd_o (by rw [ix90, i6]; omega), upd_o (by rw [ix90, i0]; omega), hx, i0, i6, i12, ix90]
    refine DI_upd (DI_upd (DI_upd (DI_upd hD ?_ ?_ ?_ ?_ ?_ ?_ ?_ ?_) ?_ ?_ ?_ ?_ ?_ ?_ ?_ ?_) ?_ ?_ ?_ ?_ ?_ ?_ ?_ ?_) ?_ ?_ ?_ ?_ ?_ ?_ ?_ ?_ <;> (intros; first | omega | (rw [k9]; omega))
  · exact ⟨hD, m⟩
theorem RF_J170 {d : Fn} {ty x1 x3 x4 x5 s0 p ta tk v f : Int32} (hD : DraftInv d) (h91 : (d (91 : Int32).toNatClampNeg).toInt < 12) (hx : 0 ≤ x1.toInt ∧ x1.toInt < 6) (hl : f.toInt ≠ -9 ∨ 0 ≤ x4.toInt) (hh : f.toInt ≠ -9 ∨ x5.toInt ≤ 7) : DraftInv (f_X9_readField_J170 d x1 x3 x4 x5 s0 p ta tk v f).1 ∧ (f_X9_readField_J170 d x1 x3 x4 x5 s0 p ta tk v f).2 = (p, ta, tk, v, f) := by
  have h0 := DI_91 hD
  rw [f_X9_readField_J170]
  split
  · rename_i h1
    have i1 := congrArg Int32.toInt h1
    rw [k9] at i1
    refine ⟨?_, rfl⟩
    generalize hz : d (91 : Int32).toNatClampNeg = x at h91 h0 ⊢
    have i18 := ixa (c := 18) (x := x) 18 (by decide) (by decide) h0.1 (by omega)
    have i30 := ixa (c := 30) (x := x) 30 (by decide) (by decide) h0.1 (by omega)
    have i42 := ixa (c := 42) (x := x) 42 (by decide) (by decide) h0.1 (by omega)
    have i54 := ixa (c := 54) (x := x) 54 (by decide) (by decide) h0.1 (by omega)
    have i66 := ixa (c := 66) (x := x) 66 (by decide) (by decide) h0.1 (by omega)
    have e3 := rg_inc (x := x) h0.1 (by omega)
    rw [upd_o (by rw [ix91, i66]; omega), upd_o (by rw [ix91, i54]; omega), upd_o (by rw [ix91, i42]; omega), upd_o (by rw [ix91, i30]; omega), upd_o (by rw [ix91, i18]; omega), hz, i18, i30, i42, i54, i66, ix91]
    refine DI_upd (DI_upd (DI_upd (DI_upd (DI_upd (DI_upd hD ?_ ?_ ?_ ?_ ?_ ?_ ?_ ?_) ?_ ?_ ?_ ?_ ?_ ?_ ?_ ?_) ?_ ?_ ?_ ?_ ?_ ?_ ?_ ?_) ?_ ?_ ?_ ?_ ?_ ?_ ?_ ?_) ?_ ?_ ?_ ?_ ?_ ?_ ?_ ?_) ?_ ?_ ?_ ?_ ?_ ?_ ?_ ?_ <;> (intros; omega)
  · exact ⟨hD, rfl⟩
theorem RF_C139 {d tx : Fn} {ty x1 x3 x4 s0 p ta tk v f : Int32} (hD : DraftInv d) (h91 : (d (91 : Int32).toNatClampNeg).toInt < 12) (hx : 0 ≤ x1.toInt ∧ x1.toInt < 6) (hl : f.toInt ≠ -9 ∨ 0 ≤ x4.toInt) (hh : f.toInt ≠ -9 ∨ s0.toInt ≤ 7) (hy : 0 ≤ ty.toInt ∧ ty.toInt ≤ 160) (h : 0 ≤ p.toInt ∧ p.toInt ≤ ty.toInt) (ht : 0 ≤ ta.toInt) : RD ty p f (f_X9_readField_C139 d tx ty x1 x3 x4 s0 p ta tk v f) := by
  rw [f_X9_readField_C139]
  split
  · generalize ((1 : Int32) <<< ((s0 - x4 + 1) &&& 31)) - 1 = b
    have m := number_MR (tx := tx) (tk := tk) (v := v) (f := f) (a := 0) (b := b) hy h ht
    generalize f_X9_number tx ty p ta tk v f 0 b = Z at m ⊢
    obtain ⟨z0, z1, z2, z3, z4, z5⟩ := Z
    dsimp only at m ⊢
    rw [f_X9_readField_C166]
    have m4 := m.2.2
    dsimp only at m4
    obtain ⟨a, e⟩ := RF_J170 (ty := ty) (x3 := x3) (s0 := z0) (p := z1) (ta := z2) (tk := z3) (v := z4) (f := z5) hD h91 hx (x4 := x4) (x5 := s0) (by omega) (by omega)
    exact ⟨a, by rw [e]; exact m⟩
  · rename_i h1
    have i1 := rne h1
    rw [k9] at i1
    obtain ⟨a, e⟩ := RF_J170 (ty := ty) (x3 := x3) (s0 := 0) (p := p) (ta := ta) (tk := tk) (v := v) (f := f) hD h91 hx (x4 := x4) (x5 := s0) hl hh
    exact ⟨a, by rw [e]; exact MR.stay h ht i1⟩
theorem RF_J136 {d tx : Fn} {ty x1 x3 x4 s1 p ta tk v f : Int32} (hD : DraftInv d) (h91 : (d (91 : Int32).toNatClampNeg).toInt < 12) (hx : 0 ≤ x1.toInt ∧ x1.toInt < 6) (hl : f.toInt ≠ -9 ∨ 0 ≤ x4.toInt) (hs : s1.toInt = 0 ∨ v.toInt ≤ 7) (hy : 0 ≤ ty.toInt ∧ ty.toInt ≤ 160) (h : 0 ≤ p.toInt ∧ p.toInt ≤ ty.toInt) (ht : 0 ≤ ta.toInt) : RD ty p f (f_X9_readField_J136 d tx ty p ta tk v f x1 x3 x4 s1) := by
  have m := must_MR (tx := tx) (tk := tk) (v := v) (f := f) (is := s1) hy h ht
  have e := must_its (tx := tx) (ty := ty) (p := p) (ta := ta) (tk := tk) (v := v) (f := f) (is := s1)
  have q := must_is (tx := tx) (tk := tk) (v := v) (f := f) (is := s1) hy h ht
  rw [f_X9_readField_J136]
  generalize f_X9_must tx ty p ta tk v f s1 = Z at m e q ⊢
  obtain ⟨z0, z1, z2, z3, z4, z5⟩ := Z
  dsimp only at m e q ⊢
  obtain ⟨⟨m1, m2⟩, m3, m4⟩ := id m
  dsimp only at m1 m2 m3 m4
  exact RD.tr m (RF_C139 hD h91 hx (by omega) (by rw [e]; omega) hy ⟨by omega, m2⟩ m3)
theorem RF_C90 {d tx : Fn} {ty x1 x2 x3 s0 p ta tk v f : Int32} (hD : DraftInv d) (h91 : (d (91 : Int32).toNatClampNeg).toInt < 12) (hx : 0 ≤ x1.toInt ∧ x1.toInt < 6) (hl : f.toInt ≠ -9 ∨ 0 ≤ s0.toInt) (hy : 0 ≤ ty.toInt ∧ ty.toInt ≤ 160) (h : 0 ≤ p.toInt ∧ p.toInt ≤ ty.toInt) (ht : 0 ≤ ta.toInt) : RD ty p f (f_X9_readField_C90 d tx ty x1 x2 x3 s0 p ta tk v f) := by
  rw [f_X9_readField_C90]
  simp only [f_X9_readField_J135]
  split
  · split
    · exact RF_J136 hD h91 hx hl (Or.inl z0I) hy h ht
    · rename_i h2
      have i2 := rIN h2
      rw [show (7 : Int32).toInt = 7 by decide] at i2
      split
      · exact RF_J136 hD h91 hx hl (Or.inr i2.2) hy h ht
      · exact RF_J136 hD h91 hx hl (Or.inl z0I) hy h ht
  · exact RF_J136 hD h91 hx hl (Or.inl z0I) hy h ht
theorem RF_J87 {d tx : Fn} {ty x1 x2 x3 s1 p ta tk v f : Int32} (hD : DraftInv d) (h91 : (d (91 : Int32).toNatClampNeg).toInt < 12) (hx : 0 ≤ x1.toInt ∧ x1.toInt < 6) (hs : s1.toInt = 0 ∨ 0 ≤ v.toInt) (hy : 0 ≤ ty.toInt ∧ ty.toInt ≤ 160) (h : 0 ≤ p.toInt ∧ p.toInt ≤ ty.toInt) (ht : 0 ≤ ta.toInt) : RD ty p f (f_X9_readField_J87 d tx ty p ta tk v f x1 x2 x3 s1) := by
  have m := must_MR (tx := tx) (tk := tk) (v := v) (f := f) (is := s1) hy h ht
  have e := must_its (tx := tx) (ty := ty) (p := p) (ta := ta) (tk := tk) (v := v) (f := f) (is := s1)
  have q := must_is (tx := tx) (tk := tk) (v := v) (f := f) (is := s1) hy h ht
  rw [f_X9_readField_J87]
  generalize f_X9_must tx ty p ta tk v f s1 = Z at m e q ⊢
  obtain ⟨z0, z1, z2, z3, z4, z5⟩ := Z
  dsimp only at m e q ⊢
  obtain ⟨⟨m1, m2⟩, m3, m4⟩ := id m
  dsimp only at m1 m2 m3 m4
  exact RD.tr m (RF_C90 hD h91 hx (by rw [e]; omega) hy ⟨by omega, m2⟩ m3)
theorem RF_C45 {d tx : Fn} {ty x1 x2 s0 p ta tk v f : Int32} (hD : DraftInv d) (h91 : (d (91 : Int32).toNatClampNeg).toInt < 12) (hx : 0 ≤ x1.toInt ∧ x1.toInt < 6) (hy : 0 ≤ ty.toInt ∧ ty.toInt ≤ 160) (h : 0 ≤ p.toInt ∧ p.toInt ≤ ty.toInt) (ht : 0 ≤ ta.toInt) : RD ty p f (f_X9_readField_C45 d tx ty x1 x2 s0 p ta tk v f) := by
  rw [f_X9_readField_C45]
  simp only [f_X9_readField_J86]
  split
  · split
    · exact RF_J87 hD h91 hx (Or.inl z0I) hy h ht
    · rename_i h2
      have i2 := rIN h2
      rw [z0I] at i2
      split
      · exact RF_J87 hD h91 hx (Or.inr i2.1) hy h ht
      · exact RF_J87 hD h91 hx (Or.inl z0I) hy h ht
  · exact RF_J87 hD h91 hx (Or.inl z0I) hy h ht
theorem RF_J42 {d tx : Fn} {ty x1 x2 s1 p ta tk v f : Int32} (hD : DraftInv d) (h91 : (d (91 : Int32).toNatClampNeg).toInt < 12) (hx : 0 ≤ x1.toInt ∧ x1.toInt < 6) (hy : 0 ≤ ty.toInt ∧ ty.toInt ≤ 160) (h : 0 ≤ p.toInt ∧ p.toInt ≤ ty.toInt) (ht : 0 ≤ ta.toInt) : RD ty p f (f_X9_readField_J42 d tx ty p ta tk v f x1 x2 s1) := by
  have m := must_MR (tx := tx) (tk := tk) (v := v) (f := f) (is := s1) hy h ht
  rw [f_X9_readField_J42]
  generalize f_X9_must tx ty p ta tk v f s1 = Z at m ⊢
  obtain ⟨z0, z1, z2, z3, z4, z5⟩ := Z
  dsimp only at m ⊢
  obtain ⟨⟨m1, m2⟩, m3, m4⟩ := id m
  dsimp only at m1 m2 m3 m4
  exact RD.tr m (RF_C45 hD h91 hx hy ⟨by omega, m2⟩ m3)
theorem RM_readField {d tx : Fn} {ty p ta tk v f : Int32} (hD : DraftInv d) (h90 : 1 ≤ (d (90 : Int32).toNatClampNeg).toInt) (h91 : (d (91 : Int32).toNatClampNeg).toInt < 12) (hy : 0 ≤ ty.toInt ∧ ty.toInt ≤ 160) (h : 0 ≤ p.toInt ∧ p.toInt ≤ ty.toInt) (ht : 0 ≤ ta.toInt) : RD ty p f (f_X9_readField d tx ty p ta tk v f) := by
  have h0 := DI_90 hD
  have e := sub1 h0.1 (by omega)
  rw [f_X9_readField]
  simp only [f_X9_readField_J41]
  repeat' split
  all_goals exact RF_J42 hD h91 (by omega) hy h ht
theorem RA_C77 {d : Fn} {x1 x2 x3 s0 p ta tk v f : Int32} (hD : DraftInv d) (h92 : (d (92 : Int32).toNatClampNeg).toInt < 4) (hx : f.toInt ≠ -9 ∨ (0 ≤ x2.toInt ∧ x2.toInt < 6)) : DraftInv (f_X9_readAlias_C77 d x1 x2 x3 s0 p ta tk v f).1 ∧ (f_X9_readAlias_C77 d x1 x2 x3 s0 p ta tk v f).2 = (p, ta, tk, v, f) := by
  have h0 := DI_92 hD
  rw [f_X9_readAlias_C77]
  split
  · rename_i h1
    have i1 := congrArg Int32.toInt h1
    rw [k9] at i1
    refine ⟨?_, rfl⟩
    generalize hz : d (92 : Int32).toNatClampNeg = x at h92 h0 ⊢
    have i78 := ixa (c := 78) (x := x) 78 (by decide) (by decide) h0.1 (by omega)
    have i82 := ixa (c := 82) (x := x) 82 (by decide) (by decide) h0.1 (by omega)
    have i86 := ixa (c := 86) (x := x) 86 (by decide) (by decide) h0.1 (by omega)
    have e3 := rg_inc (x := x) h0.1 (by omega)
    rw [upd_o (by rw [ix92, i86]; omega), upd_o (by rw [ix92, i82]; omega), upd_o (by rw [ix92, i78]; omega), hz, i78, i82, i86, ix92]
    refine DI_upd (DI_upd (DI_upd (DI_upd hD ?_ ?_ ?_ ?_ ?_ ?_ ?_ ?_) ?_ ?_ ?_ ?_ ?_ ?_ ?_ ?_) ?_ ?_ ?_ ?_ ?_ ?_ ?_ ?_) ?_ ?_ ?_ ?_ ?_ ?_ ?_ ?_ <;> (intros; omega)
  · exact ⟨hD, rfl⟩
theorem RA_J74 {d tx : Fn} {ty x1 x2 x3 s1 p ta tk v f : Int32} (hD : DraftInv d) (h92 : (d (92 : Int32).toNatClampNeg).toInt < 4) (hx : f.toInt ≠ -9 ∨ (0 ≤ x2.toInt ∧ x2.toInt < 6)) (hy : 0 ≤ ty.toInt ∧ ty.toInt ≤ 160) (h : 0 ≤ p.toInt ∧ p.toInt ≤ ty.toInt) (ht : 0 ≤ ta.toInt) : RD ty p f (f_X9_readAlias_J74 d tx ty p ta tk v f x1 x2 x3 s1) := by
  have m := must_MR (tx := tx) (tk := tk) (v := v) (f := f) (is := s1) hy h ht
  rw [f_X9_readAlias_J74]
  generalize f_X9_must tx ty p ta tk v f s1 = Z at m ⊢
  obtain ⟨z0, z1, z2, z3, z4, z5⟩ := Z
  dsimp only at m ⊢
  have m4 := m.2.2
  dsimp only at m4
  obtain ⟨a, e⟩ := RA_C77 (x1 := x1) (x3 := x3) (s0 := z0) (p := z1) (ta := z2) (tk := z3) (v := z4) (f := z5) (x2 := x2) hD h92 (by omega)
  exact ⟨a, by rw [e]; exact m⟩
theorem RM_readAlias {d tx : Fn} {ty p ta tk v f : Int32} (hD : DraftInv d) (h92 : (d (92 : Int32).toNatClampNeg).toInt < 4) (hy : 0 ≤ ty.toInt ∧ ty.toInt ≤ 160) (h : 0 ≤ p.toInt ∧ p.toInt ≤ ty.toInt) (ht : 0 ≤ ta.toInt) : RD ty p f (f_X9_readAlias d tx ty p ta tk v f) := by
  have h0 := DI_90 hD
  have e := sub1 h0.1 (by omega)
  have m := number_MR (tx := tx) (tk := tk) (v := v) (f := f) (a := 0) (b := 15) hy h ht
  rw [f_X9_readAlias]
  generalize f_X9_number tx ty p ta tk v f 0 15 = Z at m ⊢
  obtain ⟨z0, z1, z2, z3, z4, z5⟩ := Z
  dsimp only at m ⊢
  obtain ⟨⟨m1, m2⟩, m3, m4⟩ := id m
  dsimp only at m1 m2 m3 m4
  refine RD.tr m ?_
  have hz : 0 ≤ z1.toInt ∧ z1.toInt ≤ ty.toInt := ⟨by omega, m2⟩
  have n := number_MR (tx := tx) (tk := z3) (v := z4) (f := z5) (a := 0) (b := d (90 : Int32).toNatClampNeg - 1) hy hz m3
  have n2 := number_ok (tx := tx) (tk := z3) (v := z4) (f := z5) (a := 0) (b := d (90 : Int32).toNatClampNeg - 1) hy hz m3
  rw [f_X9_readAlias_C7]
  generalize f_X9_number tx ty z1 z2 z3 z4 z5 0 (d (90 : Int32).toNatClampNeg - 1) = Y at n n2 ⊢
  obtain ⟨y0, y1, y2, y3, y4, y5⟩ := Y
  dsimp only at n n2 ⊢
  obtain ⟨⟨n3, n4⟩, n5, n6⟩ := id n
  dsimp only at n3 n4 n5 n6
  refine RD.tr n ?_
  rw [e, z0I] at n2
  rw [f_X9_readAlias_C22]
  simp only [f_X9_readAlias_J43, f_X9_readAlias_J69]
  repeat' split
  all_goals exact RA_J74 hD h92 (by omega) hy ⟨by omega, n4⟩ n5
theorem RL_J110 {d tx : Fn} {ty x1 x2 s1 p ta tk v f : Int32} (hD : DraftInv d) (hw : x1.toInt = 6 ∨ x1.toInt = 12) (hx : f.toInt ≠ -9 ∨ (0 ≤ x2.toInt ∧ x2.toInt < 6)) (hs : s1.toInt = 0 ∨ (0 ≤ v.toInt ∧ v.toInt < 12)) (hy : 0 ≤ ty.toInt ∧ ty.toInt ≤ 160) (h : 0 ≤ p.toInt ∧ p.toInt ≤ ty.toInt) (ht : 0 ≤ ta.toInt) : RD ty p f (f_X9_readLink_J110 d tx ty p ta tk v f x1 x2 s1) := by
  have m := must_MR (tx := tx) (tk := tk) (v := v) (f := f) (is := s1) hy h ht
  have e := must_its (tx := tx) (ty := ty) (p := p) (ta := ta) (tk := tk) (v := v) (f := f) (is := s1)
  have q := must_is (tx := tx) (tk := tk) (v := v) (f := f) (is := s1) hy h ht
  rw [f_X9_readLink_J110]
  generalize f_X9_must tx ty p ta tk v f s1 = Z at m e q ⊢
  obtain ⟨z0, z1, z2, z3, z4, z5⟩ := Z
  dsimp only at m e q ⊢
  have m4 := m.2.2
  dsimp only at m4
  rw [f_X9_readLink_C113]
  split
  · rename_i h1
    have i1 := congrArg Int32.toInt h1
    rw [k9] at i1
    have e2 := add2 (x := x1) (y := x2) (by omega) (by omega) (by omega) (by omega)
    refine ⟨?_, m⟩
    rw [ixn]
    refine DI_upd hD ?_ ?_ ?_ ?_ ?_ ?_ ?_ ?_ <;> (intros; first | omega | (rw [e]; omega))
  · exact ⟨hD, m⟩
theorem RL_C53 {d tx : Fn} {ty x1 s0 p ta tk v f : Int32} (hD : DraftInv d) (hw : x1.toInt = 6 ∨ x1.toInt = 12) (hx : f.toInt ≠ -9 ∨ (0 ≤ s0.toInt ∧ s0.toInt < 6)) (hy : 0 ≤ ty.toInt ∧ ty.toInt ≤ 160) (h : 0 ≤ p.toInt ∧ p.toInt ≤ ty.toInt) (ht : 0 ≤ ta.toInt) : RD ty p f (f_X9_readLink_C53 d tx ty x1 s0 p ta tk v f) := by
  have h0 := DI_91 hD
  have e := sub1 h0.1 (by omega)
  rw [f_X9_readLink_C53]
  simp only [f_X9_readLink_J105, f_X9_readLink_J109]
  split
  · split
    · exact RL_J110 hD hw hx (Or.inl z0I) hy h ht
    · rename_i h2
      have i2 := rIN h2
      rw [z0I, e] at i2
      repeat' split
      all_goals exact RL_J110 hD hw hx (by omega) hy h ht
  · exact RL_J110 hD hw hx (Or.inl z0I) hy h ht
theorem RL_J50 {d tx : Fn} {ty x1 s1 p ta tk v f : Int32} (hD : DraftInv d) (hw : x1.toInt = 6 ∨ x1.toInt = 12) (hs : s1.toInt = 0 ∨ (0 ≤ v.toInt ∧ v.toInt < 6)) (hy : 0 ≤ ty.toInt ∧ ty.toInt ≤ 160) (h : 0 ≤ p.toInt ∧ p.toInt ≤ ty.toInt) (ht : 0 ≤ ta.toInt) : RD ty p f (f_X9_readLink_J50 d tx ty p ta tk v f x1 s1) := by
  have m := must_MR (tx := tx) (tk := tk) (v := v) (f := f) (is := s1) hy h ht
  have e := must_its (tx := tx) (ty := ty) (p := p) (ta := ta) (tk := tk) (v := v) (f := f) (is := s1)
  have q := must_is (tx := tx) (tk := tk) (v := v) (f := f) (is := s1) hy h ht
  rw [f_X9_readLink_J50]
  generalize f_X9_must tx ty p ta tk v f s1 = Z at m e q ⊢
  obtain ⟨z0, z1, z2, z3, z4, z5⟩ := Z
  dsimp only at m e q ⊢
  obtain ⟨⟨m1, m2⟩, m3, m4⟩ := id m
  dsimp only at m1 m2 m3 m4
  exact RD.tr m (RL_C53 hD hw (by rw [e]; omega) hy ⟨by omega, m2⟩ m3)
theorem RM_readLink {d tx : Fn} {ty p ta tk v f x1 : Int32} (hD : DraftInv d) (hw : x1.toInt = 6 ∨ x1.toInt = 12) (hy : 0 ≤ ty.toInt ∧ ty.toInt ≤ 160) (h : 0 ≤ p.toInt ∧ p.toInt ≤ ty.toInt) (ht : 0 ≤ ta.toInt) : RD ty p f (f_X9_readLink d tx ty p ta tk v f x1) := by
  have h0 := DI_90 hD
  have e := sub1 h0.1 (by omega)
  rw [f_X9_readLink]
  simp only [f_X9_readLink_J49]
  split
  · split
    · exact RL_J50 hD hw (Or.inl z0I) hy h ht
    · rename_i h2
      have i2 := rIN h2
      rw [z0I, e] at i2
      split
      · exact RL_J50 hD hw (by omega) hy h ht
      · exact RL_J50 hD hw (Or.inl z0I) hy h ht
  · exact RL_J50 hD hw (Or.inl z0I) hy h ht
end
section
/-! facts on the model's reader of a whole item -/
def KI (d : Fn) (x : Int32) : Prop := (x.toInt ≠ 114 ∨ (d (90 : Int32).toNatClampNeg).toInt < 6) ∧ (x.toInt ≠ 102 ∨ ((d (91 : Int32).toNatClampNeg).toInt < 12 ∧ 1 ≤ (d (90 : Int32).toNatClampNeg).toInt)) ∧ (x.toInt ≠ 97 ∨ (d (92 : Int32).toNatClampNeg).toInt < 4)
theorem RI_J182 {d tx : Fn} {ty p ta tk v f : Int32} (hD : DraftInv d) (hy : 0 ≤ ty.toInt ∧ ty.toInt ≤ 160) (h : 0 ≤ p.toInt ∧ p.toInt ≤ ty.toInt) (ht : 0 ≤ ta.toInt) : RD ty p f (f_X9_readItem_J182 tx ty d p ta tk v f) := by
  rw [f_X9_readItem_J182]
  simp only [f_X9_readItem_J196, f_X9_readItem_C199]
  split
  · exact ⟨hD, must_MR (tx := tx) (tk := tk) (v := v) (f := f) (is := 1) hy h ht⟩
  · exact ⟨hD, must_MR (tx := tx) (tk := tk) (v := v) (f := f) (is := 0) hy h ht⟩
theorem RI_J182' {T : Fn × Int32 × Int32 × Int32 × Int32 × Int32} {tx : Fn} {ty p f : Int32} (hy : 0 ≤ ty.toInt ∧ ty.toInt ≤ 160) (h0 : 0 ≤ p.toInt) (h : RD ty p f T) : RD ty p f (f_X9_readItem_J182 tx ty T.1 T.2.1 T.2.2.1 T.2.2.2.1 T.2.2.2.2.1 T.2.2.2.2.2) := by
  obtain ⟨t0, t1, t2, t3, t4, t5⟩ := T
  obtain ⟨hD, m⟩ := h
  dsimp only at hD m ⊢
  obtain ⟨⟨m1, m2⟩, m3, m4⟩ := id m
  dsimp only at m1 m2 m3 m4
  exact RD.tr m (RI_J182 hD hy ⟨by omega, m2⟩ m3)
theorem RI_J112 {d tx : Fn} {ty x1 s1 p ta tk v f : Int32} (hD : DraftInv d) (hs : s1.toInt = 0 ∨ KI d x1) (hy : 0 ≤ ty.toInt ∧ ty.toInt ≤ 160) (h : 0 ≤ p.toInt ∧ p.toInt ≤ ty.toInt) (ht : 0 ≤ ta.toInt) : RD ty p f (f_X9_readItem_J112 d tx ty p ta tk v f x1 s1) := by
  have m := must_MR (tx := tx) (tk := tk) (v := v) (f := f) (is := s1) hy h ht
  have q := must_is (tx := tx) (tk := tk) (v := v) (f := f) (is := s1) hy h ht
  rw [f_X9_readItem_J112]
  generalize f_X9_must tx ty p ta tk v f s1 = Z at m q ⊢
  obtain ⟨z0, z1, z2, z3, z4, z5⟩ := Z
  dsimp only at m q ⊢
  obtain ⟨⟨m1, m2⟩, m3, m4⟩ := id m
  dsimp only at m1 m2 m3 m4
  have hz : 0 ≤ z1.toInt ∧ z1.toInt ≤ ty.toInt := ⟨by omega, m2⟩
  rw [f_X9_readItem_C115]
  split
  · rename_i h1
    have i1 := congrArg Int32.toInt h1
    rw [k9] at i1
    have hK : KI d x1 := by
      rcases hs with hs | hs
      · omega
      · exact hs
    obtain ⟨k1, k2, k3⟩ := hK
    refine RD.tr m ?_
    simp only [f_X9_readItem_C136, f_X9_readItem_C149, f_X9_readItem_C162, f_X9_readItem_J179]
    split
    · rename_i h2
      have i2 := congrArg Int32.toInt h2
      rw [show (114 : Int32).toInt = 114 by decide] at i2
      exact RI_J182' hy hz.1 (RM_readRegister hD (by omega) hy hz m3)
    · split
      · rename_i h2
        have i2 := congrArg Int32.toInt h2
        rw [show (102 : Int32).toInt = 102 by decide] at i2
        exact RI_J182' hy hz.1 (RM_readField hD (by omega) (by omega) hy hz m3)
      · split
        · rename_i h2
          have i2 := congrArg Int32.toInt h2
          rw [show (97 : Int32).toInt = 97 by decide] at i2
          exact RI_J182' hy hz.1 (RM_readAlias hD (by omega) hy hz m3)
        · split
          · exact RI_J182' hy hz.1 (RM_readLink hD (Or.inl (by decide)) hy hz m3)
          · exact RI_J182' hy hz.1 (RM_readLink hD (Or.inr (by decide)) hy hz m3)
  · exact ⟨hD, m⟩
theorem RM_readItem {d tx : Fn} {ty p ta tk v f : Int32} (hD : DraftInv d) (hy : 0 ≤ ty.toInt ∧ ty.toInt ≤ 160) (h : 0 ≤ p.toInt ∧ p.toInt ≤ ty.toInt) (ht : 0 ≤ ta.toInt) : RD ty p f (f_X9_readItem d tx ty p ta tk v f) := by
  have c1 : (114 : Int32).toInt = 114 := by decide
  have c2 : (102 : Int32).toInt = 102 := by decide
  have c3 : (97 : Int32).toInt = 97 := by decide
  have c4 : (107 : Int32).toInt = 107 := by decide
  have c5 : (115 : Int32).toInt = 115 := by decide
  have c6 : (6 : Int32).toInt = 6 := by decide
  have c7 : (12 : Int32).toInt = 12 := by decide
  have c8 : (4 : Int32).toInt = 4 := by decide
  have j103 : ∀ x1 x2 : Int32, x1.toInt = 107 ∨ x1.toInt = 115 → RD ty p f (f_X9_readItem_J103 d tx ty p ta tk v f x1 x2) := by
    intro x1 x2 hx
    rw [f_X9_readItem_J103]
    split
    · exact RI_J112 hD (Or.inl z0I) hy h ht
    · exact RI_J112 hD (Or.inr ⟨by omega, by omega, by omega⟩) hy h ht
  have j91 : ∀ x1 x2 : Int32, RD ty p f (f_X9_readItem_J91 d tx ty p ta tk v f x1 x2) := by
    intro x1 x2
    rw [f_X9_readItem_J91]
    split
    · rename_i g; exact j103 _ _ (Or.inl ((congrArg Int32.toInt g).trans c4))
    · split
      · rename_i g; exact j103 _ _ (Or.inr ((congrArg Int32.toInt g).trans c5))
      · exact RI_J112 hD (Or.inl z0I) hy h ht
  have j74 : ∀ x1 x2 : Int32, RD ty p f (f_X9_readItem_J74 d tx ty p ta tk v f x1 x2) := by
    intro x1 x2
    rw [f_X9_readItem_J74]
    split
    · rename_i g
      have g := congrArg Int32.toInt g
      split
      · rename_i g2
        have g2 := rlt g2
        exact RI_J112 hD (Or.inr ⟨by omega, by omega, by omega⟩) hy h ht
      · exact j91 _ _
    · exact j91 _ _
  have j52 : ∀ x1 x2 : Int32, x2.toInt = 0 ∨ 1 ≤ (d (90 : Int32).toNatClampNeg).toInt → RD ty p f (f_X9_readItem_J52 d tx ty p ta tk v f x1 x2) := by
    intro x1 x2 hx
    rw [f_X9_readItem_J52]
    split
    · rename_i g
      have g := congrArg Int32.toInt g
      split
      · exact j74 _ _
      · rename_i g1
        have g1 := rne g1
        rw [z0I] at g1
        split
        · rename_i g2
          have g2 := rlt g2
          exact RI_J112 hD (Or.inr ⟨by omega, by omega, by omega⟩) hy h ht
        · exact j74 _ _
    · exact j74 _ _
  have j32 : ∀ x1 x2 : Int32, x2.toInt = 0 ∨ 1 ≤ (d (90 : Int32).toNatClampNeg).toInt → RD ty p f (f_X9_readItem_J32 d tx ty p ta tk v f x1 x2) := by
    intro x1 x2 hx
    rw [f_X9_readItem_J32]
    split
    · rename_i g
      have g := congrArg Int32.toInt g
      split
      · rename_i g2
        have g2 := rlt g2
        exact RI_J112 hD (Or.inr ⟨by omega, by omega, by omega⟩) hy h ht
      · exact j52 _ _ hx
    · exact j52 _ _ hx
  have j16 : ∀ x1 : Int32, RD ty p f (f_X9_readItem_J16 d tx ty p ta tk v f x1) := by
    intro x1
    rw [f_X9_readItem_J16]
    split
    · exact j32 _ _ (Or.inl z0I)
    · rename_i g
      have g := rnle g
      rw [z0I] at g
      exact j32 _ _ (Or.inr (by omega))
  rw [f_X9_readItem]
  split
  · exact j16 _
  · exact j16 _
theorem zf_0 {d : Fn} : ∀ j : Nat, (j : Int) < (0 : Int32).toInt → d j = 0 := fun j h => by rw [z0I] at h; omega
theorem zf_s {d : Fn} {x : Int32} (h : ∀ j : Nat, (j : Int) < x.toInt → d j = 0) (h0 : 0 ≤ x.toInt) (h1 : x.toInt < 1000) : ∀ j : Nat, (j : Int) < (x + 1).toInt → upd d x.toNatClampNeg 0 j = 0 := fun j hj => by
  rw [rg_inc h0 (by omega)] at hj
  unfold upd
  split
  · rfl
  · rename_i g
    rw [ixn] at g
    exact h j (by omega)
theorem cp_0 {d e : Fn} : ∀ j : Nat, (j : Int) < (0 : Int32).toInt → d j = e j := fun j h => by rw [z0I] at h; omega
theorem cp_s {d e : Fn} {x : Int32} (h : ∀ j : Nat, (j : Int) < x.toInt → d j = e j) (h0 : 0 ≤ x.toInt) (h1 : x.toInt < 1000) : ∀ j : Nat, (j : Int) < (x + 1).toInt → upd d x.toNatClampNeg (e x.toNatClampNeg) j = e j := fun j hj => by
  rw [rg_inc h0 (by omega)] at hj
  unfold upd
  split
  · rename_i g; rw [g]
  · rename_i g
    rw [ixn] at g
    exact h j (by omega)
theorem TI_cong {d e : Fn} (h : ToldInv d) (he : ∀ j : Nat, j < 93 → e j = d j) : ToldInv e := by
  obtain ⟨h1, h2, h3, h4, h5, h6, h7⟩ := h
  refine ⟨?_, ?_, ?_, ?_, ?_, ?_, ?_⟩
  · rw [he _ (by decide)]; exact h1
  · rw [he _ (by decide)]; exact h2
  · rw [he _ (by decide)]; exact h3
  · intro x a b; rw [he _ (by rw [ixa 18 (c := 18) (by decide) (by decide) a (by omega)]; omega)]; exact h4 x a b
  · intro x a b; rw [he _ (by rw [ixa 6 (c := 6) (by decide) (by decide) a (by omega)]; omega)]; exact h5 x a b
  · intro x a b; rw [he _ (by rw [ixa 12 (c := 12) (by decide) (by decide) a (by omega)]; omega)]; exact h6 x a b
  · intro x a b
    have k82 : (82 : Int32).toInt = 82 := by decide
    have k100 : (100 : Int32).toInt = 100 := by decide
    have e1 := add2 (x := 82) (y := x) (by omega) (by omega) (by omega) (by omega)
    have e2 := fb_subI (x := 82 + x) (y := 100) (by omega) (by omega)
    rw [he _ (by rw [ixn, e2, e1, k82, k100]; omega)]; exact h7 x a b
end
section
set_option maxHeartbeats 4000000 in
set_option maxRecDepth 100000 in
theorem c_X9_next (l : Launch) (G : Gm) (A : Nat → Prop) (Ω : Om) (p0 : Nat) (p0_0 : Fn) (p0_1 : Fn) (p0_2 : Fn) (p0_3 : Fn) (p0_4 : Int32) (p0_5 : Fn) (p0_6 : Fn) (p0_7 : Fn) (p0_8 : Int32) (p0_9 : Int32) (p0_10 : Int32) (p0_11 : Int32) (p0_12 : Int32) (p0_13 : Int32) (hy : 0 ≤ p0_8.toInt ∧ p0_8.toInt ≤ 160) (ha : 0 ≤ p0_9.toInt ∧ p0_9.toInt ≤ p0_8.toInt) (h_p0 : inMod G Ω p0 p0_0 p0_1 p0_2 p0_3 p0_4 p0_5 p0_6 p0_7 p0_8 p0_9 p0_10 p0_11 p0_12 p0_13) : Met l yX9_next (wz yX9_next cX9_next 2 none) ({ frames := 2, cells := 0, slots := 0, locals := 44 } : Room) (va_Pc [.ref p0] (oS G A Ω)) (va_Qv (fun (Ω1 : Om) => inMod G Ω1 p0 p0_0 p0_1 p0_2 p0_3 p0_4 p0_5 p0_6 p0_7 p0_8 ((f_X9_next p0_7 p0_8 p0_9).1) ((f_X9_next p0_7 p0_8 p0_9).2.1) ((f_X9_next p0_7 p0_8 p0_9).2.2.1) ((f_X9_next p0_7 p0_8 p0_9).2.2.2) p0_13 ∧ (∀ q : Nat, (q < p0 ∨ p0 + 8 ≤ q) → Ω1 q = Ω q)) (oB G A) A) 0 0 A := by
  sorry
set_option maxHeartbeats 4000000 in
set_option maxRecDepth 100000 in
theorem c_X9_readItem (l : Launch) (G : Gm) (A : Nat → Prop) (Ω : Om) (p0 : Nat) (p0_0 : Fn) (p0_1 : Fn) (p0_2 : Fn) (p0_3 : Fn) (p0_4 : Int32) (p0_5 : Fn) (p0_6 : Fn) (p0_7 : Fn) (p0_8 : Int32) (p0_9 : Int32) (p0_10 : Int32) (p0_11 : Int32) (p0_12 : Int32) (p0_13 : Int32) (hy : 0 ≤ p0_8.toInt ∧ p0_8.toInt ≤ 160) (ha : 0 ≤ p0_9.toInt ∧ p0_9.toInt ≤ p0_8.toInt) (hta : 0 ≤ p0_10.toInt) (hD : DraftInv p0_1) (h_p0 : inMod G Ω p0 p0_0 p0_1 p0_2 p0_3 p0_4 p0_5 p0_6 p0_7 p0_8 p0_9 p0_10 p0_11 p0_12 p0_13) : Met l yX9_readItem (wz yX9_readItem cX9_readItem 3 none) ({ frames := 6, cells := 0, slots := 0, locals := 136 } : Room) (va_Pc [.ref p0] (oS G A Ω)) (va_Qv (fun (Ω1 : Om) => inMod G Ω1 p0 p0_0 ((f_X9_readItem p0_1 p0_7 p0_8 p0_9 p0_10 p0_11 p0_12 p0_13).1) p0_2 p0_3 p0_4 p0_5 p0_6 p0_7 p0_8 ((f_X9_readItem p0_1 p0_7 p0_8 p0_9 p0_10 p0_11 p0_12 p0_13).2.1) ((f_X9_readItem p0_1 p0_7 p0_8 p0_9 p0_10 p0_11 p0_12 p0_13).2.2.1) ((f_X9_readItem p0_1 p0_7 p0_8 p0_9 p0_10 p0_11 p0_12 p0_13).2.2.2.1) ((f_X9_readItem p0_1 p0_7 p0_8 p0_9 p0_10 p0_11 p0_12 p0_13).2.2.2.2.1) ((f_X9_readItem p0_1 p0_7 p0_8 p0_9 p0_10 p0_11 p0_12 p0_13).2.2.2.2.2) ∧ (∀ q : Nat, (q < p0 ∨ p0 + 8 ≤ q) → Ω1 q = Ω q)) (oB G A) A) 0 0 A := by
  sorry
set_option maxHeartbeats 4000000 in
set_option maxRecDepth 100000 in
theorem c_X9_begin (l : Launch) (G : Gm) (A : Nat → Prop) (Ω : Om) (p0 : Nat) (p0_0 : Fn) (p0_1 : Fn) (p0_2 : Fn) (p0_3 : Fn) (p0_4 : Int32) (p0_5 : Fn) (p0_6 : Fn) (p0_7 : Fn) (p0_8 : Int32) (p0_9 : Int32) (p0_10 : Int32) (p0_11 : Int32) (p0_12 : Int32) (p0_13 : Int32) (hM_p0 : ToldInv p0_0) (h_p0 : inMod G Ω p0 p0_0 p0_1 p0_2 p0_3 p0_4 p0_5 p0_6 p0_7 p0_8 p0_9 p0_10 p0_11 p0_12 p0_13) : Met l yX9_begin (wz yX9_begin cX9_begin 1 none) ({ frames := 2, cells := 0, slots := 0, locals := 42 } : Room) (va_Pc [.ref p0] (oS G A Ω)) (va_Qv (fun (Ω1 : Om) => inMod G Ω1 p0 p0_0 p0_1 ((f_X9_begin p0_0 p0_2 p0_6).1) p0_3 ((f_X9_begin p0_0 p0_2 p0_6).2.1) p0_5 ((f_X9_begin p0_0 p0_2 p0_6).2.2) p0_7 p0_8 p0_9 p0_10 p0_11 p0_12 p0_13 ∧ (∀ q : Nat, (q < p0 ∨ p0 + 8 ≤ q) → Ω1 q = Ω q)) (oB G A) A) 0 0 A := by
  sorry
end
section
theorem dX9_tells_0 : decode cX9_tells 0 = .ok (.iconst 0, 1) := by decide +kernel
theorem dX9_tells_1 : decode cX9_tells 1 = .ok (.istore_n 1, 1) := by decide +kernel
theorem dX9_tells_2 : decode cX9_tells 2 = .ok (.iload_n 1, 1) := by decide +kernel
theorem dX9_tells_3 : decode cX9_tells 3 = .ok (.bipush 93, 2) := by decide +kernel
theorem dX9_tells_5 : decode cX9_tells 5 = .ok (.if_icmp .ge 16, 3) := by decide +kernel
theorem dX9_tells_8 : decode cX9_tells 8 = .ok (.aload_n 0, 1) := by decide +kernel
theorem dX9_tells_9 : decode cX9_tells 9 = .ok (.getfield 13, 3) := by decide +kernel
theorem dX9_tells_12 : decode cX9_tells 12 = .ok (.iload_n 1, 1) := by decide +kernel
theorem dX9_tells_13 : decode cX9_tells 13 = .ok (.iconst 0, 1) := by decide +kernel
theorem dX9_tells_14 : decode cX9_tells 14 = .ok (.iastore, 1) := by decide +kernel
theorem dX9_tells_15 : decode cX9_tells 15 = .ok (.iinc 1 1, 3) := by decide +kernel
theorem dX9_tells_18 : decode cX9_tells 18 = .ok (.goto (-16), 3) := by decide +kernel
theorem dX9_tells_21 : decode cX9_tells 21 = .ok (.aload_n 0, 1) := by decide +kernel
theorem dX9_tells_22 : decode cX9_tells 22 = .ok (.iconst 0, 1) := by decide +kernel
theorem dX9_tells_23 : decode cX9_tells 23 = .ok (.putfield 150, 3) := by decide +kernel
theorem dX9_tells_26 : decode cX9_tells 26 = .ok (.aload_n 0, 1) := by decide +kernel
theorem dX9_tells_27 : decode cX9_tells 27 = .ok (.bipush (-9), 2) := by decide +kernel
theorem dX9_tells_29 : decode cX9_tells 29 = .ok (.putfield 169, 3) := by decide +kernel
theorem dX9_tells_32 : decode cX9_tells 32 = .ok (.iconst 0, 1) := by decide +kernel
theorem dX9_tells_33 : decode cX9_tells 33 = .ok (.istore_n 1, 1) := by decide +kernel
theorem dX9_tells_34 : decode cX9_tells 34 = .ok (.aload_n 0, 1) := by decide +kernel
theorem dX9_tells_35 : decode cX9_tells 35 = .ok (.invokevirtual 172, 3) := by decide +kernel
theorem dX9_tells_38 : decode cX9_tells 38 = .ok (.aload_n 0, 1) := by decide +kernel
theorem dX9_tells_39 : decode cX9_tells 39 = .ok (.getfield 169, 3) := by decide +kernel
theorem dX9_tells_42 : decode cX9_tells 42 = .ok (.bipush (-9), 2) := by decide +kernel
theorem dX9_tells_44 : decode cX9_tells 44 = .ok (.if_icmp .ne 20, 3) := by decide +kernel
theorem dX9_tells_47 : decode cX9_tells 47 = .ok (.aload_n 0, 1) := by decide +kernel
theorem dX9_tells_48 : decode cX9_tells 48 = .ok (.getfield 162, 3) := by decide +kernel
theorem dX9_tells_51 : decode cX9_tells 51 = .ok (.ifCond .eq 13, 3) := by decide +kernel
theorem dX9_tells_54 : decode cX9_tells 54 = .ok (.aload_n 0, 1) := by decide +kernel
theorem dX9_tells_55 : decode cX9_tells 55 = .ok (.invokevirtual 197, 3) := by decide +kernel
theorem dX9_tells_58 : decode cX9_tells 58 = .ok (.iinc 1 1, 3) := by decide +kernel
theorem dX9_tells_61 : decode cX9_tells 61 = .ok (.goto (-23), 3) := by decide +kernel
theorem dX9_tells_64 : decode cX9_tells 64 = .ok (.aload_n 0, 1) := by decide +kernel
theorem dX9_tells_65 : decode cX9_tells 65 = .ok (.getfield 169, 3) := by decide +kernel
theorem dX9_tells_68 : decode cX9_tells 68 = .ok (.bipush (-9), 2) := by decide +kernel
theorem dX9_tells_70 : decode cX9_tells 70 = .ok (.if_icmp .eq 11, 3) := by decide +kernel
theorem dX9_tells_73 : decode cX9_tells 73 = .ok (.bipush (-10), 2) := by decide +kernel
theorem dX9_tells_75 : decode cX9_tells 75 = .ok (.aload_n 0, 1) := by decide +kernel
theorem dX9_tells_76 : decode cX9_tells 76 = .ok (.getfield 169, 3) := by decide +kernel
theorem dX9_tells_79 : decode cX9_tells 79 = .ok (.isub, 1) := by decide +kernel
theorem dX9_tells_80 : decode cX9_tells 80 = .ok (.ireturn, 1) := by decide +kernel
theorem dX9_tells_81 : decode cX9_tells 81 = .ok (.iconst 0, 1) := by decide +kernel
theorem dX9_tells_82 : decode cX9_tells 82 = .ok (.istore_n 2, 1) := by decide +kernel
theorem dX9_tells_83 : decode cX9_tells 83 = .ok (.iload_n 2, 1) := by decide +kernel
theorem dX9_tells_84 : decode cX9_tells 84 = .ok (.bipush 93, 2) := by decide +kernel
theorem dX9_tells_86 : decode cX9_tells 86 = .ok (.if_icmp .ge 21, 3) := by decide +kernel
theorem dX9_tells_89 : decode cX9_tells 89 = .ok (.aload_n 0, 1) := by decide +kernel
theorem dX9_tells_90 : decode cX9_tells 90 = .ok (.getfield 7, 3) := by decide +kernel
theorem dX9_tells_93 : decode cX9_tells 93 = .ok (.iload_n 2, 1) := by decide +kernel
theorem dX9_tells_94 : decode cX9_tells 94 = .ok (.aload_n 0, 1) := by decide +kernel
theorem dX9_tells_95 : decode cX9_tells 95 = .ok (.getfield 13, 3) := by decide +kernel
theorem dX9_tells_98 : decode cX9_tells 98 = .ok (.iload_n 2, 1) := by decide +kernel
theorem dX9_tells_99 : decode cX9_tells 99 = .ok (.iaload, 1) := by decide +kernel
theorem dX9_tells_100 : decode cX9_tells 100 = .ok (.iastore, 1) := by decide +kernel
theorem dX9_tells_101 : decode cX9_tells 101 = .ok (.iinc 2 1, 3) := by decide +kernel
theorem dX9_tells_104 : decode cX9_tells 104 = .ok (.goto (-21), 3) := by decide +kernel
theorem dX9_tells_107 : decode cX9_tells 107 = .ok (.aload_n 0, 1) := by decide +kernel
theorem dX9_tells_108 : decode cX9_tells 108 = .ok (.iconst 0, 1) := by decide +kernel
theorem dX9_tells_109 : decode cX9_tells 109 = .ok (.putfield 147, 3) := by decide +kernel
theorem dX9_tells_112 : decode cX9_tells 112 = .ok (.aload_n 0, 1) := by decide +kernel
theorem dX9_tells_113 : decode cX9_tells 113 = .ok (.invokevirtual 32, 3) := by decide +kernel
theorem dX9_tells_116 : decode cX9_tells 116 = .ok (.iload_n 1, 1) := by decide +kernel
theorem dX9_tells_117 : decode cX9_tells 117 = .ok (.ireturn, 1) := by decide +kernel
end
section
set_option maxHeartbeats 4000000 in
set_option maxRecDepth 100000 in
theorem c_X9_tells (l : Launch) (G : Gm) (A : Nat → Prop) (Ω : Om) (p0 : Nat) (p0_0 : Fn) (p0_1 : Fn) (p0_2 : Fn) (p0_3 : Fn) (p0_4 : Int32) (p0_5 : Fn) (p0_6 : Fn) (p0_7 : Fn) (p0_8 : Int32) (p0_9 : Int32) (p0_10 : Int32) (p0_11 : Int32) (p0_12 : Int32) (p0_13 : Int32) (hy : 0 ≤ p0_8.toInt ∧ p0_8.toInt ≤ 160) (h_p0 : inMod G Ω p0 p0_0 p0_1 p0_2 p0_3 p0_4 p0_5 p0_6 p0_7 p0_8 p0_9 p0_10 p0_11 p0_12 p0_13) : Met l yX9_tells (wz yX9_tells cX9_tells 3 (some .int)) ({ frames := 7, cells := 0, slots := 0, locals := 158 } : Room) (va_Pc [.ref p0] (oS G A Ω)) (va_Qi (fun (r : Int32) (Ω1 : Om) => r = (f_X9_tells p0_0 p0_1 p0_2 p0_4 p0_6 p0_7 p0_8).1 ∧ inMod G Ω1 p0 ((f_X9_tells p0_0 p0_1 p0_2 p0_4 p0_6 p0_7 p0_8).2.1) ((f_X9_tells p0_0 p0_1 p0_2 p0_4 p0_6 p0_7 p0_8).2.2.1) ((f_X9_tells p0_0 p0_1 p0_2 p0_4 p0_6 p0_7 p0_8).2.2.2.1) p0_3 ((f_X9_tells p0_0 p0_1 p0_2 p0_4 p0_6 p0_7 p0_8).2.2.2.2.1) p0_5 ((f_X9_tells p0_0 p0_1 p0_2 p0_4 p0_6 p0_7 p0_8).2.2.2.2.2.1) p0_7 ((f_X9_tells p0_0 p0_1 p0_2 p0_4 p0_6 p0_7 p0_8).2.2.2.2.2.2.1) ((f_X9_tells p0_0 p0_1 p0_2 p0_4 p0_6 p0_7 p0_8).2.2.2.2.2.2.2.1) ((f_X9_tells p0_0 p0_1 p0_2 p0_4 p0_6 p0_7 p0_8).2.2.2.2.2.2.2.2.1) ((f_X9_tells p0_0 p0_1 p0_2 p0_4 p0_6 p0_7 p0_8).2.2.2.2.2.2.2.2.2.1) ((f_X9_tells p0_0 p0_1 p0_2 p0_4 p0_6 p0_7 p0_8).2.2.2.2.2.2.2.2.2.2.1) ((f_X9_tells p0_0 p0_1 p0_2 p0_4 p0_6 p0_7 p0_8).2.2.2.2.2.2.2.2.2.2.2) ∧ (∀ q : Nat, (q < p0 ∨ p0 + 8 ≤ q) → Ω1 q = Ω q)) (oB G A) A) 0 0 A := by
  refine Met.ofW (cc := cX9_tells) (maxL := 3) (ret := (some .int)) (by decide) rfl ?_
  intro p e s m args below meth c s₁ B hml hv
  obtain ⟨rfl, hW, hK, hN, hZ⟩ := hv
  have hx := B.exec
  have hb := B.bytes
  have hr := B.returns
  have hts : ∀ w ∈ gt, w.before _ s = true := fun w hw => atoms_spec (ws := wz yX9_tells cX9_tells 3 (some .int)) B.pre w (List.mem_cons_of_mem _ hw)
  have hown : s.vm.findClass RX9 = some m.cls := findClass_of_methodNamed B.named
  have hlocks := B.notSynchronized
  have hA : ∀ q, A q → A q := fun _ h => h
  have hS : va_S A s.heap s.heap [] := va_S.rf
  have hS0 := hS
  have hl := lv_entry ([.ref p0]) (n := 3) (Nat.le_of_ble_eq_true rfl)
  rw [lg_entry_eq]
  generalize (lg_sl ([.ref p0]) ++ List.replicate (3 - (lg_sl ([.ref p0])).length) Slot.unset).toArray = ls at hl ⊢
  have hl : lv_has ls 3 [(0, .ref p0)] := hl
  have hE : ∀ q : Nat, (q < p0 ∨ p0 + 8 ≤ q) → Ω q = Ω q := by intros; rfl
  generalize hR : (f_X9_tells p0_0 p0_1 p0_2 p0_4 p0_6 p0_7 p0_8) = R
  rw [f_X9_tells] at hR
  refine lv_iconst (v := (0 : Int32)) hx hb dX9_tells_0 (by decide) ?_
  refine lv_istore_n (lv' := [(1, .int (0 : Int32)), (0, .ref p0)]) hx hb dX9_tells_1 rfl hl (by decide) rfl (fun ls hl => ?_)
  have L2 : ∀ (n_2 : Nat) (x1_1 : Int32) (p0_1_1 : Fn) (Ω_3 : Om) (H : Heap) (locs : List Loc), (0 ≤ x1_1.toInt ∧ x1_1.toInt ≤ 93 ∧ 93 - x1_1.toInt < n_2) → (∀ j : Nat, (j : Int) < x1_1.toInt → p0_1_1 j = 0) → inMod G Ω_3 p0 p0_0 p0_1_1 p0_2 p0_3 p0_4 p0_5 p0_6 p0_7 p0_8 p0_9 p0_10 p0_11 p0_12 p0_13 → (∀ q : Nat, (q < p0 ∨ p0 + 8 ≤ q) → Ω_3 q = Ω q) → oW G A Ω_3 H → va_S A s.heap H locs → ∀ ls : Array Slot, lv_has ls 3 [(0, .ref p0), (1, .int x1_1)] → (f_X9_tells_L2 p0_0 p0_2 p0_4 p0_6 p0_7 p0_8 n_2 x1_1 p0_1_1) = R → W p l e (headSpec (wz yX9_tells cX9_tells 3 (some .int)) ({ frames := 7, cells := 0, slots := 0, locals := 158 } : Room)).room s m ([.ref p0] : List Value).toArray below meth c H locs 0 0 (MQ below (va_Qi (fun (r : Int32) (Ω1 : Om) => r = R.1 ∧ inMod G Ω1 p0 (R.2.1) (R.2.2.1) (R.2.2.2.1) p0_3 (R.2.2.2.2.1) p0_5 (R.2.2.2.2.2.1) p0_7 (R.2.2.2.2.2.2.1) (R.2.2.2.2.2.2.2.1) (R.2.2.2.2.2.2.2.2.1) (R.2.2.2.2.2.2.2.2.2.1) (R.2.2.2.2.2.2.2.2.2.2.1) (R.2.2.2.2.2.2.2.2.2.2.2) ∧ (∀ q : Nat, (q < p0 ∨ p0 + 8 ≤ q) → Ω1 q = Ω q)) (oB G A) A) ([.ref p0] : List Value).toArray s 0 0 A) (F0 m 2 ls []) := by
    intro n_2
    induction n_2 with
    | zero =>
      intro x1_1 p0_1_1 Ω_3 H locs v_2_0 v_2_1 h_p0 hE hW hS ls hl hR
      exfalso
      omega
    | succ n_2 ih2 =>
      intro x1_1 p0_1_1 Ω_3 H locs v_2_0 v_2_1 h_p0 hE hW hS ls hl hR
      rw [f_X9_tells_L2] at hR
      refine lv_iload_n hx hb dX9_tells_2 rfl (lv_at hl 1 rfl) ?_
      refine lv_bipush (v := (93 : Int32)) hx hb dX9_tells_3 (by decide) ?_
      have j_5 : (93 : Int32).toInt = 93 := by decide
      refine lv_icmp_ge (tgt := 21) hx hb dX9_tells_5 (by decide) (fun c_4 => ?_) (fun c_4 => ?_)
      · rw [if_pos c_4] at hR
        have i_4 := rle c_4
        refine lv_aload_n hx hb dX9_tells_21 rfl (lv_at hl 0 rfl) ?_
        refine lv_iconst (v := (0 : Int32)) hx hb dX9_tells_22 (by decide) ?_
        refine vMod_9 hx hb hts hown hK hW hS hA h_p0 fl_X9_150 dX9_tells_23 (fun Ω_6 H locs h_p0 hF_6 hW hS => ?_)
        have hE : ∀ q : Nat, (q < p0 ∨ p0 + 8 ≤ q) → Ω_6 q = Ω q := fun q g0 => (hF_6 q (by omega)).trans (hE q g0)
        refine lv_aload_n hx hb dX9_tells_26 rfl (lv_at hl 0 rfl) ?_
        refine lv_bipush (v := (-9 : Int32)) hx hb dX9_tells_27 (by decide) ?_
        refine vMod_13 hx hb hts hown hK hW hS hA h_p0 fl_X9_169 dX9_tells_29 (fun Ω_7 H locs h_p0 hF_7 hW hS => ?_)
        have hE : ∀ q : Nat, (q < p0 ∨ p0 + 8 ≤ q) → Ω_7 q = Ω q := fun q g0 => (hF_7 q (by omega)).trans (hE q g0)
        refine lv_iconst (v := (0 : Int32)) hx hb dX9_tells_32 (by decide) ?_
        refine lv_istore_n (lv' := [(1, .int (0 : Int32)), (0, .ref p0)]) hx hb dX9_tells_33 rfl hl (by decide) rfl (fun ls hl => ?_)
        refine lv_aload_n hx hb dX9_tells_34 rfl (lv_at hl 1 rfl) ?_
        have z00 : (0 : Int32).toInt = 0 := by decide
        refine o_Vv (rest := []) (As := []) (n := 0) hx hb hml hown hts hK hN hZ hW hS hA (c_X9_next l G A Ω_7 p0 p0_0 p0_1_1 p0_2 p0_3 p0_4 p0_5 p0_6 p0_7 p0_8 (0 : Int32) p0_10 p0_11 p0_12 (-9 : Int32) (by omega) (by omega) h_p0) (inMod_o h_p0) rfl (good_V ml_X9_172 im_X9_next se_X9_next ini_X9 co_X9_next) (by decide +kernel) ⟨Nat.zero_le _, Nat.zero_le _⟩ hl.1 (Nat.le_of_ble_eq_true rfl) rfl rfl dX9_tells_35 (fun Ω_8 H locs hp hW hS => ?_)
        obtain ⟨h_p0, hF_8⟩ := hp
        have hE : ∀ q : Nat, (q < p0 ∨ p0 + 8 ≤ q) → Ω_8 q = Ω q := fun q g0 => (hF_8 q (by omega)).trans (hE q g0)
        try have qx_8 : 0 ≤ (f_X9_next p0_7 p0_8 (0 : Int32)).2.1.toInt ∧ 0 ≤ (0 : Int32).toInt ∧ (0 : Int32).toInt ≤ (f_X9_next p0_7 p0_8 (0 : Int32)).1.toInt ∧ (f_X9_next p0_7 p0_8 (0 : Int32)).1.toInt ≤ p0_8.toInt ∧ ((f_X9_next p0_7 p0_8 (0 : Int32)).2.2.1.toInt = 0 ∨ (0 : Int32).toInt < (f_X9_next p0_7 p0_8 (0 : Int32)).1.toInt) := R_next hy (by omega)
        have L38 : ∀ (n_10 : Nat) (x1_9 : Int32) (p0_1_9 : Fn) (p0_9_9 : Int32) (p0_10_9 : Int32) (p0_11_9 : Int32) (p0_12_9 : Int32) (p0_13_9 : Int32) (Ω_11 : Om) (H : Heap) (locs : List Loc), (DraftInv p0_1_9) → (1 ≤ n_10 ∧ (p0_13_9.toInt ≠ -9 ∨ p0_11_9.toInt = 0 ∨ 161 - p0_9_9.toInt < n_10)) → (0 ≤ p0_9_9.toInt ∧ p0_9_9.toInt ≤ p0_8.toInt) → (0 ≤ p0_10_9.toInt) → inMod G Ω_11 p0 p0_0 p0_1_9 p0_2 p0_3 p0_4 p0_5 p0_6 p0_7 p0_8 p0_9_9 p0_10_9 p0_11_9 p0_12_9 p0_13_9 → (∀ q : Nat, (q < p0 ∨ p0 + 8 ≤ q) → Ω_11 q = Ω q) → oW G A Ω_11 H → va_S A s.heap H locs → ∀ ls : Array Slot, lv_has ls 3 [(0, .ref p0), (1, .int x1_9)] → (f_X9_tells_L38 p0_0 p0_2 p0_4 p0_6 p0_7 p0_8 n_10 x1_9 p0_1_9 p0_9_9 p0_10_9 p0_11_9 p0_12_9 p0_13_9) = R → W p l e (headSpec (wz yX9_tells cX9_tells 3 (some .int)) ({ frames := 7, cells := 0, slots := 0, locals := 158 } : Room)).room s m ([.ref p0] : List Value).toArray below meth c H locs 0 0 (MQ below (va_Qi (fun (r : Int32) (Ω1 : Om) => r = R.1 ∧ inMod G Ω1 p0 (R.2.1) (R.2.2.1) (R.2.2.2.1) p0_3 (R.2.2.2.2.1) p0_5 (R.2.2.2.2.2.1) p0_7 (R.2.2.2.2.2.2.1) (R.2.2.2.2.2.2.2.1) (R.2.2.2.2.2.2.2.2.1) (R.2.2.2.2.2.2.2.2.2.1) (R.2.2.2.2.2.2.2.2.2.2.1) (R.2.2.2.2.2.2.2.2.2.2.2) ∧ (∀ q : Nat, (q < p0 ∨ p0 + 8 ≤ q) → Ω1 q = Ω q)) (oB G A) A) ([.ref p0] : List Value).toArray s 0 0 A) (F0 m 38 ls []) := by
          intro n_10
          induction n_10 with
          | zero =>
            intro x1_9 p0_1_9 p0_9_9 p0_10_9 p0_11_9 p0_12_9 p0_13_9 Ω_11 H locs v_38_0 v_38_1 v_38_2 v_38_3 h_p0 hE hW hS ls hl hR
            exfalso
            omega
          | succ n_10 ih38 =>
            intro x1_9 p0_1_9 p0_9_9 p0_10_9 p0_11_9 p0_12_9 p0_13_9 Ω_11 H locs v_38_0 v_38_1 v_38_2 v_38_3 h_p0 hE hW hS ls hl hR
            rw [f_X9_tells_L38] at hR
            refine lv_aload_n hx hb dX9_tells_38 rfl (lv_at hl 0 rfl) ?_
            refine o_get hx hb hts hown hK hW (inMod_o h_p0) rfl ig9 13 (by decide) fl_X9_169 rfl dX9_tells_39 ?_
            refine lv_bipush (v := (-9 : Int32)) hx hb dX9_tells_42 (by decide) ?_
            have J64 : ∀ (H : Heap) (locs : List Loc), oW G A Ω_11 H → va_S A s.heap H locs → ∀ ls : Array Slot, lv_has ls 3 [(0, .ref p0), (1, .int x1_9)] → (f_X9_tells_J64 p0_0 p0_1_9 p0_2 p0_4 p0_6 p0_8 p0_9_9 p0_10_9 p0_11_9 p0_12_9 p0_13_9 x1_9) = R → W p l e (headSpec (wz yX9_tells cX9_tells 3 (some .int)) ({ frames := 7, cells := 0, slots := 0, locals := 158 } : Room)).room s m ([.ref p0] : List Value).toArray below meth c H locs 0 0 (MQ below (va_Qi (fun (r : Int32) (Ω1 : Om) => r = R.1 ∧ inMod G Ω1 p0 (R.2.1) (R.2.2.1) (R.2.2.2.1) p0_3 (R.2.2.2.2.1) p0_5 (R.2.2.2.2.2.1) p0_7 (R.2.2.2.2.2.2.1) (R.2.2.2.2.2.2.2.1) (R.2.2.2.2.2.2.2.2.1) (R.2.2.2.2.2.2.2.2.2.1) (R.2.2.2.2.2.2.2.2.2.2.1) (R.2.2.2.2.2.2.2.2.2.2.2) ∧ (∀ q : Nat, (q < p0 ∨ p0 + 8 ≤ q) → Ω1 q = Ω q)) (oB G A) A) ([.ref p0] : List Value).toArray s 0 0 A) (F0 m 64 ls []) := by
              intro H locs hW hS ls hl hR
              rw [f_X9_tells_J64] at hR
              refine lv_aload_n hx hb dX9_tells_64 rfl (lv_at hl 0 rfl) ?_
              refine o_get hx hb hts hown hK hW (inMod_o h_p0) rfl ig9 13 (by decide) fl_X9_169 rfl dX9_tells_65 ?_
              refine lv_bipush (v := (-9 : Int32)) hx hb dX9_tells_68 (by decide) ?_
              have j_14 : (-9 : Int32).toInt = -9 := by decide
              refine lv_icmp_eq (tgt := 81) hx hb dX9_tells_70 (by decide) (fun c_13 => ?_) (fun c_13 => ?_)
              · rw [if_pos c_13] at hR
                have i_13 := congrArg Int32.toInt c_13
                refine lv_iconst (v := (0 : Int32)) hx hb dX9_tells_81 (by decide) ?_
                refine lv_istore_n (lv' := [(2, .int (0 : Int32)), (0, .ref p0), (1, .int x1_9)]) hx hb dX9_tells_82 rfl hl (by decide) rfl (fun ls hl => ?_)
                have L83 : ∀ (n_16 : Nat) (x2_15 : Int32) (p0_0_15 : Fn) (Ω_17 : Om) (H : Heap) (locs : List Loc), (0 ≤ x2_15.toInt ∧ x2_15.toInt ≤ 93 ∧ 93 - x2_15.toInt < n_16) → (∀ j : Nat, (j : Int) < x2_15.toInt → p0_0_15 j = p0_1_9 j) → inMod G Ω_17 p0 p0_0_15 p0_1_9 p0_2 p0_3 p0_4 p0_5 p0_6 p0_7 p0_8 p0_9_9 p0_10_9 p0_11_9 p0_12_9 p0_13_9 → (∀ q : Nat, (q < p0 ∨ p0 + 8 ≤ q) → Ω_17 q = Ω q) → oW G A Ω_17 H → va_S A s.heap H locs → ∀ ls : Array Slot, lv_has ls 3 [(0, .ref p0), (1, .int x1_9), (2, .int x2_15)] → (f_X9_tells_L83 p0_1_9 p0_2 p0_6 p0_9_9 p0_10_9 p0_11_9 p0_12_9 p0_13_9 x1_9 n_16 x2_15 p0_0_15) = R → W p l e (headSpec (wz yX9_tells cX9_tells 3 (some .int)) ({ frames := 7, cells := 0, slots := 0, locals := 158 } : Room)).room s m ([.ref p0] : List Value).toArray below meth c H locs 0 0 (MQ below (va_Qi (fun (r : Int32) (Ω1 : Om) => r = R.1 ∧ inMod G Ω1 p0 (R.2.1) (R.2.2.1) (R.2.2.2.1) p0_3 (R.2.2.2.2.1) p0_5 (R.2.2.2.2.2.1) p0_7 (R.2.2.2.2.2.2.1) (R.2.2.2.2.2.2.2.1) (R.2.2.2.2.2.2.2.2.1) (R.2.2.2.2.2.2.2.2.2.1) (R.2.2.2.2.2.2.2.2.2.2.1) (R.2.2.2.2.2.2.2.2.2.2.2) ∧ (∀ q : Nat, (q < p0 ∨ p0 + 8 ≤ q) → Ω1 q = Ω q)) (oB G A) A) ([.ref p0] : List Value).toArray s 0 0 A) (F0 m 83 ls []) := by
                  intro n_16
                  induction n_16 with
                  | zero =>
                    intro x2_15 p0_0_15 Ω_17 H locs v_83_0 v_83_1 h_p0 hE hW hS ls hl hR
                    exfalso
                    omega
                  | succ n_16 ih83 =>
                    intro x2_15 p0_0_15 Ω_17 H locs v_83_0 v_83_1 h_p0 hE hW hS ls hl hR
                    rw [f_X9_tells_L83] at hR
                    refine lv_iload_n hx hb dX9_tells_83 rfl (lv_at hl 2 rfl) ?_
                    refine lv_bipush (v := (93 : Int32)) hx hb dX9_tells_84 (by decide) ?_
                    refine lv_icmp_ge (tgt := 107) hx hb dX9_tells_86 (by decide) (fun c_18 => ?_) (fun c_18 => ?_)
                    · rw [if_pos c_18] at hR
                      have i_18 := rle c_18
                      refine lv_aload_n hx hb dX9_tells_107 rfl (lv_at hl 0 rfl) ?_
                      refine lv_iconst (v := (0 : Int32)) hx hb dX9_tells_108 (by decide) ?_
                      refine vMod_8 hx hb hts hown hK hW hS hA h_p0 fl_X9_147 dX9_tells_109 (fun Ω_19 H locs h_p0 hF_19 hW hS => ?_)
                      have hE : ∀ q : Nat, (q < p0 ∨ p0 + 8 ≤ q) → Ω_19 q = Ω q := fun q g0 => (hF_19 q (by omega)).trans (hE q g0)
                      refine lv_aload_n hx hb dX9_tells_112 rfl (lv_at hl 0 rfl) ?_
                      have hM9 : ToldInv p0_0_15 := TI_cong (show DraftInv p0_1_9 by assumption).1 (fun j hj => v_83_1 j (by omega))
                      refine o_Vv (rest := []) (As := []) (n := 0) hx hb hml hown hts hK hN hZ hW hS hA (c_X9_begin l G A Ω_19 p0 p0_0_15 p0_1_9 p0_2 p0_3 p0_4 p0_5 p0_6 p0_7 (0 : Int32) p0_9_9 p0_10_9 p0_11_9 p0_12_9 p0_13_9 (by assumption) h_p0) (inMod_o h_p0) rfl (good_V ml_X9_32 im_X9_begin se_X9_begin ini_X9 co_X9_begin) (by decide +kernel) ⟨Nat.zero_le _, Nat.zero_le _⟩ hl.1 (Nat.le_of_ble_eq_true rfl) rfl rfl dX9_tells_113 (fun Ω_20 H locs hp hW hS => ?_)
                      obtain ⟨h_p0, hF_20⟩ := hp
                      have hE : ∀ q : Nat, (q < p0 ∨ p0 + 8 ≤ q) → Ω_20 q = Ω q := fun q g0 => (hF_20 q (by omega)).trans (hE q g0)
                      generalize (f_X9_begin p0_0_15 p0_2 p0_6) = Z_20 at h_p0 hR
                      obtain ⟨z20_0, z20_1, z20_2⟩ := Z_20
                      dsimp only at h_p0 hR
                      rw [f_X9_tells_C116] at hR
                      refine lv_iload_n hx hb dX9_tells_116 rfl (lv_at hl 1 rfl) ?_
                      subst hR
                      exact W.iret (v := x1_9) hx hb hr (fun t ht hW9 => ⟨⟨x1_9, Ω_20, rfl, ⟨rfl, h_p0, hE⟩, by rw [oB, ht]; exact hW⟩, hS.F ht⟩) hS.2.2 dX9_tells_117
                    · rw [if_neg c_18] at hR
                      have i_18 := rnle c_18
                      refine lv_aload_n hx hb dX9_tells_89 rfl (lv_at hl 0 rfl) ?_
                      refine o_get hx hb hts hown hK hW (inMod_o h_p0) rfl ig9 0 (by decide) fl_X9_7 rfl dX9_tells_90 ?_
                      refine lv_iload_n hx hb dX9_tells_93 rfl (lv_at hl 2 rfl) ?_
                      refine lv_aload_n hx hb dX9_tells_94 rfl (lv_at hl 0 rfl) ?_
                      refine o_get hx hb hts hown hK hW (inMod_o h_p0) rfl ig9 1 (by decide) fl_X9_13 rfl dX9_tells_95 ?_
                      refine lv_iload_n hx hb dX9_tells_98 rfl (lv_at hl 2 rfl) ?_
                      refine o_iald hx hb hK hW (inMod_a1 h_p0) (vp_in_iff.mpr ⟨by omega, by omega⟩) dX9_tells_99 ?_
                      refine wMod_0 hx hb hK hW hS hA h_p0 (vp_in_iff.mpr ⟨by omega, by omega⟩) dX9_tells_100 (fun Ω_21 H locs h_p0 hF_21 hW hS => ?_)
                      have hE : ∀ q : Nat, (q < p0 ∨ p0 + 8 ≤ q) → Ω_21 q = Ω q := fun q g0 => (hF_21 q (by omega)).trans (hE q g0)
                      refine lv_iinc (v := (x2_15 + (1 : Int32))) (lv' := [(2, .int (x2_15 + (1 : Int32))), (0, .ref p0), (1, .int x1_9)]) hx hb dX9_tells_101 hl (k := 2) rfl rfl (by decide) rfl (fun ls hl => ?_)
                      refine lv_goto (tgt := 83) hx hb dX9_tells_104 (by decide) ?_
                      have j_22 : (1 : Int32).toInt = 1 := by decide
                      try have j_23 : (x2_15 + (1 : Int32)).toInt = x2_15.toInt + (1 : Int32).toInt := fb_addI (by omega) (by omega)
                      have qc : ∀ j : Nat, (j : Int) < (x2_15 + (1 : Int32)).toInt → (upd p0_0_15 x2_15.toNatClampNeg (p0_1_9 x2_15.toNatClampNeg)) j = p0_1_9 j := by first | exact cp_0 | exact cp_s (by assumption) (by omega) (by omega)
                      exact ih83 (x2_15 + (1 : Int32)) (upd p0_0_15 x2_15.toNatClampNeg (p0_1_9 x2_15.toNatClampNeg)) Ω_21 H locs (by omega) (by assumption) h_p0 hE hW hS ls (lv_sub hl [1, 2, 0] rfl) hR
                have j_24 : (0 : Int32).toInt = 0 := by decide
                have qc : ∀ j : Nat, (j : Int) < (0 : Int32).toInt → p0_0 j = p0_1_9 j := by first | exact cp_0 | exact cp_s (by assumption) (by omega) (by omega)
                exact L83 4000 (0 : Int32) p0_0 Ω_11 H locs (by omega) (by assumption) h_p0 hE hW hS ls (lv_sub hl [1, 2, 0] rfl) hR
              · rw [if_neg c_13] at hR
                have i_13 := rne c_13
                refine lv_bipush (v := (-10 : Int32)) hx hb dX9_tells_73 (by decide) ?_
                refine lv_aload_n hx hb dX9_tells_75 rfl (lv_at hl 0 rfl) ?_
                refine o_get hx hb hts hown hK hW (inMod_o h_p0) rfl ig9 13 (by decide) fl_X9_169 rfl dX9_tells_76 ?_
                refine lv_isub hx hb dX9_tells_79 ?_
                subst hR
                exact W.iret (v := ((-10 : Int32) - p0_13_9)) hx hb hr (fun t ht hW9 => ⟨⟨((-10 : Int32) - p0_13_9), Ω_11, rfl, ⟨rfl, h_p0, hE⟩, by rw [oB, ht]; exact hW⟩, hS.F ht⟩) hS.2.2 dX9_tells_80
            have j_26 : (-9 : Int32).toInt = -9 := by decide
            refine lv_icmp_ne (tgt := 64) hx hb dX9_tells_44 (by decide) (fun c_25 => ?_) (fun c_25 => ?_)
            · rw [if_neg c_25] at hR
              have i_25 := rne c_25
              exact J64 H locs hW hS ls (lv_sub hl [0, 1] rfl) hR
            · rw [if_pos c_25] at hR
              have i_25 := congrArg Int32.toInt c_25
              refine lv_aload_n hx hb dX9_tells_47 rfl (lv_at hl 0 rfl) ?_
              refine o_get hx hb hts hown hK hW (inMod_o h_p0) rfl ig9 11 (by decide) fl_X9_162 rfl dX9_tells_48 ?_
              have j_28 : (0 : Int32).toInt = 0 := by decide
              refine lv_if_eq (tgt := 64) hx hb dX9_tells_51 (by decide) (fun c_27 => ?_) (fun c_27 => ?_)
              · rw [if_pos c_27] at hR
                have i_27 := congrArg Int32.toInt c_27
                exact J64 H locs hW hS ls (lv_sub hl [0, 1] rfl) hR
              · rw [if_neg c_27] at hR
                have i_27 := rne c_27
                refine lv_aload_n hx hb dX9_tells_54 rfl (lv_at hl 0 rfl) ?_
                refine o_Vv (rest := []) (As := []) (n := 0) hx hb hml hown hts hK hN hZ hW hS hA (c_X9_readItem l G A Ω_11 p0 p0_0 p0_1_9 p0_2 p0_3 p0_4 p0_5 p0_6 p0_7 p0_8 p0_9_9 p0_10_9 p0_11_9 p0_12_9 p0_13_9 (by omega) (by omega) (by omega) (by assumption) h_p0) (inMod_o h_p0) rfl (good_V ml_X9_197 im_X9_readItem se_X9_readItem ini_X9 co_X9_readItem) (by decide +kernel) ⟨Nat.zero_le _, Nat.zero_le _⟩ hl.1 (Nat.le_of_ble_eq_true rfl) rfl rfl dX9_tells_55 (fun Ω_29 H locs hp hW hS => ?_)
                obtain ⟨h_p0, hF_29⟩ := hp
                have hE : ∀ q : Nat, (q < p0 ∨ p0 + 8 ≤ q) → Ω_29 q = Ω q := fun q g0 => (hF_29 q (by omega)).trans (hE q g0)
                have qd_29 : DraftInv (f_X9_readItem p0_1_9 p0_7 p0_8 p0_9_9 p0_10_9 p0_11_9 p0_12_9 p0_13_9).1 := (RM_readItem (by assumption) hy (by omega) (by omega)).1
                have qm_29 : p0_9_9.toInt ≤ (f_X9_readItem p0_1_9 p0_7 p0_8 p0_9_9 p0_10_9 p0_11_9 p0_12_9 p0_13_9).2.1.toInt ∧ (f_X9_readItem p0_1_9 p0_7 p0_8 p0_9_9 p0_10_9 p0_11_9 p0_12_9 p0_13_9).2.1.toInt ≤ p0_8.toInt := (RM_readItem (by assumption) hy (by omega) (by omega)).2.1
                have qa_29 : 0 ≤ (f_X9_readItem p0_1_9 p0_7 p0_8 p0_9_9 p0_10_9 p0_11_9 p0_12_9 p0_13_9).2.2.1.toInt := (RM_readItem (by assumption) hy (by omega) (by omega)).2.2.1
                have qf_29 : (f_X9_readItem p0_1_9 p0_7 p0_8 p0_9_9 p0_10_9 p0_11_9 p0_12_9 p0_13_9).2.2.2.2.2.toInt ≠ -9 ∨ (p0_13_9.toInt = -9 ∧ ((f_X9_readItem p0_1_9 p0_7 p0_8 p0_9_9 p0_10_9 p0_11_9 p0_12_9 p0_13_9).2.2.2.1.toInt = 0 ∨ p0_9_9.toInt < (f_X9_readItem p0_1_9 p0_7 p0_8 p0_9_9 p0_10_9 p0_11_9 p0_12_9 p0_13_9).2.1.toInt)) := (RM_readItem (by assumption) hy (by omega) (by omega)).2.2.2
                generalize (f_X9_readItem p0_1_9 p0_7 p0_8 p0_9_9 p0_10_9 p0_11_9 p0_12_9 p0_13_9) = Z_29 at h_p0 hR qd_29 qm_29 qa_29 qf_29
                obtain ⟨z29_0, z29_1, z29_2, z29_3, z29_4, z29_5⟩ := Z_29
                dsimp only at h_p0 hR qd_29 qm_29 qa_29 qf_29
                rw [f_X9_tells_C58] at hR
                refine lv_iinc (v := (x1_9 + (1 : Int32))) (lv' := [(1, .int (x1_9 + (1 : Int32))), (0, .ref p0)]) hx hb dX9_tells_58 hl (k := 1) rfl rfl (by decide) rfl (fun ls hl => ?_)
                refine lv_goto (tgt := 38) hx hb dX9_tells_61 (by decide) ?_
                have j_30 : (1 : Int32).toInt = 1 := by decide
                try have j_31 : (x1_9 + (1 : Int32)).toInt = x1_9.toInt + (1 : Int32).toInt := fb_addI (by omega) (by omega)
                have qD : DraftInv z29_0 := by first | assumption | exact DI_zero (fun j hj => v_2_1 j (by omega))
                exact ih38 (x1_9 + (1 : Int32)) z29_0 z29_1 z29_2 z29_3 z29_4 z29_5 Ω_29 H locs (by assumption) (by omega) (by omega) (by omega) h_p0 hE hW hS ls (lv_sub hl [1, 0] rfl) hR
        have j_32 : (0 : Int32).toInt = 0 := by decide
        have j_33 : (-9 : Int32).toInt = -9 := by decide
        have qD : DraftInv p0_1_1 := by first | assumption | exact DI_zero (fun j hj => v_2_1 j (by omega))
        exact L38 4000 (0 : Int32) p0_1_1 ((f_X9_next p0_7 p0_8 (0 : Int32)).1) ((f_X9_next p0_7 p0_8 (0 : Int32)).2.1) ((f_X9_next p0_7 p0_8 (0 : Int32)).2.2.1) ((f_X9_next p0_7 p0_8 (0 : Int32)).2.2.2) (-9 : Int32) Ω_8 H locs (by assumption) (by omega) (by omega) (by omega) h_p0 hE hW hS ls (lv_sub hl [1, 0] rfl) hR
      · rw [if_neg c_4] at hR
        have i_4 := rnle c_4
        refine lv_aload_n hx hb dX9_tells_8 rfl (lv_at hl 0 rfl) ?_
        refine o_get hx hb hts hown hK hW (inMod_o h_p0) rfl ig9 1 (by decide) fl_X9_13 rfl dX9_tells_9 ?_
        refine lv_iload_n hx hb dX9_tells_12 rfl (lv_at hl 1 rfl) ?_
        refine lv_iconst (v := (0 : Int32)) hx hb dX9_tells_13 (by decide) ?_
        refine wMod_1 hx hb hK hW hS hA h_p0 (vp_in_iff.mpr ⟨by omega, by omega⟩) dX9_tells_14 (fun Ω_34 H locs h_p0 hF_34 hW hS => ?_)
        have hE : ∀ q : Nat, (q < p0 ∨ p0 + 8 ≤ q) → Ω_34 q = Ω q := fun q g0 => (hF_34 q (by omega)).trans (hE q g0)
        refine lv_iinc (v := (x1_1 + (1 : Int32))) (lv' := [(1, .int (x1_1 + (1 : Int32))), (0, .ref p0)]) hx hb dX9_tells_15 hl (k := 1) rfl rfl (by decide) rfl (fun ls hl => ?_)
        refine lv_goto (tgt := 2) hx hb dX9_tells_18 (by decide) ?_
        have j_35 : (1 : Int32).toInt = 1 := by decide
        try have j_36 : (x1_1 + (1 : Int32)).toInt = x1_1.toInt + (1 : Int32).toInt := fb_addI (by omega) (by omega)
        have qz : ∀ j : Nat, (j : Int) < (x1_1 + (1 : Int32)).toInt → (upd p0_1_1 x1_1.toNatClampNeg (0 : Int32)) j = 0 := by first | exact zf_0 | exact zf_s (by assumption) (by omega) (by omega)
        exact ih2 (x1_1 + (1 : Int32)) (upd p0_1_1 x1_1.toNatClampNeg (0 : Int32)) Ω_34 H locs (by omega) (by assumption) h_p0 hE hW hS ls (lv_sub hl [1, 0] rfl) hR
  have j_37 : (0 : Int32).toInt = 0 := by decide
  have qz : ∀ j : Nat, (j : Int) < (0 : Int32).toInt → p0_1 j = 0 := by first | exact zf_0 | exact zf_s (by assumption) (by omega) (by omega)
  exact L2 4000 (0 : Int32) p0_1 Ω s.heap [] (by omega) (by assumption) h_p0 hE hW hS ls (lv_sub hl [1, 0] rfl) hR
end
section
theorem zz_1 : True := trivial
end
